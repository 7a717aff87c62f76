/-! the arm and the wheel -/
def Ar (S : PS) (q : Nat → Nat) (z : ZZ) : Prop := pJ S (q 84) 0 = 16 * z 0 ∧ pJ S (q 84) 1 = 16 * z 1 ∧ pJ S (q 84) 2 = 16 * z 2 ∧ pJ S (q 84) 3 = 16 * z 3 ∧ pI S (q 84) 4 = bI (decide (z 5 = 1))
def Ap (S : PS) (q : Nat → Nat) (z : ZZ) (tx ty : Int64) : Prop := pJ S (q 84) 5 = tx ∧ pJ S (q 84) 6 = ty ∧ pJ S (q 84) 7 = zEx z tx ty ∧ pJ S (q 84) 8 = zEy z tx ty
def Wh (S : PS) (q : Nat → Nat) (g p w : Int64) : Prop := pJ S (q 85) 0 = g ∧ pJ S (q 85) 1 = p ∧ pJ S (q 85) 2 = w
theorem Ar.fr {S S' : PS} {q : Nat → Nat} {z : ZZ} {l : List Nat} (hf : Fr S S' q l) (hl : 84 ∉ l) (h : Ar S q z) : Ar S' q z := by
  unfold Ar
  rw [(hf.2.2 84 (by decide) hl).1, (hf.2.2 84 (by decide) hl).2]
  exact h
theorem Ap.fr {S S' : PS} {q : Nat → Nat} {z : ZZ} {l : List Nat} {tx ty : Int64} (hf : Fr S S' q l) (hl : 84 ∉ l) (h : Ap S q z tx ty) : Ap S' q z tx ty := by
  unfold Ap
  rw [(hf.2.2 84 (by decide) hl).2]
  exact h
theorem Wh.fr {S S' : PS} {q : Nat → Nat} {g p w : Int64} {l : List Nat} (hf : Fr S S' q l) (hl : 85 ∉ l) (h : Wh S q g p w) : Wh S' q g p w := by
  unfold Wh
  rw [(hf.2.2 85 (by decide) hl).2]
  exact h
theorem absL_e (x : Int64) : (if 0 < x then x else -x) = sz x := by
  unfold sz
  by_cases h : 0 < x
  · rw [if_pos h, if_neg (fun g => by rw [Int64.lt_iff_toInt_lt, L0_0] at h g; omega)]
  · rw [if_neg h]
    split
    · rfl
    · next g =>
      have e : x = 0 := Int64.toInt_inj.mp (by rw [Int64.lt_iff_toInt_lt, L0_0] at h g; rw [L0_0]; omega)
      rw [e]; rfl
theorem maxR {b : Int64} : rt (if b < 0 then 0 else b) = (if b < 0 then 0 else rt b) := by
  split
  · rfl
  · rfl
theorem one32 {x : Int32} {v : Int64} (h : x.toInt64 = v) : x = 1 ↔ v = 1 := by
  rw [← h]
  constructor
  · rintro rfl; rfl
  · intro e
    apply Int32.toInt_inj.mp
    have := congrArg Int64.toInt e
    rw [I64_t] at this
    rw [this]; rfl
theorem slp_e {x : Int32} {v : Int64} (h : x.toInt64 = v) (hb : wtn v 0 100) : (100 - x).toInt64 = 100 - v := by
  rw [← h]
  exact sub64 (B := 1000) (by omega) (by rw [h]; unfold wtn at *; omega) (by unfold wtn; decide)
theorem dv0 {v w : Int64} (h : ¬ w = 0) {r : Int64} (e : r = if w = 0 then 0 else v / w) : r = v / w := by rw [e, if_neg h]
theorem lN_ne0b {n : Nat} (h0 : 0 < n) (h : n < 9223372036854775808) : ¬ lN n = 0 := by
  intro e
  have := congrArg Int64.toInt e
  rw [pk_lT h, L0_0] at this
  omega
theorem lN_lt2 {a b : Nat} (ha : a < 9223372036854775808) (hb : b < 9223372036854775808) : lN b < lN a ↔ b < a := pk_lLT (by omega) (by omega)
theorem nw_b2 {V g : Nat} (hV : V < 16000000000000) (hg : 0 < g ∧ g ≤ 4294967296) : (g + V / g) / 2 < 9223372036854775808 := by
  have : V / g ≤ V := Nat.div_le_self _ _
  omega
theorem isq_pos {V : Nat} (h : 0 < V) : 0 < isq V := by
  obtain ⟨h1, h2⟩ := isq_spec V
  rcases Nat.eq_zero_or_pos (isq V) with e | e
  · rw [e] at h2; omega
  · exact e
theorem nw_b {V g : Nat} (hV0 : 0 < V) (hg : 0 < g ∧ g ≤ 4294967296) (h : ¬ g ≤ (g + V / g) / 2) : 0 < (g + V / g) / 2 ∧ (g + V / g) / 2 ≤ 4294967296 :=
  ⟨Nat.lt_of_lt_of_le (isq_pos hV0) (nw_ge hg.1), by omega⟩
theorem pow_sh {k : Nat} (hk : k ≤ 64) : 1 <<< ((nI ((k + 1) / 2)).toInt64 &&& 63) = lN (2 ^ ((k + 1) / 2)) := by
  have h := wb_shl 1 (k := (k + 1) / 2) (by omega)
  rw [Nat.one_mul] at h
  exact h
theorem mx_b {b : Int64} (h : b.toInt ≤ 2304000000) : (if b < 0 then 0 else b).toInt < 16000000000000 := by
  split
  · rw [L0_0]; omega
  · omega
theorem w1p {r : Int32} {P Q R : Prop} (h : (r = 1 ∧ P ∧ Q) ∨ (r = 0 ∧ ¬ P ∧ R)) (hp : P) : Q := by
  rcases h with h | h
  · exact h.2.2
  · exact absurd hp h.2.1
