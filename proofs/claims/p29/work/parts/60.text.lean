/-! the reader of texts: (step, minus before it, number, numbers, what is read) -/
abbrev TT : Type := Nat × Bool × Int32 × Nat × (Nat → Int32)
def rdB (t : TT) (c : Int32) : Option TT := if t.1 = 0 ∧ c = 45 then some (1, true, t.2.2) else if (if t.1 = 0 then 48 else 49) ≤ c.toInt ∧ c.toInt ≤ 57 then some (2, decide (t.1 = 1), c - 48, t.2.2.2) else none
def rdN (t : TT) (c : Int32) : Prop := (t.2.2.2.1 % 2 = 0 ∧ c = 44) ∨ (¬ t.2.2.2.1 % 2 = 0 ∧ c = 59 ∧ t.2.2.2.1 + 1 < 40)
def rdE (t : TT) : TT := (0, t.2.1, t.2.2.1, t.2.2.2.1 + 1, upd t.2.2.2.2 t.2.2.2.1 (if t.2.1 then -t.2.2.1 else t.2.2.1))
def rdM (t : TT) (c : Int32) : Prop := (48 ≤ c.toInt ∧ c.toInt ≤ 57) ∧ ¬ t.2.2.1 ≤ 0 ∧ ¬ 1000 < 10 * t.2.2.1 + c - 48
noncomputable def rdG (t : TT) (c : Int32) : Option TT := ifP (rdN t c) (some (rdE t)) (ifP (rdM t c) (some (2, t.2.1, 10 * t.2.2.1 + c - 48, t.2.2.2)) none)
noncomputable def rdC (t : TT) (c : Int32) : Option TT := if t.1 = 2 then rdG t c else rdB t c
noncomputable def rdS (tx : Nat → Int32) : Nat → Nat × TT
  | 0 => (0, 0, false, 0, 0, fun _ => 0)
  | n + 1 => if (rdS tx n).1 = n then (match rdC (rdS tx n).2 (tx n) with
    | some t => (n + 1, t)
    | none => rdS tx n) else rdS tx n
/-- the model's fields hold the reader's state -/
def TRl (S : PS) (q : Nat → Nat) (t : TT) : Prop := pI S (q 94) 12 = nI t.1 ∧ pI S (q 94) 15 = nI t.2.2.2.1 ∧ (t.1 = 2 → pI S (q 94) 13 = bI t.2.1 ∧ pI S (q 94) 14 = t.2.2.1) ∧ ∀ i, i < t.2.2.2.1 → pI S (q 99) i = t.2.2.2.2 i
def rdI (t : TT) : Prop := t.1 ≤ 2 ∧ t.2.2.2.1 ≤ 39 ∧ (t.1 = 2 → 0 ≤ t.2.2.1.toInt ∧ t.2.2.1.toInt ≤ 1000) ∧ ∀ i, i < t.2.2.2.1 → -1000 ≤ (t.2.2.2.2 i).toInt ∧ (t.2.2.2.2 i).toInt ≤ 1000
theorem rd_neg {v : Int32} (h : 0 ≤ v.toInt ∧ v.toInt ≤ 1000) : (-v).toInt = -v.toInt := by
  rw [Int32.toInt_neg, Int.bmod_def]; omega
theorem rd_sgn {v : Int32} {b : Bool} (h : 0 ≤ v.toInt ∧ v.toInt ≤ 1000) : -1000 ≤ (if b then -v else v).toInt ∧ (if b then -v else v).toInt ≤ 1000 := by
  have := rd_neg h
  split <;> omega
theorem rd_dig {c : Int32} (h : 48 ≤ c.toInt ∧ c.toInt ≤ 57) : (c - 48).toInt = c.toInt - 48 := by
  rw [I_sub (by rw [show (48 : Int32).toInt = 48 by decide]; omega) (by rw [show (48 : Int32).toInt = 48 by decide]; omega)]
  rfl
theorem rd_num {v c : Int32} (hv : 0 ≤ v.toInt ∧ v.toInt ≤ 1000) (h : 48 ≤ c.toInt ∧ c.toInt ≤ 57) : (10 * v + c - 48).toInt = 10 * v.toInt + c.toInt - 48 := by
  have e : (10 * v).toInt = 10 * v.toInt := by
    rw [I_mul (by rw [show (10 : Int32).toInt = 10 by decide]; omega) (by rw [show (10 : Int32).toInt = 10 by decide]; omega)]
    rfl
  have e2 : (10 * v + c).toInt = 10 * v.toInt + c.toInt := by rw [I_add (by omega) (by omega), e]
  rw [I_sub (by rw [e2, show (48 : Int32).toInt = 48 by decide]; omega) (by rw [e2, show (48 : Int32).toInt = 48 by decide]; omega), e2]
  rfl
theorem rdI_E {t : TT} (h : rdI t) (h2 : t.1 = 2) : (rdE t).2.2.2.1 = t.2.2.2.1 + 1 ∧ ∀ i, i < t.2.2.2.1 + 1 → -1000 ≤ ((rdE t).2.2.2.2 i).toInt ∧ ((rdE t).2.2.2.2 i).toInt ≤ 1000 := by
  refine ⟨rfl, fun i hi => ?_⟩
  show -1000 ≤ (upd t.2.2.2.2 t.2.2.2.1 (if t.2.1 then -t.2.2.1 else t.2.2.1) i).toInt ∧ (upd t.2.2.2.2 t.2.2.2.1 (if t.2.1 then -t.2.2.1 else t.2.2.1) i).toInt ≤ 1000
  unfold upd
  by_cases e : i = t.2.2.2.1
  · rw [if_pos e]; exact rd_sgn (h.2.2.1 h2)
  · rw [if_neg e]; exact h.2.2.2 i (by omega)
theorem rdI_C {t t2 : TT} {c : Int32} (h : rdI t) (e : rdC t c = some t2) : rdI t2 := by
  unfold rdC at e
  split at e
  · next h2 =>
    unfold rdG ifP at e
    split at e
    · next g =>
      have e2 := Option.some.inj e
      subst e2
      refine ⟨by show 0 ≤ 2; omega, ?_, fun z => absurd z (by show ¬ 0 = 2; omega), (rdI_E h h2).2⟩
      show t.2.2.2.1 + 1 ≤ 39
      have := h.2.1
      rcases g with g | g <;> omega
    · split at e
      · next g =>
        have e2 := Option.some.inj e
        subst e2
        refine ⟨Nat.le_refl 2, h.2.1, fun _ => ?_, h.2.2.2⟩
        have hv := h.2.2.1 h2
        have e3 := rd_num hv g.1
        have e4 := g.2.2
        rw [Int32.lt_iff_toInt_lt, show (1000 : Int32).toInt = 1000 by decide] at e4
        show 0 ≤ (10 * t.2.2.1 + c - 48).toInt ∧ (10 * t.2.2.1 + c - 48).toInt ≤ 1000
        have e5 := g.2.1
        rw [Int32.le_iff_toInt_le, show (0 : Int32).toInt = 0 by decide] at e5
        have := g.1
        omega
      · cases e
  · unfold rdB at e
    split at e
    · have e2 := Option.some.inj e
      subst e2
      exact ⟨by show 1 ≤ 2; omega, h.2.1, fun z => absurd z (by show ¬ 1 = 2; omega), h.2.2.2⟩
    · by_cases g : (if t.1 = 0 then 48 else 49) ≤ c.toInt ∧ c.toInt ≤ 57
      · rw [if_pos g] at e
        have e2 := Option.some.inj e
        subst e2
        refine ⟨Nat.le_refl 2, h.2.1, fun _ => ?_, h.2.2.2⟩
        have g2 : 48 ≤ c.toInt ∧ c.toInt ≤ 57 := by
          refine ⟨?_, g.2⟩
          have := g.1
          split at this <;> omega
        show 0 ≤ (c - 48).toInt ∧ (c - 48).toInt ≤ 1000
        rw [rd_dig g2]
        omega
      · rw [if_neg g] at e
        cases e
theorem rdS_I {tx : Nat → Int32} : ∀ n, rdI (rdS tx n).2 ∧ (rdS tx n).1 ≤ n
  | 0 => ⟨⟨Nat.zero_le 2, Nat.zero_le 39, fun z => absurd z (by show ¬ 0 = 2; omega), fun i hi => absurd hi (Nat.not_lt_zero i)⟩, Nat.le_refl 0⟩
  | n + 1 => by
    obtain ⟨h1, h2⟩ := rdS_I (tx := tx) n
    unfold rdS
    split
    · split
      · next t e => exact ⟨rdI_C h1 e, Nat.le_refl _⟩
      · exact ⟨h1, by omega⟩
    · exact ⟨h1, by omega⟩
theorem rdS_go {tx : Nat → Int32} {n : Nat} {t t2 : TT} (h : rdS tx n = (n, t)) (e : rdC t (tx n) = some t2) : rdS tx (n + 1) = (n + 1, t2) := by
  unfold rdS
  rw [h]
  simp only [if_true, e]
theorem rdS_no {tx : Nat → Int32} {n : Nat} {t : TT} (h : rdS tx n = (n, t)) (e : rdC t (tx n) = none) : ∀ k, rdS tx (n + 1 + k) = (n, t)
  | 0 => by
    show rdS tx (n + 1) = _
    unfold rdS
    rw [h]
    simp only [if_true, e]
  | k + 1 => by
    have ih := rdS_no h e k
    show rdS tx (n + 1 + k + 1) = _
    unfold rdS
    rw [ih]
    rw [if_neg (by show ¬ n = n + 1 + k; omega)]
theorem rdS_end {tx : Nat → Int32} {i n : Nat} {t : TT} (h : rdS tx i = (i, t)) (e : rdC t (tx i) = none) (hi : i < n) : rdS tx n = (i, t) := by
  have := rdS_no h e (n - i - 1)
  rw [show i + 1 + (n - i - 1) = n by omega] at this
  exact this
theorem rdC_2 {t : TT} {c : Int32} (h : t.1 = 2) : rdC t c = rdG t c := by unfold rdC; rw [if_pos h]
theorem rdC_1 {t : TT} {c : Int32} (h : ¬ t.1 = 2) : rdC t c = rdB t c := by unfold rdC; rw [if_neg h]
theorem ro_1 {r : Int32} {o : Option TT} {P : TT → Prop} (h : (r = 1 ∧ ∃ t, o = some t ∧ P t) ∨ (r = 0 ∧ o = none)) (c : ¬ r = 0) : ∃ t, o = some t ∧ P t := by
  rcases h with h | h
  · exact h.2
  · exact absurd h.1 c
theorem ro_0 {r : Int32} {o : Option TT} {P : TT → Prop} (h : (r = 1 ∧ ∃ t, o = some t ∧ P t) ∨ (r = 0 ∧ o = none)) (c : r = 0) : o = none := by
  rcases h with h | h
  · rw [h.1] at c; exact absurd c (by decide)
  · exact h.2
theorem low_0 {S : PS} {a : Nat} : ∀ j, j < 12 → pI S a j = pI S a j := fun _ _ => rfl
theorem low_I {S S' : PS} {a k : Nat} {v : Int32} (hk : 12 ≤ k) (h : ∀ j, j < 12 → pI S' a j = pI S a j) : ∀ j, j < 12 → pI (wI S' a k v) a j = pI S a j := fun j hj => (up2_k (by omega)).trans (h j hj)
theorem low_o {S S' : PS} {a b k : Nat} {v : Int32} (hn : a ≠ b) (h : ∀ j, j < 12 → pI S' a j = pI S a j) : ∀ j, j < 12 → pI (wI S' b k v) a j = pI S a j := fun j hj => (up2_a hn).trans (h j hj)
theorem low_t {S S' S2 : PS} {a : Nat} (h2 : ∀ j, j < 12 → pI S2 a j = pI S' a j) (h : ∀ j, j < 12 → pI S' a j = pI S a j) : ∀ j, j < 12 → pI S2 a j = pI S a j := fun j hj => (h2 j hj).trans (h j hj)
