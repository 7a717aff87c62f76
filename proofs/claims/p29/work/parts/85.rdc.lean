/-! the class's reader -/
def tneg (t : TT) : Bool := if t.1 = 1 then true else if t.1 = 2 then t.2.1 else false
def tsz (t : TT) : Int32 := if t.1 = 2 then t.2.2.1 else 0
def rXY (S : PS) (q : Nat → Nat) (i : Nat) : Int32 := if i % 2 = 0 then pI S (q 91) (i / 2) else pI S (q 92) (i / 2)
def Tc (S : PS) (q : Nat → Nat) (t : TT) : Prop := (pI S (q 90) 2 = nI (t.2.2.2.1 / 2) ∧ pI S (q 90) 4 = bI (decide (t.2.2.2.1 % 2 = 1)) ∧ pI S (q 90) 3 = nI t.1 ∧ pI S (q 90) 5 = bI (tneg t) ∧ pI S (q 90) 6 = tsz t) ∧ (∀ i, i < t.2.2.2.1 → rXY S q i = t.2.2.2.2 i) ∧ (t.1 = 2 → rXY S q t.2.2.2.1 = if t.2.1 then -t.2.2.1 else t.2.2.1)
theorem rXY_fr {S S' : PS} {q : Nat → Nat} {l : List Nat} (hf : Fr S S' q l) (h1 : 91 ∉ l) (h2 : 92 ∉ l) (i : Nat) : rXY S' q i = rXY S q i := by
  unfold rXY
  rw [(hf.2.2 91 (by decide) h1).1, (hf.2.2 92 (by decide) h2).1]
theorem ndig {t : TT} {c : Int32} (hc : 48 ≤ c.toInt ∧ c.toInt ≤ 57) : ¬ rdN t c := fun h => by
  have h1 : (44 : Int32).toInt = 44 := by decide
  have h2 : (59 : Int32).toInt = 59 := by decide
  rcases h with ⟨_, rfl⟩ | ⟨_, rfl, _⟩ <;> omega
theorem i32_asc (a c : Int32) : a + (c - 48) = a + c - 48 := by rw [Int32.sub_eq_add_neg, Int32.sub_eq_add_neg, Int32.add_assoc]
theorem rj_lead {t : TT} {c : Int32} (hc : 48 ≤ c.toInt ∧ c.toInt ≤ 57) (h : t.1 = 2 ∧ tsz t = 0) : rdC t c = none := by
  have e : t.2.2.1 = 0 := by have := h.2; unfold tsz at this; rw [if_pos h.1] at this; exact this
  rw [rdC_2 h.1]
  unfold rdG
  rw [ifP_f (ndig hc), ifP_f (fun g => g.2.1 (by rw [e]; decide))]
theorem rj_minus {t : TT} {c : Int32} (h : t.1 = 1 ∧ c - 48 = 0) : rdC t c = none := by
  have e : c = 48 := by
    have := congrArg (· + (48 : Int32)) h.2
    simpa using this
  rw [rdC_1 (by omega)]
  unfold rdB
  rw [if_neg (by omega), if_neg (by rw [if_neg (by omega), e]; decide)]
theorem rj_long {t : TT} {c : Int32} (hc : 48 ≤ c.toInt ∧ c.toInt ≤ 57) (h : 1000 < 10 * tsz t + (c - 48)) : rdC t c = none := by
  by_cases g : t.1 = 2
  · rw [rdC_2 g]
    unfold rdG
    have e : tsz t = t.2.2.1 := if_pos g
    rw [ifP_f (ndig hc), ifP_f (fun x => x.2.2 (by rw [← i32_asc, ← e]; exact h))]
  · exfalso
    have e : tsz t = 0 := if_neg g
    rw [e, Int32.mul_zero, Int32.zero_add, Int32.lt_iff_toInt_lt, rd_dig hc, show (1000 : Int32).toInt = 1000 by decide] at h
    omega
theorem ac_dig {t : TT} {c : Int32} (hI : rdI t) (hc : 48 ≤ c.toInt ∧ c.toInt ≤ 57) (h1 : ¬ (t.1 = 2 ∧ tsz t = 0)) (h2 : ¬ (t.1 = 1 ∧ c - 48 = 0)) (h3 : ¬ 1000 < 10 * tsz t + (c - 48)) : rdC t c = some (2, tneg t, 10 * tsz t + (c - 48), t.2.2.2) := by
  by_cases g : t.1 = 2
  · have e : tsz t = t.2.2.1 := if_pos g
    have e2 : tneg t = t.2.1 := by unfold tneg; rw [if_neg (by omega), if_pos g]
    rw [rdC_2 g]
    unfold rdG
    have hp : ¬ t.2.2.1 ≤ 0 := fun x => h1 ⟨g, by
      rw [e]
      have hb := hI.2.2.1 g
      apply Int32.toInt_inj.mp
      rw [Int32.le_iff_toInt_le, show (0 : Int32).toInt = 0 by decide] at x
      rw [show (0 : Int32).toInt = 0 by decide]
      omega⟩
    rw [ifP_f (ndig hc), ifP_t ⟨hc, hp, by rw [← i32_asc, ← e]; exact h3⟩, e, e2, i32_asc]
  · have e : tsz t = 0 := if_neg g
    rw [rdC_1 g]
    unfold rdB
    have h9 : (45 : Int32).toInt = 45 := by decide
    rw [if_neg (fun x => by rw [x.2] at hc; omega)]
    have hle : (if t.1 = 0 then 48 else 49) ≤ c.toInt := by
      split
      · exact hc.1
      · next g0 =>
        have h9 := hI.1
        have hg1 : t.1 = 1 := by omega
        rcases Int.lt_or_le 48 c.toInt with x | x
        · omega
        · exfalso
          refine h2 ⟨hg1, ?_⟩
          apply Int32.toInt_inj.mp
          rw [rd_dig hc, show (0 : Int32).toInt = 0 by decide]
          omega
    rw [if_pos ⟨hle, hc.2⟩, e, Int32.mul_zero, Int32.zero_add]
    have e2 : decide (t.1 = 1) = tneg t := by
      unfold tneg
      by_cases x : t.1 = 1
      · rw [if_pos x, decide_eq_true x]
      · rw [if_neg x, if_neg g, decide_eq_false x]
    rw [e2]
theorem c_minus {t : TT} : (t.1 = 0 → rdC t 45 = some (1, true, t.2.2)) ∧ (¬ t.1 = 0 → rdC t 45 = none) := by
  have h9 : (45 : Int32).toInt = 45 := by decide
  refine ⟨fun h => ?_, fun h => ?_⟩
  · rw [rdC_1 (by omega)]
    exact if_pos ⟨h, rfl⟩
  · by_cases g : t.1 = 2
    · rw [rdC_2 g]
      unfold rdG
      rw [ifP_f (fun x => by rcases x with ⟨_, x⟩ | ⟨_, x, _⟩ <;> exact absurd x (by decide)), ifP_f (fun x => by have := x.1; omega)]
    · rw [rdC_1 g]
      unfold rdB
      rw [if_neg (fun x => h x.1), if_neg (fun x => by have := x.1; split at this <;> omega)]
theorem c_comma {t : TT} : ((t.1 = 2 ∧ t.2.2.2.1 % 2 = 0) → rdC t 44 = some (rdE t)) ∧ (¬ (t.1 = 2 ∧ t.2.2.2.1 % 2 = 0) → rdC t 44 = none) := by
  have h9 : (44 : Int32).toInt = 44 := by decide
  refine ⟨fun h => ?_, fun h => ?_⟩
  · rw [rdC_2 h.1]
    exact ifP_t (.inl ⟨h.2, rfl⟩)
  · by_cases g : t.1 = 2
    · rw [rdC_2 g]
      unfold rdG
      rw [ifP_f (fun x => by rcases x with ⟨x, _⟩ | ⟨_, x, _⟩; exact h ⟨g, x⟩; exact absurd x (by decide)), ifP_f (fun x => by have := x.1; omega)]
    · rw [rdC_1 g]
      unfold rdB
      rw [if_neg (fun x => absurd x.2 (by decide)), if_neg (fun x => by have := x.1; split at this <;> omega)]
theorem c_semi {t : TT} : ((t.1 = 2 ∧ t.2.2.2.1 % 2 = 1 ∧ t.2.2.2.1 + 1 < 40) → rdC t 59 = some (rdE t)) ∧ (¬ (t.1 = 2 ∧ t.2.2.2.1 % 2 = 1 ∧ t.2.2.2.1 + 1 < 40) → rdC t 59 = none) := by
  have h9 : (59 : Int32).toInt = 59 := by decide
  refine ⟨fun h => ?_, fun h => ?_⟩
  · rw [rdC_2 h.1]
    exact ifP_t (.inr ⟨by omega, rfl, h.2.2⟩)
  · by_cases g : t.1 = 2
    · rw [rdC_2 g]
      unfold rdG
      rw [ifP_f (fun x => by rcases x with ⟨_, x⟩ | ⟨x, _, y⟩; exact absurd x (by decide); exact h ⟨g, by omega, y⟩), ifP_f (fun x => by have := x.1; omega)]
    · rw [rdC_1 g]
      unfold rdB
      rw [if_neg (fun x => absurd x.2 (by decide)), if_neg (fun x => by have := x.2; omega)]
theorem c_else {t : TT} {c : Int32} (h1 : ¬ c = 44) (h2 : ¬ c = 45) (h3 : ¬ c = 59) (h : ¬ (48 ≤ c.toInt ∧ c.toInt ≤ 57)) : rdC t c = none := by
  by_cases g : t.1 = 2
  · rw [rdC_2 g]
    unfold rdG
    rw [ifP_f (fun x => by rcases x with ⟨_, x⟩ | ⟨_, x, _⟩; exact h1 x; exact h3 x), ifP_f (fun x => h x.1)]
  · rw [rdC_1 g]
    unfold rdB
    rw [if_neg (fun x => h2 x.2), if_neg (fun x => h ⟨by have := x.1; split at this <;> omega, x.2⟩)]
/-- a new number begins: what was read before stays -/
theorem Tc_E {S' S : PS} {q : Nat → Nat} {t : TT} (h : Tc S q t) (h2 : t.1 = 2) (e : ∀ i, rXY S' q i = rXY S q i) (a : pI S' (q 90) 2 = nI ((t.2.2.2.1 + 1) / 2)) (b : pI S' (q 90) 4 = bI (decide ((t.2.2.2.1 + 1) % 2 = 1))) (c : pI S' (q 90) 3 = 0) (d : pI S' (q 90) 5 = 0) (f : pI S' (q 90) 6 = 0) : Tc S' q (rdE t) := by
  refine ⟨⟨a, b, c, d, f⟩, fun i hi => ?_, fun x => absurd x (by show ¬ 0 = 2; omega)⟩
  rw [e]
  show rXY S q i = upd t.2.2.2.2 t.2.2.2.1 (if t.2.1 then -t.2.2.1 else t.2.2.1) i
  unfold upd
  by_cases g : i = t.2.2.2.1
  · rw [if_pos g, g]; exact h.2.2 h2
  · have h9 : i < t.2.2.2.1 + 1 := hi
    rw [if_neg g]; exact h.2.1 i (by omega)
theorem rXY_kp {S S' : PS} {q : Nat → Nat} {N : Nat} {v : Int32} (h1 : pI S' (q 91) = if decide (N % 2 = 1) then pI S (q 91) else upd (pI S (q 91)) (N / 2) v) (h2 : pI S' (q 92) = if decide (N % 2 = 1) then upd (pI S (q 92)) (N / 2) v else pI S (q 92)) (i : Nat) : rXY S' q i = if i = N then v else rXY S q i := by
  by_cases g : N % 2 = 1
  · rw [decide_eq_true g, if_pos rfl] at h1 h2
    unfold rXY
    rw [h1, h2]
    by_cases e : i = N
    · rw [if_pos e, e, if_neg (by omega)]
      unfold upd
      rw [if_pos rfl]
    · rw [if_neg e]
      by_cases p : i % 2 = 0
      · rw [if_pos p, if_pos p]
      · rw [if_neg p, if_neg p]
        unfold upd
        rw [if_neg (by omega)]
  · rw [decide_eq_false g, if_neg (by decide)] at h1 h2
    unfold rXY
    rw [h1, h2]
    by_cases e : i = N
    · rw [if_pos e, e, if_pos (by omega)]
      unfold upd
      rw [if_pos rfl]
    · rw [if_neg e]
      by_cases p : i % 2 = 0
      · rw [if_pos p, if_pos p]
        unfold upd
        rw [if_neg (by omega)]
      · rw [if_neg p, if_neg p]
theorem tneg_t {b : Bool} {v : Int32} {r : Nat × (Nat → Int32)} : tneg (2, b, v, r) = b ∧ tsz (2, b, v, r) = v := ⟨rfl, rfl⟩
theorem lk_off {c : Int32} (h1 : ¬ c = 44) (h2 : ¬ c = 45) (h3 : ¬ c = 59) : Op.lookupswitch.offset (#[(44, 40), (45, 35), (59, 45)] : Array (Int × Int)).toList 50 c.toInt = 50 := by
  have a1 : ¬ c.toInt = 44 := fun h => h1 (Int32.toInt_inj.mp h)
  have a2 : ¬ c.toInt = 45 := fun h => h2 (Int32.toInt_inj.mp h)
  have a3 : ¬ c.toInt = 59 := fun h => h3 (Int32.toInt_inj.mp h)
  have b1 : ¬ (44 : Int) = c.toInt := fun h => a1 h.symm
  have b2 : ¬ (45 : Int) = c.toInt := fun h => a2 h.symm
  have b3 : ¬ (59 : Int) = c.toInt := fun h => a3 h.symm
  simp [Op.lookupswitch.offset, a1, a2, a3, b1, b2, b3]
theorem ro_z {r : Int32} {o : Option TT} {P : TT → Prop} (h : (r = 1 ∧ ∃ t, o = some t ∧ P t) ∨ (r = 0 ∧ o = none)) : narrow .boolean (.int r) = .int r := by
  rcases h with h | h <;> rw [h.1] <;> rfl
