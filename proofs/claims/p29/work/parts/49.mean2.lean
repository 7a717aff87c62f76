def wE (o : Option Nat) : Int32 := match o with
  | none => -1
  | some r => nI r
theorem wfF_s {A : Nat → Int64} {out : Nat → Bool} {m : Int64} {i : Nat} : wfF A out m (i + 1) = wfS A out m i (wfF A out m i) := rfl
theorem wf_keep1 {A : Nat → Int64} {out : Nat → Bool} {m : Int64} {i : Nat} (h : out i = true) : wfF A out m (i + 1) = wfF A out m i := by
  rw [wfF_s]; unfold wfS; rw [if_neg (by rw [h]; rintro ⟨a, _⟩; exact absurd a (by decide))]
theorem wf_keep2 {A : Nat → Int64} {out : Nat → Bool} {m : Int64} {i : Nat} (h : ¬ (wfF A out m i).1 = none) (h2 : ¬ (wfF A out m i).2 < sz (A i - m)) : wfF A out m (i + 1) = wfF A out m i := by
  rw [wfF_s]; unfold wfS; rw [if_neg (by rintro ⟨_, a | a⟩; exact h a; exact h2 a)]
theorem wf_new {A : Nat → Int64} {out : Nat → Bool} {m : Int64} {i : Nat} (h : out i = false) (h2 : (wfF A out m i).1 = none ∨ (wfF A out m i).2 < sz (A i - m)) : wfF A out m (i + 1) = (some i, sz (A i - m)) := by
  rw [wfF_s]; unfold wfS; rw [if_pos ⟨h, h2⟩]
theorem wf_in {A : Nat → Int64} {out : Nat → Bool} {m : Int64} : ∀ {i r : Nat}, (wfF A out m i).1 = some r → r < i ∧ out r = false
  | 0, _, h => by cases h
  | i + 1, r, h => by
    by_cases c : out i = false ∧ ((wfF A out m i).1 = none ∨ (wfF A out m i).2 < sz (A i - m))
    · rw [wf_new c.1 c.2] at h
      have e : i = r := Option.some.inj h
      subst e
      exact ⟨by omega, c.1⟩
    · have e : wfF A out m (i + 1) = wfF A out m i := by rw [wfF_s]; unfold wfS; rw [if_neg c]
      rw [e] at h
      have := wf_in h
      exact ⟨by omega, this.2⟩
theorem wf_none {A : Nat → Int64} {out : Nat → Bool} {m : Int64} : ∀ {i : Nat}, (wfF A out m i).1 = none → lfF out i = 0
  | 0, _ => rfl
  | i + 1, h => by
    by_cases c : out i = false ∧ ((wfF A out m i).1 = none ∨ (wfF A out m i).2 < sz (A i - m))
    · rw [wf_new c.1 c.2] at h; cases h
    · have e : wfF A out m (i + 1) = wfF A out m i := by rw [wfF_s]; unfold wfS; rw [if_neg c]
      rw [e] at h
      cases ho : out i
      · exact absurd ⟨ho, Or.inl h⟩ c
      · rw [lfF_t ho, wf_none h]
theorem wf_some {A : Nat → Int64} {out : Nat → Bool} {m : Int64} {n : Nat} (h : 0 < lfF out n) : ∃ r, r < n ∧ out r = false ∧ (wfF A out m n).1 = some r := by
  cases e : (wfF A out m n).1 with
  | none => have := wf_none e; omega
  | some r => exact ⟨r, (wf_in e).1, (wf_in e).2, rfl⟩
theorem wE_0 {A : Nat → Int64} {out : Nat → Bool} {m : Int64} {i : Nat} {w : Int32} (hi : i < 100) (e : w = wE (wfF A out m i).1) : w = -1 ↔ (wfF A out m i).1 = none := by
  rw [e]
  cases h : (wfF A out m i).1 with
  | none => exact ⟨fun _ => rfl, fun _ => rfl⟩
  | some r =>
    have := (wf_in h).1
    refine ⟨fun z => ?_, fun z => by cases z⟩
    have z2 := congrArg Int32.toInt z
    rw [show wE (some r) = nI r from rfl, nI_toInt (by omega)] at z2
    rw [show (-1 : Int32).toInt = -1 from rfl] at z2
    omega
theorem lfF_set {out : Nat → Bool} {r : Nat} (h : out r = false) : ∀ {n : Nat}, r < n → lfF (setB out (some r)) n + 1 = lfF out n
  | 0, h2 => absurd h2 (by omega)
  | n + 1, h2 => by
    have hs : ∀ j, j ≠ r → setB out (some r) j = out j := fun j hj => by unfold setB; rw [if_neg (fun e => hj (Option.some.inj e).symm)]
    have hr : setB out (some r) r = true := by unfold setB; rw [if_pos rfl]
    rcases Nat.lt_or_ge r n with g | g
    · have ih := lfF_set h g
      cases ho : out n
      · rw [lfF_f ho, lfF_f (show setB out (some r) n = false by rw [hs n (by omega)]; exact ho)]; omega
      · rw [lfF_t ho, lfF_t (show setB out (some r) n = true by rw [hs n (by omega)]; exact ho)]; omega
    · obtain rfl : r = n := by omega
      rw [lfF_f h, lfF_t hr]
      have : ∀ k, k ≤ r → lfF (setB out (some r)) k = lfF out k := by
        intro k
        induction k with
        | zero => intro _; rfl
        | succ k ihk =>
          intro hk
          have h1 := hs k (by omega)
          cases ho : out k
          · rw [lfF_f ho, lfF_f (h1.trans ho), ihk (by omega)]
          · rw [lfF_t ho, lfF_t (h1.trans ho), ihk (by omega)]
      rw [this r (Nat.le_refl r)]
theorem lm_stop {A : Nat → Int64} {tol : Int64} {n f : Nat} {out : Nat → Bool} (h : ¬ 2 < lfF out n) : lmF A tol n f out = out := by
  cases f with
  | zero => rfl
  | succ f => unfold lmF; rw [if_neg (fun z => h z.1)]
theorem lm_stay {A : Nat → Int64} {tol : Int64} {n f : Nat} {out : Nat → Bool} (h : ¬ tol < (wfF A out (midF A out n) n).2) : lmF A tol n f out = out := by
  cases f with
  | zero => rfl
  | succ f => unfold lmF; rw [if_neg (fun z => h z.2)]
theorem lm_go {A : Nat → Int64} {tol : Int64} {n f : Nat} {out : Nat → Bool} {r : Nat} (hf : 0 < f) (h : 2 < lfF out n) (h2 : tol < (wfF A out (midF A out n) n).2) (e : (wfF A out (midF A out n) n).1 = some r) : lmF A tol n f out = lmF A tol n (f - 1) (setB out (some r)) := by
  cases f with
  | zero => omega
  | succ f => rw [show f + 1 - 1 = f from rfl, ← e]; conv => lhs; unfold lmF
              rw [if_pos ⟨h, h2⟩]
theorem ho_set {S : PS} {q : Nat → Nat} {out : Nat → Bool} {r : Nat} (ho : ∀ j, j < 12 → pI S (q 98) j = bI (out j)) : ∀ j, j < 12 → pI (wI S (q 98) r 1) (q 98) j = bI (setB out (some r) j) := by
  intro j hj
  by_cases e : j = r
  · subst e
    rw [show pI (wI S (q 98) j 1) (q 98) j = 1 from up2_s]
    unfold setB; rw [if_pos rfl]; rfl
  · rw [show pI (wI S (q 98) r 1) (q 98) j = pI S (q 98) j from up2_k e, ho j hj]
    unfold setB; rw [if_neg (fun z => e (Option.some.inj z).symm)]
theorem z0_set {S : PS} {a : Nat} {i : Nat} (h : ∀ j, j < i → pI S a j = 0) : ∀ j, j < i + 1 → pI (wI S a i 0) a j = 0 := by
  intro j hj
  by_cases e : j = i
  · subst e; exact up2_s
  · exact (up2_k e).trans (h j (by omega))
