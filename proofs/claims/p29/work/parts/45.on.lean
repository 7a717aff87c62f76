theorem btw_sum {a b l : Int64} (h : l = if a < b then a else b) : a + b - l = if a < b then b else a := by
  subst h
  split <;> grind
theorem btw_1 {v a b l r : Int64} {x : Int32} (hl : l = if a < b then a else b) (hr : r = a + b - l) (e : x = if l ≤ v ∧ v ≤ r then 1 else 0) (c : ¬ x = 0) : btw v a b := by
  have h := if01_1 e c
  rw [hr, btw_sum hl, hl] at h
  exact h
theorem btw_0 {v a b l r : Int64} {x : Int32} (hl : l = if a < b then a else b) (hr : r = a + b - l) (e : x = if l ≤ v ∧ v ≤ r then 1 else 0) (c : x = 0) : ¬ btw v a b := by
  have h := if01_0 e c
  rw [hr, btw_sum hl, hl] at h
  exact h
theorem on_step {z : ZZ} {i : Nat} {b r : Int32} (hb : (b = 1 ∧ zOO z) ∨ (b = 0 ∧ ∀ j, j < i → ¬ zOn z j)) (hi : i < nc z) (e : ¬ b = 0 ∧ r = 1 ∨ b = 0 ∧ (r = 1 ∧ zOn z i ∨ r = 0 ∧ ¬ zOn z i)) : (r = 1 ∧ zOO z) ∨ (r = 0 ∧ ∀ j, j < i + 1 → ¬ zOn z j) := by
  rcases e with ⟨e1, e2⟩ | ⟨e1, e2⟩
  · rcases hb with h | h
    · exact Or.inl ⟨e2, h.2⟩
    · exact absurd h.1 e1
  · rcases hb with h | ⟨_, h⟩
    · rw [h.1] at e1; exact absurd e1 (by decide)
    · rcases e2 with ⟨e3, e4⟩ | ⟨e3, e4⟩
      · exact Or.inl ⟨e3, i, hi, e4⟩
      · refine Or.inr ⟨e3, fun j hj => ?_⟩
        rcases Nat.lt_or_ge j i with g | g
        · exact h j g
        · obtain rfl : j = i := by omega
          exact e4
theorem on_end {z : ZZ} {i : Nat} {b : Int32} (hb : (b = 1 ∧ zOO z) ∨ (b = 0 ∧ ∀ j, j < i → ¬ zOn z j)) (hi : nc z ≤ i) : b = 1 ∧ zOO z ∨ b = 0 ∧ ¬ zOO z := by
  rcases hb with h | ⟨h1, h⟩
  · exact Or.inl h
  · exact Or.inr ⟨h1, fun ⟨j, hj, g⟩ => h j (by omega) g⟩
theorem ifP_t {α : Type} {P : Prop} {a b : α} (h : P) : ifP P a b = a := by unfold ifP; exact if_pos h
theorem ifP_f {α : Type} {P : Prop} {a b : α} (h : ¬ P) : ifP P a b = b := by unfold ifP; exact if_neg h
theorem w1 {w : Int32} {P : Prop} (h : (w = 1 ∧ P) ∨ (w = 0 ∧ ¬ P)) (c : ¬ w = 0) : P := by rcases h with h | h; exact h.2; exact absurd h.1 c
theorem w0 {w : Int32} {P : Prop} (h : (w = 1 ∧ P) ∨ (w = 0 ∧ ¬ P)) (c : w = 0) : ¬ P := by rcases h with h | h; exact absurd (h.1.symm.trans c) (by decide); exact h.2
theorem zcr_1 {z : ZZ} {k : Nat} (hU : zY z k ≤ z 1 ∧ z 1 < zY z (k + 1)) (hs : 0 < zSd z k) : (1 : Int64) = zCr z k := by unfold zCr; rw [if_pos ⟨hU, hs⟩]
theorem zcr_m {z : ZZ} {k : Nat} (hn : ¬ ((zY z k ≤ z 1 ∧ z 1 < zY z (k + 1)) ∧ 0 < zSd z k)) (hV : z 1 < zY z k ∧ zY z (k + 1) ≤ z 1) (hs : zSd z k < 0) : (-1 : Int64) = zCr z k := by unfold zCr; rw [if_neg hn, if_pos ⟨hV, hs⟩]
theorem zcr_0 {z : ZZ} {k : Nat} (hn : ¬ ((zY z k ≤ z 1 ∧ z 1 < zY z (k + 1)) ∧ 0 < zSd z k)) (hm : ¬ ((z 1 < zY z k ∧ zY z (k + 1) ≤ z 1) ∧ zSd z k < 0)) : (0 : Int64) = zCr z k := by unfold zCr; rw [if_neg hn, if_neg hm]
theorem zSh_le (z : ZZ) : zSh z ≤ 3 := by
  unfold zSh ifP
  split
  · omega
  · split
    · omega
    · split <;> omega
theorem zSh_0 {z : ZZ} (h : nI (zSh z) = 0) : zSh z = 0 := by
  have h1 := zSh_le z
  rw [← nI_0, nI_eq (by omega) (by omega)] at h
  exact h
