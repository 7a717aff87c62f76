theorem rk_step {z : ZZ} {k i : Nat} {b r : Int32} (hb : (b = 1 ∧ ∀ j, j < i → zRe z (zPx z k j) (zPy z k j)) ∨ (b = 0 ∧ ¬ zRk z k)) (hi : i ≤ zN z k) (c : ¬ b = 0) (e : r = 1 ∧ zRe z (zPx z k i) (zPy z k i) ∨ r = 0 ∧ ¬ zRe z (zPx z k i) (zPy z k i)) : (r = 1 ∧ ∀ j, j < i + 1 → zRe z (zPx z k j) (zPy z k j)) ∨ (r = 0 ∧ ¬ zRk z k) := by
  rcases hb with ⟨_, h⟩ | ⟨h, _⟩
  · rcases e with ⟨e1, e2⟩ | ⟨e1, e2⟩
    · refine Or.inl ⟨e1, fun j hj => ?_⟩
      rcases Nat.lt_or_ge j i with g | g
      · exact h j g
      · obtain rfl : j = i := by omega
        exact e2
    · exact Or.inr ⟨e1, fun z => e2 (z i hi)⟩
  · exact absurd h c
theorem rk_end {z : ZZ} {k i : Nat} {b : Int32} (hb : (b = 1 ∧ ∀ j, j < i → zRe z (zPx z k j) (zPy z k j)) ∨ (b = 0 ∧ ¬ zRk z k)) (hi : zN z k < i ∨ b = 0) : b = 1 ∧ zRk z k ∨ b = 0 ∧ ¬ zRk z k := by
  rcases hb with ⟨h1, h⟩ | h
  · rcases hi with g | g
    · exact Or.inl ⟨h1, fun j hj => h j (by omega)⟩
    · rw [g] at h1; exact absurd h1 (by decide)
  · exact Or.inr h
theorem ra_step {z : ZZ} {i : Nat} {b r : Int32} (hb : (b = 1 ∧ ∀ j, j < i → zRk z j) ∨ (b = 0 ∧ ¬ zRa z)) (hi : i < nc z) (c : ¬ b = 0) (e : r = 1 ∧ zRk z i ∨ r = 0 ∧ ¬ zRk z i) : (r = 1 ∧ ∀ j, j < i + 1 → zRk z j) ∨ (r = 0 ∧ ¬ zRa z) := by
  rcases hb with ⟨_, h⟩ | ⟨h, _⟩
  · rcases e with ⟨e1, e2⟩ | ⟨e1, e2⟩
    · refine Or.inl ⟨e1, fun j hj => ?_⟩
      rcases Nat.lt_or_ge j i with g | g
      · exact h j g
      · obtain rfl : j = i := by omega
        exact e2
    · exact Or.inr ⟨e1, fun z => e2 (z i hi)⟩
  · exact absurd h c
theorem ra_end {z : ZZ} {i : Nat} {b : Int32} (hb : (b = 1 ∧ ∀ j, j < i → zRk z j) ∨ (b = 0 ∧ ¬ zRa z)) (hi : nc z ≤ i ∨ b = 0) : b = 1 ∧ zRa z ∨ b = 0 ∧ ¬ zRa z := by
  rcases hb with ⟨h1, h⟩ | h
  · rcases hi with g | g
    · exact Or.inl ⟨h1, fun j hj => h j (by omega)⟩
    · rw [g] at h1; exact absurd h1 (by decide)
  · exact Or.inr h
def bI (b : Bool) : Int32 := if b then 1 else 0
theorem bI_0 {b : Bool} (h : bI b = 0) : b = false := by cases b; rfl; exact absurd h (by decide)
theorem bI_1 {b : Bool} (h : ¬ bI b = 0) : b = true := by cases b; exact absurd rfl h; rfl
theorem sk_back {c i n : Nat} (hi : i < n) : nI c - 1 - nI i + nI (2 * n) = nI (c + 2 * n - 1 - i) := by
  have h1 : nI (c + 2 * n) - nI (1 + i) = nI (c + 2 * n - 1 - i) := by rw [pk_sub (by omega)]; congr 1; omega
  rw [← h1, ← nI_add c, ← nI_add 1 i, show nI 1 = 1 from rfl]
  generalize nI c = x; generalize nI i = y; generalize nI (2 * n) = w
  grind
