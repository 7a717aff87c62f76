/-! the start: shape and relations out of the facts told by place -/
theorem St0.cg {S : PS} {f g : Nat → Nat} (s : St0 S f) (h : ∀ k, k < 10 → g k = f k) : St0 S g := by
  unfold St0 at s ⊢
  rw [h 0 (by decide), h 1 (by decide), h 2 (by decide), h 3 (by decide), h 4 (by decide), h 5 (by decide), h 6 (by decide), h 7 (by decide), h 8 (by decide), h 9 (by decide)]
  exact s
theorem st_all {S : PS} {q f0 f1 : Nat → Nat} {fh : Nat → Nat → Nat} (s0 : St0 S f0) (s1 : St0 S f1) (sh : ∀ j, j < 6 → St0 S (fh j)) (e0 : ∀ k, k < 10 → q k = f0 k) (e1 : ∀ k, k < 10 → q (10 + k) = f1 k) (eh : ∀ j, j < 6 → ∀ k, k < 10 → q (20 + 10 * j + k) = fh j k) : ∀ s, s < 8 → St0 S (fun k => q (10 * s + k)) := by
  intro s hs
  rcases (by omega : s = 0 ∨ s = 1 ∨ 2 ≤ s) with e | e | e
  · exact s0.cg (fun k hk => (congrArg q (by omega : 10 * s + k = k)).trans (e0 k hk))
  · exact s1.cg (fun k hk => (congrArg q (by omega : 10 * s + k = 10 + k)).trans (e1 k hk))
  · exact (sh (s - 2) (by omega)).cg (fun k hk => (congrArg q (by omega : 10 * s + k = 20 + 10 * (s - 2) + k)).trans (eh (s - 2) (by omega) k hk))
theorem st_R {S : PS} {q : Nat → Nat} (h : ∀ s, s < 8 → St0 S (fun k => q (10 * s + k))) : ∀ s, s < 8 → pR S (q (10 * s)) 3 = some (q (10 * s + 1)) ∧ pR S (q (10 * s)) 4 = some (q (10 * s + 2)) ∧ pR S (q (10 * s)) 5 = some (q (10 * s + 6)) ∧ pR S (q (10 * s + 2)) 1 = some (q (10 * s + 3)) ∧ pR S (q (10 * s + 2)) 2 = some (q (10 * s + 4)) ∧ pR S (q (10 * s + 2)) 3 = some (q (10 * s + 5)) ∧ pR S (q (10 * s + 6)) 1 = some (q (10 * s + 7)) ∧ pR S (q (10 * s + 6)) 2 = some (q (10 * s + 8)) ∧ pR S (q (10 * s + 6)) 3 = some (q (10 * s + 9)) := by
  intro s hs
  obtain ⟨a1, a2, a3, a4, a5, a6, a7, a8, a9, -⟩ := h s hs
  exact ⟨a1, a2, a3, a4, a5, a6, a7, a8, a9⟩
theorem st_Cs {S : PS} {q : Nat → Nat} (h : St0 S (fun k => q (10 * 0 + k))) : Cs S q 0 z00 := by
  obtain ⟨-, -, -, -, -, -, -, -, -, b1, b2, b3, b4, b5, b6⟩ := h
  refine ⟨⟨?_, ?_, ?_⟩, fun i hi => ?_, ?_, fun k hk => absurd hk (by rw [z00_nc]; omega), ?_, fun k hk => absurd hk (by rw [z00_nr]; omega)⟩
  · exact (congrArg Int32.toInt64 b1).trans (by decide)
  · exact (congrArg Int32.toInt64 b2).trans (by decide)
  · exact (congrArg Int32.toInt64 b3).trans (by decide)
  · refine (congrArg Int32.toInt64 (b4 i hi)).trans ?_
    rcases (by omega : i = 0 ∨ i = 1 ∨ i = 2 ∨ i = 3 ∨ i = 4) with e | e | e | e | e <;> subst e <;> decide
  · rw [z00_nc]; exact b5
  · rw [z00_nr]; exact b6
theorem st_Cl {S : PS} {q : Nat → Nat} (h : St0 S (fun k => q (10 * 0 + k))) (h81 : pI S (q 81) 0 = 0) (h82 : ∀ i, i < 6 → pR S (q 82) i = some (q (10 * (i + 2)))) (h7 : pI S (q 80) 7 = 0) (h8 : pI S (q 80) 8 = 0) : Cl S q (z00, [], 0, 0, fun _ => 0) :=
  ⟨st_Cs h, ⟨fun i => i + 2, h81, by decide, h82, fun i hi => ⟨Nat.le_add_left 2 i, Nat.add_lt_add_right hi 2⟩, fun i j hi hj e => Nat.add_right_cancel e, fun i y hy => (by cases hy)⟩, h7, h8, fun j hj => absurd hj (Nat.not_lt_zero j)⟩
