section Elb
variable {r : Int32} {S : PS} {q : Nat → Nat} {z : ZZ} {tx ty : Int64} {w : Int32}
abbrev PlR (r : Int32) (S : PS) (q : Nat → Nat) (z : ZZ) (tx ty : Int64) : Prop := (r = 1 ∧ zRe z tx ty ∧ Ap S q z tx ty) ∨ (r = 0 ∧ ¬ zRe z tx ty ∧ pJ S (q 84) 7 = 0 ∧ pJ S (q 84) 8 = 0)
theorem en_1 (h : PlR r S q z tx ty) (c : ¬ r = 0) (hw : w = 0) : (1 : Int64) = zEn z tx ty w := by
  rcases h with ⟨-, h, -⟩ | ⟨h, -⟩
  · unfold zEn; rw [ifP_t h, if_pos hw]
  · exact absurd h c
theorem en_0 (h : PlR r S q z tx ty) (c : r = 0) : (0 : Int64) = zEn z tx ty w := by
  rcases h with ⟨h, -⟩ | ⟨-, h, -⟩
  · rw [h] at c; exact absurd c (by decide)
  · unfold zEn; rw [ifP_f h]
theorem en_x (h : PlR r S q z tx ty) (h0 : ¬ w = 0) (h1 : w = 1) : pJ S (q 84) 7 = zEn z tx ty w := by
  rcases h with ⟨-, h, a⟩ | ⟨-, h, a, -⟩
  · unfold zEn; rw [ifP_t h, if_neg h0, if_pos h1]; exact a.2.2.1
  · unfold zEn; rw [ifP_f h]; exact a
theorem en_y (h : PlR r S q z tx ty) (h0 : ¬ w = 0) (h1 : ¬ w = 1) : pJ S (q 84) 8 = zEn z tx ty w := by
  rcases h with ⟨-, h, a⟩ | ⟨-, h, -, a⟩
  · unfold zEn; rw [ifP_t h, if_neg h0, if_neg h1]; exact a.2.2.2
  · unfold zEn; rw [ifP_f h]; exact a
end Elb
