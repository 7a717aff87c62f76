/-! what changes a state -/
theorem Cs_clear {S S' : PS} {q : Nat → Nat} {s : Nat} {z : ZZ} (hs : s < 8) (hc : Cs S q s z) (hf : Fr S S' q [10 * s + 6]) (h : pI S' (q (10 * s + 6)) 0 = 0) : Cs S' q s (vp_updL z 69 0) := by
  have e : ∀ i, i < 10 → i ≠ 6 → pI S' (q (10 * s + i)) = pI S (q (10 * s + i)) := fun i hi h6 => (hf.2.2 _ (by omega) (by simp; omega)).1
  have en : nc (vp_updL z 69 0) = nc z := by unfold nc; rw [uLn (by omega)]
  have er : nr (vp_updL z 69 0) = 0 := nr_0 uLs
  unfold Cs
  rw [en, er, show pI S' (q (10 * s)) = pI S (q (10 * s)) from e 0 (by omega) (by omega), e 1 (by omega) (by omega), e 2 (by omega) (by omega), e 3 (by omega) (by omega), e 4 (by omega) (by omega), e 5 (by omega) (by omega), uLn (by omega), uLn (by omega), uLn (by omega)]
  have hn := hc.2.2.2.1
  refine ⟨hc.1, fun i hi => ?_, hc.2.2.1, fun k hk => ?_, h, fun r hr => absurd hr (by omega)⟩
  · rw [uLn (by omega)]; exact hc.2.1 i hi
  · by_cases g : 9 + 3 * k + 2 < 69
    · rw [uLn (by omega), uLn (by omega), uLn (by omega)]; exact hn k hk
    · exact absurd g (by sorry)
