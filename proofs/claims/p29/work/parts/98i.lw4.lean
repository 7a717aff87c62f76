/-! the law's start, and its end -/
theorem La_00 {S : PS} {q : Nat → Nat} (hq : Shp S.1 S.2.1 q) (hC : Cl S q (z00, [], 0, 0, fun _ => 0)) (h4 : pI S (q 94) = fun _ => 0) (h6 : pI S (q 96) = fun _ => 0) : Lv (wI (wI (wI (wI S (q 94) 0 1200) (q 94) 1 1000) (q 94) 2 50) (q 94) 4 50) q (z00, [], 0, 0, fun _ => 0) z00 := by
  have g1 : Fr S (wI S (q 94) 0 1200) q [94] := Fr.wI hq Fr.rf (by decide) (by decide)
  have g2 : Fr S (wI (wI S (q 94) 0 1200) (q 94) 1 1000) q [94] := Fr.wI hq g1 (by decide) (by decide)
  have g3 : Fr S (wI (wI (wI S (q 94) 0 1200) (q 94) 1 1000) (q 94) 2 50) q [94] := Fr.wI hq g2 (by decide) (by decide)
  have g4 : Fr S (wI (wI (wI (wI S (q 94) 0 1200) (q 94) 1 1000) (q 94) 2 50) (q 94) 4 50) q [94] := Fr.wI hq g3 (by decide) (by decide)
  have o : ∀ j, j ≠ 4 → j ≠ 2 → j ≠ 1 → j ≠ 0 → pI (wI (wI (wI (wI S (q 94) 0 1200) (q 94) 1 1000) (q 94) 2 50) (q 94) 4 50) (q 94) j = 0 := fun j a b c d => (up2_k a).trans ((up2_k b).trans ((up2_k c).trans ((up2_k d).trans (congrFun h4 j))))
  have e0 : pI (wI (wI (wI (wI S (q 94) 0 1200) (q 94) 1 1000) (q 94) 2 50) (q 94) 4 50) (q 94) 0 = 1200 := (up2_k (by decide)).trans ((up2_k (by decide)).trans ((up2_k (by decide)).trans up2_s))
  have e1 : pI (wI (wI (wI (wI S (q 94) 0 1200) (q 94) 1 1000) (q 94) 2 50) (q 94) 4 50) (q 94) 1 = 1000 := (up2_k (by decide)).trans ((up2_k (by decide)).trans up2_s)
  have e2 : pI (wI (wI (wI (wI S (q 94) 0 1200) (q 94) 1 1000) (q 94) 2 50) (q 94) 4 50) (q 94) 2 = 50 := (up2_k (by decide)).trans up2_s
  have e4 : pI (wI (wI (wI (wI S (q 94) 0 1200) (q 94) 1 1000) (q 94) 2 50) (q 94) 4 50) (q 94) 4 = 50 := up2_s
  refine ⟨hq, hC.fr g4 (fun i hi => m94 (by decide) hi), ⟨⟨?_, ?_, ?_, ?_, ?_⟩, ?_, ?_⟩, ⟨fun j hj => absurd hj (by rw [z00_nc]; omega), ?_, by rw [z00_nc]; omega⟩, ?_⟩
  · exact (congrArg Int32.toInt64 e0).trans (by decide)
  · exact (congrArg Int32.toInt64 e1).trans (by decide)
  · exact (congrArg Int32.toInt64 e2).trans (by decide)
  · exact (congrArg Int32.toInt64 (o 3 (by decide) (by decide) (by decide) (by decide))).trans (by decide)
  · exact (congrArg Int32.toInt64 e4).trans (by decide)
  · exact (congrArg Int32.toInt64 (o 5 (by decide) (by decide) (by decide) (by decide))).trans (by decide)
  · exact (congrArg Int32.toInt64 (o 6 (by decide) (by decide) (by decide) (by decide))).trans (by decide)
  · rw [(g4.2.2 96 (by decide) (by decide)).1, h6, z00_nc]; rfl
  · rw [(g4.2.2 96 (by decide) (by decide)).1, h6, z00_nr]; rfl
theorem zEr_00 : zEr z00 = FP.dconst0 := by
  unfold zEr
  rw [if_pos (.inl (by decide))]
theorem ct_14 {z : ZZ} {s : Nat} : zCt z s (nI 14) = lN s := by
  unfold zCt
  rw [if_neg (by decide), if_neg (by decide), if_neg (by decide), if_neg (by decide), if_neg (by decide), if_neg (by decide), if_neg (by decide), if_neg (by decide), if_neg (by decide), if_neg (by decide), if_neg (by decide), if_neg (by decide), if_neg (by decide), if_neg (by decide)]
theorem lN_pos {k : Nat} (h : 0 < k) (hk : k < 2147483648) : ¬ lN k ≤ 0 := by
  rw [show (0 : Int64) = lN 0 from rfl, pk_lLE (by omega) (by omega)]
  omega
