set_option maxHeartbeats 4000000 in
set_option maxRecDepth 100000 in
theorem kX0_fit (g : Glo) (S : PS) (q : Nat → Nat) (hq : Shp S.1 S.2.1 q) (s : Nat) (hs : s < 8) (z : ZZ) (hB : Bz z) (hc : Cs S q s z) : Ct g mX0_fit 0 0 [.ref (q 84), .ref (q (10 * s))] S (pV9 (fun S' => Fr S S' q [84] ∧ Ar S' q z)) := by
  refine Ct.of (by decide) (Nat.le_of_ble_eq_true rfl) (fun Γ hg F T => ?_)
  subst hg
  show G Γ S 0 0 0 [(0, .ref (q 84)), (1, .ref (q (10 * s)))] []
  refine g_aload_n (k := 0) F 0 rfl dX0_fit_0 ?_
  refine g_ldc2 F mw182 dX0_fit_1 ?_
  refine g_aload_n (k := 1) F 1 rfl dX0_fit_4 ?_
  refine gfX0_11e F (qs0 hq hs) rfl dX0_fit_5 ?_
  refine g_i2l F dX0_fit_8 ?_
  refine g_lmul F dX0_fit_9 ?_
  refine g_topl (fun x1 ex1 => ?_)
  refine pfX0_17 F (qi84 hq) dX0_fit_10 ?_
  refine g_aload_n (k := 0) F 0 rfl dX0_fit_13 ?_
  refine g_ldc2 F mw182 dX0_fit_14 ?_
  refine g_aload_n (k := 1) F 1 rfl dX0_fit_17 ?_
  refine gfX0_22e F (qs0 hq hs) rfl dX0_fit_18 ?_
  refine g_i2l F dX0_fit_21 ?_
  refine g_lmul F dX0_fit_22 ?_
  refine g_topl (fun x2 ex2 => ?_)
  refine pfX0_25 F (qi84 hq) dX0_fit_23 ?_
  refine g_aload_n (k := 0) F 0 rfl dX0_fit_26 ?_
  refine g_ldc2 F mw182 dX0_fit_27 ?_
  refine g_aload_n (k := 1) F 1 rfl dX0_fit_30 ?_
  refine gfX0_27 F (qs0 hq hs) (qt0_3 hq hs) dX0_fit_31 ?_
  refine g_iconst (v := 0) F (by decide) dX0_fit_34 ?_
  refine g_ialde rfl (j := 0) F (qs1 hq hs) rfl (by rw [(qm1 hq hs)]; omega) (by rw [(qm1 hq hs)]; decide) dX0_fit_35 ?_
  refine g_i2l F dX0_fit_36 ?_
  refine g_lmul F dX0_fit_37 ?_
  refine g_topl (fun x3 ex3 => ?_)
  refine pfX0_31 F (qi84 hq) dX0_fit_38 ?_
  refine g_aload_n (k := 0) F 0 rfl dX0_fit_41 ?_
  refine g_ldc2 F mw182 dX0_fit_42 ?_
  refine g_aload_n (k := 1) F 1 rfl dX0_fit_45 ?_
  refine gfX0_27 F (qs0 hq hs) (qt0_3 hq hs) dX0_fit_46 ?_
  refine g_iconst (v := 1) F (by decide) dX0_fit_49 ?_
  refine g_ialde rfl (j := 1) F (qs1 hq hs) rfl (by rw [(qm1 hq hs)]; omega) (by rw [(qm1 hq hs)]; decide) dX0_fit_50 ?_
  refine g_i2l F dX0_fit_51 ?_
  refine g_lmul F dX0_fit_52 ?_
  refine g_topl (fun x4 ex4 => ?_)
  refine pfX0_34 F (qi84 hq) dX0_fit_53 ?_
  refine g_aload_n (k := 0) F 0 rfl dX0_fit_56 ?_
  refine g_aload_n (k := 1) F 1 rfl dX0_fit_57 ?_
  refine gfX0_27 F (qs0 hq hs) (qt0_3 hq hs) dX0_fit_58 ?_
  refine g_iconst (v := 3) F (by decide) dX0_fit_61 ?_
  refine g_ialde rfl (j := 3) F (qs1 hq hs) rfl (by rw [(qm1 hq hs)]; omega) (by rw [(qm1 hq hs)]; decide) dX0_fit_62 ?_
  refine g_iconst (v := 1) F (by decide) dX0_fit_63 ?_
  have jn6 : ∀ (w72 : Int32), w72 = bI (decide (z 5 = 1)) → G Γ (wJ (wJ (wJ (wJ S (q 84) 0 x1) (q 84) 1 x2) (q 84) 2 x3) (q 84) 3 x4) 0 0 72 [(0, .ref (q 84)), (1, .ref (q (10 * s)))] [.int w72, .ref (q 84)] := by
    intro w72 hj
    refine pfX0_37 F (by rw [hj]; cases decide (z 5 = 1) <;> rfl) (by rw [hj]; cases decide (z 5 = 1) <;> rfl) (qi84 hq) dX0_fit_72 ?_
    refine g_vret F T ⟨rfl, ?_⟩ (Nat.le_of_ble_eq_true rfl) (Nat.le_of_ble_eq_true rfl) dX0_fit_75
    exact ⟨(Fr.wI hq (Fr.wJ hq (Fr.wJ hq (Fr.wJ hq (Fr.wJ hq Fr.rf (by decide) (by decide)) (by decide) (by decide)) (by decide) (by decide)) (by decide) (by decide)) (by decide) (by decide)), (((up2_k (by decide)).trans ((up2_k (by decide)).trans ((up2_k (by decide)).trans up2_s))).trans (by rw [ex1]; rw [hc.1.1])), (((up2_k (by decide)).trans ((up2_k (by decide)).trans up2_s)).trans (by rw [ex2]; rw [hc.1.2.1])), (((up2_k (by decide)).trans up2_s).trans (by rw [ex3]; rw [show _ = z 2 from hc.st (i := 0) (by decide)])), (up2_s.trans (by rw [ex4]; rw [show _ = z 3 from hc.st (i := 1) (by decide)])), up2_s.trans hj⟩
  refine g_icmp_ne (t := 71) F dX0_fit_64 (by decide) (fun c5 => ?_) (fun c5 => ?_)
  · have hp9 : ¬ z 5 = 1 := fun h => c5 ((one32 (hc.st (i := 3) (by decide))).mpr h)
    refine g_iconst (v := 0) F (by decide) dX0_fit_71 ?_
    exact jn6 (0) (by rw [decide_eq_false hp9]; rfl)
  · have hp9 : z 5 = 1 := (one32 (hc.st (i := 3) (by decide))).mp c5
    refine g_iconst (v := 1) F (by decide) dX0_fit_67 ?_
    refine g_goto (t := 72) F dX0_fit_68 (by decide) ?_
    exact jn6 (1) (by rw [decide_eq_true hp9]; rfl)
set_option maxHeartbeats 4000000 in
set_option maxRecDepth 100000 in
theorem kX0_squareTo (g : Glo) (S : PS) (q : Nat → Nat) (hq : Shp S.1 S.2.1 q) (z : ZZ) (ha : Ar S q z) (x y : Int64) : Ct g mX0_squareTo 0 0 [.ref (q 84), .long x, .long y] S (pJ9 (fun r S' => r = zD z x y ∧ S = S')) := by
  refine Ct.of (by decide) (Nat.le_of_ble_eq_true rfl) (fun Γ hg F T => ?_)
  subst hg
  show G Γ S 0 0 0 [(0, .ref (q 84)), (1, .long x), (3, .long y)] []
  refine g_lload_n (k := 1) F 1 rfl dX0_squareTo_0 ?_
  refine g_aload_n (k := 0) F 0 rfl dX0_squareTo_1 ?_
  refine gfX0_17e F (qi84 hq) ha.1 dX0_squareTo_2 ?_
  refine g_lsub F dX0_squareTo_5 ?_
  refine g_topl (fun x1 ex1 => ?_)
  refine g_lstore (L' := [(5, .long x1), (0, .ref (q 84)), (1, .long x), (3, .long y)]) F dX0_squareTo_6 (Nat.le_of_ble_eq_true rfl) rfl ?_
  refine g_lload_n (k := 3) F 3 rfl dX0_squareTo_8 ?_
  refine g_aload_n (k := 0) F 1 rfl dX0_squareTo_9 ?_
  refine gfX0_25e F (qi84 hq) ha.2.1 dX0_squareTo_10 ?_
  refine g_lsub F dX0_squareTo_13 ?_
  refine g_topl (fun x2 ex2 => ?_)
  refine g_lstore (L' := [(7, .long x2), (5, .long x1), (0, .ref (q 84)), (1, .long x), (3, .long y)]) F dX0_squareTo_14 (Nat.le_of_ble_eq_true rfl) rfl ?_
  refine g_lload F 1 rfl dX0_squareTo_16 ?_
  refine g_lload F 1 rfl dX0_squareTo_18 ?_
  refine g_lmul F dX0_squareTo_20 ?_
  refine g_lload F 0 rfl dX0_squareTo_21 ?_
  refine g_lload F 0 rfl dX0_squareTo_23 ?_
  refine g_lmul F dX0_squareTo_25 ?_
  refine g_ladd F dX0_squareTo_26 ?_
  refine g_lret F T ⟨_, rfl, ?_⟩ (Nat.le_of_ble_eq_true rfl) (Nat.le_of_ble_eq_true rfl) dX0_squareTo_27
  exact ⟨by rw [ex1, ex2]; rfl, rfl⟩
set_option maxHeartbeats 4000000 in
set_option maxRecDepth 100000 in
theorem kX0_spans (g : Glo) (S : PS) (q : Nat → Nat) (hq : Shp S.1 S.2.1 q) (z : ZZ) (ha : Ar S q z) (d : Int64) : Ct g mX0_spans 0 0 [.ref (q 84), .long d] S (pI9 (fun r S' => (r = 1 ∧ sp (16 * z 2) (16 * z 3) d ∨ r = 0 ∧ ¬ sp (16 * z 2) (16 * z 3) d) ∧ S = S')) := by
  refine Ct.of (by decide) (Nat.le_of_ble_eq_true rfl) (fun Γ hg F T => ?_)
  subst hg
  show G Γ S 0 0 0 [(0, .ref (q 84)), (1, .long d)] []
  refine g_lload_n (k := 1) F 1 rfl dX0_spans_0 ?_
  refine g_lconst (v := 0) F (by decide) dX0_spans_1 ?_
  refine g_lcmp F dX0_spans_2 ?_
  refine g_if_le (t := 41) F dX0_spans_3 (by decide) (fun c1 => ?_) (fun c1 => ?_)
  · rw [lc_le] at c1
    have g1 := c1
    refine g_iconst (v := 0) F (by decide) dX0_spans_41 ?_
    refine g_zret F T rfl ⟨_, rfl, ?_⟩ (Nat.le_of_ble_eq_true rfl) (Nat.le_of_ble_eq_true rfl) dX0_spans_42
    exact ⟨.inr ⟨rfl, fun h => absurd h.1 (L_nlt.mpr g1)⟩, rfl⟩
  · rw [lc_le] at c1
    have g1 := c1
    refine g_lload_n (k := 1) F 1 rfl dX0_spans_6 ?_
    refine g_aload_n (k := 0) F 0 rfl dX0_spans_7 ?_
    refine gfX0_31e F (qi84 hq) ha.2.2.1 dX0_spans_8 ?_
    refine g_aload_n (k := 0) F 0 rfl dX0_spans_11 ?_
    refine gfX0_34e F (qi84 hq) ha.2.2.2.1 dX0_spans_12 ?_
    refine g_ladd F dX0_spans_15 ?_
    refine g_lcmp F dX0_spans_16 ?_
    refine g_if_gt (t := 41) F dX0_spans_17 (by decide) (fun c2 => ?_) (fun c2 => ?_)
    · rw [lc_gt] at c2
      have g2 := c2
      refine g_iconst (v := 0) F (by decide) dX0_spans_41 ?_
      refine g_zret F T rfl ⟨_, rfl, ?_⟩ (Nat.le_of_ble_eq_true rfl) (Nat.le_of_ble_eq_true rfl) dX0_spans_42
      exact ⟨.inr ⟨rfl, fun h => absurd h.2.1 (L_nle.mpr g2)⟩, rfl⟩
    · rw [lc_gt] at c2
      have g2 := c2
      refine g_lload_n (k := 1) F 1 rfl dX0_spans_20 ?_
      refine g_aload_n (k := 0) F 0 rfl dX0_spans_21 ?_
      refine gfX0_31e F (qi84 hq) ha.2.2.1 dX0_spans_22 ?_
      refine g_aload_n (k := 0) F 0 rfl dX0_spans_25 ?_
      refine gfX0_34e F (qi84 hq) ha.2.2.2.1 dX0_spans_26 ?_
      refine g_lsub F dX0_spans_29 ?_
      refine g_mabsL F mw229 ⟨(Nat.le_of_ble_eq_true rfl), (Nat.le_of_ble_eq_true rfl)⟩ ⟨(Nat.le_of_ble_eq_true rfl), (Nat.le_of_ble_eq_true rfl)⟩ dX0_spans_30 ?_
      refine g_lcmp F dX0_spans_33 ?_
      refine g_if_lt (t := 41) F dX0_spans_34 (by decide) (fun c3 => ?_) (fun c3 => ?_)
      · rw [lc_lt] at c3
        have g3 := c3
        rw [absL_e] at g3
        refine g_iconst (v := 0) F (by decide) dX0_spans_41 ?_
        refine g_zret F T rfl ⟨_, rfl, ?_⟩ (Nat.le_of_ble_eq_true rfl) (Nat.le_of_ble_eq_true rfl) dX0_spans_42
        exact ⟨.inr ⟨rfl, fun h => absurd h.2.2 (L_nle.mpr g3)⟩, rfl⟩
      · rw [lc_lt] at c3
        have g3 := c3
        rw [absL_e] at g3
        refine g_iconst (v := 1) F (by decide) dX0_spans_37 ?_
        refine g_goto (t := 42) F dX0_spans_38 (by decide) ?_
        refine g_zret F T rfl ⟨_, rfl, ?_⟩ (Nat.le_of_ble_eq_true rfl) (Nat.le_of_ble_eq_true rfl) dX0_spans_42
        exact ⟨.inl ⟨rfl, L_nle.mp g1, L_nlt.mp g2, L_nlt.mp g3⟩, rfl⟩
set_option maxHeartbeats 4000000 in
set_option maxRecDepth 100000 in
theorem kX0_place (g : Glo) (S : PS) (q : Nat → Nat) (hq : Shp S.1 S.2.1 q) (z : ZZ) (ha : Ar S q z) (hB : Bz z) (tx ty : Int64) (ht : wtn tx (-50000) 50000) (hu : wtn ty (-50000) 50000) : Ct g mX0_place 0 0 [.ref (q 84), .long tx, .long ty] S (pI9 (fun r S' => Fr S S' q [84] ∧ Ar S' q z ∧ ((r = 1 ∧ zRe z tx ty ∧ Ap S' q z tx ty) ∨ (r = 0 ∧ ¬ zRe z tx ty ∧ pJ S' (q 84) 7 = 0 ∧ pJ S' (q 84) 8 = 0)))) := by
  refine Ct.of (by decide) (Nat.le_of_ble_eq_true rfl) (fun Γ hg F T => ?_)
  subst hg
  show G Γ S 0 0 0 [(0, .ref (q 84)), (1, .long tx), (3, .long ty)] []
  refine g_aload_n (k := 0) F 0 rfl dX0_place_0 ?_
  refine g_lload_n (k := 1) F 1 rfl dX0_place_1 ?_
  refine pfX0_47 F (qi84 hq) dX0_place_2 ?_
  refine g_aload_n (k := 0) F 0 rfl dX0_place_5 ?_
  refine g_lload_n (k := 3) F 2 rfl dX0_place_6 ?_
  refine pfX0_50 F (qi84 hq) dX0_place_7 ?_
  refine g_aload_n (k := 0) F 0 rfl dX0_place_10 ?_
  refine g_lconst (v := 0) F (by decide) dX0_place_11 ?_
  refine pfX0_53 F (qi84 hq) dX0_place_12 ?_
  refine g_aload_n (k := 0) F 0 rfl dX0_place_15 ?_
  refine g_lconst (v := 0) F (by decide) dX0_place_16 ?_
  refine pfX0_56 F (qi84 hq) dX0_place_17 ?_
  refine g_aload_n (k := 0) F 0 rfl dX0_place_20 ?_
  refine g_lload_n (k := 1) F 1 rfl dX0_place_21 ?_
  refine g_lload_n (k := 3) F 2 rfl dX0_place_22 ?_
  refine g_callV F (kX0_squareTo Γ.1 (wJ (wJ (wJ (wJ S (q 84) 5 tx) (q 84) 6 ty) (q 84) 7 0) (q 84) 8 0) q hq z ⟨((up2_k (by decide)).trans ((up2_k (by decide)).trans ((up2_k (by decide)).trans ((up2_k (by decide)).trans ha.1)))), ((up2_k (by decide)).trans ((up2_k (by decide)).trans ((up2_k (by decide)).trans ((up2_k (by decide)).trans ha.2.1)))), ((up2_k (by decide)).trans ((up2_k (by decide)).trans ((up2_k (by decide)).trans ((up2_k (by decide)).trans ha.2.2.1)))), ((up2_k (by decide)).trans ((up2_k (by decide)).trans ((up2_k (by decide)).trans ((up2_k (by decide)).trans ha.2.2.2.1)))), ha.2.2.2.2⟩ _ _) okX0_squareTo (qi84 hq) mw244 ⟨(Nat.le_of_ble_eq_true rfl), (Nat.le_of_ble_eq_true rfl)⟩ rfl rfl (Nat.le_of_ble_eq_true rfl) ⟨(Nat.le_of_ble_eq_true rfl), (Nat.le_of_ble_eq_true rfl)⟩ dX0_place_23 (toJ (fun r1 S2 h3 => ?_))
  obtain ⟨er1, rfl⟩ := h3
  refine g_lstore (L' := [(5, .long r1), (0, .ref (q 84)), (1, .long tx), (3, .long ty)]) F dX0_place_26 (Nat.le_of_ble_eq_true rfl) rfl ?_
  have hsq : r1 = zD z tx ty := er1
  refine g_lload F 0 rfl dX0_place_28 ?_
  refine g_callSN (host := "PolarPlanimeter") F (kX9_root Γ.1 _ r1 (by rw [hsq]; exact rt_D hB ht hu)) okX9_root nwM28 ⟨(Nat.le_of_ble_eq_true rfl), (Nat.le_of_ble_eq_true rfl)⟩ rfl rfl (Nat.le_of_ble_eq_true rfl) ⟨(Nat.le_of_ble_eq_true rfl), (Nat.le_of_ble_eq_true rfl)⟩ dX0_place_30 (toJ (fun r4 S5 h6 => ?_))
  obtain ⟨er4, rfl⟩ := h6
  refine g_lstore (L' := [(7, .long r4), (5, .long r1), (0, .ref (q 84)), (1, .long tx), (3, .long ty)]) F dX0_place_33 (Nat.le_of_ble_eq_true rfl) rfl ?_
  have hdi : r4 = rt (zD z tx ty) := by rw [er4, hsq]
  refine g_aload_n (k := 0) F 2 rfl dX0_place_35 ?_
  refine g_lload F 0 rfl dX0_place_36 ?_
  refine g_callV F (kX0_spans Γ.1 (wJ (wJ (wJ (wJ S (q 84) 5 tx) (q 84) 6 ty) (q 84) 7 0) (q 84) 8 0) q hq z ⟨((up2_k (by decide)).trans ((up2_k (by decide)).trans ((up2_k (by decide)).trans ((up2_k (by decide)).trans ha.1)))), ((up2_k (by decide)).trans ((up2_k (by decide)).trans ((up2_k (by decide)).trans ((up2_k (by decide)).trans ha.2.1)))), ((up2_k (by decide)).trans ((up2_k (by decide)).trans ((up2_k (by decide)).trans ((up2_k (by decide)).trans ha.2.2.1)))), ((up2_k (by decide)).trans ((up2_k (by decide)).trans ((up2_k (by decide)).trans ((up2_k (by decide)).trans ha.2.2.2.1)))), ha.2.2.2.2⟩ r4) okX0_spans (qi84 hq) mw245 ⟨(Nat.le_of_ble_eq_true rfl), (Nat.le_of_ble_eq_true rfl)⟩ rfl rfl (Nat.le_of_ble_eq_true rfl) ⟨(Nat.le_of_ble_eq_true rfl), (Nat.le_of_ble_eq_true rfl)⟩ dX0_place_38 (toI (fun r7 S8 h9 => ?_))
  obtain ⟨er7, rfl⟩ := h9
  refine g_if_ne (t := 46) F dX0_place_41 (by decide) (fun c10 => ?_) (fun c10 => ?_)
  · have hre : zRe z tx ty := by
      have h9 := w1 er7 c10
      rw [hdi] at h9
      exact h9
    refine g_lload F 1 rfl dX0_place_46 ?_
    refine g_aload_n (k := 0) F 2 rfl dX0_place_48 ?_
    refine gfX0_31e F (qi84 hq) ((up2_k (by decide)).trans ((up2_k (by decide)).trans ((up2_k (by decide)).trans ((up2_k (by decide)).trans ha.2.2.1)))) dX0_place_49 ?_
    refine g_aload_n (k := 0) F 2 rfl dX0_place_52 ?_
    refine gfX0_31e F (qi84 hq) ((up2_k (by decide)).trans ((up2_k (by decide)).trans ((up2_k (by decide)).trans ((up2_k (by decide)).trans ha.2.2.1)))) dX0_place_53 ?_
    refine g_lmul F dX0_place_56 ?_
    refine g_ladd F dX0_place_57 ?_
    refine g_aload_n (k := 0) F 2 rfl dX0_place_58 ?_
    refine gfX0_34e F (qi84 hq) ((up2_k (by decide)).trans ((up2_k (by decide)).trans ((up2_k (by decide)).trans ((up2_k (by decide)).trans ha.2.2.2.1)))) dX0_place_59 ?_
    refine g_aload_n (k := 0) F 2 rfl dX0_place_62 ?_
    refine gfX0_34e F (qi84 hq) ((up2_k (by decide)).trans ((up2_k (by decide)).trans ((up2_k (by decide)).trans ((up2_k (by decide)).trans ha.2.2.2.1)))) dX0_place_63 ?_
    refine g_lmul F dX0_place_66 ?_
    refine g_lsub F dX0_place_67 ?_
    refine g_ldc2 F mw242 dX0_place_68 ?_
    refine g_lload F 0 rfl dX0_place_71 ?_
    refine g_lmul F dX0_place_73 ?_
    refine g_callSN (host := "PolarPlanimeter") F (kX9_quotient Γ.1 _ _ _) okX9_quotient nwM29 ⟨(Nat.le_of_ble_eq_true rfl), (Nat.le_of_ble_eq_true rfl)⟩ rfl rfl (Nat.le_of_ble_eq_true rfl) ⟨(Nat.le_of_ble_eq_true rfl), (Nat.le_of_ble_eq_true rfl)⟩ dX0_place_74 (toJ (fun r11 S12 h13 => ?_))
    obtain ⟨er11, rfl⟩ := h13
    refine g_lstore (L' := [(9, .long r11), (7, .long r4), (5, .long r1), (0, .ref (q 84)), (1, .long tx), (3, .long ty)]) F dX0_place_77 (Nat.le_of_ble_eq_true rfl) rfl ?_
    have hab := zA_b hB ht hu hre
    have hal : r11 = zA z tx ty := by
      rw [er11, hdi, hsq, if_neg hab.2.2.1]
      rfl
    refine g_lconst (v := 0) F (by decide) dX0_place_79 ?_
    refine g_aload_n (k := 0) F 3 rfl dX0_place_80 ?_
    refine gfX0_31e F (qi84 hq) ((up2_k (by decide)).trans ((up2_k (by decide)).trans ((up2_k (by decide)).trans ((up2_k (by decide)).trans ha.2.2.1)))) dX0_place_81 ?_
    refine g_aload_n (k := 0) F 3 rfl dX0_place_84 ?_
    refine gfX0_31e F (qi84 hq) ((up2_k (by decide)).trans ((up2_k (by decide)).trans ((up2_k (by decide)).trans ((up2_k (by decide)).trans ha.2.2.1)))) dX0_place_85 ?_
    refine g_lmul F dX0_place_88 ?_
    refine g_lload F 0 rfl dX0_place_89 ?_
    refine g_lload F 0 rfl dX0_place_91 ?_
    refine g_lmul F dX0_place_93 ?_
    refine g_lsub F dX0_place_94 ?_
    refine g_mmaxL F mw243 ⟨(Nat.le_of_ble_eq_true rfl), (Nat.le_of_ble_eq_true rfl)⟩ ⟨(Nat.le_of_ble_eq_true rfl), (Nat.le_of_ble_eq_true rfl)⟩ dX0_place_95 ?_
    refine g_callSN (host := "PolarPlanimeter") F (kX9_root Γ.1 _ (if (((16 * z 2) * (16 * z 2)) - (r11 * r11)) < 0 then 0 else (((16 * z 2) * (16 * z 2)) - (r11 * r11))) (by rw [hal]; exact mx_b (zA_b hB ht hu hre).2.2.2.2.2)) okX9_root nwM28 ⟨(Nat.le_of_ble_eq_true rfl), (Nat.le_of_ble_eq_true rfl)⟩ rfl rfl (Nat.le_of_ble_eq_true rfl) ⟨(Nat.le_of_ble_eq_true rfl), (Nat.le_of_ble_eq_true rfl)⟩ dX0_place_98 (toJ (fun r14 S15 h16 => ?_))
    obtain ⟨er14, rfl⟩ := h16
    refine g_lstore (L' := [(11, .long r14), (9, .long r11), (7, .long r4), (5, .long r1), (0, .ref (q 84)), (1, .long tx), (3, .long ty)]) F dX0_place_101 (Nat.le_of_ble_eq_true rfl) rfl ?_
    have hac : r14 = (if zHb z tx ty < 0 then 0 else rt (zHb z tx ty)) := by
      rw [er14, hal]
      exact maxR
    refine g_aload_n (k := 0) F 4 rfl dX0_place_103 ?_
    refine gfX0_37e F (qi84 hq) ha.2.2.2.2 dX0_place_104 ?_
    have jn18 : ∀ (y11 : Int64), y11 = zH z tx ty → G Γ (wJ (wJ (wJ (wJ S (q 84) 5 tx) (q 84) 6 ty) (q 84) 7 0) (q 84) 8 0) 0 0 115 [(11, .long y11), (9, .long r11), (7, .long r4), (5, .long r1), (0, .ref (q 84)), (1, .long tx), (3, .long ty)] [] := by
      intro y11 hH
      refine g_lload_n (k := 1) F 5 rfl dX0_place_115 ?_
      refine g_aload_n (k := 0) F 4 rfl dX0_place_116 ?_
      refine gfX0_17e F (qi84 hq) ((up2_k (by decide)).trans ((up2_k (by decide)).trans ((up2_k (by decide)).trans ((up2_k (by decide)).trans ha.1)))) dX0_place_117 ?_
      refine g_lsub F dX0_place_120 ?_
      refine g_topl (fun x19 ex19 => ?_)
      refine g_lstore (L' := [(13, .long x19), (11, .long y11), (9, .long r11), (7, .long r4), (5, .long r1), (0, .ref (q 84)), (1, .long tx), (3, .long ty)]) F dX0_place_121 (Nat.le_of_ble_eq_true rfl) rfl ?_
      refine g_lload_n (k := 3) F 7 rfl dX0_place_123 ?_
      refine g_aload_n (k := 0) F 5 rfl dX0_place_124 ?_
      refine gfX0_25e F (qi84 hq) ((up2_k (by decide)).trans ((up2_k (by decide)).trans ((up2_k (by decide)).trans ((up2_k (by decide)).trans ha.2.1)))) dX0_place_125 ?_
      refine g_lsub F dX0_place_128 ?_
      refine g_topl (fun x20 ex20 => ?_)
      refine g_lstore (L' := [(15, .long x20), (13, .long x19), (11, .long y11), (9, .long r11), (7, .long r4), (5, .long r1), (0, .ref (q 84)), (1, .long tx), (3, .long ty)]) F dX0_place_129 (Nat.le_of_ble_eq_true rfl) rfl ?_
      refine g_aload_n (k := 0) F 6 rfl dX0_place_131 ?_
      refine g_aload_n (k := 0) F 6 rfl dX0_place_132 ?_
      refine gfX0_17e F (qi84 hq) ((up2_k (by decide)).trans ((up2_k (by decide)).trans ((up2_k (by decide)).trans ((up2_k (by decide)).trans ha.1)))) dX0_place_133 ?_
      refine g_lload F 1 rfl dX0_place_136 ?_
      refine g_lload F 3 rfl dX0_place_138 ?_
      refine g_lmul F dX0_place_140 ?_
      refine g_lload F 0 rfl dX0_place_141 ?_
      refine g_lload F 2 rfl dX0_place_143 ?_
      refine g_lmul F dX0_place_145 ?_
      refine g_lsub F dX0_place_146 ?_
      refine g_lload F 4 rfl dX0_place_147 ?_
      refine g_callSN (host := "PolarPlanimeter") F (kX9_quotient Γ.1 _ _ _) okX9_quotient nwM29 ⟨(Nat.le_of_ble_eq_true rfl), (Nat.le_of_ble_eq_true rfl)⟩ rfl rfl (Nat.le_of_ble_eq_true rfl) ⟨(Nat.le_of_ble_eq_true rfl), (Nat.le_of_ble_eq_true rfl)⟩ dX0_place_149 (toJ (fun r21 S22 h23 => ?_))
      obtain ⟨er21, rfl⟩ := h23
      refine g_ladd F dX0_place_152 ?_
      refine g_topl (fun x24 ex24 => ?_)
      refine pfX0_53 F (qi84 hq) dX0_place_153 ?_
      refine g_aload_n (k := 0) F 6 rfl dX0_place_156 ?_
      refine g_aload_n (k := 0) F 6 rfl dX0_place_157 ?_
      refine gfX0_25e F (qi84 hq) ((up2_k (by decide)).trans ((up2_k (by decide)).trans ((up2_k (by decide)).trans ((up2_k (by decide)).trans ((up2_k (by decide)).trans ha.2.1))))) dX0_place_158 ?_
      refine g_lload F 0 rfl dX0_place_161 ?_
      refine g_lload F 3 rfl dX0_place_163 ?_
      refine g_lmul F dX0_place_165 ?_
      refine g_lload F 1 rfl dX0_place_166 ?_
      refine g_lload F 2 rfl dX0_place_168 ?_
      refine g_lmul F dX0_place_170 ?_
      refine g_ladd F dX0_place_171 ?_
      refine g_lload F 4 rfl dX0_place_172 ?_
      refine g_callSN (host := "PolarPlanimeter") F (kX9_quotient Γ.1 _ _ _) okX9_quotient nwM29 ⟨(Nat.le_of_ble_eq_true rfl), (Nat.le_of_ble_eq_true rfl)⟩ rfl rfl (Nat.le_of_ble_eq_true rfl) ⟨(Nat.le_of_ble_eq_true rfl), (Nat.le_of_ble_eq_true rfl)⟩ dX0_place_174 (toJ (fun r25 S26 h27 => ?_))
      obtain ⟨er25, rfl⟩ := h27
      refine g_ladd F dX0_place_177 ?_
      refine g_topl (fun x28 ex28 => ?_)
      refine pfX0_56 F (qi84 hq) dX0_place_178 ?_
      refine g_iconst (v := 1) F (by decide) dX0_place_181 ?_
      refine g_zret F T rfl ⟨_, rfl, ?_⟩ (Nat.le_of_ble_eq_true rfl) (Nat.le_of_ble_eq_true rfl) dX0_place_182
      exact ⟨(Fr.wJ hq (Fr.wJ hq (Fr.wJ hq (Fr.wJ hq (Fr.wJ hq (Fr.wJ hq Fr.rf (by decide) (by decide)) (by decide) (by decide)) (by decide) (by decide)) (by decide) (by decide)) (by decide) (by decide)) (by decide) (by decide)), ⟨((up2_k (by decide)).trans ((up2_k (by decide)).trans ((up2_k (by decide)).trans ((up2_k (by decide)).trans ((up2_k (by decide)).trans ((up2_k (by decide)).trans ha.1)))))), ((up2_k (by decide)).trans ((up2_k (by decide)).trans ((up2_k (by decide)).trans ((up2_k (by decide)).trans ((up2_k (by decide)).trans ((up2_k (by decide)).trans ha.2.1)))))), ((up2_k (by decide)).trans ((up2_k (by decide)).trans ((up2_k (by decide)).trans ((up2_k (by decide)).trans ((up2_k (by decide)).trans ((up2_k (by decide)).trans ha.2.2.1)))))), ((up2_k (by decide)).trans ((up2_k (by decide)).trans ((up2_k (by decide)).trans ((up2_k (by decide)).trans ((up2_k (by decide)).trans ((up2_k (by decide)).trans ha.2.2.2.1)))))), ha.2.2.2.2⟩, .inl ⟨rfl, hre, ((up2_k (by decide)).trans ((up2_k (by decide)).trans ((up2_k (by decide)).trans ((up2_k (by decide)).trans ((up2_k (by decide)).trans up2_s))))), ((up2_k (by decide)).trans ((up2_k (by decide)).trans ((up2_k (by decide)).trans ((up2_k (by decide)).trans up2_s)))), (((up2_k (by decide)).trans up2_s).trans (by rw [ex24]; rw [er21, hdi, if_neg hab.2.2.2.1, ex19, ex20, hal, hH]; rfl)), (up2_s.trans (by rw [ex28]; rw [er25, hdi, if_neg hab.2.2.2.1, ex19, ex20, hal, hH]; rfl))⟩⟩
    refine g_if_eq (t := 115) F dX0_place_107 (by decide) (fun c17 => ?_) (fun c17 => ?_)
    · have h59 : ¬ z 5 = 1 := fun h => absurd (bI_0 c17) (by rw [decide_eq_true h]; decide)
      exact jn18 (r14) (by unfold zH; rw [if_neg h59]; exact hac)
    · have h59 : z 5 = 1 := of_decide_eq_true (bI_1 c17)
      refine g_lload F 0 rfl dX0_place_110 ?_
      refine g_lneg F dX0_place_112 ?_
      refine g_topl (fun x29 ex29 => ?_)
      refine g_lstore (L' := [(11, .long x29), (9, .long r11), (7, .long r4), (5, .long r1), (0, .ref (q 84)), (1, .long tx), (3, .long ty)]) F dX0_place_113 (Nat.le_of_ble_eq_true rfl) rfl ?_
      exact jn18 (x29) (by unfold zH; rw [if_pos h59, ex29, hac])
  · have hre : ¬ zRe z tx ty := by
      have h9 := w0 er7 c10
      rw [hdi] at h9
      exact h9
    refine g_iconst (v := 0) F (by decide) dX0_place_44 ?_
    refine g_zret F T rfl ⟨_, rfl, ?_⟩ (Nat.le_of_ble_eq_true rfl) (Nat.le_of_ble_eq_true rfl) dX0_place_45
    exact ⟨(Fr.wJ hq (Fr.wJ hq (Fr.wJ hq (Fr.wJ hq Fr.rf (by decide) (by decide)) (by decide) (by decide)) (by decide) (by decide)) (by decide) (by decide)), ⟨((up2_k (by decide)).trans ((up2_k (by decide)).trans ((up2_k (by decide)).trans ((up2_k (by decide)).trans ha.1)))), ((up2_k (by decide)).trans ((up2_k (by decide)).trans ((up2_k (by decide)).trans ((up2_k (by decide)).trans ha.2.1)))), ((up2_k (by decide)).trans ((up2_k (by decide)).trans ((up2_k (by decide)).trans ((up2_k (by decide)).trans ha.2.2.1)))), ((up2_k (by decide)).trans ((up2_k (by decide)).trans ((up2_k (by decide)).trans ((up2_k (by decide)).trans ha.2.2.2.1)))), ha.2.2.2.2⟩, .inr ⟨rfl, hre, ((up2_k (by decide)).trans up2_s), up2_s⟩⟩
set_option maxHeartbeats 4000000 in
set_option maxRecDepth 100000 in
theorem kX0_sweepTo (g : Glo) (S : PS) (q : Nat → Nat) (hq : Shp S.1 S.2.1 q) (z : ZZ) (ha : Ar S q z) (hB : Bz z) (tx ty : Int64) (hp : Ap S q z tx ty) (ux uy : Int64) (ht : wtn ux (-50000) 50000) (hu : wtn uy (-50000) 50000) (hr : zRe z ux uy) : Ct g mX0_sweepTo 0 0 [.ref (q 84), .long ux, .long uy] S (pJ9 (fun r S' => r = zSw z tx ty ux uy ∧ Fr S S' q [84] ∧ Ar S' q z ∧ Ap S' q z ux uy)) := by
  refine Ct.of (by decide) (Nat.le_of_ble_eq_true rfl) (fun Γ hg F T => ?_)
  subst hg
  show G Γ S 0 0 0 [(0, .ref (q 84)), (1, .long ux), (3, .long uy)] []
  refine g_aload_n (k := 0) F 0 rfl dX0_sweepTo_0 ?_
  refine gfX0_47e F (qi84 hq) hp.1 dX0_sweepTo_1 ?_
  refine g_lstore (L' := [(5, .long tx), (0, .ref (q 84)), (1, .long ux), (3, .long uy)]) F dX0_sweepTo_4 (Nat.le_of_ble_eq_true rfl) rfl ?_
  refine g_aload_n (k := 0) F 1 rfl dX0_sweepTo_6 ?_
  refine gfX0_50e F (qi84 hq) hp.2.1 dX0_sweepTo_7 ?_
  refine g_lstore (L' := [(7, .long ty), (5, .long tx), (0, .ref (q 84)), (1, .long ux), (3, .long uy)]) F dX0_sweepTo_10 (Nat.le_of_ble_eq_true rfl) rfl ?_
  refine g_aload_n (k := 0) F 2 rfl dX0_sweepTo_12 ?_
  refine gfX0_53e F (qi84 hq) hp.2.2.1 dX0_sweepTo_13 ?_
  refine g_topl (fun x1 ex1 => ?_)
  refine g_lstore (L' := [(9, .long x1), (7, .long ty), (5, .long tx), (0, .ref (q 84)), (1, .long ux), (3, .long uy)]) F dX0_sweepTo_16 (Nat.le_of_ble_eq_true rfl) rfl ?_
  refine g_aload_n (k := 0) F 3 rfl dX0_sweepTo_18 ?_
  refine gfX0_56e F (qi84 hq) hp.2.2.2 dX0_sweepTo_19 ?_
  refine g_topl (fun x2 ex2 => ?_)
  refine g_lstore (L' := [(11, .long x2), (9, .long x1), (7, .long ty), (5, .long tx), (0, .ref (q 84)), (1, .long ux), (3, .long uy)]) F dX0_sweepTo_22 (Nat.le_of_ble_eq_true rfl) rfl ?_
  refine g_aload_n (k := 0) F 4 rfl dX0_sweepTo_24 ?_
  refine g_lload_n (k := 1) F 5 rfl dX0_sweepTo_25 ?_
  refine g_lload_n (k := 3) F 6 rfl dX0_sweepTo_26 ?_
  refine g_callV F (kX0_place Γ.1 S q hq z ⟨ha.1, ha.2.1, ha.2.2.1, ha.2.2.2.1, ha.2.2.2.2⟩ hB ux uy ht hu) okX0_place (qi84 hq) mw249 ⟨(Nat.le_of_ble_eq_true rfl), (Nat.le_of_ble_eq_true rfl)⟩ rfl rfl (Nat.le_of_ble_eq_true rfl) ⟨(Nat.le_of_ble_eq_true rfl), (Nat.le_of_ble_eq_true rfl)⟩ dX0_sweepTo_27 (toI (fun r3 S4 h5 => ?_))
  obtain ⟨fr3, ar3, pr3⟩ := h5
  obtain ⟨qr3, -⟩ : Ap S4 q z ux uy ∧ True := ⟨w1p pr3 hr, trivial⟩
  have hq6 : Shp S4.1 S4.2.1 q := Fr.q fr3 hq
  refine g_pop F dX0_sweepTo_30 rfl ?_
  refine g_lload F 1 rfl dX0_sweepTo_31 ?_
  refine g_lload F 0 rfl dX0_sweepTo_33 ?_
  refine g_lload F 3 rfl dX0_sweepTo_35 ?_
  refine g_lload F 2 rfl dX0_sweepTo_37 ?_
  refine g_lload_n (k := 1) F 5 rfl dX0_sweepTo_39 ?_
  refine g_lload_n (k := 3) F 6 rfl dX0_sweepTo_40 ?_
  refine g_callSN (host := "PolarPlanimeter") F (kX9_cross Γ.1 _ _ _ _ _ _ _) okX9_cross nwM30 ⟨(Nat.le_of_ble_eq_true rfl), (Nat.le_of_ble_eq_true rfl)⟩ rfl rfl (Nat.le_of_ble_eq_true rfl) ⟨(Nat.le_of_ble_eq_true rfl), (Nat.le_of_ble_eq_true rfl)⟩ dX0_sweepTo_41 (toJ (fun r7 S8 h9 => ?_))
  obtain ⟨er7, rfl⟩ := h9
  refine g_lload F 1 rfl dX0_sweepTo_44 ?_
  refine g_lload F 0 rfl dX0_sweepTo_46 ?_
  refine g_lload_n (k := 1) F 5 rfl dX0_sweepTo_48 ?_
  refine g_lload_n (k := 3) F 6 rfl dX0_sweepTo_49 ?_
  refine g_aload_n (k := 0) F 4 rfl dX0_sweepTo_50 ?_
  refine gfX0_53e F (qi84 hq6) qr3.2.2.1 dX0_sweepTo_51 ?_
  refine g_aload_n (k := 0) F 4 rfl dX0_sweepTo_54 ?_
  refine gfX0_56e F (qi84 hq6) qr3.2.2.2 dX0_sweepTo_55 ?_
  refine g_callSN (host := "PolarPlanimeter") F (kX9_cross Γ.1 _ _ _ _ _ _ _) okX9_cross nwM30 ⟨(Nat.le_of_ble_eq_true rfl), (Nat.le_of_ble_eq_true rfl)⟩ rfl rfl (Nat.le_of_ble_eq_true rfl) ⟨(Nat.le_of_ble_eq_true rfl), (Nat.le_of_ble_eq_true rfl)⟩ dX0_sweepTo_58 (toJ (fun r10 S11 h12 => ?_))
  obtain ⟨er10, rfl⟩ := h12
  refine g_ladd F dX0_sweepTo_61 ?_
  refine g_lret F T ⟨_, rfl, ?_⟩ (Nat.le_of_ble_eq_true rfl) (Nat.le_of_ble_eq_true rfl) dX0_sweepTo_62
  exact ⟨by rw [er7, er10, ex1, ex2]; rfl, (Fr.tr (l := [84]) Fr.rf fr3 (by decide) (by decide)), ar3, qr3⟩
set_option maxHeartbeats 4000000 in
set_option maxRecDepth 100000 in
theorem kX8_start (g : Glo) (S : PS) (q : Nat → Nat) (hq : Shp S.1 S.2.1 q) (v : Int32) : Ct g mX8_start 0 0 [.ref (q 85), .int v] S (pV9 (fun S' => Fr S S' q [85] ∧ Wh S' q (512 * v.toInt64) 0 0)) := by
  refine Ct.of (by decide) (Nat.le_of_ble_eq_true rfl) (fun Γ hg F T => ?_)
  subst hg
  show G Γ S 0 0 0 [(0, .ref (q 85)), (1, .int v)] []
  refine g_aload_n (k := 0) F 0 rfl dX8_start_0 ?_
  refine g_ldc2 F mw439 dX8_start_1 ?_
  refine g_iload_n (k := 1) F 1 rfl dX8_start_4 ?_
  refine g_i2l F dX8_start_5 ?_
  refine g_lmul F dX8_start_6 ?_
  refine g_topl (fun x1 ex1 => ?_)
  refine pfX8_11 F (qi85 hq) dX8_start_7 ?_
  refine g_aload_n (k := 0) F 0 rfl dX8_start_10 ?_
  refine g_lconst (v := 0) F (by decide) dX8_start_11 ?_
  refine pfX8_17 F (qi85 hq) dX8_start_12 ?_
  refine g_aload_n (k := 0) F 0 rfl dX8_start_15 ?_
  refine g_lconst (v := 0) F (by decide) dX8_start_16 ?_
  refine pfX8_20 F (qi85 hq) dX8_start_17 ?_
  refine g_vret F T ⟨rfl, ?_⟩ (Nat.le_of_ble_eq_true rfl) (Nat.le_of_ble_eq_true rfl) dX8_start_20
  exact ⟨(Fr.wJ hq (Fr.wJ hq (Fr.wJ hq Fr.rf (by decide) (by decide)) (by decide) (by decide)) (by decide) (by decide)), ((up2_k (by decide)).trans ((up2_k (by decide)).trans up2_s)).trans ex1, ((up2_k (by decide)).trans up2_s), up2_s⟩
set_option maxHeartbeats 4000000 in
set_option maxRecDepth 100000 in
theorem kX8_turn (g : Glo) (S : PS) (q : Nat → Nat) (hq : Shp S.1 S.2.1 q) (g0 p0 w0 : Int64) (hw : Wh S q g0 p0 w0) (qq : Int64) (v : Int32) (sl : Int64) (hv : v.toInt64 = sl) (hsb : wtn sl 0 100) : Ct g mX8_turn 0 0 [.ref (q 85), .long qq, .int v] S (pV9 (fun S' => Fr S S' q [85] ∧ Wh S' q g0 (roP g0 (p0 + qq * (100 - sl) / 100)) (roW g0 (p0 + qq * (100 - sl) / 100) w0))) := by
  refine Ct.of (by decide) (Nat.le_of_ble_eq_true rfl) (fun Γ hg F T => ?_)
  subst hg
  show G Γ S 0 0 0 [(0, .ref (q 85)), (1, .long qq), (3, .int v)] []
  refine g_aload_n (k := 0) F 0 rfl dX8_turn_0 ?_
  refine g_dup F dX8_turn_1 rfl ?_
  refine gfX8_17e F (qi85 hq) hw.2.1 dX8_turn_2 ?_
  refine g_lload_n (k := 1) F 1 rfl dX8_turn_5 ?_
  refine g_bipush (v := 100) F (by decide) dX8_turn_6 ?_
  refine g_iload_n (k := 3) F 2 rfl dX8_turn_8 ?_
  refine g_isub F dX8_turn_9 ?_
  refine g_i2l F dX8_turn_10 ?_
  refine g_lmul F dX8_turn_11 ?_
  refine g_ldc2 F mw453 dX8_turn_12 ?_
  refine g_ldiv F dX8_turn_15 (by decide) ?_
  refine g_ladd F dX8_turn_16 ?_
  refine g_topl (fun x1 ex1 => ?_)
  refine pfX8_17 F (qi85 hq) dX8_turn_17 ?_
  have hE : x1 = (p0 + qq * (100 - sl) / 100) := by rw [ex1, slp_e hv hsb]
  refine g_aload_n (k := 0) F 0 rfl dX8_turn_20 ?_
  refine gfX8_17e F (qi85 hq) up2_s dX8_turn_21 ?_
  refine g_aload_n (k := 0) F 0 rfl dX8_turn_24 ?_
  refine gfX8_11e F (qi85 hq) ((up2_k (by decide)).trans hw.1) dX8_turn_25 ?_
  refine g_lcmp F dX8_turn_28 ?_
  refine g_if_le (t := 61) F dX8_turn_29 (by decide) (fun c2 => ?_) (fun c2 => ?_)
  · rw [lc_le] at c2
    have g1 := c2
    refine g_aload_n (k := 0) F 0 rfl dX8_turn_61 ?_
    refine gfX8_17e F (qi85 hq) up2_s dX8_turn_62 ?_
    refine g_lconst (v := 0) F (by decide) dX8_turn_65 ?_
    refine g_lcmp F dX8_turn_66 ?_
    refine g_if_ge (t := 88) F dX8_turn_67 (by decide) (fun c3 => ?_) (fun c3 => ?_)
    · rw [lc_ge] at c3
      have g2 := c3
      refine g_vret F T ⟨rfl, ?_⟩ (Nat.le_of_ble_eq_true rfl) (Nat.le_of_ble_eq_true rfl) dX8_turn_88
      exact ⟨(Fr.wJ hq Fr.rf (by decide) (by decide)), ((up2_k (by decide)).trans hw.1), up2_s.trans (by rw [← hE]; unfold roP; rw [if_neg (L_nlt.mpr g1), if_neg (L_nlt.mpr g2)]), ((up2_k (by decide)).trans hw.2.2).trans (by rw [← hE]; unfold roW; rw [if_neg (L_nlt.mpr g1), if_neg (L_nlt.mpr g2)])⟩
    · rw [lc_ge] at c3
      have g2 := c3
      refine g_aload_n (k := 0) F 0 rfl dX8_turn_70 ?_
      refine g_dup F dX8_turn_71 rfl ?_
      refine gfX8_20e F (qi85 hq) ((up2_k (by decide)).trans hw.2.2) dX8_turn_72 ?_
      refine g_aload_n (k := 0) F 0 rfl dX8_turn_75 ?_
      refine gfX8_17e F (qi85 hq) up2_s dX8_turn_76 ?_
      refine g_ladd F dX8_turn_79 ?_
      refine g_topl (fun x4 ex4 => ?_)
      refine pfX8_20 F (qi85 hq) dX8_turn_80 ?_
      refine g_aload_n (k := 0) F 0 rfl dX8_turn_83 ?_
      refine g_lconst (v := 0) F (by decide) dX8_turn_84 ?_
      refine pfX8_17 F (qi85 hq) dX8_turn_85 ?_
      refine g_vret F T ⟨rfl, ?_⟩ (Nat.le_of_ble_eq_true rfl) (Nat.le_of_ble_eq_true rfl) dX8_turn_88
      exact ⟨(Fr.wJ hq (Fr.wJ hq (Fr.wJ hq Fr.rf (by decide) (by decide)) (by decide) (by decide)) (by decide) (by decide)), ((up2_k (by decide)).trans ((up2_k (by decide)).trans ((up2_k (by decide)).trans hw.1))), up2_s.trans (by rw [← hE]; unfold roP; rw [if_neg (L_nlt.mpr g1), if_pos (L_nle.mp g2)]), ((up2_k (by decide)).trans up2_s).trans (by rw [ex4]; rw [← hE]; unfold roW; rw [if_neg (L_nlt.mpr g1), if_pos (L_nle.mp g2)])⟩
  · rw [lc_le] at c2
    have g1 := c2
    refine g_aload_n (k := 0) F 0 rfl dX8_turn_32 ?_
    refine g_dup F dX8_turn_33 rfl ?_
    refine gfX8_20e F (qi85 hq) ((up2_k (by decide)).trans hw.2.2) dX8_turn_34 ?_
    refine g_aload_n (k := 0) F 0 rfl dX8_turn_37 ?_
    refine gfX8_17e F (qi85 hq) up2_s dX8_turn_38 ?_
    refine g_aload_n (k := 0) F 0 rfl dX8_turn_41 ?_
    refine gfX8_11e F (qi85 hq) ((up2_k (by decide)).trans hw.1) dX8_turn_42 ?_
    refine g_lsub F dX8_turn_45 ?_
    refine g_ladd F dX8_turn_46 ?_
    refine g_topl (fun x5 ex5 => ?_)
    refine pfX8_20 F (qi85 hq) dX8_turn_47 ?_
    refine g_aload_n (k := 0) F 0 rfl dX8_turn_50 ?_
    refine g_aload_n (k := 0) F 0 rfl dX8_turn_51 ?_
    refine gfX8_11e F (qi85 hq) ((up2_k (by decide)).trans ((up2_k (by decide)).trans hw.1)) dX8_turn_52 ?_
    refine pfX8_17 F (qi85 hq) dX8_turn_55 ?_
    refine g_goto (t := 88) F dX8_turn_58 (by decide) ?_
    refine g_vret F T ⟨rfl, ?_⟩ (Nat.le_of_ble_eq_true rfl) (Nat.le_of_ble_eq_true rfl) dX8_turn_88
    exact ⟨(Fr.wJ hq (Fr.wJ hq (Fr.wJ hq Fr.rf (by decide) (by decide)) (by decide) (by decide)) (by decide) (by decide)), ((up2_k (by decide)).trans ((up2_k (by decide)).trans ((up2_k (by decide)).trans hw.1))), up2_s.trans (by rw [← hE]; unfold roP; rw [if_pos (L_nle.mp g1)]), ((up2_k (by decide)).trans up2_s).trans (by rw [ex5]; rw [← hE]; unfold roW; rw [if_pos (L_nle.mp g1)])⟩
