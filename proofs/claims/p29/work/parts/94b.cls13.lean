set_option maxHeartbeats 4000000 in
set_option maxRecDepth 100000 in
theorem kX9_cornerProperty (g : Glo) (S : PS) (q : Nat → Nat) (hq : Shp S.1 S.2.1 q) (z : ZZ) (hB : Bz z) (hc : Cs S q 0 z) (k : Nat) (hk : k < nc z) (w : Int32) (hw : 0 ≤ w.toInt ∧ w.toInt ≤ 5) : Ct g mX9_cornerProperty 0 0 [.ref (q 80), .int (nI k), .int w] S (pJ9 (fun r S' => r = zCn z k w ∧ Fr S S' q [83, 84])) := by
  refine Ct.of (by decide) (Nat.le_of_ble_eq_true rfl) (fun Γ hg F T => ?_)
  subst hg
  show G Γ S 0 0 0 [(0, .ref (q 80)), (1, .int (nI k)), (2, .int w)] []
  have hnc := (nc_e hB).2
  refine g_aload_n (k := 0) F 0 rfl dX9_cornerProperty_0 ?_
  refine gfX9_10 F (qi80 hq) (qr80_0 hq) dX9_cornerProperty_1 ?_
  refine gfX9_100 F (qs0 hq (s := 0) (by decide)) (qt0_4 hq (s := 0) (by decide)) dX9_cornerProperty_4 ?_
  refine g_astore_n (k := 3) (L' := [(3, .ref (q 2)), (0, .ref (q 80)), (1, .int (nI k)), (2, .int w)]) F dX9_cornerProperty_7 (Nat.le_of_ble_eq_true rfl) rfl ?_
  refine g_iload_n (k := 2) F 3 rfl dX9_cornerProperty_8 ?_
  by_cases w1_0 : w = 0
  · refine g_tin (off := 35) (t := 44) F dX9_cornerProperty_9 (by rw [w1_0]; decide) (by rw [w1_0]; decide) (by rw [w1_0]; decide) (by decide) ?_
    refine g_aload_n (k := 3) F 0 rfl dX9_cornerProperty_44 ?_
    refine gfX9_129 F (qs2 hq (s := 0) (by decide)) (qt2_1 hq (s := 0) (by decide)) dX9_cornerProperty_45 ?_
    refine g_iload_n (k := 1) F 2 rfl dX9_cornerProperty_48 ?_
    refine g_ialde rfl (j := k) F (qs3 hq (s := 0) (by decide)) rfl (by rw [(qm3 hq (s := 0) (by decide))]; omega) (by rw [(qm3 hq (s := 0) (by decide))]; decide) dX9_cornerProperty_49 ?_
    refine g_i2l F dX9_cornerProperty_50 ?_
    refine g_lret F T ⟨_, rfl, ?_⟩ (Nat.le_of_ble_eq_true rfl) (Nat.le_of_ble_eq_true rfl) dX9_cornerProperty_51
    exact ⟨by rw [w1_0, cn_0]; exact (hc.2.2.2.1 k hk).1, Fr.rf⟩
  by_cases w1_1 : w = 1
  · refine g_tin (off := 43) (t := 52) F dX9_cornerProperty_9 (by rw [w1_1]; decide) (by rw [w1_1]; decide) (by rw [w1_1]; decide) (by decide) ?_
    refine g_aload_n (k := 3) F 0 rfl dX9_cornerProperty_52 ?_
    refine gfX9_132 F (qs2 hq (s := 0) (by decide)) (qt2_2 hq (s := 0) (by decide)) dX9_cornerProperty_53 ?_
    refine g_iload_n (k := 1) F 2 rfl dX9_cornerProperty_56 ?_
    refine g_ialde rfl (j := k) F (qs4 hq (s := 0) (by decide)) rfl (by rw [(qm4 hq (s := 0) (by decide))]; omega) (by rw [(qm4 hq (s := 0) (by decide))]; decide) dX9_cornerProperty_57 ?_
    refine g_i2l F dX9_cornerProperty_58 ?_
    refine g_lret F T ⟨_, rfl, ?_⟩ (Nat.le_of_ble_eq_true rfl) (Nat.le_of_ble_eq_true rfl) dX9_cornerProperty_59
    exact ⟨by rw [w1_1, cn_1]; exact (hc.2.2.2.1 k hk).2.1, Fr.rf⟩
  by_cases w1_2 : w = 2
  · refine g_tin (off := 51) (t := 60) F dX9_cornerProperty_9 (by rw [w1_2]; decide) (by rw [w1_2]; decide) (by rw [w1_2]; decide) (by decide) ?_
    refine g_aload_n (k := 3) F 0 rfl dX9_cornerProperty_60 ?_
    refine gfX9_140 F (qs2 hq (s := 0) (by decide)) (qt2_3 hq (s := 0) (by decide)) dX9_cornerProperty_61 ?_
    refine g_iload_n (k := 1) F 2 rfl dX9_cornerProperty_64 ?_
    refine g_ialde rfl (j := k) F (qs5 hq (s := 0) (by decide)) rfl (by rw [(qm5 hq (s := 0) (by decide))]; omega) (by rw [(qm5 hq (s := 0) (by decide))]; decide) dX9_cornerProperty_65 ?_
    refine g_i2l F dX9_cornerProperty_66 ?_
    refine g_lret F T ⟨_, rfl, ?_⟩ (Nat.le_of_ble_eq_true rfl) (Nat.le_of_ble_eq_true rfl) dX9_cornerProperty_67
    exact ⟨by rw [w1_2, cn_2]; exact (hc.2.2.2.1 k hk).2.2, Fr.rf⟩
  by_cases w1_3 : w = 3
  · refine g_tin (off := 59) (t := 68) F dX9_cornerProperty_9 (by rw [w1_3]; decide) (by rw [w1_3]; decide) (by rw [w1_3]; decide) (by decide) ?_
    refine g_aload_n (k := 3) F 0 rfl dX9_cornerProperty_68 ?_
    refine g_iload_n (k := 1) F 2 rfl dX9_cornerProperty_69 ?_
    refine g_aload_n (k := 0) F 1 rfl dX9_cornerProperty_70 ?_
    refine gfX9_10 F (qi80 hq) (qr80_0 hq) dX9_cornerProperty_71 ?_
    refine gfX9_91 F (qs0 hq (s := 0) (by decide)) (qt0_3 hq (s := 0) (by decide)) dX9_cornerProperty_74 ?_
    refine g_iconst (v := 2) F (by decide) dX9_cornerProperty_77 ?_
    refine g_ialde rfl (j := 2) F (qs1 hq (s := 0) (by decide)) rfl (by rw [(qm1 hq (s := 0) (by decide))]; omega) (by rw [(qm1 hq (s := 0) (by decide))]; decide) dX9_cornerProperty_78 ?_
    refine g_callVN (host := "PolarPlanimeter") F (kX4_steps Γ.1 S q hq 0 (by decide) z hB hc k (by omega) ((pI S (q 1)) 2) (hc.st (i := 2) (by decide))) okX4_steps (qs2 hq (s := 0) (by decide)) nwM14 ⟨(Nat.le_of_ble_eq_true rfl), (Nat.le_of_ble_eq_true rfl)⟩ rfl rfl (Nat.le_of_ble_eq_true rfl) ⟨(Nat.le_of_ble_eq_true rfl), (Nat.le_of_ble_eq_true rfl)⟩ dX9_cornerProperty_79 (toI (fun r2 S3 h4 => ?_))
    obtain ⟨rfl, rfl⟩ := h4
    refine g_i2l F dX9_cornerProperty_82 ?_
    refine g_lret F T ⟨_, rfl, ?_⟩ (Nat.le_of_ble_eq_true rfl) (Nat.le_of_ble_eq_true rfl) dX9_cornerProperty_83
    exact ⟨by rw [w1_3, cn_3]; exact nI_L (by have := zN_b hB (show 0 < nc z by omega) k; omega), Fr.rf⟩
  by_cases w1_4 : w = 4
  · refine g_tin (off := 75) (t := 84) F dX9_cornerProperty_9 (by rw [w1_4]; decide) (by rw [w1_4]; decide) (by rw [w1_4]; decide) (by decide) ?_
    refine g_aload_n (k := 0) F 1 rfl dX9_cornerProperty_84 ?_
    refine gfX9_29 F (qi80 hq) (qr80_3 hq) dX9_cornerProperty_85 ?_
    refine g_aload_n (k := 0) F 1 rfl dX9_cornerProperty_88 ?_
    refine gfX9_10 F (qi80 hq) (qr80_0 hq) dX9_cornerProperty_89 ?_
    refine g_iload_n (k := 1) F 2 rfl dX9_cornerProperty_92 ?_
    refine g_callVN (host := "PolarPlanimeter") F (kX1_reachesSegment Γ.1 S q hq 0 (by decide) z hB hc k hk) okX1_reachesSegment (qi83 hq) nwM15 ⟨(Nat.le_of_ble_eq_true rfl), (Nat.le_of_ble_eq_true rfl)⟩ rfl rfl (Nat.le_of_ble_eq_true rfl) ⟨(Nat.le_of_ble_eq_true rfl), (Nat.le_of_ble_eq_true rfl)⟩ dX9_cornerProperty_93 (toI (fun r5 S6 h7 => ?_))
    obtain ⟨er5, fr5⟩ := h7
    have hq8 : Shp S6.1 S6.2.1 q := Fr.q fr5 hq
    refine g_if_eq (t := 114) F dX9_cornerProperty_96 (by decide) (fun c9 => ?_) (fun c9 => ?_)
    · have g1 := w0 er5 c9
      refine g_lconst (v := 0) F (by decide) dX9_cornerProperty_114 ?_
      refine g_lret F T ⟨_, rfl, ?_⟩ (Nat.le_of_ble_eq_true rfl) (Nat.le_of_ble_eq_true rfl) dX9_cornerProperty_115
      exact ⟨by rw [w1_4, cn_4]; exact (ifP_f g1).symm, (Fr.tr (l := [83, 84]) Fr.rf fr5 (by decide) (by decide))⟩
    · have g1 := w1 er5 c9
      refine g_aload_n (k := 0) F 1 rfl dX9_cornerProperty_99 ?_
      refine gfX9_29 F (qi80 hq8) (qr80_3 hq8) dX9_cornerProperty_100 ?_
      refine g_aload_n (k := 0) F 1 rfl dX9_cornerProperty_103 ?_
      refine gfX9_10 F (qi80 hq8) (qr80_0 hq8) dX9_cornerProperty_104 ?_
      refine g_iload_n (k := 1) F 2 rfl dX9_cornerProperty_107 ?_
      refine g_callVN (host := "PolarPlanimeter") F (kX1_roll Γ.1 S6 q hq8 0 (by decide) z hB (Cs.fr (s := 0) (l := [83, 84]) (by first | decide | omega) (Fr.tr (l := [83, 84]) Fr.rf fr5 (by decide) (by decide)) (by first | decide | (intro i hi h; simp at h; omega)) hc) k hk g1) okX1_roll (qi83 hq8) nwM16 ⟨(Nat.le_of_ble_eq_true rfl), (Nat.le_of_ble_eq_true rfl)⟩ rfl rfl (Nat.le_of_ble_eq_true rfl) ⟨(Nat.le_of_ble_eq_true rfl), (Nat.le_of_ble_eq_true rfl)⟩ dX9_cornerProperty_108 (toJ (fun r10 S11 h12 => ?_))
      obtain ⟨er10, fr10⟩ := h12
      have hq13 : Shp S11.1 S11.2.1 q := Fr.q fr10 hq8
      refine g_goto (t := 115) F dX9_cornerProperty_111 (by decide) ?_
      refine g_lret F T ⟨_, rfl, ?_⟩ (Nat.le_of_ble_eq_true rfl) (Nat.le_of_ble_eq_true rfl) dX9_cornerProperty_115
      exact ⟨by rw [w1_4, cn_4]; exact er10.trans (ifP_t g1).symm, (Fr.tr (l := [83, 84]) (Fr.tr (l := [83, 84]) Fr.rf fr5 (by decide) (by decide)) fr10 (by decide) (by decide))⟩
  refine g_tout (t := 116) F dX9_cornerProperty_9 (by have a0 : ¬ (w : Int32).toInt = 0 := fun h9 => w1_0 (Int32.toInt_inj.mp h9); have a1 : ¬ (w : Int32).toInt = 1 := fun h9 => w1_1 (Int32.toInt_inj.mp h9); have a2 : ¬ (w : Int32).toInt = 2 := fun h9 => w1_2 (Int32.toInt_inj.mp h9); have a3 : ¬ (w : Int32).toInt = 3 := fun h9 => w1_3 (Int32.toInt_inj.mp h9); have a4 : ¬ (w : Int32).toInt = 4 := fun h9 => w1_4 (Int32.toInt_inj.mp h9); omega) (by decide) ?_
  refine g_aload_n (k := 0) F 1 rfl dX9_cornerProperty_116 ?_
  refine gfX9_29 F (qi80 hq) (qr80_3 hq) dX9_cornerProperty_117 ?_
  refine g_aload_n (k := 0) F 1 rfl dX9_cornerProperty_120 ?_
  refine gfX9_10 F (qi80 hq) (qr80_0 hq) dX9_cornerProperty_121 ?_
  refine g_iload_n (k := 1) F 2 rfl dX9_cornerProperty_124 ?_
  refine g_callVN (host := "PolarPlanimeter") F (kX1_reachesSegment Γ.1 S q hq 0 (by decide) z hB hc k hk) okX1_reachesSegment (qi83 hq) nwM15 ⟨(Nat.le_of_ble_eq_true rfl), (Nat.le_of_ble_eq_true rfl)⟩ rfl rfl (Nat.le_of_ble_eq_true rfl) ⟨(Nat.le_of_ble_eq_true rfl), (Nat.le_of_ble_eq_true rfl)⟩ dX9_cornerProperty_125 (toI (fun r14 S15 h16 => ?_))
  obtain ⟨er14, fr14⟩ := h16
  have hq17 : Shp S15.1 S15.2.1 q := Fr.q fr14 hq
  refine g_if_eq (t := 135) F dX9_cornerProperty_128 (by decide) (fun c18 => ?_) (fun c18 => ?_)
  · have g1 := w0 er14 c18
    refine g_lconst (v := 0) F (by decide) dX9_cornerProperty_135 ?_
    refine g_lret F T ⟨_, rfl, ?_⟩ (Nat.le_of_ble_eq_true rfl) (Nat.le_of_ble_eq_true rfl) dX9_cornerProperty_136
    have e5 := sw5 hw w1_0 w1_1 w1_2 w1_3 w1_4
    exact ⟨by rw [e5, cn_5]; exact (ifP_f g1).symm, (Fr.tr (l := [83, 84]) Fr.rf fr14 (by decide) (by decide))⟩
  · have g1 := w1 er14 c18
    refine g_lconst (v := 1) F (by decide) dX9_cornerProperty_131 ?_
    refine g_goto (t := 136) F dX9_cornerProperty_132 (by decide) ?_
    refine g_lret F T ⟨_, rfl, ?_⟩ (Nat.le_of_ble_eq_true rfl) (Nat.le_of_ble_eq_true rfl) dX9_cornerProperty_136
    have e5 := sw5 hw w1_0 w1_1 w1_2 w1_3 w1_4
    exact ⟨by rw [e5, cn_5]; exact (ifP_t g1).symm, (Fr.tr (l := [83, 84]) Fr.rf fr14 (by decide) (by decide))⟩
set_option maxHeartbeats 4000000 in
set_option maxRecDepth 100000 in
theorem kX9_meanMinusArea (g : Glo) (S : PS) (q : Nat → Nat) (hq : Shp S.1 S.2.1 q) (z : ZZ) (hB : Bz z) (hc : Cs S q 0 z) : Ct g mX9_meanMinusArea 0 0 [.ref (q 80)] S (pJ9 (fun r S' => r = zDi z ∧ Fr S S' q [86, 87, 88, 89])) := by
  refine Ct.of (by decide) (Nat.le_of_ble_eq_true rfl) (fun Γ hg F T => ?_)
  subst hg
  show G Γ S 0 0 0 [(0, .ref (q 80))] []
  have hnr := (nr_e hB).2
  refine g_aload_n (k := 0) F 0 rfl dX9_meanMinusArea_0 ?_
  refine gfX9_10 F (qi80 hq) (qr80_0 hq) dX9_meanMinusArea_1 ?_
  refine gfX9_73 F (qs0 hq (s := 0) (by decide)) (qt0_5 hq (s := 0) (by decide)) dX9_meanMinusArea_4 ?_
  refine gfX9_160e F (qs6 hq (s := 0) (by decide)) hc.m dX9_meanMinusArea_7 ?_
  refine g_if_ne (t := 15) F dX9_meanMinusArea_10 (by decide) (fun c1 => ?_) (fun c1 => ?_)
  · have h9 : ¬ nr z = 0 := fun h => c1 (by rw [h]; rfl)
    refine g_aload_n (k := 0) F 0 rfl dX9_meanMinusArea_15 ?_
    refine gfX9_36 F (qi80 hq) (qr80_4 hq) dX9_meanMinusArea_16 ?_
    refine g_aload_n (k := 0) F 0 rfl dX9_meanMinusArea_19 ?_
    refine gfX9_10 F (qi80 hq) (qr80_0 hq) dX9_meanMinusArea_20 ?_
    refine g_callVN (host := "PolarPlanimeter") F (kX3_take Γ.1 S q hq 0 (by decide) z hB hc) okX3_take (qi86 hq) nwM19 ⟨(Nat.le_of_ble_eq_true rfl), (Nat.le_of_ble_eq_true rfl)⟩ rfl rfl (Nat.le_of_ble_eq_true rfl) ⟨(Nat.le_of_ble_eq_true rfl), (Nat.le_of_ble_eq_true rfl)⟩ dX9_meanMinusArea_23 (toV (fun S3 h4 => ?_))
    obtain ⟨fr2, or2, kr2, vr2⟩ := h4
    have hq5 : Shp S3.1 S3.2.1 q := Fr.q fr2 hq
    refine g_aload_n (k := 0) F 0 rfl dX9_meanMinusArea_26 ?_
    refine gfX9_36 F (qi80 hq5) (qr80_4 hq5) dX9_meanMinusArea_27 ?_
    refine gfX9_327e F (qi86 hq5) vr2 dX9_meanMinusArea_30 ?_
    refine g_aload_n (k := 0) F 0 rfl dX9_meanMinusArea_33 ?_
    refine gfX9_10 F (qi80 hq5) (qr80_0 hq5) dX9_meanMinusArea_34 ?_
    refine gfX9_100 F (qs0 hq5 (s := 0) (by decide)) (qt0_4 hq5 (s := 0) (by decide)) dX9_meanMinusArea_37 ?_
    refine g_callVN (host := "PolarPlanimeter") F (kX4_area Γ.1 S3 q hq5 0 (by decide) z hB (Cs.fr (s := 0) (l := [86, 87, 88, 89]) (by first | decide | omega) (Fr.tr (l := [86, 87, 88, 89]) Fr.rf fr2 (by decide) (by decide)) (by first | decide | (intro i hi h; simp at h; omega)) hc) ) okX4_area (qs2 hq5 (s := 0) (by decide)) nwM10 ⟨(Nat.le_of_ble_eq_true rfl), (Nat.le_of_ble_eq_true rfl)⟩ rfl rfl (Nat.le_of_ble_eq_true rfl) ⟨(Nat.le_of_ble_eq_true rfl), (Nat.le_of_ble_eq_true rfl)⟩ dX9_meanMinusArea_40 (toJ (fun r6 S7 h8 => ?_))
    obtain ⟨er6, rfl⟩ := h8
    refine g_lsub F dX9_meanMinusArea_43 ?_
    refine g_lret F T ⟨_, rfl, ?_⟩ (Nat.le_of_ble_eq_true rfl) (Nat.le_of_ble_eq_true rfl) dX9_meanMinusArea_44
    exact ⟨by unfold zDi; rw [if_neg h9, er6], (Fr.tr (l := [86, 87, 88, 89]) Fr.rf fr2 (by decide) (by decide))⟩
  · have h9 : nr z = 0 := by
      rw [show (0 : Int32) = nI 0 from rfl, nI_eq (by omega) (by omega)] at c1
      exact c1
    refine g_lconst (v := 0) F (by decide) dX9_meanMinusArea_13 ?_
    refine g_lret F T ⟨_, rfl, ?_⟩ (Nat.le_of_ble_eq_true rfl) (Nat.le_of_ble_eq_true rfl) dX9_meanMinusArea_14
    exact ⟨by unfold zDi; rw [if_pos h9], Fr.rf⟩
set_option maxHeartbeats 4000000 in
set_option maxRecDepth 100000 in
theorem kX9_runProperty (g : Glo) (S : PS) (q : Nat → Nat) (hq : Shp S.1 S.2.1 q) (z : ZZ) (hB : Bz z) (hc : Cs S q 0 z) (r : Nat) (hr : r < nr z) (w : Int32) (hw : 0 ≤ w.toInt ∧ w.toInt ≤ 5) : Ct g mX9_runProperty 0 0 [.ref (q 80), .int (nI r), .int w] S (pJ9 (fun r9 S' => r9 = zMn z r w ∧ Fr S S' q [86, 87, 88, 89])) := by
  refine Ct.of (by decide) (Nat.le_of_ble_eq_true rfl) (fun Γ hg F T => ?_)
  subst hg
  show G Γ S 0 0 0 [(0, .ref (q 80)), (1, .int (nI r)), (2, .int w)] []
  have hnr := (nr_e hB).2
  refine g_aload_n (k := 0) F 0 rfl dX9_runProperty_0 ?_
  refine gfX9_10 F (qi80 hq) (qr80_0 hq) dX9_runProperty_1 ?_
  refine gfX9_73 F (qs0 hq (s := 0) (by decide)) (qt0_5 hq (s := 0) (by decide)) dX9_runProperty_4 ?_
  refine g_astore_n (k := 3) (L' := [(3, .ref (q 6)), (0, .ref (q 80)), (1, .int (nI r)), (2, .int w)]) F dX9_runProperty_7 (Nat.le_of_ble_eq_true rfl) rfl ?_
  refine g_iload_n (k := 2) F 3 rfl dX9_runProperty_8 ?_
  by_cases w1_0 : w = 0
  · refine g_tin (off := 35) (t := 44) F dX9_runProperty_9 (by rw [w1_0]; decide) (by rw [w1_0]; decide) (by rw [w1_0]; decide) (by decide) ?_
    refine g_aload_n (k := 3) F 0 rfl dX9_runProperty_44 ?_
    refine gfX9_294 F (qs6 hq (s := 0) (by decide)) (qt6_1 hq (s := 0) (by decide)) dX9_runProperty_45 ?_
    refine g_iload_n (k := 1) F 2 rfl dX9_runProperty_48 ?_
    refine g_ialde rfl (j := r) F (qs7 hq (s := 0) (by decide)) rfl (by rw [(qm7 hq (s := 0) (by decide))]; omega) (by rw [(qm7 hq (s := 0) (by decide))]; decide) dX9_runProperty_49 ?_
    refine g_i2l F dX9_runProperty_50 ?_
    refine g_lret F T ⟨_, rfl, ?_⟩ (Nat.le_of_ble_eq_true rfl) (Nat.le_of_ble_eq_true rfl) dX9_runProperty_51
    exact ⟨by rw [w1_0, mn_0]; exact (hc.2.2.2.2.2 r hr).1, Fr.rf⟩
  by_cases w1_1 : w = 1
  · refine g_tin (off := 43) (t := 52) F dX9_runProperty_9 (by rw [w1_1]; decide) (by rw [w1_1]; decide) (by rw [w1_1]; decide) (by decide) ?_
    refine g_aload_n (k := 3) F 0 rfl dX9_runProperty_52 ?_
    refine gfX9_296 F (qs6 hq (s := 0) (by decide)) (qt6_2 hq (s := 0) (by decide)) dX9_runProperty_53 ?_
    refine g_iload_n (k := 1) F 2 rfl dX9_runProperty_56 ?_
    refine g_zalde rfl (j := r) F (qs8 hq (s := 0) (by decide)) rfl (by rw [(qm8 hq (s := 0) (by decide))]; omega) (by rw [(qm8 hq (s := 0) (by decide))]; decide) dX9_runProperty_57 ?_
    refine g_if_eq (t := 65) F dX9_runProperty_58 (by decide) (fun c2 => ?_) (fun c2 => ?_)
    · have hb9 : (0 : Int64) = (pI S (q 8) r).toInt64 := by rw [c2]; rfl
      refine g_lconst (v := 0) F (by decide) dX9_runProperty_65 ?_
      refine g_lret F T ⟨_, rfl, ?_⟩ (Nat.le_of_ble_eq_true rfl) (Nat.le_of_ble_eq_true rfl) dX9_runProperty_66
      exact ⟨by rw [w1_1, mn_1, ← (hc.2.2.2.2.2 r hr).2.1]; exact hb9, Fr.rf⟩
    · have hb9 : (1 : Int64) = (pI S (q 8) r).toInt64 := by
        rcases (show pI S (q 8) r = 0 ∨ pI S (q 8) r = 1 from hc.b01 hB hr) with h | h
        · exact absurd h c2
        · rw [h]; rfl
      refine g_lconst (v := 1) F (by decide) dX9_runProperty_61 ?_
      refine g_goto (t := 66) F dX9_runProperty_62 (by decide) ?_
      refine g_lret F T ⟨_, rfl, ?_⟩ (Nat.le_of_ble_eq_true rfl) (Nat.le_of_ble_eq_true rfl) dX9_runProperty_66
      exact ⟨by rw [w1_1, mn_1, ← (hc.2.2.2.2.2 r hr).2.1]; exact hb9, Fr.rf⟩
  by_cases w1_2 : w = 2
  · refine g_tin (off := 58) (t := 67) F dX9_runProperty_9 (by rw [w1_2]; decide) (by rw [w1_2]; decide) (by rw [w1_2]; decide) (by decide) ?_
    refine g_aload_n (k := 3) F 0 rfl dX9_runProperty_67 ?_
    refine gfX9_300 F (qs6 hq (s := 0) (by decide)) (qt6_3 hq (s := 0) (by decide)) dX9_runProperty_68 ?_
    refine g_iload_n (k := 1) F 2 rfl dX9_runProperty_71 ?_
    refine g_lalde rfl (j := r) F (qs9 hq (s := 0) (by decide)) rfl (by rw [(qm9 hq (s := 0) (by decide))]; omega) (by rw [(qm9 hq (s := 0) (by decide))]; decide) dX9_runProperty_72 ?_
    refine g_lret F T ⟨_, rfl, ?_⟩ (Nat.le_of_ble_eq_true rfl) (Nat.le_of_ble_eq_true rfl) dX9_runProperty_73
    exact ⟨by rw [w1_2, mn_2]; exact (hc.2.2.2.2.2 r hr).2.2, Fr.rf⟩
  by_cases w1_3 : w = 3
  · refine g_tin (off := 65) (t := 74) F dX9_runProperty_9 (by rw [w1_3]; decide) (by rw [w1_3]; decide) (by rw [w1_3]; decide) (by decide) ?_
    refine g_aload_n (k := 3) F 0 rfl dX9_runProperty_74 ?_
    refine gfX9_300 F (qs6 hq (s := 0) (by decide)) (qt6_3 hq (s := 0) (by decide)) dX9_runProperty_75 ?_
    refine g_iload_n (k := 1) F 2 rfl dX9_runProperty_78 ?_
    refine g_lalde rfl (j := r) F (qs9 hq (s := 0) (by decide)) rfl (by rw [(qm9 hq (s := 0) (by decide))]; omega) (by rw [(qm9 hq (s := 0) (by decide))]; decide) dX9_runProperty_79 ?_
    refine g_ldc2 F mw469 dX9_runProperty_80 ?_
    refine g_aload_n (k := 0) F 1 rfl dX9_runProperty_83 ?_
    refine gfX9_10 F (qi80 hq) (qr80_0 hq) dX9_runProperty_84 ?_
    refine gfX9_91 F (qs0 hq (s := 0) (by decide)) (qt0_3 hq (s := 0) (by decide)) dX9_runProperty_87 ?_
    refine g_iconst (v := 1) F (by decide) dX9_runProperty_90 ?_
    refine g_ialde rfl (j := 1) F (qs1 hq (s := 0) (by decide)) rfl (by rw [(qm1 hq (s := 0) (by decide))]; omega) (by rw [(qm1 hq (s := 0) (by decide))]; decide) dX9_runProperty_91 ?_
    refine g_i2l F dX9_runProperty_92 ?_
    refine g_lmul F dX9_runProperty_93 ?_
    refine g_callS F (kX9_quotient Γ.1 _ _ _) okX9_quotient mw225 ⟨(Nat.le_of_ble_eq_true rfl), (Nat.le_of_ble_eq_true rfl)⟩ rfl rfl (Nat.le_of_ble_eq_true rfl) ⟨(Nat.le_of_ble_eq_true rfl), (Nat.le_of_ble_eq_true rfl)⟩ dX9_runProperty_94 (toJ (fun r3 S4 h5 => ?_))
    obtain ⟨er3, rfl⟩ := h5
    refine g_lret F T ⟨_, rfl, ?_⟩ (Nat.le_of_ble_eq_true rfl) (Nat.le_of_ble_eq_true rfl) dX9_runProperty_97
    exact ⟨by rw [w1_3, mn_3, er3]; exact mn_q (hc.2.2.2.2.2 r hr).2.2 (hc.st (i := 1) (by decide)), Fr.rf⟩
  by_cases w1_4 : w = 4
  · refine g_tin (off := 89) (t := 98) F dX9_runProperty_9 (by rw [w1_4]; decide) (by rw [w1_4]; decide) (by rw [w1_4]; decide) (by decide) ?_
    refine g_aload_n (k := 3) F 0 rfl dX9_runProperty_98 ?_
    refine g_iload_n (k := 1) F 2 rfl dX9_runProperty_99 ?_
    refine g_aload_n (k := 0) F 1 rfl dX9_runProperty_100 ?_
    refine gfX9_10 F (qi80 hq) (qr80_0 hq) dX9_runProperty_101 ?_
    refine g_callVN (host := "PolarPlanimeter") F (kX6_constant Γ.1 S q hq 0 (by decide) z hB hc) okX6_constant (qs0 hq (s := 0) (by decide)) nwM17 ⟨(Nat.le_of_ble_eq_true rfl), (Nat.le_of_ble_eq_true rfl)⟩ rfl rfl (Nat.le_of_ble_eq_true rfl) ⟨(Nat.le_of_ble_eq_true rfl), (Nat.le_of_ble_eq_true rfl)⟩ dX9_runProperty_104 (toJ (fun r6 S7 h8 => ?_))
    obtain ⟨er6, rfl⟩ := h8
    refine g_callVN (host := "PolarPlanimeter") F (kX5_area Γ.1 S q hq 0 (by decide) z hB hc r hr r6) okX5_area (qs6 hq (s := 0) (by decide)) nwM18 ⟨(Nat.le_of_ble_eq_true rfl), (Nat.le_of_ble_eq_true rfl)⟩ rfl rfl (Nat.le_of_ble_eq_true rfl) ⟨(Nat.le_of_ble_eq_true rfl), (Nat.le_of_ble_eq_true rfl)⟩ dX9_runProperty_107 (toJ (fun r9 S10 h11 => ?_))
    obtain ⟨er9, rfl⟩ := h11
    refine g_lret F T ⟨_, rfl, ?_⟩ (Nat.le_of_ble_eq_true rfl) (Nat.le_of_ble_eq_true rfl) dX9_runProperty_110
    exact ⟨by rw [w1_4, mn_4]; exact er9.trans (by rw [er6]; rfl), Fr.rf⟩
  refine g_tout (t := 111) F dX9_runProperty_9 (by have a0 : ¬ (w : Int32).toInt = 0 := fun h9 => w1_0 (Int32.toInt_inj.mp h9); have a1 : ¬ (w : Int32).toInt = 1 := fun h9 => w1_1 (Int32.toInt_inj.mp h9); have a2 : ¬ (w : Int32).toInt = 2 := fun h9 => w1_2 (Int32.toInt_inj.mp h9); have a3 : ¬ (w : Int32).toInt = 3 := fun h9 => w1_3 (Int32.toInt_inj.mp h9); have a4 : ¬ (w : Int32).toInt = 4 := fun h9 => w1_4 (Int32.toInt_inj.mp h9); omega) (by decide) ?_
  refine g_aload_n (k := 0) F 1 rfl dX9_runProperty_111 ?_
  refine gfX9_36 F (qi80 hq) (qr80_4 hq) dX9_runProperty_112 ?_
  refine g_aload_n (k := 0) F 1 rfl dX9_runProperty_115 ?_
  refine gfX9_10 F (qi80 hq) (qr80_0 hq) dX9_runProperty_116 ?_
  refine g_callVN (host := "PolarPlanimeter") F (kX3_take Γ.1 S q hq 0 (by decide) z hB hc) okX3_take (qi86 hq) nwM19 ⟨(Nat.le_of_ble_eq_true rfl), (Nat.le_of_ble_eq_true rfl)⟩ rfl rfl (Nat.le_of_ble_eq_true rfl) ⟨(Nat.le_of_ble_eq_true rfl), (Nat.le_of_ble_eq_true rfl)⟩ dX9_runProperty_119 (toV (fun S13 h14 => ?_))
  obtain ⟨fr12, or12, kr12, vr12⟩ := h14
  have hq15 : Shp S13.1 S13.2.1 q := Fr.q fr12 hq
  refine g_aload_n (k := 0) F 1 rfl dX9_runProperty_122 ?_
  refine gfX9_36 F (qi80 hq15) (qr80_4 hq15) dX9_runProperty_123 ?_
  refine gfX9_318 F (qi86 hq15) (qr86_2 hq15) dX9_runProperty_126 ?_
  refine g_iload_n (k := 1) F 2 rfl dX9_runProperty_129 ?_
  refine g_zald (j := r) F (qi89 hq15) rfl (by rw [(qn89 hq15)]; omega) (by rw [(qn89 hq15)]; decide) dX9_runProperty_130 ?_
  refine g_rei (bI (zOut z r)) (or12 r hr) ?_
  refine g_if_eq (t := 138) F dX9_runProperty_131 (by decide) (fun c16 => ?_) (fun c16 => ?_)
  · have g1 := bI_0 c16
    refine g_lconst (v := 0) F (by decide) dX9_runProperty_138 ?_
    refine g_lret F T ⟨_, rfl, ?_⟩ (Nat.le_of_ble_eq_true rfl) (Nat.le_of_ble_eq_true rfl) dX9_runProperty_139
    have e5 := sw5 hw w1_0 w1_1 w1_2 w1_3 w1_4
    exact ⟨by rw [e5, mn_5, g1]; rfl, (Fr.tr (l := [86, 87, 88, 89]) Fr.rf fr12 (by decide) (by decide))⟩
  · have g1 := bI_1 c16
    refine g_lconst (v := 1) F (by decide) dX9_runProperty_134 ?_
    refine g_goto (t := 139) F dX9_runProperty_135 (by decide) ?_
    refine g_lret F T ⟨_, rfl, ?_⟩ (Nat.le_of_ble_eq_true rfl) (Nat.le_of_ble_eq_true rfl) dX9_runProperty_139
    have e5 := sw5 hw w1_0 w1_1 w1_2 w1_3 w1_4
    exact ⟨by rw [e5, mn_5, g1]; rfl, (Fr.tr (l := [86, 87, 88, 89]) Fr.rf fr12 (by decide) (by decide))⟩
set_option maxHeartbeats 4000000 in
set_option maxRecDepth 100000 in
theorem kX9_number (g : Glo) (S : PS) (q : Nat → Nat) (hq : Shp S.1 S.2.1 q) (z : ZZ) (hB : Bz z) (hc : Cs S q 0 z) (h : Nat) (hh : pI S (q 81) 0 = nI h) (h6 : h ≤ 6) (w : Int32) (hw : 0 ≤ w.toInt ∧ w.toInt ≤ 14) : Ct g mX9_number 0 0 [.ref (q 80), .int w] S (pJ9 (fun r S' => r = zCt z h w ∧ Fr S S' q [86, 87, 88, 89])) := by
  refine Ct.of (by decide) (Nat.le_of_ble_eq_true rfl) (fun Γ hg F T => ?_)
  subst hg
  show G Γ S 0 0 0 [(0, .ref (q 80)), (1, .int w)] []
  have hnc := (nc_e hB).2
  have hnr := (nr_e hB).2
  have hlf := lfF_le (zOut z) (nr z)
  refine g_iload_n (k := 1) F 1 rfl dX9_number_0 ?_
  by_cases w1_0 : w = 0
  · refine g_tin (off := 71) (t := 72) F dX9_number_1 (by rw [w1_0]; decide) (by rw [w1_0]; decide) (by rw [w1_0]; decide) (by decide) ?_
    refine g_aload_n (k := 0) F 0 rfl dX9_number_72 ?_
    refine gfX9_10 F (qi80 hq) (qr80_0 hq) dX9_number_73 ?_
    refine gfX9_100 F (qs0 hq (s := 0) (by decide)) (qt0_4 hq (s := 0) (by decide)) dX9_number_76 ?_
    refine gfX9_104e F (qs2 hq (s := 0) (by decide)) hc.n dX9_number_79 ?_
    refine g_i2l F dX9_number_82 ?_
    refine g_lret F T ⟨_, rfl, ?_⟩ (Nat.le_of_ble_eq_true rfl) (Nat.le_of_ble_eq_true rfl) dX9_number_83
    exact ⟨by rw [w1_0, ct_0]; exact ct_n hB, Fr.rf⟩
  by_cases w1_1 : w = 1
  · refine g_tin (off := 83) (t := 84) F dX9_number_1 (by rw [w1_1]; decide) (by rw [w1_1]; decide) (by rw [w1_1]; decide) (by decide) ?_
    refine g_aload_n (k := 0) F 0 rfl dX9_number_84 ?_
    refine gfX9_10 F (qi80 hq) (qr80_0 hq) dX9_number_85 ?_
    refine gfX9_73 F (qs0 hq (s := 0) (by decide)) (qt0_5 hq (s := 0) (by decide)) dX9_number_88 ?_
    refine gfX9_160e F (qs6 hq (s := 0) (by decide)) hc.m dX9_number_91 ?_
    refine g_i2l F dX9_number_94 ?_
    refine g_lret F T ⟨_, rfl, ?_⟩ (Nat.le_of_ble_eq_true rfl) (Nat.le_of_ble_eq_true rfl) dX9_number_95
    exact ⟨by rw [w1_1, ct_1]; exact ct_m hB, Fr.rf⟩
  by_cases w1_2 : w = 2
  · refine g_tin (off := 95) (t := 96) F dX9_number_1 (by rw [w1_2]; decide) (by rw [w1_2]; decide) (by rw [w1_2]; decide) (by decide) ?_
    refine g_aload_n (k := 0) F 0 rfl dX9_number_96 ?_
    refine gfX9_10 F (qi80 hq) (qr80_0 hq) dX9_number_97 ?_
    refine gfX9_66e F (qs0 hq (s := 0) (by decide)) rfl dX9_number_100 ?_
    refine g_i2l F dX9_number_103 ?_
    refine g_lret F T ⟨_, rfl, ?_⟩ (Nat.le_of_ble_eq_true rfl) (Nat.le_of_ble_eq_true rfl) dX9_number_104
    exact ⟨by rw [w1_2, ct_2]; exact hc.1.1, Fr.rf⟩
  by_cases w1_3 : w = 3
  · refine g_tin (off := 104) (t := 105) F dX9_number_1 (by rw [w1_3]; decide) (by rw [w1_3]; decide) (by rw [w1_3]; decide) (by decide) ?_
    refine g_aload_n (k := 0) F 0 rfl dX9_number_105 ?_
    refine gfX9_10 F (qi80 hq) (qr80_0 hq) dX9_number_106 ?_
    refine gfX9_70e F (qs0 hq (s := 0) (by decide)) rfl dX9_number_109 ?_
    refine g_i2l F dX9_number_112 ?_
    refine g_lret F T ⟨_, rfl, ?_⟩ (Nat.le_of_ble_eq_true rfl) (Nat.le_of_ble_eq_true rfl) dX9_number_113
    exact ⟨by rw [w1_3, ct_3]; exact hc.1.2.1, Fr.rf⟩
  by_cases w1_4 : w = 4
  · refine g_tin (off := 113) (t := 114) F dX9_number_1 (by rw [w1_4]; decide) (by rw [w1_4]; decide) (by rw [w1_4]; decide) (by decide) ?_
    refine g_aload_n (k := 0) F 0 rfl dX9_number_114 ?_
    refine gfX9_10 F (qi80 hq) (qr80_0 hq) dX9_number_115 ?_
    refine gfX9_97e F (qs0 hq (s := 0) (by decide)) rfl dX9_number_118 ?_
    refine g_i2l F dX9_number_121 ?_
    refine g_lret F T ⟨_, rfl, ?_⟩ (Nat.le_of_ble_eq_true rfl) (Nat.le_of_ble_eq_true rfl) dX9_number_122
    exact ⟨by rw [w1_4, ct_4]; exact hc.1.2.2, Fr.rf⟩
  by_cases w1_5 : w = 5
  · refine g_tin (off := 122) (t := 123) F dX9_number_1 (by rw [w1_5]; decide) (by rw [w1_5]; decide) (by rw [w1_5]; decide) (by decide) ?_
    refine g_aload_n (k := 0) F 0 rfl dX9_number_123 ?_
    refine gfX9_10 F (qi80 hq) (qr80_0 hq) dX9_number_124 ?_
    refine gfX9_100 F (qs0 hq (s := 0) (by decide)) (qt0_4 hq (s := 0) (by decide)) dX9_number_127 ?_
    refine g_callVN (host := "PolarPlanimeter") F (kX4_twiceArea Γ.1 S q hq 0 (by decide) z hB hc ) okX4_twiceArea (qs2 hq (s := 0) (by decide)) nwM20 ⟨(Nat.le_of_ble_eq_true rfl), (Nat.le_of_ble_eq_true rfl)⟩ rfl rfl (Nat.le_of_ble_eq_true rfl) ⟨(Nat.le_of_ble_eq_true rfl), (Nat.le_of_ble_eq_true rfl)⟩ dX9_number_130 (toJ (fun r2 S3 h4 => ?_))
    obtain ⟨er2, rfl⟩ := h4
    refine g_lret F T ⟨_, rfl, ?_⟩ (Nat.le_of_ble_eq_true rfl) (Nat.le_of_ble_eq_true rfl) dX9_number_133
    exact ⟨by rw [w1_5, ct_5]; exact er2, Fr.rf⟩
  by_cases w1_6 : w = 6
  · refine g_tin (off := 133) (t := 134) F dX9_number_1 (by rw [w1_6]; decide) (by rw [w1_6]; decide) (by rw [w1_6]; decide) (by decide) ?_
    refine g_aload_n (k := 0) F 0 rfl dX9_number_134 ?_
    refine gfX9_10 F (qi80 hq) (qr80_0 hq) dX9_number_135 ?_
    refine gfX9_100 F (qs0 hq (s := 0) (by decide)) (qt0_4 hq (s := 0) (by decide)) dX9_number_138 ?_
    refine g_callVN (host := "PolarPlanimeter") F (kX4_area Γ.1 S q hq 0 (by decide) z hB hc ) okX4_area (qs2 hq (s := 0) (by decide)) nwM10 ⟨(Nat.le_of_ble_eq_true rfl), (Nat.le_of_ble_eq_true rfl)⟩ rfl rfl (Nat.le_of_ble_eq_true rfl) ⟨(Nat.le_of_ble_eq_true rfl), (Nat.le_of_ble_eq_true rfl)⟩ dX9_number_141 (toJ (fun r5 S6 h7 => ?_))
    obtain ⟨er5, rfl⟩ := h7
    refine g_lret F T ⟨_, rfl, ?_⟩ (Nat.le_of_ble_eq_true rfl) (Nat.le_of_ble_eq_true rfl) dX9_number_144
    exact ⟨by rw [w1_6, ct_6]; exact er5, Fr.rf⟩
  by_cases w1_7 : w = 7
  · refine g_tin (off := 144) (t := 145) F dX9_number_1 (by rw [w1_7]; decide) (by rw [w1_7]; decide) (by rw [w1_7]; decide) (by decide) ?_
    refine g_aload_n (k := 0) F 0 rfl dX9_number_145 ?_
    refine gfX9_10 F (qi80 hq) (qr80_0 hq) dX9_number_146 ?_
    refine gfX9_100 F (qs0 hq (s := 0) (by decide)) (qt0_4 hq (s := 0) (by decide)) dX9_number_149 ?_
    refine g_aload_n (k := 0) F 0 rfl dX9_number_152 ?_
    refine gfX9_10 F (qi80 hq) (qr80_0 hq) dX9_number_153 ?_
    refine gfX9_66e F (qs0 hq (s := 0) (by decide)) rfl dX9_number_156 ?_
    refine g_aload_n (k := 0) F 0 rfl dX9_number_159 ?_
    refine gfX9_10 F (qi80 hq) (qr80_0 hq) dX9_number_160 ?_
    refine gfX9_70e F (qs0 hq (s := 0) (by decide)) rfl dX9_number_163 ?_
    refine g_callVN (host := "PolarPlanimeter") F (kX4_windingAround Γ.1 S q hq 0 (by decide) z hB hc (pI S (q 0) 0) (pI S (q 0) 1) hc.1.1 hc.1.2.1) okX4_windingAround (qs2 hq (s := 0) (by decide)) nwM21 ⟨(Nat.le_of_ble_eq_true rfl), (Nat.le_of_ble_eq_true rfl)⟩ rfl rfl (Nat.le_of_ble_eq_true rfl) ⟨(Nat.le_of_ble_eq_true rfl), (Nat.le_of_ble_eq_true rfl)⟩ dX9_number_166 (toJ (fun r8 S9 h10 => ?_))
    obtain ⟨er8, rfl⟩ := h10
    refine g_lret F T ⟨_, rfl, ?_⟩ (Nat.le_of_ble_eq_true rfl) (Nat.le_of_ble_eq_true rfl) dX9_number_169
    exact ⟨by rw [w1_7, ct_7]; exact er8, Fr.rf⟩
  by_cases w1_8 : w = 8
  · refine g_tin (off := 169) (t := 170) F dX9_number_1 (by rw [w1_8]; decide) (by rw [w1_8]; decide) (by rw [w1_8]; decide) (by decide) ?_
    refine g_aload_n (k := 0) F 0 rfl dX9_number_170 ?_
    refine gfX9_10 F (qi80 hq) (qr80_0 hq) dX9_number_171 ?_
    refine g_callVN (host := "PolarPlanimeter") F (kX6_constant Γ.1 S q hq 0 (by decide) z hB hc ) okX6_constant (qs0 hq (s := 0) (by decide)) nwM17 ⟨(Nat.le_of_ble_eq_true rfl), (Nat.le_of_ble_eq_true rfl)⟩ rfl rfl (Nat.le_of_ble_eq_true rfl) ⟨(Nat.le_of_ble_eq_true rfl), (Nat.le_of_ble_eq_true rfl)⟩ dX9_number_174 (toJ (fun r11 S12 h13 => ?_))
    obtain ⟨er11, rfl⟩ := h13
    refine g_lret F T ⟨_, rfl, ?_⟩ (Nat.le_of_ble_eq_true rfl) (Nat.le_of_ble_eq_true rfl) dX9_number_177
    exact ⟨by rw [w1_8, ct_8]; exact er11, Fr.rf⟩
  by_cases w1_9 : w = 9
  · refine g_tin (off := 177) (t := 178) F dX9_number_1 (by rw [w1_9]; decide) (by rw [w1_9]; decide) (by rw [w1_9]; decide) (by decide) ?_
    refine g_aload_n (k := 0) F 0 rfl dX9_number_178 ?_
    refine gfX9_10 F (qi80 hq) (qr80_0 hq) dX9_number_179 ?_
    refine gfX9_100 F (qs0 hq (s := 0) (by decide)) (qt0_4 hq (s := 0) (by decide)) dX9_number_182 ?_
    refine g_aload_n (k := 0) F 0 rfl dX9_number_185 ?_
    refine gfX9_10 F (qi80 hq) (qr80_0 hq) dX9_number_186 ?_
    refine gfX9_66e F (qs0 hq (s := 0) (by decide)) rfl dX9_number_189 ?_
    refine g_aload_n (k := 0) F 0 rfl dX9_number_192 ?_
    refine gfX9_10 F (qi80 hq) (qr80_0 hq) dX9_number_193 ?_
    refine gfX9_70e F (qs0 hq (s := 0) (by decide)) rfl dX9_number_196 ?_
    refine g_callVN (host := "PolarPlanimeter") F (kX4_touches Γ.1 S q hq 0 (by decide) z hB hc (pI S (q 0) 0) (pI S (q 0) 1) hc.1.1 hc.1.2.1) okX4_touches (qs2 hq (s := 0) (by decide)) nwM11 ⟨(Nat.le_of_ble_eq_true rfl), (Nat.le_of_ble_eq_true rfl)⟩ rfl rfl (Nat.le_of_ble_eq_true rfl) ⟨(Nat.le_of_ble_eq_true rfl), (Nat.le_of_ble_eq_true rfl)⟩ dX9_number_199 (toI (fun r14 S15 h16 => ?_))
    obtain ⟨er14, rfl⟩ := h16
    refine g_if_eq (t := 209) F dX9_number_202 (by decide) (fun c17 => ?_) (fun c17 => ?_)
    · have g1 := w0 er14 c17
      refine g_lconst (v := 0) F (by decide) dX9_number_209 ?_
      refine g_lret F T ⟨_, rfl, ?_⟩ (Nat.le_of_ble_eq_true rfl) (Nat.le_of_ble_eq_true rfl) dX9_number_210
      exact ⟨by rw [w1_9, ct_9]; exact (ifP_f g1).symm, Fr.rf⟩
    · have g1 := w1 er14 c17
      refine g_lconst (v := 1) F (by decide) dX9_number_205 ?_
      refine g_goto (t := 210) F dX9_number_206 (by decide) ?_
      refine g_lret F T ⟨_, rfl, ?_⟩ (Nat.le_of_ble_eq_true rfl) (Nat.le_of_ble_eq_true rfl) dX9_number_210
      exact ⟨by rw [w1_9, ct_9]; exact (ifP_t g1).symm, Fr.rf⟩
  by_cases w1_10 : w = 10
  · refine g_tin (off := 210) (t := 211) F dX9_number_1 (by rw [w1_10]; decide) (by rw [w1_10]; decide) (by rw [w1_10]; decide) (by decide) ?_
    refine g_aload_n (k := 0) F 0 rfl dX9_number_211 ?_
    refine gfX9_36 F (qi80 hq) (qr80_4 hq) dX9_number_212 ?_
    refine g_aload_n (k := 0) F 0 rfl dX9_number_215 ?_
    refine gfX9_10 F (qi80 hq) (qr80_0 hq) dX9_number_216 ?_
    refine g_callVN (host := "PolarPlanimeter") F (kX3_take Γ.1 S q hq 0 (by decide) z hB hc) okX3_take (qi86 hq) nwM19 ⟨(Nat.le_of_ble_eq_true rfl), (Nat.le_of_ble_eq_true rfl)⟩ rfl rfl (Nat.le_of_ble_eq_true rfl) ⟨(Nat.le_of_ble_eq_true rfl), (Nat.le_of_ble_eq_true rfl)⟩ dX9_number_219 (toV (fun S19 h20 => ?_))
    obtain ⟨fr18, or18, kr18, vr18⟩ := h20
    have hq21 : Shp S19.1 S19.2.1 q := Fr.q fr18 hq
    refine g_aload_n (k := 0) F 0 rfl dX9_number_222 ?_
    refine gfX9_36 F (qi80 hq21) (qr80_4 hq21) dX9_number_223 ?_
    refine gfX9_327e F (qi86 hq21) vr18 dX9_number_226 ?_
    refine g_lret F T ⟨_, rfl, ?_⟩ (Nat.le_of_ble_eq_true rfl) (Nat.le_of_ble_eq_true rfl) dX9_number_229
    exact ⟨by rw [w1_10, ct_10], (Fr.tr (l := [86, 87, 88, 89]) Fr.rf fr18 (by decide) (by decide))⟩
  by_cases w1_11 : w = 11
  · refine g_tin (off := 229) (t := 230) F dX9_number_1 (by rw [w1_11]; decide) (by rw [w1_11]; decide) (by rw [w1_11]; decide) (by decide) ?_
    refine g_aload_n (k := 0) F 0 rfl dX9_number_230 ?_
    refine gfX9_36 F (qi80 hq) (qr80_4 hq) dX9_number_231 ?_
    refine g_aload_n (k := 0) F 0 rfl dX9_number_234 ?_
    refine gfX9_10 F (qi80 hq) (qr80_0 hq) dX9_number_235 ?_
    refine g_callVN (host := "PolarPlanimeter") F (kX3_take Γ.1 S q hq 0 (by decide) z hB hc) okX3_take (qi86 hq) nwM19 ⟨(Nat.le_of_ble_eq_true rfl), (Nat.le_of_ble_eq_true rfl)⟩ rfl rfl (Nat.le_of_ble_eq_true rfl) ⟨(Nat.le_of_ble_eq_true rfl), (Nat.le_of_ble_eq_true rfl)⟩ dX9_number_238 (toV (fun S23 h24 => ?_))
    obtain ⟨fr22, or22, kr22, vr22⟩ := h24
    have hq25 : Shp S23.1 S23.2.1 q := Fr.q fr22 hq
    refine g_aload_n (k := 0) F 0 rfl dX9_number_241 ?_
    refine gfX9_10 F (qi80 hq25) (qr80_0 hq25) dX9_number_242 ?_
    refine gfX9_73 F (qs0 hq25 (s := 0) (by decide)) (qt0_5 hq25 (s := 0) (by decide)) dX9_number_245 ?_
    refine gfX9_160e F (qs6 hq25 (s := 0) (by decide)) ((congrFun (fr22.2.2 (6) (by decide) (by decide)).1 0).trans hc.m) dX9_number_248 ?_
    refine g_aload_n (k := 0) F 0 rfl dX9_number_251 ?_
    refine gfX9_36 F (qi80 hq25) (qr80_4 hq25) dX9_number_252 ?_
    refine gfX9_330e F (qi86 hq25) kr22 dX9_number_255 ?_
    refine g_isub F dX9_number_258 ?_
    refine g_rei (nI ((nr z) - (lfF (zOut z) (nr z)))) (nsub rfl rfl (by omega)) ?_
    refine g_i2l F dX9_number_259 ?_
    refine g_lret F T ⟨_, rfl, ?_⟩ (Nat.le_of_ble_eq_true rfl) (Nat.le_of_ble_eq_true rfl) dX9_number_260
    exact ⟨by rw [w1_11, ct_11]; exact ou_e hB, (Fr.tr (l := [86, 87, 88, 89]) Fr.rf fr22 (by decide) (by decide))⟩
  by_cases w1_12 : w = 12
  · refine g_tin (off := 260) (t := 261) F dX9_number_1 (by rw [w1_12]; decide) (by rw [w1_12]; decide) (by rw [w1_12]; decide) (by decide) ?_
    refine g_aload_n (k := 0) F 0 rfl dX9_number_261 ?_
    refine g_callV F (kX9_meanMinusArea Γ.1 S q hq z hB hc) okX9_meanMinusArea (qi80 hq) mw362 ⟨(Nat.le_of_ble_eq_true rfl), (Nat.le_of_ble_eq_true rfl)⟩ rfl rfl (Nat.le_of_ble_eq_true rfl) ⟨(Nat.le_of_ble_eq_true rfl), (Nat.le_of_ble_eq_true rfl)⟩ dX9_number_262 (toJ (fun r26 S27 h28 => ?_))
    obtain ⟨er26, fr26⟩ := h28
    have hq29 : Shp S27.1 S27.2.1 q := Fr.q fr26 hq
    refine g_lret F T ⟨_, rfl, ?_⟩ (Nat.le_of_ble_eq_true rfl) (Nat.le_of_ble_eq_true rfl) dX9_number_265
    exact ⟨by rw [w1_12, ct_12]; exact er26, (Fr.tr (l := [86, 87, 88, 89]) Fr.rf fr26 (by decide) (by decide))⟩
  by_cases w1_13 : w = 13
  · refine g_tin (off := 265) (t := 266) F dX9_number_1 (by rw [w1_13]; decide) (by rw [w1_13]; decide) (by rw [w1_13]; decide) (by decide) ?_
    refine g_aload_n (k := 0) F 0 rfl dX9_number_266 ?_
    refine gfX9_10 F (qi80 hq) (qr80_0 hq) dX9_number_267 ?_
    refine gfX9_100 F (qs0 hq (s := 0) (by decide)) (qt0_4 hq (s := 0) (by decide)) dX9_number_270 ?_
    refine g_aload_n (k := 0) F 0 rfl dX9_number_273 ?_
    refine gfX9_10 F (qi80 hq) (qr80_0 hq) dX9_number_274 ?_
    refine gfX9_91 F (qs0 hq (s := 0) (by decide)) (qt0_3 hq (s := 0) (by decide)) dX9_number_277 ?_
    refine g_iconst (v := 2) F (by decide) dX9_number_280 ?_
    refine g_ialde rfl (j := 2) F (qs1 hq (s := 0) (by decide)) rfl (by rw [(qm1 hq (s := 0) (by decide))]; omega) (by rw [(qm1 hq (s := 0) (by decide))]; decide) dX9_number_281 ?_
    refine g_callVN (host := "PolarPlanimeter") F (kX4_allSteps Γ.1 S q hq 0 (by decide) z hB hc ((pI S (q 1)) 2) (hc.st (i := 2) (by decide))) okX4_allSteps (qs2 hq (s := 0) (by decide)) nwM22 ⟨(Nat.le_of_ble_eq_true rfl), (Nat.le_of_ble_eq_true rfl)⟩ rfl rfl (Nat.le_of_ble_eq_true rfl) ⟨(Nat.le_of_ble_eq_true rfl), (Nat.le_of_ble_eq_true rfl)⟩ dX9_number_282 (toJ (fun r30 S31 h32 => ?_))
    obtain ⟨er30, rfl⟩ := h32
    refine g_lret F T ⟨_, rfl, ?_⟩ (Nat.le_of_ble_eq_true rfl) (Nat.le_of_ble_eq_true rfl) dX9_number_285
    exact ⟨by rw [w1_13, ct_13]; exact er30, Fr.rf⟩
  refine g_tout (t := 286) F dX9_number_1 (by have a0 : ¬ (w : Int32).toInt = 0 := fun h9 => w1_0 (Int32.toInt_inj.mp h9); have a1 : ¬ (w : Int32).toInt = 1 := fun h9 => w1_1 (Int32.toInt_inj.mp h9); have a2 : ¬ (w : Int32).toInt = 2 := fun h9 => w1_2 (Int32.toInt_inj.mp h9); have a3 : ¬ (w : Int32).toInt = 3 := fun h9 => w1_3 (Int32.toInt_inj.mp h9); have a4 : ¬ (w : Int32).toInt = 4 := fun h9 => w1_4 (Int32.toInt_inj.mp h9); have a5 : ¬ (w : Int32).toInt = 5 := fun h9 => w1_5 (Int32.toInt_inj.mp h9); have a6 : ¬ (w : Int32).toInt = 6 := fun h9 => w1_6 (Int32.toInt_inj.mp h9); have a7 : ¬ (w : Int32).toInt = 7 := fun h9 => w1_7 (Int32.toInt_inj.mp h9); have a8 : ¬ (w : Int32).toInt = 8 := fun h9 => w1_8 (Int32.toInt_inj.mp h9); have a9 : ¬ (w : Int32).toInt = 9 := fun h9 => w1_9 (Int32.toInt_inj.mp h9); have a10 : ¬ (w : Int32).toInt = 10 := fun h9 => w1_10 (Int32.toInt_inj.mp h9); have a11 : ¬ (w : Int32).toInt = 11 := fun h9 => w1_11 (Int32.toInt_inj.mp h9); have a12 : ¬ (w : Int32).toInt = 12 := fun h9 => w1_12 (Int32.toInt_inj.mp h9); have a13 : ¬ (w : Int32).toInt = 13 := fun h9 => w1_13 (Int32.toInt_inj.mp h9); omega) (by decide) ?_
  refine g_aload_n (k := 0) F 0 rfl dX9_number_286 ?_
  refine gfX9_22 F (qi80 hq) (qr80_2 hq) dX9_number_287 ?_
  refine gfX9_184e F (qi81 hq) hh dX9_number_290 ?_
  refine g_i2l F dX9_number_293 ?_
  refine g_lret F T ⟨_, rfl, ?_⟩ (Nat.le_of_ble_eq_true rfl) (Nat.le_of_ble_eq_true rfl) dX9_number_294
  exact ⟨by rw [ct_d hw w1_0 w1_1 w1_2 w1_3 w1_4 w1_5 w1_6 w1_7 w1_8 w1_9 w1_10 w1_11 w1_12 w1_13]; exact nI_L (by omega), Fr.rf⟩
