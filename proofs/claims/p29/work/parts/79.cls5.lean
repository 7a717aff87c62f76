set_option maxHeartbeats 4000000 in
set_option maxRecDepth 100000 in
theorem kX1_beginMeasuring (g : Glo) (S : PS) (q : Nat → Nat) (hq : Shp S.1 S.2.1 q) (s : Nat) (hs : s < 8) (z : ZZ) (hB : Bz z) (hc : Cs S q s z) : Ct g mX1_beginMeasuring 0 0 [.ref (q 83), .ref (q (10 * s))] S (pV9 (fun S' => Fr S S' q [83, 84] ∧ Ar S' q z ∧ Ms S' q (4611686018427387904, 0))) := by
  refine Ct.of (by decide) (Nat.le_of_ble_eq_true rfl) (fun Γ hg F T => ?_)
  subst hg
  show G Γ S 0 0 0 [(0, .ref (q 83)), (1, .ref (q (10 * s)))] []
  refine g_aload_n (k := 0) F 0 rfl dX1_beginMeasuring_0 ?_
  refine gfX1_12 F (qi83 hq) (qr83_0 hq) dX1_beginMeasuring_1 ?_
  refine g_aload_n (k := 1) F 1 rfl dX1_beginMeasuring_4 ?_
  refine g_callVN (host := "PolarPlanimeter") F (kX0_fit Γ.1 S q hq s hs z hB hc) okX0_fit (qi84 hq) nwM39 ⟨(Nat.le_of_ble_eq_true rfl), (Nat.le_of_ble_eq_true rfl)⟩ rfl rfl (Nat.le_of_ble_eq_true rfl) ⟨(Nat.le_of_ble_eq_true rfl), (Nat.le_of_ble_eq_true rfl)⟩ dX1_beginMeasuring_5 (toV (fun S2 h3 => ?_))
  obtain ⟨fr1, ar1⟩ := h3
  have hq4 : Shp S2.1 S2.2.1 q := Fr.q fr1 hq
  refine g_aload_n (k := 0) F 0 rfl dX1_beginMeasuring_8 ?_
  refine g_ldc2 F mw176 dX1_beginMeasuring_9 ?_
  refine pfX1_54 F (qi83 hq4) dX1_beginMeasuring_12 ?_
  refine g_aload_n (k := 0) F 0 rfl dX1_beginMeasuring_15 ?_
  refine g_lconst (v := 0) F (by decide) dX1_beginMeasuring_16 ?_
  refine pfX1_58 F (qi83 hq4) dX1_beginMeasuring_17 ?_
  refine g_vret F T ⟨rfl, ?_⟩ (Nat.le_of_ble_eq_true rfl) (Nat.le_of_ble_eq_true rfl) dX1_beginMeasuring_20
  exact ⟨(Fr.wJ hq (Fr.wJ hq (Fr.tr (l := [83, 84]) Fr.rf fr1 (by decide) (by decide)) (by decide) (by decide)) (by decide) (by decide)), Ar.fr (Fr.wJ (Fr.q fr1 hq) (Fr.wJ (Fr.q fr1 hq) Fr.rf (by decide) (show 83 ∈ [83] by decide)) (by decide) (by decide)) (by decide) ar1, ((up2_k (by decide)).trans up2_s), up2_s⟩
set_option maxHeartbeats 4000000 in
set_option maxRecDepth 100000 in
theorem kX1_measure (g : Glo) (S : PS) (q : Nat → Nat) (hq : Shp S.1 S.2.1 q) (s : Nat) (hs : s < 8) (z : ZZ) (hB : Bz z) (hc : Cs S q s z) (k : Nat) (hk : k < nc z) (ha : Ar S q z) (a : Int64 × Int64) (hm : Ms S q a) : Ct g mX1_measure 0 0 [.ref (q 83), .ref (q (10 * s)), .int (nI k)] S (pV9 (fun S' => Fr S S' q [83] ∧ Ms S' q (mF z k (zN z k + 1) a))) := by
  refine Ct.of (by decide) (Nat.le_of_ble_eq_true rfl) (fun Γ hg F T => ?_)
  subst hg
  show G Γ S 0 0 0 [(0, .ref (q 83)), (1, .ref (q (10 * s))), (2, .int (nI k))] []
  have hnc := (nc_e hB).2
  have h0 : 0 < nc z := by omega
  have bx0 := zX_b hB h0 k
  have bx1 := zX_b hB h0 (k + 1)
  have by0 := zY_b hB h0 k
  have by1 := zY_b hB h0 (k + 1)
  have hnx := nx_lt hk
  have hzn := zN_b hB h0 k
  refine g_aload_n (k := 1) F 1 rfl dX1_measure_0 ?_
  refine gfX1_29 F (qs0 hq hs) (qt0_4 hq hs) dX1_measure_1 ?_
  refine g_astore_n (k := 3) (L' := [(3, .ref (q (10 * s + 2))), (0, .ref (q 83)), (1, .ref (q (10 * s))), (2, .int (nI k))]) F dX1_measure_4 (Nat.le_of_ble_eq_true rfl) rfl ?_
  refine g_aload_n (k := 3) F 0 rfl dX1_measure_5 ?_
  refine g_iload_n (k := 2) F 3 rfl dX1_measure_6 ?_
  refine g_aload_n (k := 1) F 2 rfl dX1_measure_7 ?_
  refine gfX1_61 F (qs0 hq hs) (qt0_3 hq hs) dX1_measure_8 ?_
  refine g_iconst (v := 2) F (by decide) dX1_measure_11 ?_
  refine g_ialde rfl (j := 2) F (qs1 hq hs) rfl (by rw [(qm1 hq hs)]; omega) (by rw [(qm1 hq hs)]; decide) dX1_measure_12 ?_
  refine g_callVN (host := "PolarPlanimeter") F (kX4_steps Γ.1 S q hq s hs z hB hc k (by omega) ((pI S (q (10 * s + 1))) 2) (hc.st (i := 2) (by decide))) okX4_steps (qs2 hq hs) nwM40 ⟨(Nat.le_of_ble_eq_true rfl), (Nat.le_of_ble_eq_true rfl)⟩ rfl rfl (Nat.le_of_ble_eq_true rfl) ⟨(Nat.le_of_ble_eq_true rfl), (Nat.le_of_ble_eq_true rfl)⟩ dX1_measure_13 (toI (fun r1 S2 h3 => ?_))
  obtain ⟨rfl, rfl⟩ := h3
  refine g_istore (L' := [(4, .int (nI (zN z k))), (3, .ref (q (10 * s + 2))), (0, .ref (q 83)), (1, .ref (q (10 * s))), (2, .int (nI k))]) F dX1_measure_16 (Nat.le_of_ble_eq_true rfl) rfl ?_
  refine g_iconst (v := 0) F (by decide) dX1_measure_18 ?_
  refine g_istore (L' := [(5, .int 0), (4, .int (nI (zN z k))), (3, .ref (q (10 * s + 2))), (0, .ref (q 83)), (1, .ref (q (10 * s))), (2, .int (nI k))]) F dX1_measure_19 (Nat.le_of_ble_eq_true rfl) rfl ?_
  have lp4 : ∀ (n9 : Nat) (i : Nat) (S1 : PS), zN z k + 1 < i + n9 → (i ≤ zN z k + 1) → (Fr S S1 q [83]) → (Ms S1 q (mF z k i a)) → G Γ S1 0 0 21 [(5, .int (nI i)), (4, .int (nI (zN z k))), (3, .ref (q (10 * s + 2))), (0, .ref (q 83)), (1, .ref (q (10 * s))), (2, .int (nI k))] [] := by
    intro n9
    induction n9 with
    | zero =>
      intro i S1 hm9 hi hf hm1
      exact absurd hm9 (by omega)
    | succ n9 ihlp4 =>
      intro i S1 hm9 hi hf hm1
      have hq5 : Shp S1.1 S1.2.1 q := Fr.q hf hq
      refine g_iload F 0 rfl dX1_measure_21 ?_
      refine g_iload F 1 rfl dX1_measure_23 ?_
      refine g_icmp_gt (t := 87) F dX1_measure_25 (by decide) (fun c6 => ?_) (fun c6 => ?_)
      · obtain rfl : i = zN z k + 1 := by
          rw [nI_ltI (by omega) (by omega)] at c6
          omega
        refine g_vret F T ⟨rfl, ?_⟩ (Nat.le_of_ble_eq_true rfl) (Nat.le_of_ble_eq_true rfl) dX1_measure_87
        exact ⟨hf, hm1⟩
      · have hi9 : i ≤ zN z k := by
          rw [nI_ltI (by omega) (by omega)] at c6
          omega
        refine g_aload_n (k := 0) F 3 rfl dX1_measure_28 ?_
        refine gfX1_12 F (qi83 hq5) (qr83_0 hq5) dX1_measure_29 ?_
        refine g_aload_n (k := 3) F 2 rfl dX1_measure_32 ?_
        refine g_iload_n (k := 2) F 5 rfl dX1_measure_33 ?_
        refine g_iload F 0 rfl dX1_measure_34 ?_
        refine g_iload F 1 rfl dX1_measure_36 ?_
        refine g_callVN (host := "PolarPlanimeter") F (kX4_fineX Γ.1 S1 q hq5 s hs z hB (Cs.fr (s := s) (l := [83]) (by first | decide | omega) hf (by first | decide | (intro i hi h; simp at h; omega)) hc) k (by omega) i (by omega)) okX4_fineX (qs2 hq5 hs) nwM41 ⟨(Nat.le_of_ble_eq_true rfl), (Nat.le_of_ble_eq_true rfl)⟩ rfl rfl (Nat.le_of_ble_eq_true rfl) ⟨(Nat.le_of_ble_eq_true rfl), (Nat.le_of_ble_eq_true rfl)⟩ dX1_measure_38 (toJ (fun r7 S8 h9 => ?_))
        obtain ⟨er7, rfl⟩ := h9
        refine g_aload_n (k := 3) F 2 rfl dX1_measure_41 ?_
        refine g_iload_n (k := 2) F 5 rfl dX1_measure_42 ?_
        refine g_iload F 0 rfl dX1_measure_43 ?_
        refine g_iload F 1 rfl dX1_measure_45 ?_
        refine g_callVN (host := "PolarPlanimeter") F (kX4_fineY Γ.1 S1 q hq5 s hs z hB (Cs.fr (s := s) (l := [83]) (by first | decide | omega) hf (by first | decide | (intro i hi h; simp at h; omega)) hc) k (by omega) i (by omega)) okX4_fineY (qs2 hq5 hs) nwM42 ⟨(Nat.le_of_ble_eq_true rfl), (Nat.le_of_ble_eq_true rfl)⟩ rfl rfl (Nat.le_of_ble_eq_true rfl) ⟨(Nat.le_of_ble_eq_true rfl), (Nat.le_of_ble_eq_true rfl)⟩ dX1_measure_47 (toJ (fun r10 S11 h12 => ?_))
        obtain ⟨er10, rfl⟩ := h12
        refine g_callVN (host := "PolarPlanimeter") F (kX0_squareTo Γ.1 S1 q hq5 z (Ar.fr hf (by decide) ha) _ _) okX0_squareTo (qi84 hq5) nwM43 ⟨(Nat.le_of_ble_eq_true rfl), (Nat.le_of_ble_eq_true rfl)⟩ rfl rfl (Nat.le_of_ble_eq_true rfl) ⟨(Nat.le_of_ble_eq_true rfl), (Nat.le_of_ble_eq_true rfl)⟩ dX1_measure_50 (toJ (fun r13 S14 h15 => ?_))
        obtain ⟨er13, rfl⟩ := h15
        have hsq9 : r13 = zDp z k i := by rw [er13, er7, er10]; rfl
        refine g_lstore (L' := [(6, .long r13), (5, .int (nI i)), (4, .int (nI (zN z k))), (3, .ref (q (10 * s + 2))), (0, .ref (q 83)), (1, .ref (q (10 * s))), (2, .int (nI k))]) F dX1_measure_53 (Nat.le_of_ble_eq_true rfl) rfl ?_
        refine g_aload_n (k := 0) F 4 rfl dX1_measure_55 ?_
        refine g_aload_n (k := 0) F 4 rfl dX1_measure_56 ?_
        refine gfX1_54e F (qi83 hq5) hm1.1 dX1_measure_57 ?_
        refine g_lload F 0 rfl dX1_measure_60 ?_
        refine g_mminL F mw192 ⟨(Nat.le_of_ble_eq_true rfl), (Nat.le_of_ble_eq_true rfl)⟩ ⟨(Nat.le_of_ble_eq_true rfl), (Nat.le_of_ble_eq_true rfl)⟩ dX1_measure_62 ?_
        refine g_topl (fun x16 ex16 => ?_)
        refine pfX1_54 F (qi83 hq5) dX1_measure_65 ?_
        refine g_aload_n (k := 0) F 4 rfl dX1_measure_68 ?_
        refine g_aload_n (k := 0) F 4 rfl dX1_measure_69 ?_
        refine gfX1_58e F (qi83 hq5) ((up2_k (by decide)).trans hm1.2) dX1_measure_70 ?_
        refine g_lload F 0 rfl dX1_measure_73 ?_
        refine g_mmaxL F mw195 ⟨(Nat.le_of_ble_eq_true rfl), (Nat.le_of_ble_eq_true rfl)⟩ ⟨(Nat.le_of_ble_eq_true rfl), (Nat.le_of_ble_eq_true rfl)⟩ dX1_measure_75 ?_
        refine g_topl (fun x17 ex17 => ?_)
        refine pfX1_58 F (qi83 hq5) dX1_measure_78 ?_
        obtain ⟨x18, ex18⟩ : ∃ y9 : Int32, y9 = (nI i) + 1 := ⟨_, rfl⟩
        refine g_iinc (k := 1) (v := x18) (L' := [(5, .int x18), (6, .long r13), (4, .int (nI (zN z k))), (3, .ref (q (10 * s + 2))), (0, .ref (q 83)), (1, .ref (q (10 * s))), (2, .int (nI k))]) F dX1_measure_81 rfl (by rw [ex18]; rfl) (Nat.le_of_ble_eq_true rfl) rfl ?_
        refine g_goto (t := 21) F dX1_measure_84 (by decide) ?_
        obtain rfl : x18 = nI (i + 1) := (ex18.trans (nI_1 _))
        refine g_sub (L' := [(5, .int (nI (i + 1))), (4, .int (nI (zN z k))), (3, .ref (q (10 * s + 2))), (0, .ref (q 83)), (1, .ref (q (10 * s))), (2, .int (nI k))]) [0, 2, 3, 4, 5, 6] rfl ?_
        exact ihlp4 (i + 1) ((wJ (wJ S1 (q 83) 2 x16) (q 83) 3 x17)) (by omega) (by omega) (Fr.wJ hq (Fr.wJ hq hf (by decide) (by decide)) (by decide) (by decide)) ⟨((up2_k (by decide)).trans up2_s).trans (by rw [ex16, hsq9]; rfl), up2_s.trans (by rw [ex17, hsq9]; rfl)⟩
  exact lp4 (zN z k + 2) 0 S (by omega) (by omega) Fr.rf hm
set_option maxHeartbeats 4000000 in
set_option maxRecDepth 100000 in
theorem kX1_measureAll (g : Glo) (S : PS) (q : Nat → Nat) (hq : Shp S.1 S.2.1 q) (s : Nat) (hs : s < 8) (z : ZZ) (hB : Bz z) (hc : Cs S q s z) : Ct g mX1_measureAll 0 0 [.ref (q 83), .ref (q (10 * s))] S (pV9 (fun S' => Fr S S' q [83, 84] ∧ Ar S' q z ∧ Ms S' q (maF z (nc z)))) := by
  refine Ct.of (by decide) (Nat.le_of_ble_eq_true rfl) (fun Γ hg F T => ?_)
  subst hg
  show G Γ S 0 0 0 [(0, .ref (q 83)), (1, .ref (q (10 * s)))] []
  have hnc := (nc_e hB).2
  refine g_aload_n (k := 0) F 0 rfl dX1_measureAll_0 ?_
  refine g_aload_n (k := 1) F 1 rfl dX1_measureAll_1 ?_
  refine g_callV F (kX1_beginMeasuring Γ.1 S q hq s hs z hB hc) okX1_beginMeasuring (qi83 hq) mw172 ⟨(Nat.le_of_ble_eq_true rfl), (Nat.le_of_ble_eq_true rfl)⟩ rfl rfl (Nat.le_of_ble_eq_true rfl) ⟨(Nat.le_of_ble_eq_true rfl), (Nat.le_of_ble_eq_true rfl)⟩ dX1_measureAll_2 (toV (fun S2 h3 => ?_))
  obtain ⟨fr1, hab, hmb⟩ := h3
  have hq4 : Shp S2.1 S2.2.1 q := Fr.q fr1 hq
  refine g_iconst (v := 0) F (by decide) dX1_measureAll_5 ?_
  refine g_istore_n (k := 2) (L' := [(2, .int 0), (0, .ref (q 83)), (1, .ref (q (10 * s)))]) F dX1_measureAll_6 (Nat.le_of_ble_eq_true rfl) rfl ?_
  have lp5 : ∀ (n9 : Nat) (i : Nat) (S1 : PS), nc z < i + n9 → (i ≤ nc z) → (Fr S S1 q [83, 84]) → (Ar S1 q z) → (Ms S1 q (maF z i)) → G Γ S1 0 0 7 [(2, .int (nI i)), (0, .ref (q 83)), (1, .ref (q (10 * s)))] [] := by
    intro n9
    induction n9 with
    | zero =>
      intro i S1 hm9 hi hf haf hm1
      exact absurd hm9 (by omega)
    | succ n9 ihlp5 =>
      intro i S1 hm9 hi hf haf hm1
      have hq6 : Shp S1.1 S1.2.1 q := Fr.q hf hq
      refine g_iload_n (k := 2) F 0 rfl dX1_measureAll_7 ?_
      refine g_aload_n (k := 1) F 2 rfl dX1_measureAll_8 ?_
      refine gfX1_29 F (qs0 hq6 hs) (qt0_4 hq6 hs) dX1_measureAll_9 ?_
      refine gfX1_35e F (qs2 hq6 hs) (Cs.fr (s := s) hs hf (by intro i hi h; simp at h; omega) hc).n dX1_measureAll_12 ?_
      refine g_icmp_ge (t := 30) F dX1_measureAll_15 (by decide) (fun c7 => ?_) (fun c7 => ?_)
      · obtain rfl : i = nc z := by
          rw [nI_leI (by omega) (by omega)] at c7
          omega
        refine g_vret F T ⟨rfl, ?_⟩ (Nat.le_of_ble_eq_true rfl) (Nat.le_of_ble_eq_true rfl) dX1_measureAll_30
        exact ⟨hf, haf, hm1⟩
      · have hi9 : i < nc z := by
          rw [nI_leI (by omega) (by omega)] at c7
          omega
        have hnx := nx_lt hi9
        refine g_aload_n (k := 0) F 1 rfl dX1_measureAll_18 ?_
        refine g_aload_n (k := 1) F 2 rfl dX1_measureAll_19 ?_
        refine g_iload_n (k := 2) F 0 rfl dX1_measureAll_20 ?_
        refine g_callV F (kX1_measure Γ.1 S1 q hq6 s hs z hB (Cs.fr (s := s) (l := [83, 84]) (by first | decide | omega) hf (by first | decide | (intro i hi h; simp at h; omega)) hc) i hi9 haf _ hm1) okX1_measure (qi83 hq6) mw188 ⟨(Nat.le_of_ble_eq_true rfl), (Nat.le_of_ble_eq_true rfl)⟩ rfl rfl (Nat.le_of_ble_eq_true rfl) ⟨(Nat.le_of_ble_eq_true rfl), (Nat.le_of_ble_eq_true rfl)⟩ dX1_measureAll_21 (toV (fun S9 h10 => ?_))
        obtain ⟨fr8, mr8⟩ := h10
        have hq11 : Shp S9.1 S9.2.1 q := Fr.q fr8 hq6
        obtain ⟨x12, ex12⟩ : ∃ y9 : Int32, y9 = (nI i) + 1 := ⟨_, rfl⟩
        refine g_iinc (k := 0) (v := x12) (L' := [(2, .int x12), (0, .ref (q 83)), (1, .ref (q (10 * s)))]) F dX1_measureAll_24 rfl (by rw [ex12]; rfl) (Nat.le_of_ble_eq_true rfl) rfl ?_
        refine g_goto (t := 7) F dX1_measureAll_27 (by decide) ?_
        obtain rfl : x12 = nI (i + 1) := (ex12.trans (nI_1 _))
        refine g_sub (L' := [(2, .int (nI (i + 1))), (0, .ref (q 83)), (1, .ref (q (10 * s)))]) [0, 1, 2] rfl ?_
        exact ihlp5 (i + 1) (S9) (by omega) (by omega) (Fr.tr (l := [83, 84]) hf fr8 (by decide) (by decide)) (Ar.fr fr8 (by decide) haf) mr8
  exact lp5 (nc z + 1) 0 S2 (by omega) (by omega) (Fr.tr (l := [83, 84]) Fr.rf fr1 (by decide) (by decide)) hab hmb
set_option maxHeartbeats 4000000 in
set_option maxRecDepth 100000 in
theorem kX1_reachesMeasured (g : Glo) (S : PS) (q : Nat → Nat) (hq : Shp S.1 S.2.1 q) (z : ZZ) (ha : Ar S q z) (a : Int64 × Int64) (hm : Ms S q a) (hb : a.1.toInt < 16000000000000 ∧ a.2.toInt < 16000000000000) : Ct g mX1_reachesMeasured 0 0 [.ref (q 83)] S (pI9 (fun r S' => (r = 1 ∧ (sp (16 * z 2) (16 * z 3) (rt a.1) ∧ sp (16 * z 2) (16 * z 3) (rt a.2)) ∨ r = 0 ∧ ¬ (sp (16 * z 2) (16 * z 3) (rt a.1) ∧ sp (16 * z 2) (16 * z 3) (rt a.2))) ∧ S = S')) := by
  refine Ct.of (by decide) (Nat.le_of_ble_eq_true rfl) (fun Γ hg F T => ?_)
  subst hg
  show G Γ S 0 0 0 [(0, .ref (q 83))] []
  refine g_aload_n (k := 0) F 0 rfl dX1_reachesMeasured_0 ?_
  refine gfX1_12 F (qi83 hq) (qr83_0 hq) dX1_reachesMeasured_1 ?_
  refine g_aload_n (k := 0) F 0 rfl dX1_reachesMeasured_4 ?_
  refine gfX1_54e F (qi83 hq) hm.1 dX1_reachesMeasured_5 ?_
  refine g_callSN (host := "PolarPlanimeter") F (kX9_root Γ.1 _ a.1 hb.1) okX9_root nwM44 ⟨(Nat.le_of_ble_eq_true rfl), (Nat.le_of_ble_eq_true rfl)⟩ rfl rfl (Nat.le_of_ble_eq_true rfl) ⟨(Nat.le_of_ble_eq_true rfl), (Nat.le_of_ble_eq_true rfl)⟩ dX1_reachesMeasured_8 (toJ (fun r1 S2 h3 => ?_))
  obtain ⟨er1, rfl⟩ := h3
  refine g_callVN (host := "PolarPlanimeter") F (kX0_spans Γ.1 S q hq z ha r1) okX0_spans (qi84 hq) nwM45 ⟨(Nat.le_of_ble_eq_true rfl), (Nat.le_of_ble_eq_true rfl)⟩ rfl rfl (Nat.le_of_ble_eq_true rfl) ⟨(Nat.le_of_ble_eq_true rfl), (Nat.le_of_ble_eq_true rfl)⟩ dX1_reachesMeasured_11 (toI (fun r4 S5 h6 => ?_))
  obtain ⟨er4, rfl⟩ := h6
  refine g_if_eq (t := 38) F dX1_reachesMeasured_14 (by decide) (fun c7 => ?_) (fun c7 => ?_)
  · have g1 := w0 er4 c7
    refine g_iconst (v := 0) F (by decide) dX1_reachesMeasured_38 ?_
    refine g_zret F T rfl ⟨_, rfl, ?_⟩ (Nat.le_of_ble_eq_true rfl) (Nat.le_of_ble_eq_true rfl) dX1_reachesMeasured_39
    exact ⟨.inr ⟨rfl, fun h => g1 (by rw [er1]; exact h.1)⟩, rfl⟩
  · have g1 := w1 er4 c7
    refine g_aload_n (k := 0) F 0 rfl dX1_reachesMeasured_17 ?_
    refine gfX1_12 F (qi83 hq) (qr83_0 hq) dX1_reachesMeasured_18 ?_
    refine g_aload_n (k := 0) F 0 rfl dX1_reachesMeasured_21 ?_
    refine gfX1_58e F (qi83 hq) hm.2 dX1_reachesMeasured_22 ?_
    refine g_callSN (host := "PolarPlanimeter") F (kX9_root Γ.1 _ a.2 hb.2) okX9_root nwM44 ⟨(Nat.le_of_ble_eq_true rfl), (Nat.le_of_ble_eq_true rfl)⟩ rfl rfl (Nat.le_of_ble_eq_true rfl) ⟨(Nat.le_of_ble_eq_true rfl), (Nat.le_of_ble_eq_true rfl)⟩ dX1_reachesMeasured_25 (toJ (fun r8 S9 h10 => ?_))
    obtain ⟨er8, rfl⟩ := h10
    refine g_callVN (host := "PolarPlanimeter") F (kX0_spans Γ.1 S q hq z ha r8) okX0_spans (qi84 hq) nwM45 ⟨(Nat.le_of_ble_eq_true rfl), (Nat.le_of_ble_eq_true rfl)⟩ rfl rfl (Nat.le_of_ble_eq_true rfl) ⟨(Nat.le_of_ble_eq_true rfl), (Nat.le_of_ble_eq_true rfl)⟩ dX1_reachesMeasured_28 (toI (fun r11 S12 h13 => ?_))
    obtain ⟨er11, rfl⟩ := h13
    refine g_if_eq (t := 38) F dX1_reachesMeasured_31 (by decide) (fun c14 => ?_) (fun c14 => ?_)
    · have g2 := w0 er11 c14
      refine g_iconst (v := 0) F (by decide) dX1_reachesMeasured_38 ?_
      refine g_zret F T rfl ⟨_, rfl, ?_⟩ (Nat.le_of_ble_eq_true rfl) (Nat.le_of_ble_eq_true rfl) dX1_reachesMeasured_39
      exact ⟨.inr ⟨rfl, fun h => g2 (by rw [er8]; exact h.2)⟩, rfl⟩
    · have g2 := w1 er11 c14
      refine g_iconst (v := 1) F (by decide) dX1_reachesMeasured_34 ?_
      refine g_goto (t := 39) F dX1_reachesMeasured_35 (by decide) ?_
      refine g_zret F T rfl ⟨_, rfl, ?_⟩ (Nat.le_of_ble_eq_true rfl) (Nat.le_of_ble_eq_true rfl) dX1_reachesMeasured_39
      exact ⟨.inl ⟨rfl, by rw [er1] at g1; exact g1, by rw [er8] at g2; exact g2⟩, rfl⟩
