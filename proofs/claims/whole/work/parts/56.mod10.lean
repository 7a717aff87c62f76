set_option maxHeartbeats 4000000 in
set_option maxRecDepth 100000 in
theorem kX10_isCorner (g : Glo) (S : PS) (q : Nat → Nat) (hq : Shp S.1 S.2.1 q) (z : ZZ) (hz : pJ S (q 95) = z) (hB : Bz z) (k : Int32) : Ct g mX10_isCorner 0 0 [.ref (q 94), .int k] S (pI9 (fun r S' => r = (if isC z k then 1 else 0) ∧ S = S')) := by
  refine Ct.of (by decide) (Nat.le_of_ble_eq_true rfl) (fun Γ hg F T => ?_)
  subst hg
  show G Γ S 0 0 0 [(0, .ref (q 94)), (1, .int k)] []
  refine g_iload_n (k := 1) F 1 rfl dX10_isCorner_0 ?_
  refine g_i2l F dX10_isCorner_1 ?_
  refine g_lconst (v := 0) F (by decide) dX10_isCorner_2 ?_
  refine g_aload_n (k := 0) F 0 rfl dX10_isCorner_3 ?_
  refine g_callV F (kX10_corners Γ.1 _ q hq z hz hB ) okX10_corners (qi94 hq) mw247 ⟨(Nat.le_of_ble_eq_true rfl), (Nat.le_of_ble_eq_true rfl)⟩ rfl rfl (Nat.le_of_ble_eq_true rfl) ⟨(Nat.le_of_ble_eq_true rfl), (Nat.le_of_ble_eq_true rfl)⟩ dX10_isCorner_4 (toI (fun r1 S2 h3 => ?_))
  obtain ⟨rfl, rfl⟩ := h3
  refine g_iconst (v := 1) F (by decide) dX10_isCorner_7 ?_
  refine g_isub F dX10_isCorner_8 ?_
  refine g_i2l F dX10_isCorner_9 ?_
  refine g_callS F (kX10_within Γ.1 _ _ _ _) okX10_within mw158 ⟨(Nat.le_of_ble_eq_true rfl), (Nat.le_of_ble_eq_true rfl)⟩ rfl rfl (Nat.le_of_ble_eq_true rfl) ⟨(Nat.le_of_ble_eq_true rfl), (Nat.le_of_ble_eq_true rfl)⟩ dX10_isCorner_10 (toI (fun r4 S5 h6 => ?_))
  obtain ⟨er4, rfl⟩ := h6
  refine g_zret F T (by rw [er4]; split <;> rfl) ⟨_, rfl, ?_⟩ (Nat.le_of_ble_eq_true rfl) (Nat.le_of_ble_eq_true rfl) dX10_isCorner_13
  exact ⟨wI_e er4 (by decide) (nc_m1 (nc_e hB).2), rfl⟩
set_option maxHeartbeats 4000000 in
set_option maxRecDepth 100000 in
theorem kX10_isSetting (g : Glo) (S : PS) (k : Int32) : Ct g mX10_isSetting 0 0 [.int k] S (pI9 (fun r S' => r = (if 0 ≤ k.toInt ∧ k.toInt ≤ 4 then 1 else 0) ∧ S = S')) := by
  refine Ct.of (by decide) (Nat.le_of_ble_eq_true rfl) (fun Γ hg F T => ?_)
  subst hg
  show G Γ S 0 0 0 [(0, .int k)] []
  refine g_iload_n (k := 0) F 0 rfl dX10_isSetting_0 ?_
  refine g_i2l F dX10_isSetting_1 ?_
  refine g_lconst (v := 0) F (by decide) dX10_isSetting_2 ?_
  refine g_ldc2 F mw199 dX10_isSetting_3 ?_
  refine g_callS F (kX10_within Γ.1 _ _ _ _) okX10_within mw158 ⟨(Nat.le_of_ble_eq_true rfl), (Nat.le_of_ble_eq_true rfl)⟩ rfl rfl (Nat.le_of_ble_eq_true rfl) ⟨(Nat.le_of_ble_eq_true rfl), (Nat.le_of_ble_eq_true rfl)⟩ dX10_isSetting_6 (toI (fun r1 S2 h3 => ?_))
  obtain ⟨er1, rfl⟩ := h3
  refine g_zret F T (by rw [er1]; split <;> rfl) ⟨_, rfl, ?_⟩ (Nat.le_of_ble_eq_true rfl) (Nat.le_of_ble_eq_true rfl) dX10_isSetting_9
  exact ⟨wI_e er1 (by decide) (by decide), rfl⟩
set_option maxHeartbeats 4000000 in
set_option maxRecDepth 100000 in
theorem kX10_isValue (g : Glo) (S : PS) (k v : Int32) : Ct g mX10_isValue 0 0 [.int k, .int v] S (pI9 (fun r S' => r = (if vOk k v then 1 else 0) ∧ S = S')) := by
  refine Ct.of (by decide) (Nat.le_of_ble_eq_true rfl) (fun Γ hg F T => ?_)
  subst hg
  show G Γ S 0 0 0 [(0, .int k), (1, .int v)] []
  refine g_iload_n (k := 0) F 0 rfl dX10_isValue_0 ?_
  by_cases w1_0 : k = 0
  · refine g_tin (off := 31) (t := 32) F dX10_isValue_1 (by rw [w1_0]; decide) (by rw [w1_0]; decide) (by rw [w1_0]; decide) (by decide) ?_
    refine g_iload_n (k := 1) F 1 rfl dX10_isValue_32 ?_
    refine g_i2l F dX10_isValue_33 ?_
    refine g_ldc2 F mw111 dX10_isValue_34 ?_
    refine g_ldc2 F mw203 dX10_isValue_37 ?_
    refine g_callS F (kX10_within Γ.1 _ _ _ _) okX10_within mw158 ⟨(Nat.le_of_ble_eq_true rfl), (Nat.le_of_ble_eq_true rfl)⟩ rfl rfl (Nat.le_of_ble_eq_true rfl) ⟨(Nat.le_of_ble_eq_true rfl), (Nat.le_of_ble_eq_true rfl)⟩ dX10_isValue_40 (toI (fun r2 S3 h4 => ?_))
    obtain ⟨er2, rfl⟩ := h4
    refine g_zret F T (by rw [er2]; split <;> rfl) ⟨_, rfl, ?_⟩ (Nat.le_of_ble_eq_true rfl) (Nat.le_of_ble_eq_true rfl) dX10_isValue_43
    exact ⟨wI_e er2 (by rw [w1_0]; decide) (by rw [w1_0]; decide), rfl⟩
  by_cases w1_1 : k = 1
  · refine g_tin (off := 31) (t := 32) F dX10_isValue_1 (by rw [w1_1]; decide) (by rw [w1_1]; decide) (by rw [w1_1]; decide) (by decide) ?_
    refine g_iload_n (k := 1) F 1 rfl dX10_isValue_32 ?_
    refine g_i2l F dX10_isValue_33 ?_
    refine g_ldc2 F mw111 dX10_isValue_34 ?_
    refine g_ldc2 F mw203 dX10_isValue_37 ?_
    refine g_callS F (kX10_within Γ.1 _ _ _ _) okX10_within mw158 ⟨(Nat.le_of_ble_eq_true rfl), (Nat.le_of_ble_eq_true rfl)⟩ rfl rfl (Nat.le_of_ble_eq_true rfl) ⟨(Nat.le_of_ble_eq_true rfl), (Nat.le_of_ble_eq_true rfl)⟩ dX10_isValue_40 (toI (fun r5 S6 h7 => ?_))
    obtain ⟨er5, rfl⟩ := h7
    refine g_zret F T (by rw [er5]; split <;> rfl) ⟨_, rfl, ?_⟩ (Nat.le_of_ble_eq_true rfl) (Nat.le_of_ble_eq_true rfl) dX10_isValue_43
    exact ⟨wI_e er5 (by rw [w1_1]; decide) (by rw [w1_1]; decide), rfl⟩
  by_cases w1_2 : k = 2
  · refine g_tin (off := 43) (t := 44) F dX10_isValue_1 (by rw [w1_2]; decide) (by rw [w1_2]; decide) (by rw [w1_2]; decide) (by decide) ?_
    refine g_iload_n (k := 1) F 1 rfl dX10_isValue_44 ?_
    refine g_i2l F dX10_isValue_45 ?_
    refine g_ldc2 F mw204 dX10_isValue_46 ?_
    refine g_ldc2 F mw111 dX10_isValue_49 ?_
    refine g_callS F (kX10_within Γ.1 _ _ _ _) okX10_within mw158 ⟨(Nat.le_of_ble_eq_true rfl), (Nat.le_of_ble_eq_true rfl)⟩ rfl rfl (Nat.le_of_ble_eq_true rfl) ⟨(Nat.le_of_ble_eq_true rfl), (Nat.le_of_ble_eq_true rfl)⟩ dX10_isValue_52 (toI (fun r8 S9 h10 => ?_))
    obtain ⟨er8, rfl⟩ := h10
    refine g_zret F T (by rw [er8]; split <;> rfl) ⟨_, rfl, ?_⟩ (Nat.le_of_ble_eq_true rfl) (Nat.le_of_ble_eq_true rfl) dX10_isValue_55
    exact ⟨wI_e er8 (by rw [w1_2]; decide) (by rw [w1_2]; decide), rfl⟩
  by_cases w1_3 : k = 3
  · refine g_tin (off := 55) (t := 56) F dX10_isValue_1 (by rw [w1_3]; decide) (by rw [w1_3]; decide) (by rw [w1_3]; decide) (by decide) ?_
    refine g_iload_n (k := 1) F 1 rfl dX10_isValue_56 ?_
    refine g_i2l F dX10_isValue_57 ?_
    refine g_lconst (v := 0) F (by decide) dX10_isValue_58 ?_
    refine g_lconst (v := 1) F (by decide) dX10_isValue_59 ?_
    refine g_callS F (kX10_within Γ.1 _ _ _ _) okX10_within mw158 ⟨(Nat.le_of_ble_eq_true rfl), (Nat.le_of_ble_eq_true rfl)⟩ rfl rfl (Nat.le_of_ble_eq_true rfl) ⟨(Nat.le_of_ble_eq_true rfl), (Nat.le_of_ble_eq_true rfl)⟩ dX10_isValue_60 (toI (fun r11 S12 h13 => ?_))
    obtain ⟨er11, rfl⟩ := h13
    refine g_zret F T (by rw [er11]; split <;> rfl) ⟨_, rfl, ?_⟩ (Nat.le_of_ble_eq_true rfl) (Nat.le_of_ble_eq_true rfl) dX10_isValue_63
    exact ⟨wI_e er11 (by rw [w1_3]; decide) (by rw [w1_3]; decide), rfl⟩
  refine g_tout (t := 64) F dX10_isValue_1 (by have a0 : ¬ (k : Int32).toInt = 0 := fun h9 => w1_0 (Int32.toInt_inj.mp h9); have a1 : ¬ (k : Int32).toInt = 1 := fun h9 => w1_1 (Int32.toInt_inj.mp h9); have a2 : ¬ (k : Int32).toInt = 2 := fun h9 => w1_2 (Int32.toInt_inj.mp h9); have a3 : ¬ (k : Int32).toInt = 3 := fun h9 => w1_3 (Int32.toInt_inj.mp h9); omega) (by decide) ?_
  refine g_iload_n (k := 1) F 1 rfl dX10_isValue_64 ?_
  refine g_i2l F dX10_isValue_65 ?_
  refine g_lconst (v := 0) F (by decide) dX10_isValue_66 ?_
  refine g_ldc2 F mw205 dX10_isValue_67 ?_
  refine g_callS F (kX10_within Γ.1 _ _ _ _) okX10_within mw158 ⟨(Nat.le_of_ble_eq_true rfl), (Nat.le_of_ble_eq_true rfl)⟩ rfl rfl (Nat.le_of_ble_eq_true rfl) ⟨(Nat.le_of_ble_eq_true rfl), (Nat.le_of_ble_eq_true rfl)⟩ dX10_isValue_70 (toI (fun r14 S15 h16 => ?_))
  obtain ⟨er14, rfl⟩ := h16
  refine g_zret F T (by rw [er14]; split <;> rfl) ⟨_, rfl, ?_⟩ (Nat.le_of_ble_eq_true rfl) (Nat.le_of_ble_eq_true rfl) dX10_isValue_73
  exact ⟨wI_e er14 (by unfold vLo; rw [if_neg (fun h => h.elim w1_0 w1_1), if_neg w1_2]; decide) (by unfold vHi; rw [if_neg (fun h => h.elim w1_0 w1_1), if_neg w1_2, if_neg w1_3]; decide), rfl⟩
set_option maxHeartbeats 4000000 in
set_option maxRecDepth 100000 in
theorem kX10_isPoint (g : Glo) (S : PS) (x y : Int32) : Ct g mX10_isPoint 0 0 [.int x, .int y] S (pI9 (fun r S' => r = (if isPt x y then 1 else 0) ∧ S = S')) := by
  refine Ct.of (by decide) (Nat.le_of_ble_eq_true rfl) (fun Γ hg F T => ?_)
  subst hg
  show G Γ S 0 0 0 [(0, .int x), (1, .int y)] []
  refine g_iload_n (k := 0) F 0 rfl dX10_isPoint_0 ?_
  refine g_i2l F dX10_isPoint_1 ?_
  refine g_ldc2 F mw254 dX10_isPoint_2 ?_
  refine g_ldc2 F mw109 dX10_isPoint_5 ?_
  refine g_callS F (kX10_within Γ.1 _ _ _ _) okX10_within mw158 ⟨(Nat.le_of_ble_eq_true rfl), (Nat.le_of_ble_eq_true rfl)⟩ rfl rfl (Nat.le_of_ble_eq_true rfl) ⟨(Nat.le_of_ble_eq_true rfl), (Nat.le_of_ble_eq_true rfl)⟩ dX10_isPoint_8 (toI (fun r1 S2 h3 => ?_))
  obtain ⟨er1, rfl⟩ := h3
  have jn5 : ∀ (w33 : Int32), w33 = (if isPt x y then 1 else 0) → G Γ S 0 0 33 [(0, .int x), (1, .int y)] [.int w33] := by
    intro w33 ht
    refine g_zret F T (by rw [ht]; split <;> rfl) ⟨_, rfl, ?_⟩ (Nat.le_of_ble_eq_true rfl) (Nat.le_of_ble_eq_true rfl) dX10_isPoint_33
    exact ⟨ht, rfl⟩
  refine g_if_eq (t := 32) F dX10_isPoint_11 (by decide) (fun c4 => ?_) (fun c4 => ?_)
  · have ha9 := wI_f (lo := -1000) (hi := 1000) er1 c4 (by decide) (by decide)
    refine g_iconst (v := 0) F (by decide) dX10_isPoint_32 ?_
    exact jn5 (0) (by rw [if_neg (fun h => ha9 h.1)])
  · have ha9 := wI_t (lo := -1000) (hi := 1000) er1 c4 (by decide) (by decide)
    refine g_iload_n (k := 1) F 1 rfl dX10_isPoint_14 ?_
    refine g_i2l F dX10_isPoint_15 ?_
    refine g_ldc2 F mw254 dX10_isPoint_16 ?_
    refine g_ldc2 F mw109 dX10_isPoint_19 ?_
    refine g_callS F (kX10_within Γ.1 _ _ _ _) okX10_within mw158 ⟨(Nat.le_of_ble_eq_true rfl), (Nat.le_of_ble_eq_true rfl)⟩ rfl rfl (Nat.le_of_ble_eq_true rfl) ⟨(Nat.le_of_ble_eq_true rfl), (Nat.le_of_ble_eq_true rfl)⟩ dX10_isPoint_22 (toI (fun r6 S7 h8 => ?_))
    obtain ⟨er6, rfl⟩ := h8
    refine g_if_eq (t := 32) F dX10_isPoint_25 (by decide) (fun c9 => ?_) (fun c9 => ?_)
    · have hb9 := wI_f (lo := -1000) (hi := 1000) er6 c9 (by decide) (by decide)
      refine g_iconst (v := 0) F (by decide) dX10_isPoint_32 ?_
      exact jn5 (0) (by rw [if_neg (fun h => hb9 h.2)])
    · have hb9 := wI_t (lo := -1000) (hi := 1000) er6 c9 (by decide) (by decide)
      refine g_iconst (v := 1) F (by decide) dX10_isPoint_28 ?_
      refine g_goto (t := 33) F dX10_isPoint_29 (by decide) ?_
      exact jn5 (1) (by rw [if_pos ⟨ha9, hb9⟩])
set_option maxHeartbeats 4000000 in
set_option maxRecDepth 100000 in
theorem kX10_setAnchor (g : Glo) (S : PS) (q : Nat → Nat) (hq : Shp S.1 S.2.1 q) (z : ZZ) (hz : pJ S (q 95) = z) (hB : Bz z) (H : List ZZ) (l : Int32) (n : Nat) (tx : Nat → Int32) (hm : Mo S q z H l n tx) (a b : Int32) : Ct g mX10_setAnchor 0 0 [.ref (q 94), .int a, .int b] S (pI9 (fun r S' => r = (oAnc a b (z, H, l, n, tx)).2.1 ∧ Fr S S' q [94, 95, 96] ∧ pI S' (q 94) 0 = (oAnc a b (z, H, l, n, tx)).1 ∧ Mw S' q (oAnc a b (z, H, l, n, tx)).2.2)) := by
  refine Ct.of (by decide) (Nat.le_of_ble_eq_true rfl) (fun Γ hg F T => ?_)
  subst hg
  show G Γ S 0 0 0 [(0, .ref (q 94)), (1, .int a), (2, .int b)] []
  refine g_aload_n (k := 0) F 0 rfl dX10_setAnchor_0 ?_
  refine g_iload_n (k := 1) F 1 rfl dX10_setAnchor_1 ?_
  refine g_i2l F dX10_setAnchor_2 ?_
  refine g_ldc2 F mw155 dX10_setAnchor_3 ?_
  refine g_ldc2 F mw156 dX10_setAnchor_6 ?_
  refine g_callS F (kX10_within Γ.1 _ _ _ _) okX10_within mw158 ⟨(Nat.le_of_ble_eq_true rfl), (Nat.le_of_ble_eq_true rfl)⟩ rfl rfl (Nat.le_of_ble_eq_true rfl) ⟨(Nat.le_of_ble_eq_true rfl), (Nat.le_of_ble_eq_true rfl)⟩ dX10_setAnchor_9 (toI (fun r1 S2 h3 => ?_))
  obtain ⟨er1, rfl⟩ := h3
  have jn5 : ∀ (w34 : Int32), w34 = tAnc a b → G Γ S 0 0 34 [(0, .ref (q 94)), (1, .int a), (2, .int b)] [.int w34, .ref (q 94)] := by
    intro w34 ht
    refine pfX10_35 F (qi94 hq) dX10_setAnchor_34 ?_
    refine g_aload_n (k := 0) F 0 rfl dX10_setAnchor_37 ?_
    refine gfX10_35e F (qi94 hq) up2_s dX10_setAnchor_38 ?_
    refine g_if_le (t := 46) F dX10_setAnchor_41 (by decide) (fun c6 => ?_) (fun c6 => ?_)
    · have ht0 : tAnc a b = 0 := tAnc_0 (ht ▸ c6)
      refine g_aload_n (k := 0) F 0 rfl dX10_setAnchor_46 ?_
      refine g_callV F (kX10_save Γ.1 (wI S (q 94) 0 w34) q hq z hz hB H (Sv_of hm.2.1 ((up2_k (by decide)).trans rfl) rfl)) okX10_save (qi94 hq) mw161 ⟨(Nat.le_of_ble_eq_true rfl), (Nat.le_of_ble_eq_true rfl)⟩ rfl rfl (Nat.le_of_ble_eq_true rfl) ⟨(Nat.le_of_ble_eq_true rfl), (Nat.le_of_ble_eq_true rfl)⟩ dX10_setAnchor_47 (toV (fun S8 h9 => ?_))
      obtain ⟨fr7, gr7, jr7, vr7⟩ := h9
      have hq10 : Shp S8.1 S8.2.1 q := Fr.q fr7 hq
      refine g_aload_n (k := 0) F 0 rfl dX10_setAnchor_50 ?_
      refine gfX10_7 F (qi94 hq10) (qr94_1 hq10) dX10_setAnchor_51 ?_
      refine g_iconst (v := 0) F (by decide) dX10_setAnchor_54 ?_
      refine g_iload_n (k := 1) F 1 rfl dX10_setAnchor_55 ?_
      refine g_i2l F dX10_setAnchor_56 ?_
      refine g_last (j := 0) F (qi95 hq10) rfl (by rw [(qn95 hq10)]; omega) (by rw [(qn95 hq10)]; decide) dX10_setAnchor_57 ?_
      refine g_aload_n (k := 0) F 0 rfl dX10_setAnchor_58 ?_
      refine gfX10_7 F (qi94 hq10) (qr94_1 hq10) dX10_setAnchor_59 ?_
      refine g_iconst (v := 1) F (by decide) dX10_setAnchor_62 ?_
      refine g_iload_n (k := 2) F 2 rfl dX10_setAnchor_63 ?_
      refine g_i2l F dX10_setAnchor_64 ?_
      refine g_last (j := 1) F (qi95 hq10) rfl (by rw [(qn95 hq10)]; omega) (by rw [(qn95 hq10)]; decide) dX10_setAnchor_65 ?_
      refine g_aload_n (k := 0) F 0 rfl dX10_setAnchor_66 ?_
      refine g_callV F (kX10_dropRuns Γ.1 (wJ (wJ S8 (q 95) (0) (a).toInt64) (q 95) (1) (b).toInt64) q hq10 _ (up2_updL.trans (congrArg (fun f9 => vp_updL f9 (1) (b).toInt64) (up2_updL.trans (congrArg (fun f9 => vp_updL f9 (0) (a).toInt64) ((fr7.2.2 (95) (by decide) (by decide)).2.trans hz))))) (B_anc hB ht0)) okX10_dropRuns (qi94 hq10) mw166 ⟨(Nat.le_of_ble_eq_true rfl), (Nat.le_of_ble_eq_true rfl)⟩ rfl rfl (Nat.le_of_ble_eq_true rfl) ⟨(Nat.le_of_ble_eq_true rfl), (Nat.le_of_ble_eq_true rfl)⟩ dX10_setAnchor_67 (toI (fun r11 S12 h13 => ?_))
      obtain ⟨er11, fr11, zr11⟩ := h13
      have hq14 : Shp S12.1 S12.2.1 q := Fr.q fr11 hq10
      refine g_iret F T ⟨_, rfl, ?_⟩ (Nat.le_of_ble_eq_true rfl) (Nat.le_of_ble_eq_true rfl) dX10_setAnchor_70
      rw [show oAnc a b (z, H, l, n, tx) = (0, nI (nr z), (zAnc z a b, psh H z, l, n, tx)) from if_pos ht0]
      exact ⟨(er11.trans rfl), (Fr.tr (l := [94, 95, 96]) (Fr.wJ hq (Fr.wJ hq (Fr.tr (l := [94, 95, 96]) (Fr.wI hq Fr.rf (by decide) (by decide)) fr7 (by decide) (by decide)) (by decide) (by decide)) (by decide) (by decide)) fr11 (by decide) (by decide)), ((congrFun (fr11.2.2 (94) (by decide) (by decide)).1 0).trans ((gr7 0 (by decide)).trans up2_s)).trans (ht.trans ht0), ⟨zr11, Sv_of vr7 ((congrFun (fr11.2.2 (94) (by decide) (by decide)).1 2).trans rfl) ((fr11.2.2 (96) (by decide) (by decide)).2.trans ((up2_r (qne hq10 (by decide) (by decide) (by decide))).trans ((up2_r (qne hq10 (by decide) (by decide) (by decide))).trans rfl))), ((congrFun (fr11.2.2 (94) (by decide) (by decide)).1 4).trans ((gr7 4 (by decide)).trans ((up2_k (by decide)).trans hm.2.2.1))), ((congrFun (fr11.2.2 (94) (by decide) (by decide)).1 5).trans ((gr7 5 (by decide)).trans ((up2_k (by decide)).trans hm.2.2.2.1))), fun j9 hj9 => (congrFun ((fr11.2.2 (97) (by decide) (by decide)).1.trans ((fr7.2.2 (97) (by decide) (by decide)).1.trans ((up2_r (qne hq (by decide) (by decide) (by decide))).trans rfl))) j9).trans (hm.2.2.2.2 j9 hj9)⟩⟩
    · have ht1 : ¬ tAnc a b = 0 := fun h => c6 (by rw [ht, h]; decide)
      refine g_iconst (v := 0) F (by decide) dX10_setAnchor_44 ?_
      refine g_iret F T ⟨_, rfl, ?_⟩ (Nat.le_of_ble_eq_true rfl) (Nat.le_of_ble_eq_true rfl) dX10_setAnchor_45
      rw [show oAnc a b (z, H, l, n, tx) = (tAnc a b, 0, (z, H, l, n, tx)) from if_neg ht1]
      exact ⟨rfl, (Fr.wI hq Fr.rf (by decide) (by decide)), up2_s.trans ht, ⟨hz, Sv_of hm.2.1 ((up2_k (by decide)).trans rfl) rfl, ((up2_k (by decide)).trans hm.2.2.1), ((up2_k (by decide)).trans hm.2.2.2.1), fun j9 hj9 => (congrFun ((up2_r (qne hq (by decide) (by decide) (by decide))).trans rfl) j9).trans (hm.2.2.2.2 j9 hj9)⟩⟩
  refine g_if_eq (t := 33) F dX10_setAnchor_12 (by decide) (fun c4 => ?_) (fun c4 => ?_)
  · have ha9 := wI_f (lo := -2000) (hi := 2000) er1 c4 (by decide) (by decide)
    refine g_iconst (v := 1) F (by decide) dX10_setAnchor_33 ?_
    exact jn5 (1) (by unfold tAnc; rw [if_neg (fun h => ha9 h.1)])
  · have ha9 := wI_t (lo := -2000) (hi := 2000) er1 c4 (by decide) (by decide)
    refine g_iload_n (k := 2) F 2 rfl dX10_setAnchor_15 ?_
    refine g_i2l F dX10_setAnchor_16 ?_
    refine g_ldc2 F mw155 dX10_setAnchor_17 ?_
    refine g_ldc2 F mw156 dX10_setAnchor_20 ?_
    refine g_callS F (kX10_within Γ.1 _ _ _ _) okX10_within mw158 ⟨(Nat.le_of_ble_eq_true rfl), (Nat.le_of_ble_eq_true rfl)⟩ rfl rfl (Nat.le_of_ble_eq_true rfl) ⟨(Nat.le_of_ble_eq_true rfl), (Nat.le_of_ble_eq_true rfl)⟩ dX10_setAnchor_23 (toI (fun r15 S16 h17 => ?_))
    obtain ⟨er15, rfl⟩ := h17
    refine g_if_eq (t := 33) F dX10_setAnchor_26 (by decide) (fun c18 => ?_) (fun c18 => ?_)
    · have hb9 := wI_f (lo := -2000) (hi := 2000) er15 c18 (by decide) (by decide)
      refine g_iconst (v := 1) F (by decide) dX10_setAnchor_33 ?_
      exact jn5 (1) (by unfold tAnc; rw [if_neg (fun h => hb9 h.2)])
    · have hb9 := wI_t (lo := -2000) (hi := 2000) er15 c18 (by decide) (by decide)
      refine g_iconst (v := 0) F (by decide) dX10_setAnchor_29 ?_
      refine g_goto (t := 34) F dX10_setAnchor_30 (by decide) ?_
      exact jn5 (0) (by unfold tAnc; rw [if_pos ⟨ha9, hb9⟩])
set_option maxHeartbeats 4000000 in
set_option maxRecDepth 100000 in
theorem kX10_replaced (g : Glo) (S : PS) (q : Nat → Nat) (hq : Shp S.1 S.2.1 q) (z : ZZ) (hz : pJ S (q 95) = z) (hB : Bz z) (H : List ZZ) (l : Int32) (n : Nat) (tx : Nat → Int32) (hm : Mo S q z H l n tx) (j : Nat) (hj : j < 106) (v : Int32) : Ct g mX10_replaced 0 0 [.ref (q 94), .int (nI j), .int v] S (pI9 (fun r S' => r = (z j).toInt32 ∧ Fr S S' q [94, 95, 96] ∧ pI S' (q 94) 0 = pI S (q 94) 0 ∧ Mw S' q (vp_updL z j v.toInt64, psh H z, l, n, tx))) := by
  refine Ct.of (by decide) (Nat.le_of_ble_eq_true rfl) (fun Γ hg F T => ?_)
  subst hg
  show G Γ S 0 0 0 [(0, .ref (q 94)), (1, .int (nI j)), (2, .int v)] []
  refine g_aload_n (k := 0) F 0 rfl dX10_replaced_0 ?_
  refine g_callV F (kX10_save Γ.1 S q hq z hz hB H (Sv_of hm.2.1 rfl rfl)) okX10_save (qi94 hq) mw161 ⟨(Nat.le_of_ble_eq_true rfl), (Nat.le_of_ble_eq_true rfl)⟩ rfl rfl (Nat.le_of_ble_eq_true rfl) ⟨(Nat.le_of_ble_eq_true rfl), (Nat.le_of_ble_eq_true rfl)⟩ dX10_replaced_1 (toV (fun S2 h3 => ?_))
  obtain ⟨fr1, gr1, jr1, vr1⟩ := h3
  have hq4 : Shp S2.1 S2.2.1 q := Fr.q fr1 hq
  refine g_aload_n (k := 0) F 0 rfl dX10_replaced_4 ?_
  refine gfX10_7 F (qi94 hq4) (qr94_1 hq4) dX10_replaced_5 ?_
  refine g_iload_n (k := 1) F 1 rfl dX10_replaced_8 ?_
  refine g_lalde ((fr1.2.2 (95) (by decide) (by decide)).2.trans hz) (j := j) F (qi95 hq4) rfl (by rw [(qn95 hq4)]; omega) (by rw [(qn95 hq4)]; decide) dX10_replaced_9 ?_
  refine g_l2i F dX10_replaced_10 ?_
  refine g_topi (fun x5 ex5 => ?_)
  refine g_istore_n (k := 3) (L' := [(3, .int x5), (0, .ref (q 94)), (1, .int (nI j)), (2, .int v)]) F dX10_replaced_11 (Nat.le_of_ble_eq_true rfl) rfl ?_
  refine g_aload_n (k := 0) F 1 rfl dX10_replaced_12 ?_
  refine gfX10_7 F (qi94 hq4) (qr94_1 hq4) dX10_replaced_13 ?_
  refine g_iload_n (k := 1) F 2 rfl dX10_replaced_16 ?_
  refine g_iload_n (k := 2) F 3 rfl dX10_replaced_17 ?_
  refine g_i2l F dX10_replaced_18 ?_
  refine g_last (j := j) F (qi95 hq4) rfl (by rw [(qn95 hq4)]; omega) (by rw [(qn95 hq4)]; decide) dX10_replaced_19 ?_
  refine g_iload_n (k := 3) F 0 rfl dX10_replaced_20 ?_
  refine g_iret F T ⟨_, rfl, ?_⟩ (Nat.le_of_ble_eq_true rfl) (Nat.le_of_ble_eq_true rfl) dX10_replaced_21
  exact ⟨by rw [ex5], (Fr.wJ hq (Fr.tr (l := [94, 95, 96]) Fr.rf fr1 (by decide) (by decide)) (by decide) (by decide)), ((gr1 0 (by decide)).trans rfl), ⟨(up2_updL.trans (congrArg (fun f9 => vp_updL f9 (j) (v).toInt64) ((fr1.2.2 (95) (by decide) (by decide)).2.trans hz))), Sv_of vr1 rfl ((up2_r (qne hq4 (by decide) (by decide) (by decide))).trans rfl), ((gr1 4 (by decide)).trans hm.2.2.1), ((gr1 5 (by decide)).trans hm.2.2.2.1), fun j9 hj9 => (congrFun ((fr1.2.2 (97) (by decide) (by decide)).1.trans rfl) j9).trans (hm.2.2.2.2 j9 hj9)⟩⟩
set_option maxHeartbeats 4000000 in
set_option maxRecDepth 100000 in
theorem kX10_set (g : Glo) (S : PS) (q : Nat → Nat) (hq : Shp S.1 S.2.1 q) (z : ZZ) (hz : pJ S (q 95) = z) (hB : Bz z) (H : List ZZ) (l : Int32) (n : Nat) (tx : Nat → Int32) (hm : Mo S q z H l n tx) (k v : Int32) : Ct g mX10_set 0 0 [.ref (q 94), .int k, .int v] S (pI9 (fun r S' => r = (oSet k v (z, H, l, n, tx)).2.1 ∧ Fr S S' q [94, 95, 96] ∧ pI S' (q 94) 0 = (oSet k v (z, H, l, n, tx)).1 ∧ Mw S' q (oSet k v (z, H, l, n, tx)).2.2)) := by
  refine Ct.of (by decide) (Nat.le_of_ble_eq_true rfl) (fun Γ hg F T => ?_)
  subst hg
  show G Γ S 0 0 0 [(0, .ref (q 94)), (1, .int k), (2, .int v)] []
  refine g_aload_n (k := 0) F 0 rfl dX10_set_0 ?_
  refine g_iload_n (k := 1) F 1 rfl dX10_set_1 ?_
  refine g_callS F (kX10_isSetting Γ.1 _ _) okX10_isSetting mw196 ⟨(Nat.le_of_ble_eq_true rfl), (Nat.le_of_ble_eq_true rfl)⟩ rfl rfl (Nat.le_of_ble_eq_true rfl) ⟨(Nat.le_of_ble_eq_true rfl), (Nat.le_of_ble_eq_true rfl)⟩ dX10_set_2 (toI (fun r1 S2 h3 => ?_))
  obtain ⟨er1, rfl⟩ := h3
  have jn5 : ∀ (w25 : Int32), w25 = tSet k v → G Γ S 0 0 25 [(0, .ref (q 94)), (1, .int k), (2, .int v)] [.int w25, .ref (q 94)] := by
    intro w25 ht
    refine pfX10_35 F (qi94 hq) dX10_set_25 ?_
    refine g_aload_n (k := 0) F 0 rfl dX10_set_28 ?_
    refine gfX10_35e F (qi94 hq) up2_s dX10_set_29 ?_
    refine g_if_le (t := 37) F dX10_set_32 (by decide) (fun c6 => ?_) (fun c6 => ?_)
    · obtain ⟨ht0, hk9, hv9⟩ := tSet_i (ht ▸ c6)
      rcases hv9 with hv9
      have hnc9 := (nc_e hB).2
      refine g_aload_n (k := 0) F 0 rfl dX10_set_37 ?_
      refine g_iconst (v := 2) F (by decide) dX10_set_38 ?_
      refine g_iload_n (k := 1) F 1 rfl dX10_set_39 ?_
      refine g_iadd F dX10_set_40 ?_
      refine g_rei (nI (2 + k.toInt.toNat)) (nadd rfl (kN hk9.1)) ?_
      refine g_iload_n (k := 2) F 2 rfl dX10_set_41 ?_
      refine g_callV F (kX10_replaced Γ.1 (wI S (q 94) 0 w25) q hq z hz hB H l n tx ⟨hz, Sv_of hm.2.1 ((up2_k (by decide)).trans rfl) rfl, ((up2_k (by decide)).trans hm.2.2.1), ((up2_k (by decide)).trans hm.2.2.2.1), fun j9 hj9 => (congrFun ((up2_r (qne hq (by decide) (by decide) (by decide))).trans rfl) j9).trans (hm.2.2.2.2 j9 hj9)⟩ ((2 + k.toInt.toNat)) (by omega) v) okX10_replaced (qi94 hq) mw206 ⟨(Nat.le_of_ble_eq_true rfl), (Nat.le_of_ble_eq_true rfl)⟩ rfl rfl (Nat.le_of_ble_eq_true rfl) ⟨(Nat.le_of_ble_eq_true rfl), (Nat.le_of_ble_eq_true rfl)⟩ dX10_set_42 (toI (fun r7 S8 h9 => ?_))
      obtain ⟨er7, fr7, tr7, mr7⟩ := h9
      have hq10 : Shp S8.1 S8.2.1 q := Fr.q fr7 hq
      refine g_istore_n (k := 3) (L' := [(3, .int r7), (0, .ref (q 94)), (1, .int k), (2, .int v)]) F dX10_set_45 (Nat.le_of_ble_eq_true rfl) rfl ?_
      refine g_aload_n (k := 0) F 1 rfl dX10_set_46 ?_
      refine g_callV F (kX10_dropRuns Γ.1 S8 q hq10 _ mr7.1 (B_set hB hk9 hv9)) okX10_dropRuns (qi94 hq10) mw166 ⟨(Nat.le_of_ble_eq_true rfl), (Nat.le_of_ble_eq_true rfl)⟩ rfl rfl (Nat.le_of_ble_eq_true rfl) ⟨(Nat.le_of_ble_eq_true rfl), (Nat.le_of_ble_eq_true rfl)⟩ dX10_set_47 (toI (fun r11 S12 h13 => ?_))
      obtain ⟨er11, fr11, zr11⟩ := h13
      have hq14 : Shp S12.1 S12.2.1 q := Fr.q fr11 hq10
      refine g_pop F dX10_set_50 rfl ?_
      refine g_iload_n (k := 3) F 0 rfl dX10_set_51 ?_
      refine g_iret F T ⟨_, rfl, ?_⟩ (Nat.le_of_ble_eq_true rfl) (Nat.le_of_ble_eq_true rfl) dX10_set_52
      rw [show oSet k v (z, H, l, n, tx) = (0, (z (2 + k.toInt.toNat)).toInt32, (zSet z k v, psh H z, l, n, tx)) from if_pos ht0]
      exact ⟨er7, (Fr.tr (l := [94, 95, 96]) (Fr.tr (l := [94, 95, 96]) (Fr.wI hq Fr.rf (by decide) (by decide)) fr7 (by decide) (by decide)) fr11 (by decide) (by decide)), ((congrFun (fr11.2.2 (94) (by decide) (by decide)).1 0).trans (tr7.trans up2_s)).trans (ht.trans ht0), ⟨zr11, Sv_of mr7.2.1 ((congrFun (fr11.2.2 (94) (by decide) (by decide)).1 2).trans rfl) ((fr11.2.2 (96) (by decide) (by decide)).2.trans rfl), ((congrFun (fr11.2.2 (94) (by decide) (by decide)).1 4).trans mr7.2.2.1), ((congrFun (fr11.2.2 (94) (by decide) (by decide)).1 5).trans mr7.2.2.2.1), fun j9 hj9 => (congrFun ((fr11.2.2 (97) (by decide) (by decide)).1.trans rfl) j9).trans (mr7.2.2.2.2 j9 hj9)⟩⟩
    · have ht1 : ¬ tSet k v = 0 := fun h => c6 (by rw [ht, h]; decide)
      refine g_iconst (v := 0) F (by decide) dX10_set_35 ?_
      refine g_iret F T ⟨_, rfl, ?_⟩ (Nat.le_of_ble_eq_true rfl) (Nat.le_of_ble_eq_true rfl) dX10_set_36
      rw [show oSet k v (z, H, l, n, tx) = (tSet k v, 0, (z, H, l, n, tx)) from if_neg ht1]
      exact ⟨rfl, (Fr.wI hq Fr.rf (by decide) (by decide)), up2_s.trans ht, ⟨hz, Sv_of hm.2.1 ((up2_k (by decide)).trans rfl) rfl, ((up2_k (by decide)).trans hm.2.2.1), ((up2_k (by decide)).trans hm.2.2.2.1), fun j9 hj9 => (congrFun ((up2_r (qne hq (by decide) (by decide) (by decide))).trans rfl) j9).trans (hm.2.2.2.2 j9 hj9)⟩⟩
  refine g_if_ne (t := 12) F dX10_set_5 (by decide) (fun c4 => ?_) (fun c4 => ?_)
  · have hk8 := if01_1 er1 c4
    refine g_iload_n (k := 1) F 1 rfl dX10_set_12 ?_
    refine g_iload_n (k := 2) F 2 rfl dX10_set_13 ?_
    refine g_callS F (kX10_isValue Γ.1 _ _ _) okX10_isValue mw200 ⟨(Nat.le_of_ble_eq_true rfl), (Nat.le_of_ble_eq_true rfl)⟩ rfl rfl (Nat.le_of_ble_eq_true rfl) ⟨(Nat.le_of_ble_eq_true rfl), (Nat.le_of_ble_eq_true rfl)⟩ dX10_set_14 (toI (fun r15 S16 h17 => ?_))
    obtain ⟨er15, rfl⟩ := h17
    refine g_if_eq (t := 24) F dX10_set_17 (by decide) (fun c18 => ?_) (fun c18 => ?_)
    · have hv8 := if01_0 er15 c18
      refine g_iconst (v := 2) F (by decide) dX10_set_24 ?_
      exact jn5 (2) (by unfold tSet; rw [if_neg (fun h => h hk8), if_neg hv8])
    · have hv8 := if01_1 er15 c18
      refine g_iconst (v := 0) F (by decide) dX10_set_20 ?_
      refine g_goto (t := 25) F dX10_set_21 (by decide) ?_
      exact jn5 (0) (by unfold tSet; rw [if_neg (fun h => h hk8), if_pos hv8])
  · have hk8 := if01_0 er1 c4
    refine g_iconst (v := 1) F (by decide) dX10_set_8 ?_
    refine g_goto (t := 25) F dX10_set_9 (by decide) ?_
    exact jn5 (1) (by unfold tSet; rw [if_pos hk8])
set_option maxHeartbeats 4000000 in
set_option maxRecDepth 100000 in
theorem kX10_setTolerance (g : Glo) (S : PS) (q : Nat → Nat) (hq : Shp S.1 S.2.1 q) (z : ZZ) (hz : pJ S (q 95) = z) (hB : Bz z) (H : List ZZ) (l : Int32) (n : Nat) (tx : Nat → Int32) (hm : Mo S q z H l n tx) (v : Int32) : Ct g mX10_setTolerance 0 0 [.ref (q 94), .int v] S (pI9 (fun r S' => r = (oTol v (z, H, l, n, tx)).2.1 ∧ Fr S S' q [94, 95, 96] ∧ pI S' (q 94) 0 = (oTol v (z, H, l, n, tx)).1 ∧ Mw S' q (oTol v (z, H, l, n, tx)).2.2)) := by
  refine Ct.of (by decide) (Nat.le_of_ble_eq_true rfl) (fun Γ hg F T => ?_)
  subst hg
  show G Γ S 0 0 0 [(0, .ref (q 94)), (1, .int v)] []
  refine g_aload_n (k := 0) F 0 rfl dX10_setTolerance_0 ?_
  refine g_iload_n (k := 1) F 1 rfl dX10_setTolerance_1 ?_
  refine g_i2l F dX10_setTolerance_2 ?_
  refine g_lconst (v := 0) F (by decide) dX10_setTolerance_3 ?_
  refine g_ldc2 F mw222 dX10_setTolerance_4 ?_
  refine g_callS F (kX10_within Γ.1 _ _ _ _) okX10_within mw158 ⟨(Nat.le_of_ble_eq_true rfl), (Nat.le_of_ble_eq_true rfl)⟩ rfl rfl (Nat.le_of_ble_eq_true rfl) ⟨(Nat.le_of_ble_eq_true rfl), (Nat.le_of_ble_eq_true rfl)⟩ dX10_setTolerance_7 (toI (fun r1 S2 h3 => ?_))
  obtain ⟨er1, rfl⟩ := h3
  have jn5 : ∀ (w18 : Int32), w18 = tTol v → G Γ S 0 0 18 [(0, .ref (q 94)), (1, .int v)] [.int w18, .ref (q 94)] := by
    intro w18 ht
    refine pfX10_35 F (qi94 hq) dX10_setTolerance_18 ?_
    refine g_aload_n (k := 0) F 0 rfl dX10_setTolerance_21 ?_
    refine gfX10_35e F (qi94 hq) up2_s dX10_setTolerance_22 ?_
    refine g_if_le (t := 32) F dX10_setTolerance_25 (by decide) (fun c6 => ?_) (fun c6 => ?_)
    · obtain ⟨ht0, hv9⟩ := tTol_i (ht ▸ c6)
      rcases hv9 with hv9
      have hnc9 := (nc_e hB).2
      refine g_aload_n (k := 0) F 0 rfl dX10_setTolerance_32 ?_
      refine g_bipush (v := 7) F (by decide) dX10_setTolerance_33 ?_
      refine g_iload_n (k := 1) F 1 rfl dX10_setTolerance_35 ?_
      refine g_callV F (kX10_replaced Γ.1 (wI S (q 94) 0 w18) q hq z hz hB H l n tx ⟨hz, Sv_of hm.2.1 ((up2_k (by decide)).trans rfl) rfl, ((up2_k (by decide)).trans hm.2.2.1), ((up2_k (by decide)).trans hm.2.2.2.1), fun j9 hj9 => (congrFun ((up2_r (qne hq (by decide) (by decide) (by decide))).trans rfl) j9).trans (hm.2.2.2.2 j9 hj9)⟩ 7 (by omega) v) okX10_replaced (qi94 hq) mw206 ⟨(Nat.le_of_ble_eq_true rfl), (Nat.le_of_ble_eq_true rfl)⟩ rfl rfl (Nat.le_of_ble_eq_true rfl) ⟨(Nat.le_of_ble_eq_true rfl), (Nat.le_of_ble_eq_true rfl)⟩ dX10_setTolerance_36 (toI (fun r7 S8 h9 => ?_))
      obtain ⟨er7, fr7, tr7, mr7⟩ := h9
      have hq10 : Shp S8.1 S8.2.1 q := Fr.q fr7 hq
      refine g_iret F T ⟨_, rfl, ?_⟩ (Nat.le_of_ble_eq_true rfl) (Nat.le_of_ble_eq_true rfl) dX10_setTolerance_39
      rw [show oTol v (z, H, l, n, tx) = (0, (z 7).toInt32, (vp_updL z 7 v.toInt64, psh H z, l, n, tx)) from if_pos ht0]
      exact ⟨er7, (Fr.tr (l := [94, 95, 96]) (Fr.wI hq Fr.rf (by decide) (by decide)) fr7 (by decide) (by decide)), (tr7.trans up2_s).trans (ht.trans ht0), ⟨mr7.1, Sv_of mr7.2.1 rfl rfl, mr7.2.2.1, mr7.2.2.2.1, fun j9 hj9 => (congrFun rfl j9).trans (mr7.2.2.2.2 j9 hj9)⟩⟩
    · have ht1 : ¬ tTol v = 0 := fun h => c6 (by rw [ht, h]; decide)
      refine g_iconst (v := 0) F (by decide) dX10_setTolerance_28 ?_
      refine g_goto (t := 39) F dX10_setTolerance_29 (by decide) ?_
      refine g_iret F T ⟨_, rfl, ?_⟩ (Nat.le_of_ble_eq_true rfl) (Nat.le_of_ble_eq_true rfl) dX10_setTolerance_39
      rw [show oTol v (z, H, l, n, tx) = (tTol v, 0, (z, H, l, n, tx)) from if_neg ht1]
      exact ⟨rfl, (Fr.wI hq Fr.rf (by decide) (by decide)), up2_s.trans ht, ⟨hz, Sv_of hm.2.1 ((up2_k (by decide)).trans rfl) rfl, ((up2_k (by decide)).trans hm.2.2.1), ((up2_k (by decide)).trans hm.2.2.2.1), fun j9 hj9 => (congrFun ((up2_r (qne hq (by decide) (by decide) (by decide))).trans rfl) j9).trans (hm.2.2.2.2 j9 hj9)⟩⟩
  refine g_if_eq (t := 17) F dX10_setTolerance_10 (by decide) (fun c4 => ?_) (fun c4 => ?_)
  · have hv8 := wI_f (lo := 0) (hi := 100000) er1 c4 (by decide) (by decide)
    refine g_iconst (v := 1) F (by decide) dX10_setTolerance_17 ?_
    exact jn5 (1) (by unfold tTol; rw [if_neg hv8])
  · have hv8 := wI_t (lo := 0) (hi := 100000) er1 c4 (by decide) (by decide)
    refine g_iconst (v := 0) F (by decide) dX10_setTolerance_13 ?_
    refine g_goto (t := 18) F dX10_setTolerance_14 (by decide) ?_
    exact jn5 (0) (by unfold tTol; rw [if_pos hv8])
set_option maxHeartbeats 4000000 in
set_option maxRecDepth 100000 in
theorem kX10_setSlip (g : Glo) (S : PS) (q : Nat → Nat) (hq : Shp S.1 S.2.1 q) (z : ZZ) (hz : pJ S (q 95) = z) (hB : Bz z) (H : List ZZ) (l : Int32) (n : Nat) (tx : Nat → Int32) (hm : Mo S q z H l n tx) (k v : Int32) : Ct g mX10_setSlip 0 0 [.ref (q 94), .int k, .int v] S (pI9 (fun r S' => r = (oSlp k v (z, H, l, n, tx)).2.1 ∧ Fr S S' q [94, 95, 96] ∧ pI S' (q 94) 0 = (oSlp k v (z, H, l, n, tx)).1 ∧ Mw S' q (oSlp k v (z, H, l, n, tx)).2.2)) := by
  refine Ct.of (by decide) (Nat.le_of_ble_eq_true rfl) (fun Γ hg F T => ?_)
  subst hg
  show G Γ S 0 0 0 [(0, .ref (q 94)), (1, .int k), (2, .int v)] []
  refine g_aload_n (k := 0) F 0 rfl dX10_setSlip_0 ?_
  refine g_aload_n (k := 0) F 0 rfl dX10_setSlip_1 ?_
  refine g_iload_n (k := 1) F 1 rfl dX10_setSlip_2 ?_
  refine g_callV F (kX10_isCorner Γ.1 _ q hq z hz hB k) okX10_isCorner (qi94 hq) mw274 ⟨(Nat.le_of_ble_eq_true rfl), (Nat.le_of_ble_eq_true rfl)⟩ rfl rfl (Nat.le_of_ble_eq_true rfl) ⟨(Nat.le_of_ble_eq_true rfl), (Nat.le_of_ble_eq_true rfl)⟩ dX10_setSlip_3 (toI (fun r1 S2 h3 => ?_))
  obtain ⟨er1, rfl⟩ := h3
  have jn5 : ∀ (w30 : Int32), w30 = tSlp z k v → G Γ S 0 0 30 [(0, .ref (q 94)), (1, .int k), (2, .int v)] [.int w30, .ref (q 94)] := by
    intro w30 ht
    refine pfX10_35 F (qi94 hq) dX10_setSlip_30 ?_
    refine g_aload_n (k := 0) F 0 rfl dX10_setSlip_33 ?_
    refine gfX10_35e F (qi94 hq) up2_s dX10_setSlip_34 ?_
    refine g_if_le (t := 44) F dX10_setSlip_37 (by decide) (fun c6 => ?_) (fun c6 => ?_)
    · obtain ⟨ht0, hk9, hv9⟩ := tSlp_i (ht ▸ c6)
      rcases hv9 with hv9
      have hnc9 := (nc_e hB).2
      refine g_aload_n (k := 0) F 0 rfl dX10_setSlip_44 ?_
      refine g_bipush (v := 9) F (by decide) dX10_setSlip_45 ?_
      refine g_iconst (v := 3) F (by decide) dX10_setSlip_47 ?_
      refine g_iload_n (k := 1) F 1 rfl dX10_setSlip_48 ?_
      refine g_imul F dX10_setSlip_49 ?_
      refine g_rei (nI (3 * k.toInt.toNat)) (nmul rfl (kN hk9.1)) ?_
      refine g_iadd F dX10_setSlip_50 ?_
      refine g_rei (nI (9 + (3 * k.toInt.toNat))) (nadd rfl rfl) ?_
      refine g_iconst (v := 2) F (by decide) dX10_setSlip_51 ?_
      refine g_iadd F dX10_setSlip_52 ?_
      refine g_rei (nI ((9 + (3 * k.toInt.toNat)) + 2)) (nadd rfl rfl) ?_
      refine g_iload_n (k := 2) F 2 rfl dX10_setSlip_53 ?_
      refine g_callV F (kX10_replaced Γ.1 (wI S (q 94) 0 w30) q hq z hz hB H l n tx ⟨hz, Sv_of hm.2.1 ((up2_k (by decide)).trans rfl) rfl, ((up2_k (by decide)).trans hm.2.2.1), ((up2_k (by decide)).trans hm.2.2.2.1), fun j9 hj9 => (congrFun ((up2_r (qne hq (by decide) (by decide) (by decide))).trans rfl) j9).trans (hm.2.2.2.2 j9 hj9)⟩ (((9 + (3 * k.toInt.toNat)) + 2)) (by omega) v) okX10_replaced (qi94 hq) mw206 ⟨(Nat.le_of_ble_eq_true rfl), (Nat.le_of_ble_eq_true rfl)⟩ rfl rfl (Nat.le_of_ble_eq_true rfl) ⟨(Nat.le_of_ble_eq_true rfl), (Nat.le_of_ble_eq_true rfl)⟩ dX10_setSlip_54 (toI (fun r7 S8 h9 => ?_))
      obtain ⟨er7, fr7, tr7, mr7⟩ := h9
      have hq10 : Shp S8.1 S8.2.1 q := Fr.q fr7 hq
      refine g_iret F T ⟨_, rfl, ?_⟩ (Nat.le_of_ble_eq_true rfl) (Nat.le_of_ble_eq_true rfl) dX10_setSlip_57
      rw [show oSlp k v (z, H, l, n, tx) = (0, (z (9 + 3 * k.toInt.toNat + 2)).toInt32, (zSlp z k v, psh H z, l, n, tx)) from if_pos ht0]
      exact ⟨er7, (Fr.tr (l := [94, 95, 96]) (Fr.wI hq Fr.rf (by decide) (by decide)) fr7 (by decide) (by decide)), (tr7.trans up2_s).trans (ht.trans ht0), ⟨mr7.1, Sv_of mr7.2.1 rfl rfl, mr7.2.2.1, mr7.2.2.2.1, fun j9 hj9 => (congrFun rfl j9).trans (mr7.2.2.2.2 j9 hj9)⟩⟩
    · have ht1 : ¬ tSlp z k v = 0 := fun h => c6 (by rw [ht, h]; decide)
      refine g_iconst (v := 0) F (by decide) dX10_setSlip_40 ?_
      refine g_goto (t := 57) F dX10_setSlip_41 (by decide) ?_
      refine g_iret F T ⟨_, rfl, ?_⟩ (Nat.le_of_ble_eq_true rfl) (Nat.le_of_ble_eq_true rfl) dX10_setSlip_57
      rw [show oSlp k v (z, H, l, n, tx) = (tSlp z k v, 0, (z, H, l, n, tx)) from if_neg ht1]
      exact ⟨rfl, (Fr.wI hq Fr.rf (by decide) (by decide)), up2_s.trans ht, ⟨hz, Sv_of hm.2.1 ((up2_k (by decide)).trans rfl) rfl, ((up2_k (by decide)).trans hm.2.2.1), ((up2_k (by decide)).trans hm.2.2.2.1), fun j9 hj9 => (congrFun ((up2_r (qne hq (by decide) (by decide) (by decide))).trans rfl) j9).trans (hm.2.2.2.2 j9 hj9)⟩⟩
  refine g_if_ne (t := 13) F dX10_setSlip_6 (by decide) (fun c4 => ?_) (fun c4 => ?_)
  · have hk8 := if01_1 er1 c4
    refine g_iload_n (k := 2) F 2 rfl dX10_setSlip_13 ?_
    refine g_i2l F dX10_setSlip_14 ?_
    refine g_lconst (v := 0) F (by decide) dX10_setSlip_15 ?_
    refine g_ldc2 F mw303 dX10_setSlip_16 ?_
    refine g_callS F (kX10_within Γ.1 _ _ _ _) okX10_within mw158 ⟨(Nat.le_of_ble_eq_true rfl), (Nat.le_of_ble_eq_true rfl)⟩ rfl rfl (Nat.le_of_ble_eq_true rfl) ⟨(Nat.le_of_ble_eq_true rfl), (Nat.le_of_ble_eq_true rfl)⟩ dX10_setSlip_19 (toI (fun r11 S12 h13 => ?_))
    obtain ⟨er11, rfl⟩ := h13
    refine g_if_eq (t := 29) F dX10_setSlip_22 (by decide) (fun c14 => ?_) (fun c14 => ?_)
    · have hv8 := wI_f (lo := 0) (hi := 100) er11 c14 (by decide) (by decide)
      refine g_iconst (v := 2) F (by decide) dX10_setSlip_29 ?_
      exact jn5 (2) (by unfold tSlp; rw [if_neg (fun h => h hk8), if_neg hv8])
    · have hv8 := wI_t (lo := 0) (hi := 100) er11 c14 (by decide) (by decide)
      refine g_iconst (v := 0) F (by decide) dX10_setSlip_25 ?_
      refine g_goto (t := 30) F dX10_setSlip_26 (by decide) ?_
      exact jn5 (0) (by unfold tSlp; rw [if_neg (fun h => h hk8), if_pos hv8])
  · have hk8 := if01_0 er1 c4
    refine g_iconst (v := 1) F (by decide) dX10_setSlip_9 ?_
    refine g_goto (t := 30) F dX10_setSlip_10 (by decide) ?_
    exact jn5 (1) (by unfold tSlp; rw [if_pos hk8])
set_option maxHeartbeats 4000000 in
set_option maxRecDepth 100000 in
theorem kX10_move (g : Glo) (S : PS) (q : Nat → Nat) (hq : Shp S.1 S.2.1 q) (z : ZZ) (hz : pJ S (q 95) = z) (hB : Bz z) (H : List ZZ) (l : Int32) (n : Nat) (tx : Nat → Int32) (hm : Mo S q z H l n tx) (k a b : Int32) : Ct g mX10_move 0 0 [.ref (q 94), .int k, .int a, .int b] S (pI9 (fun r S' => r = (oMov k a b (z, H, l, n, tx)).2.1 ∧ Fr S S' q [94, 95, 96] ∧ pI S' (q 94) 0 = (oMov k a b (z, H, l, n, tx)).1 ∧ Mw S' q (oMov k a b (z, H, l, n, tx)).2.2)) := by
  refine Ct.of (by decide) (Nat.le_of_ble_eq_true rfl) (fun Γ hg F T => ?_)
  subst hg
  show G Γ S 0 0 0 [(0, .ref (q 94)), (1, .int k), (2, .int a), (3, .int b)] []
  refine g_aload_n (k := 0) F 0 rfl dX10_move_0 ?_
  refine g_aload_n (k := 0) F 0 rfl dX10_move_1 ?_
  refine g_iload_n (k := 1) F 1 rfl dX10_move_2 ?_
  refine g_callV F (kX10_isCorner Γ.1 _ q hq z hz hB k) okX10_isCorner (qi94 hq) mw274 ⟨(Nat.le_of_ble_eq_true rfl), (Nat.le_of_ble_eq_true rfl)⟩ rfl rfl (Nat.le_of_ble_eq_true rfl) ⟨(Nat.le_of_ble_eq_true rfl), (Nat.le_of_ble_eq_true rfl)⟩ dX10_move_3 (toI (fun r1 S2 h3 => ?_))
  obtain ⟨er1, rfl⟩ := h3
  have jn5 : ∀ (w26 : Int32), w26 = tMov z k a b → G Γ S 0 0 26 [(0, .ref (q 94)), (1, .int k), (2, .int a), (3, .int b)] [.int w26, .ref (q 94)] := by
    intro w26 ht
    refine pfX10_35 F (qi94 hq) dX10_move_26 ?_
    refine g_aload_n (k := 0) F 0 rfl dX10_move_29 ?_
    refine gfX10_35e F (qi94 hq) up2_s dX10_move_30 ?_
    refine g_if_le (t := 38) F dX10_move_33 (by decide) (fun c6 => ?_) (fun c6 => ?_)
    · obtain ⟨ht0, hk9, hv9⟩ := tMov_i (ht ▸ c6)
      rcases hv9 with hv9
      have hnc9 := (nc_e hB).2
      refine g_aload_n (k := 0) F 0 rfl dX10_move_38 ?_
      refine g_callV F (kX10_save Γ.1 (wI S (q 94) 0 w26) q hq z hz hB H (Sv_of hm.2.1 ((up2_k (by decide)).trans rfl) rfl)) okX10_save (qi94 hq) mw161 ⟨(Nat.le_of_ble_eq_true rfl), (Nat.le_of_ble_eq_true rfl)⟩ rfl rfl (Nat.le_of_ble_eq_true rfl) ⟨(Nat.le_of_ble_eq_true rfl), (Nat.le_of_ble_eq_true rfl)⟩ dX10_move_39 (toV (fun S8 h9 => ?_))
      obtain ⟨fr7, gr7, jr7, vr7⟩ := h9
      have hq10 : Shp S8.1 S8.2.1 q := Fr.q fr7 hq
      refine g_aload_n (k := 0) F 0 rfl dX10_move_42 ?_
      refine gfX10_7 F (qi94 hq10) (qr94_1 hq10) dX10_move_43 ?_
      refine g_bipush (v := 9) F (by decide) dX10_move_46 ?_
      refine g_iconst (v := 3) F (by decide) dX10_move_48 ?_
      refine g_iload_n (k := 1) F 1 rfl dX10_move_49 ?_
      refine g_imul F dX10_move_50 ?_
      refine g_rei (nI (3 * k.toInt.toNat)) (nmul rfl (kN hk9.1)) ?_
      refine g_iadd F dX10_move_51 ?_
      refine g_rei (nI (9 + (3 * k.toInt.toNat))) (nadd rfl rfl) ?_
      refine g_iload_n (k := 2) F 2 rfl dX10_move_52 ?_
      refine g_i2l F dX10_move_53 ?_
      refine g_last (j := (9 + (3 * k.toInt.toNat))) F (qi95 hq10) rfl (by rw [(qn95 hq10)]; omega) (by rw [(qn95 hq10)]; decide) dX10_move_54 ?_
      refine g_aload_n (k := 0) F 0 rfl dX10_move_55 ?_
      refine gfX10_7 F (qi94 hq10) (qr94_1 hq10) dX10_move_56 ?_
      refine g_bipush (v := 9) F (by decide) dX10_move_59 ?_
      refine g_iconst (v := 3) F (by decide) dX10_move_61 ?_
      refine g_iload_n (k := 1) F 1 rfl dX10_move_62 ?_
      refine g_imul F dX10_move_63 ?_
      refine g_rei (nI (3 * k.toInt.toNat)) (nmul rfl (kN hk9.1)) ?_
      refine g_iadd F dX10_move_64 ?_
      refine g_rei (nI (9 + (3 * k.toInt.toNat))) (nadd rfl rfl) ?_
      refine g_iconst (v := 1) F (by decide) dX10_move_65 ?_
      refine g_iadd F dX10_move_66 ?_
      refine g_rei (nI ((9 + (3 * k.toInt.toNat)) + 1)) (nadd rfl rfl) ?_
      refine g_iload_n (k := 3) F 3 rfl dX10_move_67 ?_
      refine g_i2l F dX10_move_68 ?_
      refine g_last (j := ((9 + (3 * k.toInt.toNat)) + 1)) F (qi95 hq10) rfl (by rw [(qn95 hq10)]; omega) (by rw [(qn95 hq10)]; decide) dX10_move_69 ?_
      refine g_aload_n (k := 0) F 0 rfl dX10_move_70 ?_
      refine g_callV F (kX10_dropRuns Γ.1 (wJ (wJ S8 (q 95) ((9 + (3 * k.toInt.toNat))) (a).toInt64) (q 95) (((9 + (3 * k.toInt.toNat)) + 1)) (b).toInt64) q hq10 _ (up2_updL.trans (congrArg (fun f9 => vp_updL f9 (((9 + (3 * k.toInt.toNat)) + 1)) (b).toInt64) (up2_updL.trans (congrArg (fun f9 => vp_updL f9 ((9 + (3 * k.toInt.toNat))) (a).toInt64) ((fr7.2.2 (95) (by decide) (by decide)).2.trans hz))))) (B_mov hB hk9 hv9)) okX10_dropRuns (qi94 hq10) mw166 ⟨(Nat.le_of_ble_eq_true rfl), (Nat.le_of_ble_eq_true rfl)⟩ rfl rfl (Nat.le_of_ble_eq_true rfl) ⟨(Nat.le_of_ble_eq_true rfl), (Nat.le_of_ble_eq_true rfl)⟩ dX10_move_71 (toI (fun r11 S12 h13 => ?_))
      obtain ⟨er11, fr11, zr11⟩ := h13
      have hq14 : Shp S12.1 S12.2.1 q := Fr.q fr11 hq10
      refine g_iret F T ⟨_, rfl, ?_⟩ (Nat.le_of_ble_eq_true rfl) (Nat.le_of_ble_eq_true rfl) dX10_move_74
      rw [show oMov k a b (z, H, l, n, tx) = (0, nI (nr z), (vp_updL (zMov z k a b) 69 0, psh H z, l, n, tx)) from if_pos ht0]
      exact ⟨(er11.trans (congrArg nI (nr_mov hB hk9))), (Fr.tr (l := [94, 95, 96]) (Fr.wJ hq (Fr.wJ hq (Fr.tr (l := [94, 95, 96]) (Fr.wI hq Fr.rf (by decide) (by decide)) fr7 (by decide) (by decide)) (by decide) (by decide)) (by decide) (by decide)) fr11 (by decide) (by decide)), ((congrFun (fr11.2.2 (94) (by decide) (by decide)).1 0).trans ((gr7 0 (by decide)).trans up2_s)).trans (ht.trans ht0), ⟨zr11, Sv_of vr7 ((congrFun (fr11.2.2 (94) (by decide) (by decide)).1 2).trans rfl) ((fr11.2.2 (96) (by decide) (by decide)).2.trans ((up2_r (qne hq10 (by decide) (by decide) (by decide))).trans ((up2_r (qne hq10 (by decide) (by decide) (by decide))).trans rfl))), ((congrFun (fr11.2.2 (94) (by decide) (by decide)).1 4).trans ((gr7 4 (by decide)).trans ((up2_k (by decide)).trans hm.2.2.1))), ((congrFun (fr11.2.2 (94) (by decide) (by decide)).1 5).trans ((gr7 5 (by decide)).trans ((up2_k (by decide)).trans hm.2.2.2.1))), fun j9 hj9 => (congrFun ((fr11.2.2 (97) (by decide) (by decide)).1.trans ((fr7.2.2 (97) (by decide) (by decide)).1.trans ((up2_r (qne hq (by decide) (by decide) (by decide))).trans rfl))) j9).trans (hm.2.2.2.2 j9 hj9)⟩⟩
    · have ht1 : ¬ tMov z k a b = 0 := fun h => c6 (by rw [ht, h]; decide)
      refine g_iconst (v := 0) F (by decide) dX10_move_36 ?_
      refine g_iret F T ⟨_, rfl, ?_⟩ (Nat.le_of_ble_eq_true rfl) (Nat.le_of_ble_eq_true rfl) dX10_move_37
      rw [show oMov k a b (z, H, l, n, tx) = (tMov z k a b, 0, (z, H, l, n, tx)) from if_neg ht1]
      exact ⟨rfl, (Fr.wI hq Fr.rf (by decide) (by decide)), up2_s.trans ht, ⟨hz, Sv_of hm.2.1 ((up2_k (by decide)).trans rfl) rfl, ((up2_k (by decide)).trans hm.2.2.1), ((up2_k (by decide)).trans hm.2.2.2.1), fun j9 hj9 => (congrFun ((up2_r (qne hq (by decide) (by decide) (by decide))).trans rfl) j9).trans (hm.2.2.2.2 j9 hj9)⟩⟩
  refine g_if_ne (t := 13) F dX10_move_6 (by decide) (fun c4 => ?_) (fun c4 => ?_)
  · have hk8 := if01_1 er1 c4
    refine g_iload_n (k := 2) F 2 rfl dX10_move_13 ?_
    refine g_iload_n (k := 3) F 3 rfl dX10_move_14 ?_
    refine g_callS F (kX10_isPoint Γ.1 _ _ _) okX10_isPoint mw251 ⟨(Nat.le_of_ble_eq_true rfl), (Nat.le_of_ble_eq_true rfl)⟩ rfl rfl (Nat.le_of_ble_eq_true rfl) ⟨(Nat.le_of_ble_eq_true rfl), (Nat.le_of_ble_eq_true rfl)⟩ dX10_move_15 (toI (fun r15 S16 h17 => ?_))
    obtain ⟨er15, rfl⟩ := h17
    refine g_if_eq (t := 25) F dX10_move_18 (by decide) (fun c18 => ?_) (fun c18 => ?_)
    · have hv8 := if01_0 er15 c18
      refine g_iconst (v := 2) F (by decide) dX10_move_25 ?_
      exact jn5 (2) (by unfold tMov; rw [if_neg (fun h => h hk8), if_neg hv8])
    · have hv8 := if01_1 er15 c18
      refine g_iconst (v := 0) F (by decide) dX10_move_21 ?_
      refine g_goto (t := 26) F dX10_move_22 (by decide) ?_
      exact jn5 (0) (by unfold tMov; rw [if_neg (fun h => h hk8), if_pos hv8])
  · have hk8 := if01_0 er1 c4
    refine g_iconst (v := 1) F (by decide) dX10_move_9 ?_
    refine g_goto (t := 26) F dX10_move_10 (by decide) ?_
    exact jn5 (1) (by unfold tMov; rw [if_pos hk8])
set_option maxHeartbeats 4000000 in
set_option maxRecDepth 100000 in
theorem kX10_forget (g : Glo) (S : PS) (q : Nat → Nat) (hq : Shp S.1 S.2.1 q) (z : ZZ) (hz : pJ S (q 95) = z) (hB : Bz z) (H : List ZZ) (l : Int32) (n : Nat) (tx : Nat → Int32) (hm : Mo S q z H l n tx) : Ct g mX10_forget 0 0 [.ref (q 94)] S (pI9 (fun r S' => r = (oFor (z, H, l, n, tx)).2.1 ∧ Fr S S' q [94, 95, 96] ∧ pI S' (q 94) 0 = (oFor (z, H, l, n, tx)).1 ∧ Mw S' q (oFor (z, H, l, n, tx)).2.2)) := by
  refine Ct.of (by decide) (Nat.le_of_ble_eq_true rfl) (fun Γ hg F T => ?_)
  subst hg
  show G Γ S 0 0 0 [(0, .ref (q 94))] []
  refine g_aload_n (k := 0) F 0 rfl dX10_forget_0 ?_
  refine g_iconst (v := 0) F (by decide) dX10_forget_1 ?_
  refine pfX10_35 F (qi94 hq) dX10_forget_2 ?_
  refine g_aload_n (k := 0) F 0 rfl dX10_forget_5 ?_
  refine g_callV F (kX10_save Γ.1 (wI S (q 94) 0 0) q hq z hz hB H (Sv_of hm.2.1 ((up2_k (by decide)).trans rfl) rfl)) okX10_save (qi94 hq) mw161 ⟨(Nat.le_of_ble_eq_true rfl), (Nat.le_of_ble_eq_true rfl)⟩ rfl rfl (Nat.le_of_ble_eq_true rfl) ⟨(Nat.le_of_ble_eq_true rfl), (Nat.le_of_ble_eq_true rfl)⟩ dX10_forget_6 (toV (fun S2 h3 => ?_))
  obtain ⟨fr1, gr1, jr1, vr1⟩ := h3
  have hq4 : Shp S2.1 S2.2.1 q := Fr.q fr1 hq
  refine g_aload_n (k := 0) F 0 rfl dX10_forget_9 ?_
  refine g_callV F (kX10_dropRuns Γ.1 S2 q hq4 _ ((fr1.2.2 (95) (by decide) (by decide)).2.trans hz) hB) okX10_dropRuns (qi94 hq4) mw166 ⟨(Nat.le_of_ble_eq_true rfl), (Nat.le_of_ble_eq_true rfl)⟩ rfl rfl (Nat.le_of_ble_eq_true rfl) ⟨(Nat.le_of_ble_eq_true rfl), (Nat.le_of_ble_eq_true rfl)⟩ dX10_forget_10 (toI (fun r5 S6 h7 => ?_))
  obtain ⟨er5, fr5, zr5⟩ := h7
  have hq8 : Shp S6.1 S6.2.1 q := Fr.q fr5 hq4
  refine g_iret F T ⟨_, rfl, ?_⟩ (Nat.le_of_ble_eq_true rfl) (Nat.le_of_ble_eq_true rfl) dX10_forget_13
  exact ⟨er5, (Fr.tr (l := [94, 95, 96]) (Fr.tr (l := [94, 95, 96]) (Fr.wI hq Fr.rf (by decide) (by decide)) fr1 (by decide) (by decide)) fr5 (by decide) (by decide)), ((congrFun (fr5.2.2 (94) (by decide) (by decide)).1 0).trans ((gr1 0 (by decide)).trans up2_s)), ⟨zr5, Sv_of vr1 ((congrFun (fr5.2.2 (94) (by decide) (by decide)).1 2).trans rfl) ((fr5.2.2 (96) (by decide) (by decide)).2.trans rfl), ((congrFun (fr5.2.2 (94) (by decide) (by decide)).1 4).trans ((gr1 4 (by decide)).trans ((up2_k (by decide)).trans hm.2.2.1))), ((congrFun (fr5.2.2 (94) (by decide) (by decide)).1 5).trans ((gr1 5 (by decide)).trans ((up2_k (by decide)).trans hm.2.2.2.1))), fun j9 hj9 => (congrFun ((fr5.2.2 (97) (by decide) (by decide)).1.trans ((fr1.2.2 (97) (by decide) (by decide)).1.trans ((up2_r (qne hq (by decide) (by decide) (by decide))).trans rfl))) j9).trans (hm.2.2.2.2 j9 hj9)⟩⟩
