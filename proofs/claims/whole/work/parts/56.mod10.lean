set_option maxHeartbeats 4000000 in
set_option maxRecDepth 100000 in
theorem kX10_setAnchor (g : Glo) (S : PS) (q : Nat → Nat) (hq : Shp S.1 S.2.1 q) (z : ZZ) (hz : pJ S (q 95) = z) (hB : Bz z) (H : List ZZ) (l : Int32) (n : Nat) (tx : Nat → Int32) (hm : Mo S q z H l n tx) (a b : Int32) : Ct g mX10_setAnchor 0 0 [.ref (q 94), .int a, .int b] S (pI9 (fun r S' => r = (oAnc a b (z, H, l, n, tx)).2.1 ∧ Fr S S' q [94, 95, 96] ∧ pI S' (q 94) 0 = (oAnc a b (z, H, l, n, tx)).1 ∧ Mw S' q (oAnc a b (z, H, l, n, tx)).2.2)) := by
  refine Ct.of (by decide) (Nat.le_of_ble_eq_true rfl) (fun Γ hg F T => ?_)
  subst hg
  show G Γ S 0 0 0 [(0, .ref (q 94)), (1, .int a), (2, .int b)] []
  refine g_aload_n (k := 0) F 0 rfl dX10_setAnchor_0 ?_
  refine g_iload_n (k := 1) F 1 rfl dX10_setAnchor_1 ?_
  refine g_i2l F dX10_setAnchor_2 ?_
  refine g_ldc2 F mw155 dX10_setAnchor_3 ?_
  refine g_ldc2 F mw156 dX10_setAnchor_6 ?_
  refine g_callS F (kX10_within Γ.1 _ _ _ _) okX10_within mw158 ⟨(Nat.le_of_ble_eq_true rfl), (Nat.le_of_ble_eq_true rfl)⟩ rfl rfl (Nat.le_of_ble_eq_true rfl) ⟨(Nat.le_of_ble_eq_true rfl), (Nat.le_of_ble_eq_true rfl)⟩ dX10_setAnchor_9 (toI (fun r1 S2 h3 => ?_))
  obtain ⟨er1, rfl⟩ := h3
  have jn5 : ∀ (w34 : Int32), w34 = tAnc a b → G Γ S 0 0 34 [(0, .ref (q 94)), (1, .int a), (2, .int b)] [.int w34, .ref (q 94)] := by
    intro w34 ht
    refine pfX10_35 F (qi94 hq) dX10_setAnchor_34 ?_
    refine g_aload_n (k := 0) F 0 rfl dX10_setAnchor_37 ?_
    refine gfX10_35e F (qi94 hq) up2_s dX10_setAnchor_38 ?_
    refine g_if_le (t := 46) F dX10_setAnchor_41 (by decide) (fun c6 => ?_) (fun c6 => ?_)
    · have ht0 : tAnc a b = 0 := tAnc_0 (ht ▸ c6)
      refine g_aload_n (k := 0) F 0 rfl dX10_setAnchor_46 ?_
      refine g_callV F (kX10_save Γ.1 (wI S (q 94) 0 w34) q hq z hz hB H (Sv_of hm.2.1 ((up2_k (by decide)).trans rfl) rfl)) okX10_save (qi94 hq) mw161 ⟨(Nat.le_of_ble_eq_true rfl), (Nat.le_of_ble_eq_true rfl)⟩ rfl rfl (Nat.le_of_ble_eq_true rfl) ⟨(Nat.le_of_ble_eq_true rfl), (Nat.le_of_ble_eq_true rfl)⟩ dX10_setAnchor_47 (toV (fun S8 h9 => ?_))
      obtain ⟨fr7, gr7, jr7, vr7⟩ := h9
      have hq10 : Shp S8.1 S8.2.1 q := Fr.q fr7 hq
      refine g_aload_n (k := 0) F 0 rfl dX10_setAnchor_50 ?_
      refine gfX10_7 F (qi94 hq10) (qr94_1 hq10) dX10_setAnchor_51 ?_
      refine g_iconst (v := 0) F (by decide) dX10_setAnchor_54 ?_
      refine g_iload_n (k := 1) F 1 rfl dX10_setAnchor_55 ?_
      refine g_i2l F dX10_setAnchor_56 ?_
      refine g_last (j := 0) F (qi95 hq10) rfl (by rw [(qn95 hq10)]; omega) (by rw [(qn95 hq10)]; decide) dX10_setAnchor_57 ?_
      refine g_aload_n (k := 0) F 0 rfl dX10_setAnchor_58 ?_
      refine gfX10_7 F (qi94 hq10) (qr94_1 hq10) dX10_setAnchor_59 ?_
      refine g_iconst (v := 1) F (by decide) dX10_setAnchor_62 ?_
      refine g_iload_n (k := 2) F 2 rfl dX10_setAnchor_63 ?_
      refine g_i2l F dX10_setAnchor_64 ?_
      refine g_last (j := 1) F (qi95 hq10) rfl (by rw [(qn95 hq10)]; omega) (by rw [(qn95 hq10)]; decide) dX10_setAnchor_65 ?_
      refine g_aload_n (k := 0) F 0 rfl dX10_setAnchor_66 ?_
      refine g_callV F (kX10_dropRuns Γ.1 (wJ (wJ S8 (q 95) (0) (a).toInt64) (q 95) (1) (b).toInt64) q hq10 _ (up2_updL.trans (congrArg (fun f9 => vp_updL f9 (1) (b).toInt64) (up2_updL.trans (congrArg (fun f9 => vp_updL f9 (0) (a).toInt64) ((fr7.2.2 (95) (by decide) (by decide)).2.trans hz))))) (B_anc hB ht0)) okX10_dropRuns (qi94 hq10) mw166 ⟨(Nat.le_of_ble_eq_true rfl), (Nat.le_of_ble_eq_true rfl)⟩ rfl rfl (Nat.le_of_ble_eq_true rfl) ⟨(Nat.le_of_ble_eq_true rfl), (Nat.le_of_ble_eq_true rfl)⟩ dX10_setAnchor_67 (toI (fun r11 S12 h13 => ?_))
      obtain ⟨er11, fr11, zr11⟩ := h13
      have hq14 : Shp S12.1 S12.2.1 q := Fr.q fr11 hq10
      refine g_iret F T ⟨_, rfl, ?_⟩ (Nat.le_of_ble_eq_true rfl) (Nat.le_of_ble_eq_true rfl) dX10_setAnchor_70
      rw [show oAnc a b (z, H, l, n, tx) = (0, nI (nr z), (zAnc z a b, psh H z, l, n, tx)) from if_pos ht0]
      exact ⟨(er11.trans rfl), (Fr.tr (l := [94, 95, 96]) (Fr.wJ hq (Fr.wJ hq (Fr.tr (l := [94, 95, 96]) (Fr.wI hq Fr.rf (by decide) (by decide)) fr7 (by decide) (by decide)) (by decide) (by decide)) (by decide) (by decide)) fr11 (by decide) (by decide)), ((congrFun (fr11.2.2 (94) (by decide) (by decide)).1 0).trans ((gr7 0 (by decide)).trans up2_s)).trans (ht.trans ht0), ⟨zr11, Sv_of vr7 ((congrFun (fr11.2.2 (94) (by decide) (by decide)).1 2).trans rfl) ((fr11.2.2 (96) (by decide) (by decide)).2.trans ((up2_r (qne hq10 (by decide) (by decide) (by decide))).trans ((up2_r (qne hq10 (by decide) (by decide) (by decide))).trans rfl))), ((congrFun (fr11.2.2 (94) (by decide) (by decide)).1 4).trans ((gr7 4 (by decide)).trans ((up2_k (by decide)).trans hm.2.2.1))), ((congrFun (fr11.2.2 (94) (by decide) (by decide)).1 5).trans ((gr7 5 (by decide)).trans ((up2_k (by decide)).trans hm.2.2.2.1))), fun j9 hj9 => (congrFun ((fr11.2.2 (97) (by decide) (by decide)).1.trans ((fr7.2.2 (97) (by decide) (by decide)).1.trans ((up2_r (qne hq (by decide) (by decide) (by decide))).trans rfl))) j9).trans (hm.2.2.2.2 j9 hj9)⟩⟩
    · have ht1 : ¬ tAnc a b = 0 := fun h => c6 (by rw [ht, h]; decide)
      refine g_iconst (v := 0) F (by decide) dX10_setAnchor_44 ?_
      refine g_iret F T ⟨_, rfl, ?_⟩ (Nat.le_of_ble_eq_true rfl) (Nat.le_of_ble_eq_true rfl) dX10_setAnchor_45
      rw [show oAnc a b (z, H, l, n, tx) = (tAnc a b, 0, (z, H, l, n, tx)) from if_neg ht1]
      exact ⟨rfl, (Fr.wI hq Fr.rf (by decide) (by decide)), up2_s.trans ht, ⟨hz, Sv_of hm.2.1 ((up2_k (by decide)).trans rfl) rfl, ((up2_k (by decide)).trans hm.2.2.1), ((up2_k (by decide)).trans hm.2.2.2.1), fun j9 hj9 => (congrFun ((up2_r (qne hq (by decide) (by decide) (by decide))).trans rfl) j9).trans (hm.2.2.2.2 j9 hj9)⟩⟩
  refine g_if_eq (t := 33) F dX10_setAnchor_12 (by decide) (fun c4 => ?_) (fun c4 => ?_)
  · have ha9 := wI_f (lo := -2000) (hi := 2000) er1 c4 (by decide) (by decide)
    refine g_iconst (v := 1) F (by decide) dX10_setAnchor_33 ?_
    exact jn5 (1) (by unfold tAnc; rw [if_neg (fun h => ha9 h.1)])
  · have ha9 := wI_t (lo := -2000) (hi := 2000) er1 c4 (by decide) (by decide)
    refine g_iload_n (k := 2) F 2 rfl dX10_setAnchor_15 ?_
    refine g_i2l F dX10_setAnchor_16 ?_
    refine g_ldc2 F mw155 dX10_setAnchor_17 ?_
    refine g_ldc2 F mw156 dX10_setAnchor_20 ?_
    refine g_callS F (kX10_within Γ.1 _ _ _ _) okX10_within mw158 ⟨(Nat.le_of_ble_eq_true rfl), (Nat.le_of_ble_eq_true rfl)⟩ rfl rfl (Nat.le_of_ble_eq_true rfl) ⟨(Nat.le_of_ble_eq_true rfl), (Nat.le_of_ble_eq_true rfl)⟩ dX10_setAnchor_23 (toI (fun r15 S16 h17 => ?_))
    obtain ⟨er15, rfl⟩ := h17
    refine g_if_eq (t := 33) F dX10_setAnchor_26 (by decide) (fun c18 => ?_) (fun c18 => ?_)
    · have hb9 := wI_f (lo := -2000) (hi := 2000) er15 c18 (by decide) (by decide)
      refine g_iconst (v := 1) F (by decide) dX10_setAnchor_33 ?_
      exact jn5 (1) (by unfold tAnc; rw [if_neg (fun h => hb9 h.2)])
    · have hb9 := wI_t (lo := -2000) (hi := 2000) er15 c18 (by decide) (by decide)
      refine g_iconst (v := 0) F (by decide) dX10_setAnchor_29 ?_
      refine g_goto (t := 34) F dX10_setAnchor_30 (by decide) ?_
      exact jn5 (0) (by unfold tAnc; rw [if_pos ⟨ha9, hb9⟩])
