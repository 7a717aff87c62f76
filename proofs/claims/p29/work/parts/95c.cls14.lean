set_option maxHeartbeats 4000000 in
set_option maxRecDepth 100000 in
theorem kX9_setAnchor (g : Glo) (S : PS) (q : Nat → Nat) (hq : Shp S.1 S.2.1 q) (z : ZZ) (H : List ZZ) (l : Int32) (n : Nat) (tx : Nat → Int32) (hB : Bz z) (hw : Cl S q (z, H, l, n, tx)) (x y : Int32) : Cx g mX9_setAnchor 3 18 [.ref (q 80), .int x, .int y] S (pI9 (fun r S' => (oAnc x y (z, H, l, n, tx)).1 = 0 ∧ r = (oAnc x y (z, H, l, n, tx)).2.1 ∧ FrP S S' q P94 ∧ Cl S' q (oAnc x y (z, H, l, n, tx)).2.2)) (fun E S' => (E = eIAE ∧ (oAnc x y (z, H, l, n, tx)).1 = 1) ∧ FrP S S' q P94 ∧ Cl S' q (oAnc x y (z, H, l, n, tx)).2.2) := by
  refine Cx.of (by decide) (Nat.le_of_ble_eq_true rfl) (fun Γ hg F T => ?_)
  subst hg
  show G Γ S 0 0 0 [(0, .ref (q 80)), (1, .int x), (2, .int y)] []
  have hc : Cs S q 0 z := hw.1
  obtain ⟨pm, hH9⟩ := hw.2.1
  have hH : Hs S q pm H := hH9
  have hn7 : pI S (q 80) 7 = nI n := hw.2.2.1
  have hl8 : pI S (q 80) 8 = l := hw.2.2.2.1
  have htx : ∀ j, j < n → pI S (q 93) j = tx j := hw.2.2.2.2
  have hnc := (nc_e hB).2
  have hnr := (nr_e hB).2
  have tn := nI_toInt (n := nc z) (by omega)
  have tr := nI_toInt (n := nr z) (by omega)
  refine g_iload_n (k := 1) F 1 rfl dX9_setAnchor_0 ?_
  refine g_sipush (v := 2000) F (by decide) dX9_setAnchor_1 ?_
  refine g_callS F (kX9_isWithin Γ.1 _ _ _) okX9_isWithin mw260 ⟨(Nat.le_of_ble_eq_true rfl), (Nat.le_of_ble_eq_true rfl)⟩ rfl rfl (Nat.le_of_ble_eq_true rfl) ⟨(Nat.le_of_ble_eq_true rfl), (Nat.le_of_ble_eq_true rfl)⟩ dX9_setAnchor_4 (toI (fun r1 S2 h3 => ?_))
  obtain ⟨er1, rfl⟩ := h3
  refine g_if_eq (t := 20) F dX9_setAnchor_7 (by decide) (fun c4 => ?_) (fun c4 => ?_)
  · have h1 : ¬ (-2000 ≤ x.toInt ∧ x.toInt ≤ 2000) := fun h9 => if01_0 er1 c4 (w32.mpr h9)
    refine x_throw F T thr_IAE tx57 ?_ ⟨(Nat.le_of_ble_eq_true rfl), (Nat.le_of_ble_eq_true rfl), (Nat.le_of_ble_eq_true rfl), (Nat.le_of_ble_eq_true rfl)⟩ (Nat.le_of_ble_eq_true rfl) (Nat.le_of_ble_eq_true rfl) dX9_setAnchor_20 dX9_setAnchor_23 dX9_setAnchor_24 dX9_setAnchor_26 dX9_setAnchor_29
    rw [show oAnc x y (z, H, l, n, tx) = (1, 0, (z, H, l, n, tx)) from t_err (show tAnc x y = 1 from if_neg (fun h => by omega)) (by decide)]; exact ⟨⟨rfl, rfl⟩, FrP.rf, hw⟩
  · have h1 : -2000 ≤ x.toInt ∧ x.toInt ≤ 2000 := w32.mp (if01_1 er1 c4)
    refine g_iload_n (k := 2) F 2 rfl dX9_setAnchor_10 ?_
    refine g_sipush (v := 2000) F (by decide) dX9_setAnchor_11 ?_
    refine g_callS F (kX9_isWithin Γ.1 _ _ _) okX9_isWithin mw260 ⟨(Nat.le_of_ble_eq_true rfl), (Nat.le_of_ble_eq_true rfl)⟩ rfl rfl (Nat.le_of_ble_eq_true rfl) ⟨(Nat.le_of_ble_eq_true rfl), (Nat.le_of_ble_eq_true rfl)⟩ dX9_setAnchor_14 (toI (fun r5 S6 h7 => ?_))
    obtain ⟨er5, rfl⟩ := h7
    refine g_if_ne (t := 30) F dX9_setAnchor_17 (by decide) (fun c8 => ?_) (fun c8 => ?_)
    · have h2 : -2000 ≤ y.toInt ∧ y.toInt ≤ 2000 := w32.mp (if01_1 er5 c8)
      refine g_aload_n (k := 0) F 0 rfl dX9_setAnchor_30 ?_
      refine gfX9_22 F (qi80 hq) (qr80_2 hq) dX9_setAnchor_31 ?_
      refine g_aload_n (k := 0) F 0 rfl dX9_setAnchor_34 ?_
      refine gfX9_10 F (qi80 hq) (qr80_0 hq) dX9_setAnchor_35 ?_
      have hF9 : Fr S S q FC := Fr.rf
      refine g_callVN (host := "PolarPlanimeter") F (kX2_save Γ.1 S q hq pm H hH z hB hc) okX2_save (qi81 hq) nwM25 ⟨(Nat.le_of_ble_eq_true rfl), (Nat.le_of_ble_eq_true rfl)⟩ rfl rfl (Nat.le_of_ble_eq_true rfl) ⟨(Nat.le_of_ble_eq_true rfl), (Nat.le_of_ble_eq_true rfl)⟩ dX9_setAnchor_38 (toV (fun S11 h12 => ?_))
      obtain ⟨gr10, hV⟩ := h12
      have fS : FrP S S11 q P94 := P_tr (P_fc hF9) (P_sv gr10)
      have hqS : Shp S11.1 S11.2.1 q := FrP.q gr10 hq
      have hcS : Cs S11 q 0 z := Cs.frp (s := 0) (by decide) gr10 (fun i hi => .inl (by omega)) hc
      refine g_aload_n (k := 0) F 0 rfl dX9_setAnchor_41 ?_
      refine gfX9_10 F (qi80 hqS) (qr80_0 hqS) dX9_setAnchor_42 ?_
      refine g_iload_n (k := 1) F 1 rfl dX9_setAnchor_45 ?_
      refine pfX9_66 F (qs0 hqS (s := 0) (by decide)) dX9_setAnchor_46 ?_
      refine g_aload_n (k := 0) F 0 rfl dX9_setAnchor_49 ?_
      refine gfX9_10 F (qi80 hqS) (qr80_0 hqS) dX9_setAnchor_50 ?_
      refine g_iload_n (k := 2) F 2 rfl dX9_setAnchor_53 ?_
      refine pfX9_70 F (qs0 hqS (s := 0) (by decide)) dX9_setAnchor_54 ?_
      refine g_aload_n (k := 0) F 0 rfl dX9_setAnchor_57 ?_
      refine gfX9_10 F (qi80 hqS) (qr80_0 hqS) dX9_setAnchor_58 ?_
      refine gfX9_73 F (qs0 hqS (s := 0) (by decide)) (qt0_5 hqS (s := 0) (by decide)) dX9_setAnchor_61 ?_
      refine g_callVN (host := "PolarPlanimeter") F (kX5_clear Γ.1 (wI (wI S11 (q 0) 0 x) (q 0) 1 y) q hqS 0 (by decide) (vp_updL (vp_updL z 0 x.toInt64) 1 y.toInt64) (B_anc hB (if_pos ⟨h1, h2⟩)) (Cs_f (s := 0) hqS (by decide) (.inr (.inl ⟨rfl, rfl⟩)) (Cs_f (s := 0) hqS (by decide) (.inl ⟨rfl, rfl⟩) hcS))) okX5_clear (qs6 hqS (s := 0) (by decide)) nwM26 ⟨(Nat.le_of_ble_eq_true rfl), (Nat.le_of_ble_eq_true rfl)⟩ rfl rfl (Nat.le_of_ble_eq_true rfl) ⟨(Nat.le_of_ble_eq_true rfl), (Nat.le_of_ble_eq_true rfl)⟩ dX9_setAnchor_64 (toI (fun r13 S14 h15 => ?_))
      obtain ⟨rfl, fr13, cr13⟩ := h15
      have hq16 : Shp S14.1 S14.2.1 q := Fr.q fr13 hqS
      refine x_iret F T ⟨_, rfl, ?_⟩ (Nat.le_of_ble_eq_true rfl) (Nat.le_of_ble_eq_true rfl) dX9_setAnchor_67
      rw [show oAnc x y (z, H, l, n, tx) = (0, nI (nr z), (zAnc z x y, psh H z, l, n, tx)) from if_pos (show tAnc x y = 0 from if_pos ⟨h1, h2⟩)]
      exact ⟨rfl, rfl, P_tr fS (P_fc (Fr.tr (l := FC) (Fr.wI hqS (Fr.wI hqS Fr.rf (by decide) (by decide)) (by decide) (by decide)) fr13 (by decide) (by decide))), Cl_up hV (Fr.tr (l := FC) (Fr.wI hqS (Fr.wI hqS Fr.rf (by decide) (by decide)) (by decide) (by decide)) fr13 (by decide) (by decide)) (cr13) ((congrFun (fr13.2.2 (80) (by decide) (by decide)).1 7).trans ((up2_a (qne hqS (by decide) (by decide) (by decide))).trans ((up2_a (qne hqS (by decide) (by decide) (by decide))).trans ((congrFun (gr10.2.2 80 (by decide) (.inr (.inl rfl))).1 7).trans hn7)))) ((congrFun (fr13.2.2 (80) (by decide) (by decide)).1 8).trans ((up2_a (qne hqS (by decide) (by decide) (by decide))).trans ((up2_a (qne hqS (by decide) (by decide) (by decide))).trans ((congrFun (gr10.2.2 80 (by decide) (.inr (.inl rfl))).1 8).trans hl8)))) (fun j hj => (congrFun ((fr13.2.2 (93) (by decide) (by decide)).1.trans ((up2_r (qne hqS (by decide) (by decide) (by decide))).trans ((up2_r (qne hqS (by decide) (by decide) (by decide))).trans ((gr10.2.2 93 (by decide) (.inr (.inr (by decide)))).1.trans rfl)))) j).trans (htx j hj))⟩
    · have h2 : ¬ (-2000 ≤ y.toInt ∧ y.toInt ≤ 2000) := fun h9 => if01_0 er5 c8 (w32.mpr h9)
      refine x_throw F T thr_IAE tx57 ?_ ⟨(Nat.le_of_ble_eq_true rfl), (Nat.le_of_ble_eq_true rfl), (Nat.le_of_ble_eq_true rfl), (Nat.le_of_ble_eq_true rfl)⟩ (Nat.le_of_ble_eq_true rfl) (Nat.le_of_ble_eq_true rfl) dX9_setAnchor_20 dX9_setAnchor_23 dX9_setAnchor_24 dX9_setAnchor_26 dX9_setAnchor_29
      rw [show oAnc x y (z, H, l, n, tx) = (1, 0, (z, H, l, n, tx)) from t_err (show tAnc x y = 1 from if_neg (fun h => by omega)) (by decide)]; exact ⟨⟨rfl, rfl⟩, FrP.rf, hw⟩
set_option maxHeartbeats 4000000 in
set_option maxRecDepth 100000 in
theorem kX9_set (g : Glo) (S : PS) (q : Nat → Nat) (hq : Shp S.1 S.2.1 q) (z : ZZ) (H : List ZZ) (l : Int32) (n : Nat) (tx : Nat → Int32) (hB : Bz z) (hw : Cl S q (z, H, l, n, tx)) (k v : Int32) : Cx g mX9_set 3 18 [.ref (q 80), .int k, .int v] S (pI9 (fun r S' => (oSet k v (z, H, l, n, tx)).1 = 0 ∧ r = (oSet k v (z, H, l, n, tx)).2.1 ∧ FrP S S' q P94 ∧ Cl S' q (oSet k v (z, H, l, n, tx)).2.2)) (fun E S' => (E = eIOB ∧ (oSet k v (z, H, l, n, tx)).1 = 1 ∨ E = eIAE ∧ (oSet k v (z, H, l, n, tx)).1 = 2) ∧ FrP S S' q P94 ∧ Cl S' q (oSet k v (z, H, l, n, tx)).2.2) := by
  refine Cx.of (by decide) (Nat.le_of_ble_eq_true rfl) (fun Γ hg F T => ?_)
  subst hg
  show G Γ S 0 0 0 [(0, .ref (q 80)), (1, .int k), (2, .int v)] []
  have hc : Cs S q 0 z := hw.1
  obtain ⟨pm, hH9⟩ := hw.2.1
  have hH : Hs S q pm H := hH9
  have hn7 : pI S (q 80) 7 = nI n := hw.2.2.1
  have hl8 : pI S (q 80) 8 = l := hw.2.2.2.1
  have htx : ∀ j, j < n → pI S (q 93) j = tx j := hw.2.2.2.2
  have hnc := (nc_e hB).2
  have hnr := (nr_e hB).2
  have tn := nI_toInt (n := nc z) (by omega)
  have tr := nI_toInt (n := nr z) (by omega)
  refine g_iload_n (k := 1) F 1 rfl dX9_set_0 ?_
  refine x_callS F (kX9_checkSetting Γ.1 S k) okX9_checkSetting mw267 ⟨(Nat.le_of_ble_eq_true rfl), (Nat.le_of_ble_eq_true rfl)⟩ rfl rfl (Nat.le_of_ble_eq_true rfl) ⟨(Nat.le_of_ble_eq_true rfl), (Nat.le_of_ble_eq_true rfl)⟩ dX9_set_1 (fun E4 S5 h6 => ?_) (toV (fun S2 h3 => ?_))
  · obtain ⟨rfl, hC9, rfl⟩ := h6
    exact x_out F T (by rw [show oSet k v (z, H, l, n, tx) = (1, 0, (z, H, l, n, tx)) from t_err (show tSet k v = 1 from if_pos hC9) (by decide)]; exact ⟨(.inl ⟨rfl, rfl⟩), FrP.rf, hw⟩) (Nat.le_of_ble_eq_true rfl) (Nat.le_of_ble_eq_true rfl)
  obtain ⟨hcX9_checkSetting, rfl⟩ := h3
  refine g_iload_n (k := 1) F 1 rfl dX9_set_4 ?_
  refine g_iload_n (k := 2) F 2 rfl dX9_set_5 ?_
  refine x_callS F (kX9_checkValue Γ.1 S k v hcX9_checkSetting) okX9_checkValue mw496 ⟨(Nat.le_of_ble_eq_true rfl), (Nat.le_of_ble_eq_true rfl)⟩ rfl rfl (Nat.le_of_ble_eq_true rfl) ⟨(Nat.le_of_ble_eq_true rfl), (Nat.le_of_ble_eq_true rfl)⟩ dX9_set_6 (fun E10 S11 h12 => ?_) (toV (fun S8 h9 => ?_))
  · obtain ⟨rfl, hC9, rfl⟩ := h12
    exact x_out F T (by rw [show oSet k v (z, H, l, n, tx) = (2, 0, (z, H, l, n, tx)) from t_err (show tSet k v = 2 from (if_neg (fun h => h hcX9_checkSetting)).trans (if_neg hC9)) (by decide)]; exact ⟨(.inr ⟨rfl, rfl⟩), FrP.rf, hw⟩) (Nat.le_of_ble_eq_true rfl) (Nat.le_of_ble_eq_true rfl)
  obtain ⟨hcX9_checkValue, rfl⟩ := h9
  refine g_aload_n (k := 0) F 0 rfl dX9_set_9 ?_
  refine gfX9_22 F (qi80 hq) (qr80_2 hq) dX9_set_10 ?_
  refine g_aload_n (k := 0) F 0 rfl dX9_set_13 ?_
  refine gfX9_10 F (qi80 hq) (qr80_0 hq) dX9_set_14 ?_
  have hF13 : Fr S S q FC := Fr.rf
  refine g_callVN (host := "PolarPlanimeter") F (kX2_save Γ.1 S q hq pm H hH z hB hc) okX2_save (qi81 hq) nwM25 ⟨(Nat.le_of_ble_eq_true rfl), (Nat.le_of_ble_eq_true rfl)⟩ rfl rfl (Nat.le_of_ble_eq_true rfl) ⟨(Nat.le_of_ble_eq_true rfl), (Nat.le_of_ble_eq_true rfl)⟩ dX9_set_17 (toV (fun S15 h16 => ?_))
  obtain ⟨gr14, hV⟩ := h16
  have fS : FrP S S15 q P94 := P_tr (P_fc hF13) (P_sv gr14)
  have hqS : Shp S15.1 S15.2.1 q := FrP.q gr14 hq
  have hcS : Cs S15 q 0 z := Cs.frp (s := 0) (by decide) gr14 (fun i hi => .inl (by omega)) hc
  refine g_aload_n (k := 0) F 0 rfl dX9_set_20 ?_
  refine gfX9_10 F (qi80 hqS) (qr80_0 hqS) dX9_set_21 ?_
  refine gfX9_91 F (qs0 hqS (s := 0) (by decide)) (qt0_3 hqS (s := 0) (by decide)) dX9_set_24 ?_
  refine g_iload_n (k := 1) F 1 rfl dX9_set_27 ?_
  refine g_ialde ((gr14.2.2 1 (by decide) (.inl (by decide))).1.trans rfl) (j := k.toInt.toNat) F (qs1 hqS (s := 0) (by decide)) (kN hcX9_checkSetting.1) (by rw [(qm1 hqS (s := 0) (by decide))]; omega) (by rw [(qm1 hqS (s := 0) (by decide))]; decide) dX9_set_28 ?_
  refine g_topi (fun x17 ex17 => ?_)
  refine g_istore_n (k := 3) (L' := [(3, .int x17), (0, .ref (q 80)), (1, .int k), (2, .int v)]) F dX9_set_29 (Nat.le_of_ble_eq_true rfl) rfl ?_
  refine g_aload_n (k := 0) F 1 rfl dX9_set_30 ?_
  refine gfX9_10 F (qi80 hqS) (qr80_0 hqS) dX9_set_31 ?_
  refine gfX9_91 F (qs0 hqS (s := 0) (by decide)) (qt0_3 hqS (s := 0) (by decide)) dX9_set_34 ?_
  refine g_iload_n (k := 1) F 2 rfl dX9_set_37 ?_
  refine g_iload_n (k := 2) F 3 rfl dX9_set_38 ?_
  refine g_iast (j := k.toInt.toNat) F (qs1 hqS (s := 0) (by decide)) (kN hcX9_checkSetting.1) (by rw [(qm1 hqS (s := 0) (by decide))]; omega) (by rw [(qm1 hqS (s := 0) (by decide))]; decide) dX9_set_39 ?_
  refine g_aload_n (k := 0) F 1 rfl dX9_set_40 ?_
  refine gfX9_10 F (qi80 hqS) (qr80_0 hqS) dX9_set_41 ?_
  refine gfX9_73 F (qs0 hqS (s := 0) (by decide)) (qt0_5 hqS (s := 0) (by decide)) dX9_set_44 ?_
  refine g_callVN (host := "PolarPlanimeter") F (kX5_clear Γ.1 (wI S15 (q 1) (k.toInt.toNat) v) q hqS 0 (by decide) (vp_updL z (2 + k.toInt.toNat) v.toInt64) (B_set hB hcX9_checkSetting hcX9_checkValue) (Cs_st (s := 0) hqS (by decide) (by omega) hcS)) okX5_clear (qs6 hqS (s := 0) (by decide)) nwM26 ⟨(Nat.le_of_ble_eq_true rfl), (Nat.le_of_ble_eq_true rfl)⟩ rfl rfl (Nat.le_of_ble_eq_true rfl) ⟨(Nat.le_of_ble_eq_true rfl), (Nat.le_of_ble_eq_true rfl)⟩ dX9_set_47 (toI (fun r18 S19 h20 => ?_))
  obtain ⟨rfl, fr18, cr18⟩ := h20
  have hq21 : Shp S19.1 S19.2.1 q := Fr.q fr18 hqS
  refine g_pop F dX9_set_50 rfl ?_
  refine g_iload_n (k := 3) F 0 rfl dX9_set_51 ?_
  refine x_iret F T ⟨_, rfl, ?_⟩ (Nat.le_of_ble_eq_true rfl) (Nat.le_of_ble_eq_true rfl) dX9_set_52
  rw [show oSet k v (z, H, l, n, tx) = (0, (z (2 + k.toInt.toNat)).toInt32, (zSet z k v, psh H z, l, n, tx)) from if_pos (show tSet k v = 0 from (if_neg (fun h => h hcX9_checkSetting)).trans (if_pos hcX9_checkValue))]
  exact ⟨rfl, ex17.trans (i32_k (hc.2.1 _ (by omega))), P_tr fS (P_fc (Fr.tr (l := FC) (Fr.wI hqS Fr.rf (by decide) (by decide)) fr18 (by decide) (by decide))), Cl_up hV (Fr.tr (l := FC) (Fr.wI hqS Fr.rf (by decide) (by decide)) fr18 (by decide) (by decide)) (cr18) ((congrFun (fr18.2.2 (80) (by decide) (by decide)).1 7).trans ((up2_a (qne hqS (by decide) (by decide) (by decide))).trans ((congrFun (gr14.2.2 80 (by decide) (.inr (.inl rfl))).1 7).trans hn7))) ((congrFun (fr18.2.2 (80) (by decide) (by decide)).1 8).trans ((up2_a (qne hqS (by decide) (by decide) (by decide))).trans ((congrFun (gr14.2.2 80 (by decide) (.inr (.inl rfl))).1 8).trans hl8))) (fun j hj => (congrFun ((fr18.2.2 (93) (by decide) (by decide)).1.trans ((up2_r (qne hqS (by decide) (by decide) (by decide))).trans ((gr14.2.2 93 (by decide) (.inr (.inr (by decide)))).1.trans rfl))) j).trans (htx j hj))⟩
set_option maxHeartbeats 4000000 in
set_option maxRecDepth 100000 in
theorem kX9_insert (g : Glo) (S : PS) (q : Nat → Nat) (hq : Shp S.1 S.2.1 q) (z : ZZ) (H : List ZZ) (l : Int32) (n : Nat) (tx : Nat → Int32) (hB : Bz z) (hw : Cl S q (z, H, l, n, tx)) (k x y : Int32) : Cx g mX9_insert 3 18 [.ref (q 80), .int k, .int x, .int y] S (pI9 (fun r S' => (oIns k x y (z, H, l, n, tx)).1 = 0 ∧ r = (oIns k x y (z, H, l, n, tx)).2.1 ∧ FrP S S' q P94 ∧ Cl S' q (oIns k x y (z, H, l, n, tx)).2.2)) (fun E S' => (E = eIOB ∧ (oIns k x y (z, H, l, n, tx)).1 = 1 ∨ E = eIAE ∧ (oIns k x y (z, H, l, n, tx)).1 = 2 ∨ E = eISE ∧ (oIns k x y (z, H, l, n, tx)).1 = 3) ∧ FrP S S' q P94 ∧ Cl S' q (oIns k x y (z, H, l, n, tx)).2.2) := by
  refine Cx.of (by decide) (Nat.le_of_ble_eq_true rfl) (fun Γ hg F T => ?_)
  subst hg
  show G Γ S 0 0 0 [(0, .ref (q 80)), (1, .int k), (2, .int x), (3, .int y)] []
  have hc : Cs S q 0 z := hw.1
  obtain ⟨pm, hH9⟩ := hw.2.1
  have hH : Hs S q pm H := hH9
  have hn7 : pI S (q 80) 7 = nI n := hw.2.2.1
  have hl8 : pI S (q 80) 8 = l := hw.2.2.2.1
  have htx : ∀ j, j < n → pI S (q 93) j = tx j := hw.2.2.2.2
  have hnc := (nc_e hB).2
  have hnr := (nr_e hB).2
  have tn := nI_toInt (n := nc z) (by omega)
  have tr := nI_toInt (n := nr z) (by omega)
  have t0 : (0 : Int32).toInt = 0 := by decide
  refine g_iload_n (k := 1) F 1 rfl dX9_insert_0 ?_
  refine g_if_lt (t := 18) F dX9_insert_1 (by decide) (fun c1 => ?_) (fun c1 => ?_)
  · rw [Int32.lt_iff_toInt_lt] at c1
    refine x_throw F T thr_IOB tx111 ?_ ⟨(Nat.le_of_ble_eq_true rfl), (Nat.le_of_ble_eq_true rfl), (Nat.le_of_ble_eq_true rfl), (Nat.le_of_ble_eq_true rfl)⟩ (Nat.le_of_ble_eq_true rfl) (Nat.le_of_ble_eq_true rfl) dX9_insert_18 dX9_insert_21 dX9_insert_22 dX9_insert_24 dX9_insert_27
    rw [show oIns k x y (z, H, l, n, tx) = (1, 0, (z, H, l, n, tx)) from t_err (show tIns z k x y = 1 from if_pos (by omega)) (by decide)]; exact ⟨(.inl ⟨rfl, rfl⟩), FrP.rf, hw⟩
  · rw [Int32.lt_iff_toInt_lt] at c1
    refine g_iload_n (k := 1) F 1 rfl dX9_insert_4 ?_
    refine g_aload_n (k := 0) F 0 rfl dX9_insert_5 ?_
    refine gfX9_10 F (qi80 hq) (qr80_0 hq) dX9_insert_6 ?_
    refine gfX9_100 F (qs0 hq (s := 0) (by decide)) (qt0_4 hq (s := 0) (by decide)) dX9_insert_9 ?_
    refine gfX9_104e F (qs2 hq (s := 0) (by decide)) hc.n dX9_insert_12 ?_
    refine g_icmp_le (t := 28) F dX9_insert_15 (by decide) (fun c2 => ?_) (fun c2 => ?_)
    · rw [Int32.le_iff_toInt_le] at c2
      refine g_iload_n (k := 2) F 2 rfl dX9_insert_28 ?_
      refine g_iload_n (k := 3) F 3 rfl dX9_insert_29 ?_
      refine x_callS F (kX9_checkPoint Γ.1 S x y) okX9_checkPoint mw391 ⟨(Nat.le_of_ble_eq_true rfl), (Nat.le_of_ble_eq_true rfl)⟩ rfl rfl (Nat.le_of_ble_eq_true rfl) ⟨(Nat.le_of_ble_eq_true rfl), (Nat.le_of_ble_eq_true rfl)⟩ dX9_insert_30 (fun E6 S7 h8 => ?_) (toV (fun S4 h5 => ?_))
      · obtain ⟨rfl, hC9, rfl⟩ := h8
        exact x_out F T (by rw [show oIns k x y (z, H, l, n, tx) = (2, 0, (z, H, l, n, tx)) from t_err (show tIns z k x y = 2 from (if_neg (fun h => h (show 0 ≤ k.toInt ∧ k.toInt ≤ (nc z : Int) by omega))).trans (if_pos hC9)) (by decide)]; exact ⟨(.inr (.inl ⟨rfl, rfl⟩)), FrP.rf, hw⟩) (Nat.le_of_ble_eq_true rfl) (Nat.le_of_ble_eq_true rfl)
      obtain ⟨hcX9_checkPoint, rfl⟩ := h5
      refine g_aload_n (k := 0) F 0 rfl dX9_insert_33 ?_
      refine gfX9_10 F (qi80 hq) (qr80_0 hq) dX9_insert_34 ?_
      refine gfX9_100 F (qs0 hq (s := 0) (by decide)) (qt0_4 hq (s := 0) (by decide)) dX9_insert_37 ?_
      refine gfX9_104e F (qs2 hq (s := 0) (by decide)) hc.n dX9_insert_40 ?_
      refine g_bipush (v := 20) F (by decide) dX9_insert_43 ?_
      refine g_icmp_lt (t := 58) F dX9_insert_45 (by decide) (fun c9 => ?_) (fun c9 => ?_)
      · have h20 := (nI_ltI (b := 20) (by omega) (by omega)).mp c9
        refine g_aload_n (k := 0) F 0 rfl dX9_insert_58 ?_
        refine gfX9_22 F (qi80 hq) (qr80_2 hq) dX9_insert_59 ?_
        refine g_aload_n (k := 0) F 0 rfl dX9_insert_62 ?_
        refine gfX9_10 F (qi80 hq) (qr80_0 hq) dX9_insert_63 ?_
        have hF10 : Fr S S q FC := Fr.rf
        refine g_callVN (host := "PolarPlanimeter") F (kX2_save Γ.1 S q hq pm H hH z hB hc) okX2_save (qi81 hq) nwM25 ⟨(Nat.le_of_ble_eq_true rfl), (Nat.le_of_ble_eq_true rfl)⟩ rfl rfl (Nat.le_of_ble_eq_true rfl) ⟨(Nat.le_of_ble_eq_true rfl), (Nat.le_of_ble_eq_true rfl)⟩ dX9_insert_66 (toV (fun S12 h13 => ?_))
        obtain ⟨gr11, hV⟩ := h13
        have fS : FrP S S12 q P94 := P_tr (P_fc hF10) (P_sv gr11)
        have hqS : Shp S12.1 S12.2.1 q := FrP.q gr11 hq
        have hcS : Cs S12 q 0 z := Cs.frp (s := 0) (by decide) gr11 (fun i hi => .inl (by omega)) hc
        refine g_aload_n (k := 0) F 0 rfl dX9_insert_69 ?_
        refine gfX9_10 F (qi80 hqS) (qr80_0 hqS) dX9_insert_70 ?_
        refine gfX9_100 F (qs0 hqS (s := 0) (by decide)) (qt0_4 hqS (s := 0) (by decide)) dX9_insert_73 ?_
        refine g_iload_n (k := 1) F 1 rfl dX9_insert_76 ?_
        refine g_rei (nI k.toInt.toNat) (kN (by omega)) ?_
        refine g_iload_n (k := 2) F 2 rfl dX9_insert_77 ?_
        refine g_iload_n (k := 3) F 3 rfl dX9_insert_78 ?_
        refine g_callVN (host := "PolarPlanimeter") F (kX4_open Γ.1 S12 q hqS 0 (by decide) z hB hcS k.toInt.toNat (by omega) (by omega) x y) okX4_open (qs2 hqS (s := 0) (by decide)) nwM0 ⟨(Nat.le_of_ble_eq_true rfl), (Nat.le_of_ble_eq_true rfl)⟩ rfl rfl (Nat.le_of_ble_eq_true rfl) ⟨(Nat.le_of_ble_eq_true rfl), (Nat.le_of_ble_eq_true rfl)⟩ dX9_insert_79 (toV (fun S15 h16 => ?_))
        obtain ⟨fr14, cr14⟩ := h16
        have hq17 : Shp S15.1 S15.2.1 q := Fr.q fr14 hqS
        refine g_aload_n (k := 0) F 0 rfl dX9_insert_82 ?_
        refine gfX9_10 F (qi80 hq17) (qr80_0 hq17) dX9_insert_83 ?_
        refine gfX9_73 F (qs0 hq17 (s := 0) (by decide)) (qt0_5 hq17 (s := 0) (by decide)) dX9_insert_86 ?_
        refine g_callVN (host := "PolarPlanimeter") F (kX5_clear Γ.1 S15 q hq17 0 (by decide) (zInP z k.toInt.toNat x y) (B_ins hB (by omega) (by omega) hcX9_checkPoint) (cr14)) okX5_clear (qs6 hq17 (s := 0) (by decide)) nwM26 ⟨(Nat.le_of_ble_eq_true rfl), (Nat.le_of_ble_eq_true rfl)⟩ rfl rfl (Nat.le_of_ble_eq_true rfl) ⟨(Nat.le_of_ble_eq_true rfl), (Nat.le_of_ble_eq_true rfl)⟩ dX9_insert_89 (toI (fun r18 S19 h20 => ?_))
        obtain ⟨rfl, fr18, cr18⟩ := h20
        have hq21 : Shp S19.1 S19.2.1 q := Fr.q fr18 hq17
        refine g_pop F dX9_insert_92 rfl ?_
        refine g_aload_n (k := 0) F 0 rfl dX9_insert_93 ?_
        refine gfX9_10 F (qi80 hq21) (qr80_0 hq21) dX9_insert_94 ?_
        refine gfX9_100 F (qs0 hq21 (s := 0) (by decide)) (qt0_4 hq21 (s := 0) (by decide)) dX9_insert_97 ?_
        refine gfX9_104e F (qs2 hq21 (s := 0) (by decide)) ((congrFun (fr18.2.2 (2) (by decide) (by decide)).1 0).trans (cr14.n.trans (congrArg nI (nc_ins hB)))) dX9_insert_100 ?_
        refine x_iret F T ⟨_, rfl, ?_⟩ (Nat.le_of_ble_eq_true rfl) (Nat.le_of_ble_eq_true rfl) dX9_insert_103
        rw [show oIns k x y (z, H, l, n, tx) = (0, nI (nc z + 1), (zIns z k x y, psh H z, l, n, tx)) from if_pos (show tIns z k x y = 0 from (if_neg (fun h => h (show 0 ≤ k.toInt ∧ k.toInt ≤ (nc z : Int) by omega))).trans ((if_neg (fun h => h hcX9_checkPoint)).trans (if_neg (by omega))))]
        exact ⟨rfl, rfl, P_tr fS (P_fc (Fr.tr (l := FC) (Fr.tr (l := FC) Fr.rf fr14 (by decide) (by decide)) fr18 (by decide) (by decide))), Cl_up hV (Fr.tr (l := FC) (Fr.tr (l := FC) Fr.rf fr14 (by decide) (by decide)) fr18 (by decide) (by decide)) (cr18) ((congrFun (fr18.2.2 (80) (by decide) (by decide)).1 7).trans ((congrFun (fr14.2.2 (80) (by decide) (by decide)).1 7).trans ((congrFun (gr11.2.2 80 (by decide) (.inr (.inl rfl))).1 7).trans hn7))) ((congrFun (fr18.2.2 (80) (by decide) (by decide)).1 8).trans ((congrFun (fr14.2.2 (80) (by decide) (by decide)).1 8).trans ((congrFun (gr11.2.2 80 (by decide) (.inr (.inl rfl))).1 8).trans hl8))) (fun j hj => (congrFun ((fr18.2.2 (93) (by decide) (by decide)).1.trans ((fr14.2.2 (93) (by decide) (by decide)).1.trans ((gr11.2.2 93 (by decide) (.inr (.inr (by decide)))).1.trans rfl))) j).trans (htx j hj))⟩
      · have h20 : ¬ nc z < 20 := fun h => c9 ((nI_ltI (b := 20) (by omega) (by omega)).mpr h)
        refine x_throw F T thr_ISE tx119 ?_ ⟨(Nat.le_of_ble_eq_true rfl), (Nat.le_of_ble_eq_true rfl), (Nat.le_of_ble_eq_true rfl), (Nat.le_of_ble_eq_true rfl)⟩ (Nat.le_of_ble_eq_true rfl) (Nat.le_of_ble_eq_true rfl) dX9_insert_48 dX9_insert_51 dX9_insert_52 dX9_insert_54 dX9_insert_57
        rw [show oIns k x y (z, H, l, n, tx) = (3, 0, (z, H, l, n, tx)) from t_err (show tIns z k x y = 3 from (if_neg (fun h => h (show 0 ≤ k.toInt ∧ k.toInt ≤ (nc z : Int) by omega))).trans ((if_neg (fun h => h hcX9_checkPoint)).trans (if_pos (by omega)))) (by decide)]; exact ⟨(.inr (.inr ⟨rfl, rfl⟩)), FrP.rf, hw⟩
    · rw [Int32.le_iff_toInt_le] at c2
      refine x_throw F T thr_IOB tx111 ?_ ⟨(Nat.le_of_ble_eq_true rfl), (Nat.le_of_ble_eq_true rfl), (Nat.le_of_ble_eq_true rfl), (Nat.le_of_ble_eq_true rfl)⟩ (Nat.le_of_ble_eq_true rfl) (Nat.le_of_ble_eq_true rfl) dX9_insert_18 dX9_insert_21 dX9_insert_22 dX9_insert_24 dX9_insert_27
      rw [show oIns k x y (z, H, l, n, tx) = (1, 0, (z, H, l, n, tx)) from t_err (show tIns z k x y = 1 from if_pos (by omega)) (by decide)]; exact ⟨(.inl ⟨rfl, rfl⟩), FrP.rf, hw⟩
