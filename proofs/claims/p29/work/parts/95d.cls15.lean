set_option maxHeartbeats 4000000 in
set_option maxRecDepth 100000 in
theorem kX9_move (g : Glo) (S : PS) (q : Nat → Nat) (hq : Shp S.1 S.2.1 q) (z : ZZ) (H : List ZZ) (l : Int32) (n : Nat) (tx : Nat → Int32) (hB : Bz z) (hw : Cl S q (z, H, l, n, tx)) (k x y : Int32) : Cx g mX9_move 3 18 [.ref (q 80), .int k, .int x, .int y] S (pI9 (fun r S' => (oMov k x y (z, H, l, n, tx)).1 = 0 ∧ r = (oMov k x y (z, H, l, n, tx)).2.1 ∧ FrP S S' q P94 ∧ Cl S' q (oMov k x y (z, H, l, n, tx)).2.2)) (fun E S' => (E = eIOB ∧ (oMov k x y (z, H, l, n, tx)).1 = 1 ∨ E = eIAE ∧ (oMov k x y (z, H, l, n, tx)).1 = 2) ∧ FrP S S' q P94 ∧ Cl S' q (oMov k x y (z, H, l, n, tx)).2.2) := by
  refine Cx.of (by decide) (Nat.le_of_ble_eq_true rfl) (fun Γ hg F T => ?_)
  subst hg
  show G Γ S 0 0 0 [(0, .ref (q 80)), (1, .int k), (2, .int x), (3, .int y)] []
  have hc : Cs S q 0 z := hw.1
  obtain ⟨pm, hH9⟩ := hw.2.1
  have hH : Hs S q pm H := hH9
  have hn7 : pI S (q 80) 7 = nI n := hw.2.2.1
  have hl8 : pI S (q 80) 8 = l := hw.2.2.2.1
  have htx : ∀ j, j < n → pI S (q 93) j = tx j := hw.2.2.2.2
  have hnc := (nc_e hB).2
  have hnr := (nr_e hB).2
  have tn := nI_toInt (n := nc z) (by omega)
  have tr := nI_toInt (n := nr z) (by omega)
  refine g_aload_n (k := 0) F 0 rfl dX9_move_0 ?_
  refine g_iload_n (k := 1) F 1 rfl dX9_move_1 ?_
  refine x_callV F (kX9_checkCorner Γ.1 S q hq z hB hc k) okX9_checkCorner (qi80 hq) mw134 ⟨(Nat.le_of_ble_eq_true rfl), (Nat.le_of_ble_eq_true rfl)⟩ rfl rfl (Nat.le_of_ble_eq_true rfl) ⟨(Nat.le_of_ble_eq_true rfl), (Nat.le_of_ble_eq_true rfl)⟩ dX9_move_2 (fun E4 S5 h6 => ?_) (toV (fun S2 h3 => ?_))
  · obtain ⟨rfl, hC9, rfl⟩ := h6
    exact x_out F T (by rw [show oMov k x y (z, H, l, n, tx) = (1, 0, (z, H, l, n, tx)) from t_err (show tMov z k x y = 1 from if_pos hC9) (by decide)]; exact ⟨(.inl ⟨rfl, rfl⟩), FrP.rf, hw⟩) (Nat.le_of_ble_eq_true rfl) (Nat.le_of_ble_eq_true rfl)
  obtain ⟨hcX9_checkCorner, rfl⟩ := h3
  refine g_iload_n (k := 2) F 2 rfl dX9_move_5 ?_
  refine g_iload_n (k := 3) F 3 rfl dX9_move_6 ?_
  refine x_callS F (kX9_checkPoint Γ.1 S x y) okX9_checkPoint mw391 ⟨(Nat.le_of_ble_eq_true rfl), (Nat.le_of_ble_eq_true rfl)⟩ rfl rfl (Nat.le_of_ble_eq_true rfl) ⟨(Nat.le_of_ble_eq_true rfl), (Nat.le_of_ble_eq_true rfl)⟩ dX9_move_7 (fun E10 S11 h12 => ?_) (toV (fun S8 h9 => ?_))
  · obtain ⟨rfl, hC9, rfl⟩ := h12
    exact x_out F T (by rw [show oMov k x y (z, H, l, n, tx) = (2, 0, (z, H, l, n, tx)) from t_err (show tMov z k x y = 2 from (if_neg (fun h => h hcX9_checkCorner)).trans (if_neg hC9)) (by decide)]; exact ⟨(.inr ⟨rfl, rfl⟩), FrP.rf, hw⟩) (Nat.le_of_ble_eq_true rfl) (Nat.le_of_ble_eq_true rfl)
  obtain ⟨hcX9_checkPoint, rfl⟩ := h9
  refine g_aload_n (k := 0) F 0 rfl dX9_move_10 ?_
  refine gfX9_22 F (qi80 hq) (qr80_2 hq) dX9_move_11 ?_
  refine g_aload_n (k := 0) F 0 rfl dX9_move_14 ?_
  refine gfX9_10 F (qi80 hq) (qr80_0 hq) dX9_move_15 ?_
  have hF13 : Fr S S q FC := Fr.rf
  refine g_callVN (host := "PolarPlanimeter") F (kX2_save Γ.1 S q hq pm H hH z hB hc) okX2_save (qi81 hq) nwM25 ⟨(Nat.le_of_ble_eq_true rfl), (Nat.le_of_ble_eq_true rfl)⟩ rfl rfl (Nat.le_of_ble_eq_true rfl) ⟨(Nat.le_of_ble_eq_true rfl), (Nat.le_of_ble_eq_true rfl)⟩ dX9_move_18 (toV (fun S15 h16 => ?_))
  obtain ⟨gr14, hV⟩ := h16
  have fS : FrP S S15 q P94 := P_tr (P_fc hF13) (P_sv gr14)
  have hqS : Shp S15.1 S15.2.1 q := FrP.q gr14 hq
  have hcS : Cs S15 q 0 z := Cs.frp (s := 0) (by decide) gr14 (fun i hi => .inl (by omega)) hc
  refine g_aload_n (k := 0) F 0 rfl dX9_move_21 ?_
  refine gfX9_10 F (qi80 hqS) (qr80_0 hqS) dX9_move_22 ?_
  refine gfX9_100 F (qs0 hqS (s := 0) (by decide)) (qt0_4 hqS (s := 0) (by decide)) dX9_move_25 ?_
  refine gfX9_129 F (qs2 hqS (s := 0) (by decide)) (qt2_1 hqS (s := 0) (by decide)) dX9_move_28 ?_
  refine g_iload_n (k := 1) F 1 rfl dX9_move_31 ?_
  refine g_iload_n (k := 2) F 2 rfl dX9_move_32 ?_
  refine g_iast (j := k.toInt.toNat) F (qs3 hqS (s := 0) (by decide)) (kN hcX9_checkCorner.1) (by rw [(qm3 hqS (s := 0) (by decide))]; omega) (by rw [(qm3 hqS (s := 0) (by decide))]; decide) dX9_move_33 ?_
  refine g_aload_n (k := 0) F 0 rfl dX9_move_34 ?_
  refine gfX9_10 F (qi80 hqS) (qr80_0 hqS) dX9_move_35 ?_
  refine gfX9_100 F (qs0 hqS (s := 0) (by decide)) (qt0_4 hqS (s := 0) (by decide)) dX9_move_38 ?_
  refine gfX9_132 F (qs2 hqS (s := 0) (by decide)) (qt2_2 hqS (s := 0) (by decide)) dX9_move_41 ?_
  refine g_iload_n (k := 1) F 1 rfl dX9_move_44 ?_
  refine g_iload_n (k := 3) F 3 rfl dX9_move_45 ?_
  refine g_iast (j := k.toInt.toNat) F (qs4 hqS (s := 0) (by decide)) (kN hcX9_checkCorner.1) (by rw [(qm4 hqS (s := 0) (by decide))]; omega) (by rw [(qm4 hqS (s := 0) (by decide))]; decide) dX9_move_46 ?_
  refine g_aload_n (k := 0) F 0 rfl dX9_move_47 ?_
  refine gfX9_10 F (qi80 hqS) (qr80_0 hqS) dX9_move_48 ?_
  refine gfX9_73 F (qs0 hqS (s := 0) (by decide)) (qt0_5 hqS (s := 0) (by decide)) dX9_move_51 ?_
  refine g_callVN (host := "PolarPlanimeter") F (kX5_clear Γ.1 (wI (wI S15 (q 3) (k.toInt.toNat) x) (q 4) (k.toInt.toNat) y) q hqS 0 (by decide) (zMov z k x y) (B_mov hB hcX9_checkCorner hcX9_checkPoint) (Cs_pt (s := 0) (o := 4) hqS (by decide) (by decide) (by rw [uL_nc (by omega)]; omega) (by rw [uL_nc (by omega)]; omega) rfl (Cs_pt (s := 0) (o := 3) hqS (by decide) (by decide) (by omega) (by omega) rfl hcS))) okX5_clear (qs6 hqS (s := 0) (by decide)) nwM26 ⟨(Nat.le_of_ble_eq_true rfl), (Nat.le_of_ble_eq_true rfl)⟩ rfl rfl (Nat.le_of_ble_eq_true rfl) ⟨(Nat.le_of_ble_eq_true rfl), (Nat.le_of_ble_eq_true rfl)⟩ dX9_move_54 (toI (fun r17 S18 h19 => ?_))
  obtain ⟨rfl, fr17, cr17⟩ := h19
  have hq20 : Shp S18.1 S18.2.1 q := Fr.q fr17 hqS
  refine x_iret F T ⟨_, rfl, ?_⟩ (Nat.le_of_ble_eq_true rfl) (Nat.le_of_ble_eq_true rfl) dX9_move_57
  rw [show oMov k x y (z, H, l, n, tx) = (0, nI (nr z), (vp_updL (zMov z k x y) 69 0, psh H z, l, n, tx)) from if_pos (show tMov z k x y = 0 from (if_neg (fun h => h hcX9_checkCorner)).trans (if_pos hcX9_checkPoint))]
  exact ⟨rfl, congrArg nI (nr_mov hB hcX9_checkCorner), P_tr fS (P_fc (Fr.tr (l := FC) (Fr.wI hqS (Fr.wI hqS Fr.rf (by decide) (by decide)) (by decide) (by decide)) fr17 (by decide) (by decide))), Cl_up hV (Fr.tr (l := FC) (Fr.wI hqS (Fr.wI hqS Fr.rf (by decide) (by decide)) (by decide) (by decide)) fr17 (by decide) (by decide)) (cr17) ((congrFun (fr17.2.2 (80) (by decide) (by decide)).1 7).trans ((up2_a (qne hqS (by decide) (by decide) (by decide))).trans ((up2_a (qne hqS (by decide) (by decide) (by decide))).trans ((congrFun (gr14.2.2 80 (by decide) (.inr (.inl rfl))).1 7).trans hn7)))) ((congrFun (fr17.2.2 (80) (by decide) (by decide)).1 8).trans ((up2_a (qne hqS (by decide) (by decide) (by decide))).trans ((up2_a (qne hqS (by decide) (by decide) (by decide))).trans ((congrFun (gr14.2.2 80 (by decide) (.inr (.inl rfl))).1 8).trans hl8)))) (fun j hj => (congrFun ((fr17.2.2 (93) (by decide) (by decide)).1.trans ((up2_r (qne hqS (by decide) (by decide) (by decide))).trans ((up2_r (qne hqS (by decide) (by decide) (by decide))).trans ((gr14.2.2 93 (by decide) (.inr (.inr (by decide)))).1.trans rfl)))) j).trans (htx j hj))⟩
set_option maxHeartbeats 4000000 in
set_option maxRecDepth 100000 in
theorem kX9_remove (g : Glo) (S : PS) (q : Nat → Nat) (hq : Shp S.1 S.2.1 q) (z : ZZ) (H : List ZZ) (l : Int32) (n : Nat) (tx : Nat → Int32) (hB : Bz z) (hw : Cl S q (z, H, l, n, tx)) (k : Int32) : Cx g mX9_remove 3 18 [.ref (q 80), .int k] S (pI9 (fun r S' => (oRem k (z, H, l, n, tx)).1 = 0 ∧ r = (oRem k (z, H, l, n, tx)).2.1 ∧ FrP S S' q P94 ∧ Cl S' q (oRem k (z, H, l, n, tx)).2.2)) (fun E S' => (E = eIOB ∧ (oRem k (z, H, l, n, tx)).1 = 1) ∧ FrP S S' q P94 ∧ Cl S' q (oRem k (z, H, l, n, tx)).2.2) := by
  refine Cx.of (by decide) (Nat.le_of_ble_eq_true rfl) (fun Γ hg F T => ?_)
  subst hg
  show G Γ S 0 0 0 [(0, .ref (q 80)), (1, .int k)] []
  have hc : Cs S q 0 z := hw.1
  obtain ⟨pm, hH9⟩ := hw.2.1
  have hH : Hs S q pm H := hH9
  have hn7 : pI S (q 80) 7 = nI n := hw.2.2.1
  have hl8 : pI S (q 80) 8 = l := hw.2.2.2.1
  have htx : ∀ j, j < n → pI S (q 93) j = tx j := hw.2.2.2.2
  have hnc := (nc_e hB).2
  have hnr := (nr_e hB).2
  have tn := nI_toInt (n := nc z) (by omega)
  have tr := nI_toInt (n := nr z) (by omega)
  refine g_aload_n (k := 0) F 0 rfl dX9_remove_0 ?_
  refine g_iload_n (k := 1) F 1 rfl dX9_remove_1 ?_
  refine x_callV F (kX9_checkCorner Γ.1 S q hq z hB hc k) okX9_checkCorner (qi80 hq) mw134 ⟨(Nat.le_of_ble_eq_true rfl), (Nat.le_of_ble_eq_true rfl)⟩ rfl rfl (Nat.le_of_ble_eq_true rfl) ⟨(Nat.le_of_ble_eq_true rfl), (Nat.le_of_ble_eq_true rfl)⟩ dX9_remove_2 (fun E4 S5 h6 => ?_) (toV (fun S2 h3 => ?_))
  · obtain ⟨rfl, hC9, rfl⟩ := h6
    exact x_out F T (by rw [show oRem k (z, H, l, n, tx) = (1, 0, (z, H, l, n, tx)) from t_err (show tRem z k = 1 from if_neg hC9) (by decide)]; exact ⟨⟨rfl, rfl⟩, FrP.rf, hw⟩) (Nat.le_of_ble_eq_true rfl) (Nat.le_of_ble_eq_true rfl)
  obtain ⟨hcX9_checkCorner, rfl⟩ := h3
  refine g_aload_n (k := 0) F 0 rfl dX9_remove_5 ?_
  refine gfX9_22 F (qi80 hq) (qr80_2 hq) dX9_remove_6 ?_
  refine g_aload_n (k := 0) F 0 rfl dX9_remove_9 ?_
  refine gfX9_10 F (qi80 hq) (qr80_0 hq) dX9_remove_10 ?_
  have hF7 : Fr S S q FC := Fr.rf
  refine g_callVN (host := "PolarPlanimeter") F (kX2_save Γ.1 S q hq pm H hH z hB hc) okX2_save (qi81 hq) nwM25 ⟨(Nat.le_of_ble_eq_true rfl), (Nat.le_of_ble_eq_true rfl)⟩ rfl rfl (Nat.le_of_ble_eq_true rfl) ⟨(Nat.le_of_ble_eq_true rfl), (Nat.le_of_ble_eq_true rfl)⟩ dX9_remove_13 (toV (fun S9 h10 => ?_))
  obtain ⟨gr8, hV⟩ := h10
  have fS : FrP S S9 q P94 := P_tr (P_fc hF7) (P_sv gr8)
  have hqS : Shp S9.1 S9.2.1 q := FrP.q gr8 hq
  have hcS : Cs S9 q 0 z := Cs.frp (s := 0) (by decide) gr8 (fun i hi => .inl (by omega)) hc
  refine g_aload_n (k := 0) F 0 rfl dX9_remove_16 ?_
  refine gfX9_10 F (qi80 hqS) (qr80_0 hqS) dX9_remove_17 ?_
  refine gfX9_100 F (qs0 hqS (s := 0) (by decide)) (qt0_4 hqS (s := 0) (by decide)) dX9_remove_20 ?_
  refine g_iload_n (k := 1) F 1 rfl dX9_remove_23 ?_
  refine g_rei (nI k.toInt.toNat) (kN (by omega)) ?_
  refine g_callVN (host := "PolarPlanimeter") F (kX4_close Γ.1 S9 q hqS 0 (by decide) z hB hcS k.toInt.toNat (by omega)) okX4_close (qs2 hqS (s := 0) (by decide)) nwM1 ⟨(Nat.le_of_ble_eq_true rfl), (Nat.le_of_ble_eq_true rfl)⟩ rfl rfl (Nat.le_of_ble_eq_true rfl) ⟨(Nat.le_of_ble_eq_true rfl), (Nat.le_of_ble_eq_true rfl)⟩ dX9_remove_24 (toV (fun S12 h13 => ?_))
  obtain ⟨fr11, cr11⟩ := h13
  have hq14 : Shp S12.1 S12.2.1 q := Fr.q fr11 hqS
  refine g_aload_n (k := 0) F 0 rfl dX9_remove_27 ?_
  refine gfX9_10 F (qi80 hq14) (qr80_0 hq14) dX9_remove_28 ?_
  refine gfX9_73 F (qs0 hq14 (s := 0) (by decide)) (qt0_5 hq14 (s := 0) (by decide)) dX9_remove_31 ?_
  refine g_callVN (host := "PolarPlanimeter") F (kX5_clear Γ.1 S12 q hq14 0 (by decide) (remR z k.toInt.toNat (9 + 3 * (nc z - 1))) (B_rem hB (by omega) (Nat.le_refl _)) (cr11)) okX5_clear (qs6 hq14 (s := 0) (by decide)) nwM26 ⟨(Nat.le_of_ble_eq_true rfl), (Nat.le_of_ble_eq_true rfl)⟩ rfl rfl (Nat.le_of_ble_eq_true rfl) ⟨(Nat.le_of_ble_eq_true rfl), (Nat.le_of_ble_eq_true rfl)⟩ dX9_remove_34 (toI (fun r15 S16 h17 => ?_))
  obtain ⟨rfl, fr15, cr15⟩ := h17
  have hq18 : Shp S16.1 S16.2.1 q := Fr.q fr15 hq14
  refine g_pop F dX9_remove_37 rfl ?_
  refine g_aload_n (k := 0) F 0 rfl dX9_remove_38 ?_
  refine gfX9_10 F (qi80 hq18) (qr80_0 hq18) dX9_remove_39 ?_
  refine gfX9_100 F (qs0 hq18 (s := 0) (by decide)) (qt0_4 hq18 (s := 0) (by decide)) dX9_remove_42 ?_
  refine gfX9_104e F (qs2 hq18 (s := 0) (by decide)) ((congrFun (fr15.2.2 (2) (by decide) (by decide)).1 0).trans (cr11.n.trans (congrArg nI (nc_rem hB (by omega))))) dX9_remove_45 ?_
  refine x_iret F T ⟨_, rfl, ?_⟩ (Nat.le_of_ble_eq_true rfl) (Nat.le_of_ble_eq_true rfl) dX9_remove_48
  rw [show oRem k (z, H, l, n, tx) = (0, nI (nc z - 1), (zRem z k, psh H z, l, n, tx)) from if_pos (show tRem z k = 0 from if_pos hcX9_checkCorner)]
  exact ⟨rfl, rfl, P_tr fS (P_fc (Fr.tr (l := FC) (Fr.tr (l := FC) Fr.rf fr11 (by decide) (by decide)) fr15 (by decide) (by decide))), Cl_up hV (Fr.tr (l := FC) (Fr.tr (l := FC) Fr.rf fr11 (by decide) (by decide)) fr15 (by decide) (by decide)) (cr15) ((congrFun (fr15.2.2 (80) (by decide) (by decide)).1 7).trans ((congrFun (fr11.2.2 (80) (by decide) (by decide)).1 7).trans ((congrFun (gr8.2.2 80 (by decide) (.inr (.inl rfl))).1 7).trans hn7))) ((congrFun (fr15.2.2 (80) (by decide) (by decide)).1 8).trans ((congrFun (fr11.2.2 (80) (by decide) (by decide)).1 8).trans ((congrFun (gr8.2.2 80 (by decide) (.inr (.inl rfl))).1 8).trans hl8))) (fun j hj => (congrFun ((fr15.2.2 (93) (by decide) (by decide)).1.trans ((fr11.2.2 (93) (by decide) (by decide)).1.trans ((gr8.2.2 93 (by decide) (.inr (.inr (by decide)))).1.trans rfl))) j).trans (htx j hj))⟩
set_option maxHeartbeats 4000000 in
set_option maxRecDepth 100000 in
theorem kX9_setSlip (g : Glo) (S : PS) (q : Nat → Nat) (hq : Shp S.1 S.2.1 q) (z : ZZ) (H : List ZZ) (l : Int32) (n : Nat) (tx : Nat → Int32) (hB : Bz z) (hw : Cl S q (z, H, l, n, tx)) (k v : Int32) : Cx g mX9_setSlip 3 18 [.ref (q 80), .int k, .int v] S (pI9 (fun r S' => (oSlp k v (z, H, l, n, tx)).1 = 0 ∧ r = (oSlp k v (z, H, l, n, tx)).2.1 ∧ FrP S S' q P94 ∧ Cl S' q (oSlp k v (z, H, l, n, tx)).2.2)) (fun E S' => (E = eIOB ∧ (oSlp k v (z, H, l, n, tx)).1 = 1 ∨ E = eIAE ∧ (oSlp k v (z, H, l, n, tx)).1 = 2) ∧ FrP S S' q P94 ∧ Cl S' q (oSlp k v (z, H, l, n, tx)).2.2) := by
  refine Cx.of (by decide) (Nat.le_of_ble_eq_true rfl) (fun Γ hg F T => ?_)
  subst hg
  show G Γ S 0 0 0 [(0, .ref (q 80)), (1, .int k), (2, .int v)] []
  have hc : Cs S q 0 z := hw.1
  obtain ⟨pm, hH9⟩ := hw.2.1
  have hH : Hs S q pm H := hH9
  have hn7 : pI S (q 80) 7 = nI n := hw.2.2.1
  have hl8 : pI S (q 80) 8 = l := hw.2.2.2.1
  have htx : ∀ j, j < n → pI S (q 93) j = tx j := hw.2.2.2.2
  have hnc := (nc_e hB).2
  have hnr := (nr_e hB).2
  have tn := nI_toInt (n := nc z) (by omega)
  have tr := nI_toInt (n := nr z) (by omega)
  have t0 : (0 : Int32).toInt = 0 := by decide
  have t100 : (100 : Int32).toInt = 100 := by decide
  refine g_aload_n (k := 0) F 0 rfl dX9_setSlip_0 ?_
  refine g_iload_n (k := 1) F 1 rfl dX9_setSlip_1 ?_
  refine x_callV F (kX9_checkCorner Γ.1 S q hq z hB hc k) okX9_checkCorner (qi80 hq) mw134 ⟨(Nat.le_of_ble_eq_true rfl), (Nat.le_of_ble_eq_true rfl)⟩ rfl rfl (Nat.le_of_ble_eq_true rfl) ⟨(Nat.le_of_ble_eq_true rfl), (Nat.le_of_ble_eq_true rfl)⟩ dX9_setSlip_2 (fun E4 S5 h6 => ?_) (toV (fun S2 h3 => ?_))
  · obtain ⟨rfl, hC9, rfl⟩ := h6
    exact x_out F T (by rw [show oSlp k v (z, H, l, n, tx) = (1, 0, (z, H, l, n, tx)) from t_err (show tSlp z k v = 1 from if_pos hC9) (by decide)]; exact ⟨(.inl ⟨rfl, rfl⟩), FrP.rf, hw⟩) (Nat.le_of_ble_eq_true rfl) (Nat.le_of_ble_eq_true rfl)
  obtain ⟨hcX9_checkCorner, rfl⟩ := h3
  refine g_iload_n (k := 2) F 2 rfl dX9_setSlip_5 ?_
  refine g_if_lt (t := 15) F dX9_setSlip_6 (by decide) (fun c7 => ?_) (fun c7 => ?_)
  · rw [Int32.lt_iff_toInt_lt] at c7
    refine x_throw F T thr_IAE tx138 ?_ ⟨(Nat.le_of_ble_eq_true rfl), (Nat.le_of_ble_eq_true rfl), (Nat.le_of_ble_eq_true rfl), (Nat.le_of_ble_eq_true rfl)⟩ (Nat.le_of_ble_eq_true rfl) (Nat.le_of_ble_eq_true rfl) dX9_setSlip_15 dX9_setSlip_18 dX9_setSlip_19 dX9_setSlip_21 dX9_setSlip_24
    rw [show oSlp k v (z, H, l, n, tx) = (2, 0, (z, H, l, n, tx)) from t_err (show tSlp z k v = 2 from (if_neg (fun h => h hcX9_checkCorner)).trans (if_neg (by omega))) (by decide)]; exact ⟨(.inr ⟨rfl, rfl⟩), FrP.rf, hw⟩
  · rw [Int32.lt_iff_toInt_lt] at c7
    refine g_iload_n (k := 2) F 2 rfl dX9_setSlip_9 ?_
    refine g_bipush (v := 100) F (by decide) dX9_setSlip_10 ?_
    refine g_icmp_le (t := 25) F dX9_setSlip_12 (by decide) (fun c8 => ?_) (fun c8 => ?_)
    · rw [Int32.le_iff_toInt_le] at c8
      refine g_aload_n (k := 0) F 0 rfl dX9_setSlip_25 ?_
      refine gfX9_22 F (qi80 hq) (qr80_2 hq) dX9_setSlip_26 ?_
      refine g_aload_n (k := 0) F 0 rfl dX9_setSlip_29 ?_
      refine gfX9_10 F (qi80 hq) (qr80_0 hq) dX9_setSlip_30 ?_
      have hF9 : Fr S S q FC := Fr.rf
      refine g_callVN (host := "PolarPlanimeter") F (kX2_save Γ.1 S q hq pm H hH z hB hc) okX2_save (qi81 hq) nwM25 ⟨(Nat.le_of_ble_eq_true rfl), (Nat.le_of_ble_eq_true rfl)⟩ rfl rfl (Nat.le_of_ble_eq_true rfl) ⟨(Nat.le_of_ble_eq_true rfl), (Nat.le_of_ble_eq_true rfl)⟩ dX9_setSlip_33 (toV (fun S11 h12 => ?_))
      obtain ⟨gr10, hV⟩ := h12
      have fS : FrP S S11 q P94 := P_tr (P_fc hF9) (P_sv gr10)
      have hqS : Shp S11.1 S11.2.1 q := FrP.q gr10 hq
      have hcS : Cs S11 q 0 z := Cs.frp (s := 0) (by decide) gr10 (fun i hi => .inl (by omega)) hc
      refine g_aload_n (k := 0) F 0 rfl dX9_setSlip_36 ?_
      refine gfX9_10 F (qi80 hqS) (qr80_0 hqS) dX9_setSlip_37 ?_
      refine gfX9_100 F (qs0 hqS (s := 0) (by decide)) (qt0_4 hqS (s := 0) (by decide)) dX9_setSlip_40 ?_
      refine gfX9_140 F (qs2 hqS (s := 0) (by decide)) (qt2_3 hqS (s := 0) (by decide)) dX9_setSlip_43 ?_
      refine g_iload_n (k := 1) F 1 rfl dX9_setSlip_46 ?_
      refine g_ialde ((gr10.2.2 5 (by decide) (.inl (by decide))).1.trans rfl) (j := k.toInt.toNat) F (qs5 hqS (s := 0) (by decide)) (kN hcX9_checkCorner.1) (by rw [(qm5 hqS (s := 0) (by decide))]; omega) (by rw [(qm5 hqS (s := 0) (by decide))]; decide) dX9_setSlip_47 ?_
      refine g_topi (fun x13 ex13 => ?_)
      refine g_istore_n (k := 3) (L' := [(3, .int x13), (0, .ref (q 80)), (1, .int k), (2, .int v)]) F dX9_setSlip_48 (Nat.le_of_ble_eq_true rfl) rfl ?_
      refine g_aload_n (k := 0) F 1 rfl dX9_setSlip_49 ?_
      refine gfX9_10 F (qi80 hqS) (qr80_0 hqS) dX9_setSlip_50 ?_
      refine gfX9_100 F (qs0 hqS (s := 0) (by decide)) (qt0_4 hqS (s := 0) (by decide)) dX9_setSlip_53 ?_
      refine gfX9_140 F (qs2 hqS (s := 0) (by decide)) (qt2_3 hqS (s := 0) (by decide)) dX9_setSlip_56 ?_
      refine g_iload_n (k := 1) F 2 rfl dX9_setSlip_59 ?_
      refine g_iload_n (k := 2) F 3 rfl dX9_setSlip_60 ?_
      refine g_iast (j := k.toInt.toNat) F (qs5 hqS (s := 0) (by decide)) (kN hcX9_checkCorner.1) (by rw [(qm5 hqS (s := 0) (by decide))]; omega) (by rw [(qm5 hqS (s := 0) (by decide))]; decide) dX9_setSlip_61 ?_
      refine g_iload_n (k := 3) F 0 rfl dX9_setSlip_62 ?_
      refine x_iret F T ⟨_, rfl, ?_⟩ (Nat.le_of_ble_eq_true rfl) (Nat.le_of_ble_eq_true rfl) dX9_setSlip_63
      rw [show oSlp k v (z, H, l, n, tx) = (0, (z (9 + 3 * k.toInt.toNat + 2)).toInt32, (zSlp z k v, psh H z, l, n, tx)) from if_pos (show tSlp z k v = 0 from (if_neg (fun h => h hcX9_checkCorner)).trans (if_pos (by omega)))]
      exact ⟨rfl, ex13.trans (i32_k (hc.2.2.2.1 _ (by omega)).2.2), P_tr fS (P_fc (Fr.wI hqS Fr.rf (by decide) (by decide))), Cl_up hV (Fr.wI hqS Fr.rf (by decide) (by decide)) (Cs_pt (s := 0) (o := 5) hqS (by decide) (by decide) (by omega) (by omega) rfl hcS) ((up2_a (qne hqS (by decide) (by decide) (by decide))).trans ((congrFun (gr10.2.2 80 (by decide) (.inr (.inl rfl))).1 7).trans hn7)) ((up2_a (qne hqS (by decide) (by decide) (by decide))).trans ((congrFun (gr10.2.2 80 (by decide) (.inr (.inl rfl))).1 8).trans hl8)) (fun j hj => (congrFun ((up2_r (qne hqS (by decide) (by decide) (by decide))).trans ((gr10.2.2 93 (by decide) (.inr (.inr (by decide)))).1.trans rfl)) j).trans (htx j hj))⟩
    · rw [Int32.le_iff_toInt_le] at c8
      refine x_throw F T thr_IAE tx138 ?_ ⟨(Nat.le_of_ble_eq_true rfl), (Nat.le_of_ble_eq_true rfl), (Nat.le_of_ble_eq_true rfl), (Nat.le_of_ble_eq_true rfl)⟩ (Nat.le_of_ble_eq_true rfl) (Nat.le_of_ble_eq_true rfl) dX9_setSlip_15 dX9_setSlip_18 dX9_setSlip_19 dX9_setSlip_21 dX9_setSlip_24
      rw [show oSlp k v (z, H, l, n, tx) = (2, 0, (z, H, l, n, tx)) from t_err (show tSlp z k v = 2 from (if_neg (fun h => h hcX9_checkCorner)).trans (if_neg (by omega))) (by decide)]; exact ⟨(.inr ⟨rfl, rfl⟩), FrP.rf, hw⟩
set_option maxHeartbeats 4000000 in
set_option maxRecDepth 100000 in
theorem kX9_run (g : Glo) (S : PS) (q : Nat → Nat) (hq : Shp S.1 S.2.1 q) (z : ZZ) (H : List ZZ) (l : Int32) (n : Nat) (tx : Nat → Int32) (hB : Bz z) (hw : Cl S q (z, H, l, n, tx)) (k : Int32) (b : Bool) : Cx g mX9_run 3 18 [.ref (q 80), .int k, .int (bI b)] S (pI9 (fun r S' => (oRun k b (z, H, l, n, tx)).1 = 0 ∧ r = (oRun k b (z, H, l, n, tx)).2.1 ∧ FrP S S' q P94 ∧ Cl S' q (oRun k b (z, H, l, n, tx)).2.2)) (fun E S' => (E = eIOB ∧ (oRun k b (z, H, l, n, tx)).1 = 1 ∨ E = eISE ∧ (oRun k b (z, H, l, n, tx)).1 = 2) ∧ FrP S S' q P94 ∧ Cl S' q (oRun k b (z, H, l, n, tx)).2.2) := by
  refine Cx.of (by decide) (Nat.le_of_ble_eq_true rfl) (fun Γ hg F T => ?_)
  subst hg
  show G Γ S 0 0 0 [(0, .ref (q 80)), (1, .int k), (2, .int (bI b))] []
  have hc : Cs S q 0 z := hw.1
  obtain ⟨pm, hH9⟩ := hw.2.1
  have hH : Hs S q pm H := hH9
  have hn7 : pI S (q 80) 7 = nI n := hw.2.2.1
  have hl8 : pI S (q 80) 8 = l := hw.2.2.2.1
  have htx : ∀ j, j < n → pI S (q 93) j = tx j := hw.2.2.2.2
  have hnc := (nc_e hB).2
  have hnr := (nr_e hB).2
  have tn := nI_toInt (n := nc z) (by omega)
  have tr := nI_toInt (n := nr z) (by omega)
  refine g_aload_n (k := 0) F 0 rfl dX9_run_0 ?_
  refine g_iload_n (k := 1) F 1 rfl dX9_run_1 ?_
  refine x_callV F (kX9_checkCorner Γ.1 S q hq z hB hc k) okX9_checkCorner (qi80 hq) mw134 ⟨(Nat.le_of_ble_eq_true rfl), (Nat.le_of_ble_eq_true rfl)⟩ rfl rfl (Nat.le_of_ble_eq_true rfl) ⟨(Nat.le_of_ble_eq_true rfl), (Nat.le_of_ble_eq_true rfl)⟩ dX9_run_2 (fun E4 S5 h6 => ?_) (toV (fun S2 h3 => ?_))
  · obtain ⟨rfl, hC9, rfl⟩ := h6
    exact x_out F T (by rw [show oRun k b (z, H, l, n, tx) = (1, 0, (z, H, l, n, tx)) from t_err (show tRem z k = 1 from if_neg hC9) (by decide)]; exact ⟨(.inl ⟨rfl, rfl⟩), FrP.rf, hw⟩) (Nat.le_of_ble_eq_true rfl) (Nat.le_of_ble_eq_true rfl)
  obtain ⟨hcX9_checkCorner, rfl⟩ := h3
  refine g_aload_n (k := 0) F 0 rfl dX9_run_5 ?_
  refine g_aload_n (k := 0) F 0 rfl dX9_run_6 ?_
  refine g_aload_n (k := 0) F 0 rfl dX9_run_7 ?_
  refine gfX9_10 F (qi80 hq) (qr80_0 hq) dX9_run_8 ?_
  refine g_callV F (kX9_refusal Γ.1 S q hq 0 (by decide) z hB hc) okX9_refusal (qi80 hq) mw283 ⟨(Nat.le_of_ble_eq_true rfl), (Nat.le_of_ble_eq_true rfl)⟩ rfl rfl (Nat.le_of_ble_eq_true rfl) ⟨(Nat.le_of_ble_eq_true rfl), (Nat.le_of_ble_eq_true rfl)⟩ dX9_run_11 (toI (fun r7 S8 h9 => ?_))
  obtain ⟨rfl, fr7⟩ := h9
  have hq10 : Shp S8.1 S8.2.1 q := Fr.q fr7 hq
  refine pfX9_147 F (qi80 hq10) dX9_run_14 ?_
  refine g_aload_n (k := 0) F 0 rfl dX9_run_17 ?_
  refine gfX9_147e F (qi80 hq10) up2_s dX9_run_18 ?_
  refine g_if_eq (t := 34) F dX9_run_21 (by decide) (fun c11 => ?_) (fun c11 => ?_)
  · have hf9 : zRf z = 0 := by
      have := zRf_le (z := z)
      rw [show (0 : Int32) = nI 0 from rfl, nI_eq (by omega) (by omega)] at c11
      exact c11
    refine g_aload_n (k := 0) F 0 rfl dX9_run_34 ?_
    refine gfX9_22 F (qi80 hq10) (qr80_2 hq10) dX9_run_35 ?_
    refine g_aload_n (k := 0) F 0 rfl dX9_run_38 ?_
    refine gfX9_10 F (qi80 hq10) (qr80_0 hq10) dX9_run_39 ?_
    have hF12 : Fr S (wI S8 (q 80) 8 (nI (zRf z))) q FC := (Fr.wI hq (Fr.tr (l := FC) Fr.rf fr7 (by decide) (by decide)) (by decide) (by decide))
    refine g_callVN (host := "PolarPlanimeter") F (kX2_save Γ.1 (wI S8 (q 80) 8 (nI (zRf z))) q hq10 pm H (hH.frq hF12 FC_hs (by decide)) z hB (Cs.fr (s := 0) (l := [80, 83, 84]) (by decide) (Fr.wI hq (Fr.tr (l := [80, 83, 84]) Fr.rf fr7 (by decide) (by decide)) (by decide) (by decide)) (by decide) hc)) okX2_save (qi81 hq10) nwM25 ⟨(Nat.le_of_ble_eq_true rfl), (Nat.le_of_ble_eq_true rfl)⟩ rfl rfl (Nat.le_of_ble_eq_true rfl) ⟨(Nat.le_of_ble_eq_true rfl), (Nat.le_of_ble_eq_true rfl)⟩ dX9_run_42 (toV (fun S14 h15 => ?_))
    obtain ⟨gr13, hV⟩ := h15
    have fS : FrP S S14 q P94 := P_tr (P_fc hF12) (P_sv gr13)
    have hqS : Shp S14.1 S14.2.1 q := FrP.q gr13 hq10
    have hcS : Cs S14 q 0 z := Cs.frp (s := 0) (by decide) gr13 (fun i hi => .inl (by omega)) (Cs.fr (s := 0) (l := [80, 83, 84]) (by decide) (Fr.wI hq (Fr.tr (l := [80, 83, 84]) Fr.rf fr7 (by decide) (by decide)) (by decide) (by decide)) (by decide) hc)
    refine g_aload_n (k := 0) F 0 rfl dX9_run_45 ?_
    refine gfX9_10 F (qi80 hqS) (qr80_0 hqS) dX9_run_46 ?_
    refine gfX9_73 F (qs0 hqS (s := 0) (by decide)) (qt0_5 hqS (s := 0) (by decide)) dX9_run_49 ?_
    refine g_iload_n (k := 1) F 1 rfl dX9_run_52 ?_
    refine g_rei (nI k.toInt.toNat) (kN (by omega)) ?_
    refine g_iload_n (k := 2) F 2 rfl dX9_run_53 ?_
    refine g_aload_n (k := 0) F 0 rfl dX9_run_54 ?_
    refine gfX9_29 F (qi80 hqS) (qr80_3 hqS) dX9_run_55 ?_
    refine g_aload_n (k := 0) F 0 rfl dX9_run_58 ?_
    refine gfX9_10 F (qi80 hqS) (qr80_0 hqS) dX9_run_59 ?_
    refine g_iload_n (k := 1) F 1 rfl dX9_run_62 ?_
    refine g_rei (nI k.toInt.toNat) (kN (by omega)) ?_
    refine g_iload_n (k := 2) F 2 rfl dX9_run_63 ?_
    refine g_callVN (host := "PolarPlanimeter") F (kX1_sum Γ.1 S14 q hqS 0 (by decide) z hB hcS k.toInt.toNat (by omega) b (zRf_0 hB hf9).2.1) okX1_sum (qi83 hqS) nwM2 ⟨(Nat.le_of_ble_eq_true rfl), (Nat.le_of_ble_eq_true rfl)⟩ rfl rfl (Nat.le_of_ble_eq_true rfl) ⟨(Nat.le_of_ble_eq_true rfl), (Nat.le_of_ble_eq_true rfl)⟩ dX9_run_64 (toJ (fun r16 S17 h18 => ?_))
    obtain ⟨er16, fr16⟩ := h18
    have hq19 : Shp S17.1 S17.2.1 q := Fr.q fr16 hqS
    refine g_callVN (host := "PolarPlanimeter") F (kX5_add Γ.1 S17 q hq19 0 (by decide) z hB (Cs.fr (s := 0) (l := [84, 85]) (by decide) (Fr.tr (l := [84, 85]) Fr.rf fr16 (by decide) (by decide)) (by decide) hcS) k.toInt.toNat b r16 er16 (zRf_0 hB hf9).2.2) okX5_add (qs6 hq19 (s := 0) (by decide)) nwM3 ⟨(Nat.le_of_ble_eq_true rfl), (Nat.le_of_ble_eq_true rfl)⟩ rfl rfl (Nat.le_of_ble_eq_true rfl) ⟨(Nat.le_of_ble_eq_true rfl), (Nat.le_of_ble_eq_true rfl)⟩ dX9_run_67 (toV (fun S21 h22 => ?_))
    obtain ⟨fr20, cr20⟩ := h22
    have hq23 : Shp S21.1 S21.2.1 q := Fr.q fr20 hq19
    refine g_aload_n (k := 0) F 0 rfl dX9_run_70 ?_
    refine gfX9_10 F (qi80 hq23) (qr80_0 hq23) dX9_run_71 ?_
    refine gfX9_73 F (qs0 hq23 (s := 0) (by decide)) (qt0_5 hq23 (s := 0) (by decide)) dX9_run_74 ?_
    refine gfX9_160e F (qs6 hq23 (s := 0) (by decide)) (cr20.m.trans (congrArg nI (mk_nr2 hB (zRf_0 hB hf9).2.2))) dX9_run_77 ?_
    refine g_iconst (v := 1) F (by decide) dX9_run_80 ?_
    refine g_isub F dX9_run_81 ?_
    refine g_rei (nI ((nr z + 1) - 1)) (nsub rfl rfl (by omega)) ?_
    refine x_iret F T ⟨_, rfl, ?_⟩ (Nat.le_of_ble_eq_true rfl) (Nat.le_of_ble_eq_true rfl) dX9_run_82
    rw [show oRun k b (z, H, l, n, tx) = (0, nI (nr z), (zMk z k.toInt.toNat b, psh H z, 0, n, tx)) from (if_pos (show tRem z k = 0 from if_pos hcX9_checkCorner)).trans (if_pos hf9)]
    exact ⟨rfl, rfl, P_tr fS (P_fc (Fr.tr (l := FC) (Fr.tr (l := FC) Fr.rf fr16 (by decide) (by decide)) fr20 (by decide) (by decide))), Cl_up hV (Fr.tr (l := FC) (Fr.tr (l := FC) Fr.rf fr16 (by decide) (by decide)) fr20 (by decide) (by decide)) (cr20) ((congrFun (fr20.2.2 (80) (by decide) (by decide)).1 7).trans ((congrFun (fr16.2.2 (80) (by decide) (by decide)).1 7).trans ((congrFun (gr13.2.2 80 (by decide) (.inr (.inl rfl))).1 7).trans ((up2_k (by decide)).trans ((congrFun (fr7.2.2 (80) (by decide) (by decide)).1 7).trans hn7))))) (((congrFun (fr20.2.2 (80) (by decide) (by decide)).1 8).trans ((congrFun (fr16.2.2 (80) (by decide) (by decide)).1 8).trans ((congrFun (gr13.2.2 80 (by decide) (.inr (.inl rfl))).1 8).trans up2_s))).trans (by rw [hf9]; rfl)) (fun j hj => (congrFun ((fr20.2.2 (93) (by decide) (by decide)).1.trans ((fr16.2.2 (93) (by decide) (by decide)).1.trans ((gr13.2.2 93 (by decide) (.inr (.inr (by decide)))).1.trans ((up2_r (qne hq10 (by decide) (by decide) (by decide))).trans ((fr7.2.2 (93) (by decide) (by decide)).1.trans rfl))))) j).trans (htx j hj))⟩
  · have hf9 : ¬ zRf z = 0 := fun h => c11 (by rw [h]; rfl)
    refine x_throw F T thr_ISE tx150 ?_ ⟨(Nat.le_of_ble_eq_true rfl), (Nat.le_of_ble_eq_true rfl), (Nat.le_of_ble_eq_true rfl), (Nat.le_of_ble_eq_true rfl)⟩ (Nat.le_of_ble_eq_true rfl) (Nat.le_of_ble_eq_true rfl) dX9_run_24 dX9_run_27 dX9_run_28 dX9_run_30 dX9_run_33
    rw [show oRun k b (z, H, l, n, tx) = (2, 0, (z, H, nI (zRf z), n, tx)) from (if_pos (show tRem z k = 0 from if_pos hcX9_checkCorner)).trans (if_neg hf9)]
    exact ⟨.inr ⟨rfl, rfl⟩, P_fc (Fr.wI hq (Fr.tr (l := FC) Fr.rf fr7 (by decide) (by decide)) (by decide) (by decide)), Cl_up ⟨pm, hH⟩ (Fr.wI hq (Fr.tr (l := FC) Fr.rf fr7 (by decide) (by decide)) (by decide) (by decide)) (Cs.fr (s := 0) (l := [80, 83, 84]) (by decide) (Fr.wI hq (Fr.tr (l := [80, 83, 84]) Fr.rf fr7 (by decide) (by decide)) (by decide) (by decide)) (by decide) hc) ((up2_k (by decide)).trans ((congrFun (fr7.2.2 (80) (by decide) (by decide)).1 7).trans hn7)) up2_s (fun j hj => (congrFun ((up2_r (qne hq10 (by decide) (by decide) (by decide))).trans ((fr7.2.2 (93) (by decide) (by decide)).1.trans rfl)) j).trans (htx j hj))⟩
set_option maxHeartbeats 4000000 in
set_option maxRecDepth 100000 in
theorem kX9_reason (g : Glo) (S : PS) (q : Nat → Nat) (hq : Shp S.1 S.2.1 q) (z : ZZ) (H : List ZZ) (l : Int32) (n : Nat) (tx : Nat → Int32) (hB : Bz z) (hw : Cl S q (z, H, l, n, tx)) : Ct g mX9_reason 0 0 [.ref (q 80)] S (pI9 (fun r S' => (oRea (z, H, l, n, tx)).1 = 0 ∧ r = (oRea (z, H, l, n, tx)).2.1 ∧ FrP S S' q P94 ∧ Cl S' q (oRea (z, H, l, n, tx)).2.2)) := by
  refine Ct.of (by decide) (Nat.le_of_ble_eq_true rfl) (fun Γ hg F T => ?_)
  subst hg
  show G Γ S 0 0 0 [(0, .ref (q 80))] []
  have hc : Cs S q 0 z := hw.1
  obtain ⟨pm, hH9⟩ := hw.2.1
  have hH : Hs S q pm H := hH9
  have hn7 : pI S (q 80) 7 = nI n := hw.2.2.1
  have hl8 : pI S (q 80) 8 = l := hw.2.2.2.1
  have htx : ∀ j, j < n → pI S (q 93) j = tx j := hw.2.2.2.2
  have hnc := (nc_e hB).2
  have hnr := (nr_e hB).2
  have tn := nI_toInt (n := nc z) (by omega)
  have tr := nI_toInt (n := nr z) (by omega)
  refine g_aload_n (k := 0) F 0 rfl dX9_reason_0 ?_
  refine gfX9_147e F (qi80 hq) hl8 dX9_reason_1 ?_
  refine g_iret F T ⟨_, rfl, ?_⟩ (Nat.le_of_ble_eq_true rfl) (Nat.le_of_ble_eq_true rfl) dX9_reason_4
  rw [show oRea (z, H, l, n, tx) = (0, l, (z, H, l, n, tx)) from rfl]
  exact ⟨rfl, rfl, (P_fc Fr.rf), Cl_up ⟨pm, hH⟩ Fr.rf (hc) hn7 hl8 (fun j hj => (congrFun rfl j).trans (htx j hj))⟩
set_option maxHeartbeats 4000000 in
set_option maxRecDepth 100000 in
theorem kX9_corner (g : Glo) (S : PS) (q : Nat → Nat) (hq : Shp S.1 S.2.1 q) (z : ZZ) (H : List ZZ) (l : Int32) (n : Nat) (tx : Nat → Int32) (hB : Bz z) (hw : Cl S q (z, H, l, n, tx)) (k w : Int32) : Cx g mX9_corner 3 18 [.ref (q 80), .int k, .int w] S (pJ9 (fun r S' => (oCor k w (z, H, l, n, tx)).1 = 0 ∧ r = (oCor k w (z, H, l, n, tx)).2 ∧ FrP S S' q P94 ∧ Cl S' q (z, H, l, n, tx))) (fun E S' => (E = eIOB ∧ (oCor k w (z, H, l, n, tx)).1 = 1 ∨ E = eIAE ∧ (oCor k w (z, H, l, n, tx)).1 = 2) ∧ FrP S S' q P94 ∧ Cl S' q (z, H, l, n, tx)) := by
  refine Cx.of (by decide) (Nat.le_of_ble_eq_true rfl) (fun Γ hg F T => ?_)
  subst hg
  show G Γ S 0 0 0 [(0, .ref (q 80)), (1, .int k), (2, .int w)] []
  have hc : Cs S q 0 z := hw.1
  obtain ⟨pm, hH9⟩ := hw.2.1
  have hH : Hs S q pm H := hH9
  have hn7 : pI S (q 80) 7 = nI n := hw.2.2.1
  have hl8 : pI S (q 80) 8 = l := hw.2.2.2.1
  have htx : ∀ j, j < n → pI S (q 93) j = tx j := hw.2.2.2.2
  have hnc := (nc_e hB).2
  have hnr := (nr_e hB).2
  have tn := nI_toInt (n := nc z) (by omega)
  have tr := nI_toInt (n := nr z) (by omega)
  have t6 : (6 : Int32).toInt = 6 := by decide
  refine g_aload_n (k := 0) F 0 rfl dX9_corner_0 ?_
  refine g_iload_n (k := 1) F 1 rfl dX9_corner_1 ?_
  refine x_callV F (kX9_checkCorner Γ.1 S q hq z hB hc k) okX9_checkCorner (qi80 hq) mw134 ⟨(Nat.le_of_ble_eq_true rfl), (Nat.le_of_ble_eq_true rfl)⟩ rfl rfl (Nat.le_of_ble_eq_true rfl) ⟨(Nat.le_of_ble_eq_true rfl), (Nat.le_of_ble_eq_true rfl)⟩ dX9_corner_2 (fun E4 S5 h6 => ?_) (toV (fun S2 h3 => ?_))
  · obtain ⟨rfl, hC9, rfl⟩ := h6
    exact x_out F T (by rw [show oCor k w (z, H, l, n, tx) = (1, 0) from t_err (show tCor z k w = 1 from if_pos hC9) (by decide)]; exact ⟨(.inl ⟨rfl, rfl⟩), FrP.rf, hw⟩) (Nat.le_of_ble_eq_true rfl) (Nat.le_of_ble_eq_true rfl)
  obtain ⟨hcX9_checkCorner, rfl⟩ := h3
  refine g_iload_n (k := 2) F 2 rfl dX9_corner_5 ?_
  refine g_bipush (v := 6) F (by decide) dX9_corner_6 ?_
  refine x_callS F (kX9_checkWhat Γ.1 S w 6) okX9_checkWhat mw140 ⟨(Nat.le_of_ble_eq_true rfl), (Nat.le_of_ble_eq_true rfl)⟩ rfl rfl (Nat.le_of_ble_eq_true rfl) ⟨(Nat.le_of_ble_eq_true rfl), (Nat.le_of_ble_eq_true rfl)⟩ dX9_corner_8 (fun E10 S11 h12 => ?_) (toV (fun S8 h9 => ?_))
  · obtain ⟨rfl, hC9, rfl⟩ := h12
    exact x_out F T (by rw [show oCor k w (z, H, l, n, tx) = (2, 0) from t_err (show tCor z k w = 2 from (if_neg (fun h => h hcX9_checkCorner)).trans (if_neg (by omega))) (by decide)]; exact ⟨(.inr ⟨rfl, rfl⟩), FrP.rf, hw⟩) (Nat.le_of_ble_eq_true rfl) (Nat.le_of_ble_eq_true rfl)
  obtain ⟨hcX9_checkWhat, rfl⟩ := h9
  refine g_aload_n (k := 0) F 0 rfl dX9_corner_11 ?_
  refine g_iload_n (k := 1) F 1 rfl dX9_corner_12 ?_
  refine g_rei (nI k.toInt.toNat) (kN (by omega)) ?_
  refine g_iload_n (k := 2) F 2 rfl dX9_corner_13 ?_
  refine g_callV F (kX9_cornerProperty Γ.1 S q hq z hB hc k.toInt.toNat (by omega) w (by omega)) okX9_cornerProperty (qi80 hq) mw145 ⟨(Nat.le_of_ble_eq_true rfl), (Nat.le_of_ble_eq_true rfl)⟩ rfl rfl (Nat.le_of_ble_eq_true rfl) ⟨(Nat.le_of_ble_eq_true rfl), (Nat.le_of_ble_eq_true rfl)⟩ dX9_corner_14 (toJ (fun r13 S14 h15 => ?_))
  obtain ⟨er13, fr13⟩ := h15
  have hq16 : Shp S14.1 S14.2.1 q := Fr.q fr13 hq
  refine x_lret F T ⟨_, rfl, ?_⟩ (Nat.le_of_ble_eq_true rfl) (Nat.le_of_ble_eq_true rfl) dX9_corner_17
  rw [show oCor k w (z, H, l, n, tx) = (0, zCn z k.toInt.toNat w) from if_pos (show tCor z k w = 0 from (if_neg (fun h => h hcX9_checkCorner)).trans (if_pos (by omega)))]
  exact ⟨rfl, er13, P_fc (Fr.tr (l := FC) Fr.rf fr13 (by decide) (by decide)), Cl_up ⟨pm, hH⟩ (Fr.tr (l := FC) Fr.rf fr13 (by decide) (by decide)) (Cs.fr (s := 0) (l := [83, 84, 85, 86, 87, 88, 89]) (by decide) (Fr.tr (l := [83, 84, 85, 86, 87, 88, 89]) Fr.rf fr13 (by decide) (by decide)) (by decide) hc) ((congrFun (fr13.2.2 (80) (by decide) (by decide)).1 7).trans hn7) ((congrFun (fr13.2.2 (80) (by decide) (by decide)).1 8).trans hl8) (fun j hj => (congrFun ((fr13.2.2 (93) (by decide) (by decide)).1.trans rfl) j).trans (htx j hj))⟩
set_option maxHeartbeats 4000000 in
set_option maxRecDepth 100000 in
theorem kX9_made (g : Glo) (S : PS) (q : Nat → Nat) (hq : Shp S.1 S.2.1 q) (z : ZZ) (H : List ZZ) (l : Int32) (n : Nat) (tx : Nat → Int32) (hB : Bz z) (hw : Cl S q (z, H, l, n, tx)) (k w : Int32) : Cx g mX9_made 3 18 [.ref (q 80), .int k, .int w] S (pJ9 (fun r S' => (oMad k w (z, H, l, n, tx)).1 = 0 ∧ r = (oMad k w (z, H, l, n, tx)).2 ∧ FrP S S' q P94 ∧ Cl S' q (z, H, l, n, tx))) (fun E S' => (E = eIOB ∧ (oMad k w (z, H, l, n, tx)).1 = 1 ∨ E = eIAE ∧ (oMad k w (z, H, l, n, tx)).1 = 2) ∧ FrP S S' q P94 ∧ Cl S' q (z, H, l, n, tx)) := by
  refine Cx.of (by decide) (Nat.le_of_ble_eq_true rfl) (fun Γ hg F T => ?_)
  subst hg
  show G Γ S 0 0 0 [(0, .ref (q 80)), (1, .int k), (2, .int w)] []
  have hc : Cs S q 0 z := hw.1
  obtain ⟨pm, hH9⟩ := hw.2.1
  have hH : Hs S q pm H := hH9
  have hn7 : pI S (q 80) 7 = nI n := hw.2.2.1
  have hl8 : pI S (q 80) 8 = l := hw.2.2.2.1
  have htx : ∀ j, j < n → pI S (q 93) j = tx j := hw.2.2.2.2
  have hnc := (nc_e hB).2
  have hnr := (nr_e hB).2
  have tn := nI_toInt (n := nc z) (by omega)
  have tr := nI_toInt (n := nr z) (by omega)
  have t0 : (0 : Int32).toInt = 0 := by decide
  have t6 : (6 : Int32).toInt = 6 := by decide
  refine g_iload_n (k := 1) F 1 rfl dX9_made_0 ?_
  refine g_if_lt (t := 18) F dX9_made_1 (by decide) (fun c1 => ?_) (fun c1 => ?_)
  · rw [Int32.lt_iff_toInt_lt] at c1
    refine x_throw F T thr_IOB tx199 ?_ ⟨(Nat.le_of_ble_eq_true rfl), (Nat.le_of_ble_eq_true rfl), (Nat.le_of_ble_eq_true rfl), (Nat.le_of_ble_eq_true rfl)⟩ (Nat.le_of_ble_eq_true rfl) (Nat.le_of_ble_eq_true rfl) dX9_made_18 dX9_made_21 dX9_made_22 dX9_made_24 dX9_made_27
    rw [show oMad k w (z, H, l, n, tx) = (1, 0) from t_err (show tMad z k w = 1 from if_pos (by omega)) (by decide)]; exact ⟨(.inl ⟨rfl, rfl⟩), FrP.rf, hw⟩
  · rw [Int32.lt_iff_toInt_lt] at c1
    refine g_iload_n (k := 1) F 1 rfl dX9_made_4 ?_
    refine g_aload_n (k := 0) F 0 rfl dX9_made_5 ?_
    refine gfX9_10 F (qi80 hq) (qr80_0 hq) dX9_made_6 ?_
    refine gfX9_73 F (qs0 hq (s := 0) (by decide)) (qt0_5 hq (s := 0) (by decide)) dX9_made_9 ?_
    refine gfX9_160e F (qs6 hq (s := 0) (by decide)) hc.m dX9_made_12 ?_
    refine g_icmp_lt (t := 28) F dX9_made_15 (by decide) (fun c2 => ?_) (fun c2 => ?_)
    · rw [Int32.lt_iff_toInt_lt] at c2
      refine g_iload_n (k := 2) F 2 rfl dX9_made_28 ?_
      refine g_bipush (v := 6) F (by decide) dX9_made_29 ?_
      refine x_callS F (kX9_checkWhat Γ.1 S w 6) okX9_checkWhat mw140 ⟨(Nat.le_of_ble_eq_true rfl), (Nat.le_of_ble_eq_true rfl)⟩ rfl rfl (Nat.le_of_ble_eq_true rfl) ⟨(Nat.le_of_ble_eq_true rfl), (Nat.le_of_ble_eq_true rfl)⟩ dX9_made_31 (fun E6 S7 h8 => ?_) (toV (fun S4 h5 => ?_))
      · obtain ⟨rfl, hC9, rfl⟩ := h8
        exact x_out F T (by rw [show oMad k w (z, H, l, n, tx) = (2, 0) from t_err (show tMad z k w = 2 from (if_neg (fun h => h (show isR z k by omega))).trans (if_neg (by omega))) (by decide)]; exact ⟨(.inr ⟨rfl, rfl⟩), FrP.rf, hw⟩) (Nat.le_of_ble_eq_true rfl) (Nat.le_of_ble_eq_true rfl)
      obtain ⟨hcX9_checkWhat, rfl⟩ := h5
      refine g_aload_n (k := 0) F 0 rfl dX9_made_34 ?_
      refine g_iload_n (k := 1) F 1 rfl dX9_made_35 ?_
      refine g_rei (nI k.toInt.toNat) (kN (by omega)) ?_
      refine g_iload_n (k := 2) F 2 rfl dX9_made_36 ?_
      refine g_callV F (kX9_runProperty Γ.1 S q hq z hB hc k.toInt.toNat (by omega) w (by omega)) okX9_runProperty (qi80 hq) mw465 ⟨(Nat.le_of_ble_eq_true rfl), (Nat.le_of_ble_eq_true rfl)⟩ rfl rfl (Nat.le_of_ble_eq_true rfl) ⟨(Nat.le_of_ble_eq_true rfl), (Nat.le_of_ble_eq_true rfl)⟩ dX9_made_37 (toJ (fun r9 S10 h11 => ?_))
      obtain ⟨er9, fr9⟩ := h11
      have hq12 : Shp S10.1 S10.2.1 q := Fr.q fr9 hq
      refine x_lret F T ⟨_, rfl, ?_⟩ (Nat.le_of_ble_eq_true rfl) (Nat.le_of_ble_eq_true rfl) dX9_made_40
      rw [show oMad k w (z, H, l, n, tx) = (0, zMn z k.toInt.toNat w) from if_pos (show tMad z k w = 0 from (if_neg (fun h => h (show isR z k by omega))).trans (if_pos (by omega)))]
      exact ⟨rfl, er9, P_fc (Fr.tr (l := FC) Fr.rf fr9 (by decide) (by decide)), Cl_up ⟨pm, hH⟩ (Fr.tr (l := FC) Fr.rf fr9 (by decide) (by decide)) (Cs.fr (s := 0) (l := [83, 84, 85, 86, 87, 88, 89]) (by decide) (Fr.tr (l := [83, 84, 85, 86, 87, 88, 89]) Fr.rf fr9 (by decide) (by decide)) (by decide) hc) ((congrFun (fr9.2.2 (80) (by decide) (by decide)).1 7).trans hn7) ((congrFun (fr9.2.2 (80) (by decide) (by decide)).1 8).trans hl8) (fun j hj => (congrFun ((fr9.2.2 (93) (by decide) (by decide)).1.trans rfl) j).trans (htx j hj))⟩
    · rw [Int32.lt_iff_toInt_lt] at c2
      refine x_throw F T thr_IOB tx199 ?_ ⟨(Nat.le_of_ble_eq_true rfl), (Nat.le_of_ble_eq_true rfl), (Nat.le_of_ble_eq_true rfl), (Nat.le_of_ble_eq_true rfl)⟩ (Nat.le_of_ble_eq_true rfl) (Nat.le_of_ble_eq_true rfl) dX9_made_18 dX9_made_21 dX9_made_22 dX9_made_24 dX9_made_27
      rw [show oMad k w (z, H, l, n, tx) = (1, 0) from t_err (show tMad z k w = 1 from if_pos (by omega)) (by decide)]; exact ⟨(.inl ⟨rfl, rfl⟩), FrP.rf, hw⟩
set_option maxHeartbeats 4000000 in
set_option maxRecDepth 100000 in
theorem kX9_count (g : Glo) (S : PS) (q : Nat → Nat) (hq : Shp S.1 S.2.1 q) (z : ZZ) (H : List ZZ) (l : Int32) (n : Nat) (tx : Nat → Int32) (hB : Bz z) (hw : Cl S q (z, H, l, n, tx)) (w : Int32) : Cx g mX9_count 3 18 [.ref (q 80), .int w] S (pJ9 (fun r S' => (oCnt w (z, H, l, n, tx)).1 = 0 ∧ r = (oCnt w (z, H, l, n, tx)).2 ∧ FrP S S' q P94 ∧ Cl S' q (z, H, l, n, tx))) (fun E S' => (E = eIAE ∧ (oCnt w (z, H, l, n, tx)).1 = 1) ∧ FrP S S' q P94 ∧ Cl S' q (z, H, l, n, tx)) := by
  refine Cx.of (by decide) (Nat.le_of_ble_eq_true rfl) (fun Γ hg F T => ?_)
  subst hg
  show G Γ S 0 0 0 [(0, .ref (q 80)), (1, .int w)] []
  have hc : Cs S q 0 z := hw.1
  obtain ⟨pm, hH9⟩ := hw.2.1
  have hH : Hs S q pm H := hH9
  have hn7 : pI S (q 80) 7 = nI n := hw.2.2.1
  have hl8 : pI S (q 80) 8 = l := hw.2.2.2.1
  have htx : ∀ j, j < n → pI S (q 93) j = tx j := hw.2.2.2.2
  have hnc := (nc_e hB).2
  have hnr := (nr_e hB).2
  have tn := nI_toInt (n := nc z) (by omega)
  have tr := nI_toInt (n := nr z) (by omega)
  have t15 : (15 : Int32).toInt = 15 := by decide
  refine g_iload_n (k := 1) F 1 rfl dX9_count_0 ?_
  refine g_bipush (v := 15) F (by decide) dX9_count_1 ?_
  refine x_callS F (kX9_checkWhat Γ.1 S w 15) okX9_checkWhat mw140 ⟨(Nat.le_of_ble_eq_true rfl), (Nat.le_of_ble_eq_true rfl)⟩ rfl rfl (Nat.le_of_ble_eq_true rfl) ⟨(Nat.le_of_ble_eq_true rfl), (Nat.le_of_ble_eq_true rfl)⟩ dX9_count_3 (fun E4 S5 h6 => ?_) (toV (fun S2 h3 => ?_))
  · obtain ⟨rfl, hC9, rfl⟩ := h6
    exact x_out F T (by rw [show oCnt w (z, H, l, n, tx) = (1, 0) from t_err (show tCnt w = 1 from if_neg (by omega)) (by decide)]; exact ⟨⟨rfl, rfl⟩, FrP.rf, hw⟩) (Nat.le_of_ble_eq_true rfl) (Nat.le_of_ble_eq_true rfl)
  obtain ⟨hcX9_checkWhat, rfl⟩ := h3
  refine g_aload_n (k := 0) F 0 rfl dX9_count_6 ?_
  refine g_iload_n (k := 1) F 1 rfl dX9_count_7 ?_
  refine g_callV F (kX9_number Γ.1 S q hq z hB hc H.length hH.1 hH.2.1 w (by omega)) okX9_number (qi80 hq) mw303 ⟨(Nat.le_of_ble_eq_true rfl), (Nat.le_of_ble_eq_true rfl)⟩ rfl rfl (Nat.le_of_ble_eq_true rfl) ⟨(Nat.le_of_ble_eq_true rfl), (Nat.le_of_ble_eq_true rfl)⟩ dX9_count_8 (toJ (fun r7 S8 h9 => ?_))
  obtain ⟨er7, fr7⟩ := h9
  have hq10 : Shp S8.1 S8.2.1 q := Fr.q fr7 hq
  refine x_lret F T ⟨_, rfl, ?_⟩ (Nat.le_of_ble_eq_true rfl) (Nat.le_of_ble_eq_true rfl) dX9_count_11
  rw [show oCnt w (z, H, l, n, tx) = (0, zCt z H.length w) from if_pos (show tCnt w = 0 from if_pos (by omega))]
  exact ⟨rfl, er7, P_fc (Fr.tr (l := FC) Fr.rf fr7 (by decide) (by decide)), Cl_up ⟨pm, hH⟩ (Fr.tr (l := FC) Fr.rf fr7 (by decide) (by decide)) (Cs.fr (s := 0) (l := [83, 84, 85, 86, 87, 88, 89]) (by decide) (Fr.tr (l := [83, 84, 85, 86, 87, 88, 89]) Fr.rf fr7 (by decide) (by decide)) (by decide) hc) ((congrFun (fr7.2.2 (80) (by decide) (by decide)).1 7).trans hn7) ((congrFun (fr7.2.2 (80) (by decide) (by decide)).1 8).trans hl8) (fun j hj => (congrFun ((fr7.2.2 (93) (by decide) (by decide)).1.trans rfl) j).trans (htx j hj))⟩
set_option maxHeartbeats 4000000 in
set_option maxRecDepth 100000 in
theorem kX9_setting (g : Glo) (S : PS) (q : Nat → Nat) (hq : Shp S.1 S.2.1 q) (z : ZZ) (H : List ZZ) (l : Int32) (n : Nat) (tx : Nat → Int32) (hB : Bz z) (hw : Cl S q (z, H, l, n, tx)) (k : Int32) : Cx g mX9_setting 3 18 [.ref (q 80), .int k] S (pI9 (fun r S' => (oStg k (z, H, l, n, tx)).1 = 0 ∧ r = (oStg k (z, H, l, n, tx)).2 ∧ FrP S S' q P94 ∧ Cl S' q (z, H, l, n, tx))) (fun E S' => (E = eIOB ∧ (oStg k (z, H, l, n, tx)).1 = 1) ∧ FrP S S' q P94 ∧ Cl S' q (z, H, l, n, tx)) := by
  refine Cx.of (by decide) (Nat.le_of_ble_eq_true rfl) (fun Γ hg F T => ?_)
  subst hg
  show G Γ S 0 0 0 [(0, .ref (q 80)), (1, .int k)] []
  have hc : Cs S q 0 z := hw.1
  obtain ⟨pm, hH9⟩ := hw.2.1
  have hH : Hs S q pm H := hH9
  have hn7 : pI S (q 80) 7 = nI n := hw.2.2.1
  have hl8 : pI S (q 80) 8 = l := hw.2.2.2.1
  have htx : ∀ j, j < n → pI S (q 93) j = tx j := hw.2.2.2.2
  have hnc := (nc_e hB).2
  have hnr := (nr_e hB).2
  have tn := nI_toInt (n := nc z) (by omega)
  have tr := nI_toInt (n := nr z) (by omega)
  refine g_iload_n (k := 1) F 1 rfl dX9_setting_0 ?_
  refine x_callS F (kX9_checkSetting Γ.1 S k) okX9_checkSetting mw267 ⟨(Nat.le_of_ble_eq_true rfl), (Nat.le_of_ble_eq_true rfl)⟩ rfl rfl (Nat.le_of_ble_eq_true rfl) ⟨(Nat.le_of_ble_eq_true rfl), (Nat.le_of_ble_eq_true rfl)⟩ dX9_setting_1 (fun E4 S5 h6 => ?_) (toV (fun S2 h3 => ?_))
  · obtain ⟨rfl, hC9, rfl⟩ := h6
    exact x_out F T (by rw [show oStg k (z, H, l, n, tx) = (1, 0) from t_err (show tStg k = 1 from if_neg hC9) (by decide)]; exact ⟨⟨rfl, rfl⟩, FrP.rf, hw⟩) (Nat.le_of_ble_eq_true rfl) (Nat.le_of_ble_eq_true rfl)
  obtain ⟨hcX9_checkSetting, rfl⟩ := h3
  refine g_aload_n (k := 0) F 0 rfl dX9_setting_4 ?_
  refine gfX9_10 F (qi80 hq) (qr80_0 hq) dX9_setting_5 ?_
  refine gfX9_91 F (qs0 hq (s := 0) (by decide)) (qt0_3 hq (s := 0) (by decide)) dX9_setting_8 ?_
  refine g_iload_n (k := 1) F 1 rfl dX9_setting_11 ?_
  refine g_ialde rfl (j := k.toInt.toNat) F (qs1 hq (s := 0) (by decide)) (kN hcX9_checkSetting.1) (by rw [(qm1 hq (s := 0) (by decide))]; omega) (by rw [(qm1 hq (s := 0) (by decide))]; decide) dX9_setting_12 ?_
  refine x_iret F T ⟨_, rfl, ?_⟩ (Nat.le_of_ble_eq_true rfl) (Nat.le_of_ble_eq_true rfl) dX9_setting_13
  rw [show oStg k (z, H, l, n, tx) = (0, (z (2 + k.toInt.toNat)).toInt32) from if_pos (show tStg k = 0 from if_pos hcX9_checkSetting)]
  exact ⟨rfl, i32_k (hc.2.1 _ (by omega)), P_fc Fr.rf, Cl_up ⟨pm, hH⟩ Fr.rf hc hn7 hl8 (fun j hj => (congrFun rfl j).trans (htx j hj))⟩
set_option maxHeartbeats 4000000 in
set_option maxRecDepth 100000 in
theorem kX9_why (g : Glo) (S : PS) (q : Nat → Nat) (hq : Shp S.1 S.2.1 q) (z : ZZ) (H : List ZZ) (l : Int32) (n : Nat) (tx : Nat → Int32) (hB : Bz z) (hw : Cl S q (z, H, l, n, tx)) (k : Int32) (b : Bool) : Cx g mX9_why 3 18 [.ref (q 80), .int k, .int (bI b)] S (pI9 (fun r S' => (oWhy k (z, H, l, n, tx)).1 = 0 ∧ r = (oWhy k (z, H, l, n, tx)).2 ∧ FrP S S' q P94 ∧ Cl S' q (z, H, l, n, tx))) (fun E S' => (E = eIOB ∧ (oWhy k (z, H, l, n, tx)).1 = 1) ∧ FrP S S' q P94 ∧ Cl S' q (z, H, l, n, tx)) := by
  refine Cx.of (by decide) (Nat.le_of_ble_eq_true rfl) (fun Γ hg F T => ?_)
  subst hg
  show G Γ S 0 0 0 [(0, .ref (q 80)), (1, .int k), (2, .int (bI b))] []
  have hc : Cs S q 0 z := hw.1
  obtain ⟨pm, hH9⟩ := hw.2.1
  have hH : Hs S q pm H := hH9
  have hn7 : pI S (q 80) 7 = nI n := hw.2.2.1
  have hl8 : pI S (q 80) 8 = l := hw.2.2.2.1
  have htx : ∀ j, j < n → pI S (q 93) j = tx j := hw.2.2.2.2
  have hnc := (nc_e hB).2
  have hnr := (nr_e hB).2
  have tn := nI_toInt (n := nc z) (by omega)
  have tr := nI_toInt (n := nr z) (by omega)
  refine g_aload_n (k := 0) F 0 rfl dX9_why_0 ?_
  refine g_iload_n (k := 1) F 1 rfl dX9_why_1 ?_
  refine x_callV F (kX9_checkCorner Γ.1 S q hq z hB hc k) okX9_checkCorner (qi80 hq) mw134 ⟨(Nat.le_of_ble_eq_true rfl), (Nat.le_of_ble_eq_true rfl)⟩ rfl rfl (Nat.le_of_ble_eq_true rfl) ⟨(Nat.le_of_ble_eq_true rfl), (Nat.le_of_ble_eq_true rfl)⟩ dX9_why_2 (fun E4 S5 h6 => ?_) (toV (fun S2 h3 => ?_))
  · obtain ⟨rfl, hC9, rfl⟩ := h6
    exact x_out F T (by rw [show oWhy k (z, H, l, n, tx) = (1, 0) from t_err (show tRem z k = 1 from if_neg hC9) (by decide)]; exact ⟨⟨rfl, rfl⟩, FrP.rf, hw⟩) (Nat.le_of_ble_eq_true rfl) (Nat.le_of_ble_eq_true rfl)
  obtain ⟨hcX9_checkCorner, rfl⟩ := h3
  refine g_aload_n (k := 0) F 0 rfl dX9_why_5 ?_
  refine g_aload_n (k := 0) F 0 rfl dX9_why_6 ?_
  refine gfX9_10 F (qi80 hq) (qr80_0 hq) dX9_why_7 ?_
  refine g_callV F (kX9_refusal Γ.1 S q hq 0 (by decide) z hB hc) okX9_refusal (qi80 hq) mw283 ⟨(Nat.le_of_ble_eq_true rfl), (Nat.le_of_ble_eq_true rfl)⟩ rfl rfl (Nat.le_of_ble_eq_true rfl) ⟨(Nat.le_of_ble_eq_true rfl), (Nat.le_of_ble_eq_true rfl)⟩ dX9_why_10 (toI (fun r7 S8 h9 => ?_))
  obtain ⟨rfl, fr7⟩ := h9
  have hq10 : Shp S8.1 S8.2.1 q := Fr.q fr7 hq
  refine x_iret F T ⟨_, rfl, ?_⟩ (Nat.le_of_ble_eq_true rfl) (Nat.le_of_ble_eq_true rfl) dX9_why_13
  rw [show oWhy k (z, H, l, n, tx) = (0, nI (zRf z)) from if_pos (show tRem z k = 0 from if_pos hcX9_checkCorner)]
  exact ⟨rfl, rfl, P_fc (Fr.tr (l := FC) Fr.rf fr7 (by decide) (by decide)), Cl_up ⟨pm, hH⟩ (Fr.tr (l := FC) Fr.rf fr7 (by decide) (by decide)) (Cs.fr (s := 0) (l := [83, 84, 85, 86, 87, 88, 89]) (by decide) (Fr.tr (l := [83, 84, 85, 86, 87, 88, 89]) Fr.rf fr7 (by decide) (by decide)) (by decide) hc) ((congrFun (fr7.2.2 (80) (by decide) (by decide)).1 7).trans hn7) ((congrFun (fr7.2.2 (80) (by decide) (by decide)).1 8).trans hl8) (fun j hj => (congrFun ((fr7.2.2 (93) (by decide) (by decide)).1.trans rfl) j).trans (htx j hj))⟩
