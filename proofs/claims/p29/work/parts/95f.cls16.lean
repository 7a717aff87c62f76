set_option maxHeartbeats 4000000 in
set_option maxRecDepth 100000 in
theorem kX9_elbow (g : Glo) (S : PS) (q : Nat → Nat) (hq : Shp S.1 S.2.1 q) (z : ZZ) (H : List ZZ) (l : Int32) (n : Nat) (tx : Nat → Int32) (hB : Bz z) (hw : Cl S q (z, H, l, n, tx)) (x y w : Int32) : Cx g mX9_elbow 3 18 [.ref (q 80), .int x, .int y, .int w] S (pJ9 (fun r S' => (oElb x y w (z, H, l, n, tx)).1 = 0 ∧ r = (oElb x y w (z, H, l, n, tx)).2 ∧ FrP S S' q P94 ∧ Cl S' q (z, H, l, n, tx))) (fun E S' => (E = eIAE ∧ (oElb x y w (z, H, l, n, tx)).1 = 1) ∧ FrP S S' q P94 ∧ Cl S' q (z, H, l, n, tx)) := by
  refine Cx.of (by decide) (Nat.le_of_ble_eq_true rfl) (fun Γ hg F T => ?_)
  subst hg
  show G Γ S 0 0 0 [(0, .ref (q 80)), (1, .int x), (2, .int y), (3, .int w)] []
  have hc : Cs S q 0 z := hw.1
  obtain ⟨pm, hH9⟩ := hw.2.1
  have hH : Hs S q pm H := hH9
  have hn7 : pI S (q 80) 7 = nI n := hw.2.2.1
  have hl8 : pI S (q 80) 8 = l := hw.2.2.2.1
  have htx : ∀ j, j < n → pI S (q 93) j = tx j := hw.2.2.2.2
  have hnc := (nc_e hB).2
  have hnr := (nr_e hB).2
  have tn := nI_toInt (n := nc z) (by omega)
  have tr := nI_toInt (n := nr z) (by omega)
  have t3 : (3 : Int32).toInt = 3 := by decide
  refine g_iload_n (k := 1) F 1 rfl dX9_elbow_0 ?_
  refine g_ldc F mw259 dX9_elbow_1 ?_
  refine g_callS F (kX9_isWithin Γ.1 _ _ _) okX9_isWithin mw260 ⟨(Nat.le_of_ble_eq_true rfl), (Nat.le_of_ble_eq_true rfl)⟩ rfl rfl (Nat.le_of_ble_eq_true rfl) ⟨(Nat.le_of_ble_eq_true rfl), (Nat.le_of_ble_eq_true rfl)⟩ dX9_elbow_3 (toI (fun r1 S2 h3 => ?_))
  obtain ⟨er1, rfl⟩ := h3
  refine g_if_eq (t := 18) F dX9_elbow_6 (by decide) (fun c4 => ?_) (fun c4 => ?_)
  · have h1 : ¬ (-40000 ≤ x.toInt ∧ x.toInt ≤ 40000) := fun h9 => if01_0 er1 c4 (w32.mpr h9)
    refine x_throw F T thr_IAE tx205 ?_ ⟨(Nat.le_of_ble_eq_true rfl), (Nat.le_of_ble_eq_true rfl), (Nat.le_of_ble_eq_true rfl), (Nat.le_of_ble_eq_true rfl)⟩ (Nat.le_of_ble_eq_true rfl) (Nat.le_of_ble_eq_true rfl) dX9_elbow_18 dX9_elbow_21 dX9_elbow_22 dX9_elbow_24 dX9_elbow_27
    rw [show oElb x y w (z, H, l, n, tx) = (1, 0) from t_err (show tElb x y w = 1 from if_neg (fun h => by omega)) (by decide)]; exact ⟨⟨rfl, rfl⟩, FrP.rf, hw⟩
  · have h1 : -40000 ≤ x.toInt ∧ x.toInt ≤ 40000 := w32.mp (if01_1 er1 c4)
    refine g_iload_n (k := 2) F 2 rfl dX9_elbow_9 ?_
    refine g_ldc F mw259 dX9_elbow_10 ?_
    refine g_callS F (kX9_isWithin Γ.1 _ _ _) okX9_isWithin mw260 ⟨(Nat.le_of_ble_eq_true rfl), (Nat.le_of_ble_eq_true rfl)⟩ rfl rfl (Nat.le_of_ble_eq_true rfl) ⟨(Nat.le_of_ble_eq_true rfl), (Nat.le_of_ble_eq_true rfl)⟩ dX9_elbow_12 (toI (fun r5 S6 h7 => ?_))
    obtain ⟨er5, rfl⟩ := h7
    refine g_if_ne (t := 28) F dX9_elbow_15 (by decide) (fun c8 => ?_) (fun c8 => ?_)
    · have h2 : -40000 ≤ y.toInt ∧ y.toInt ≤ 40000 := w32.mp (if01_1 er5 c8)
      refine g_iload_n (k := 3) F 3 rfl dX9_elbow_28 ?_
      refine g_iconst (v := 3) F (by decide) dX9_elbow_29 ?_
      refine x_callS F (kX9_checkWhat Γ.1 S w 3) okX9_checkWhat mw140 ⟨(Nat.le_of_ble_eq_true rfl), (Nat.le_of_ble_eq_true rfl)⟩ rfl rfl (Nat.le_of_ble_eq_true rfl) ⟨(Nat.le_of_ble_eq_true rfl), (Nat.le_of_ble_eq_true rfl)⟩ dX9_elbow_30 (fun E12 S13 h14 => ?_) (toV (fun S10 h11 => ?_))
      · obtain ⟨rfl, hC9, rfl⟩ := h14
        exact x_out F T (by rw [show oElb x y w (z, H, l, n, tx) = (1, 0) from t_err (show tElb x y w = 1 from if_neg (fun h => by omega)) (by decide)]; exact ⟨⟨rfl, rfl⟩, FrP.rf, hw⟩) (Nat.le_of_ble_eq_true rfl) (Nat.le_of_ble_eq_true rfl)
      obtain ⟨hcX9_checkWhat, rfl⟩ := h11
      refine g_aload_n (k := 0) F 0 rfl dX9_elbow_33 ?_
      refine gfX9_29 F (qi80 hq) (qr80_3 hq) dX9_elbow_34 ?_
      refine gfX9_207 F (qi83 hq) (qr83_0 hq) dX9_elbow_37 ?_
      refine g_astore (L' := [(4, .ref (q 84)), (0, .ref (q 80)), (1, .int x), (2, .int y), (3, .int w)]) F dX9_elbow_40 (Nat.le_of_ble_eq_true rfl) rfl ?_
      refine g_aload F 0 rfl dX9_elbow_42 ?_
      refine g_aload_n (k := 0) F 1 rfl dX9_elbow_44 ?_
      refine gfX9_10 F (qi80 hq) (qr80_0 hq) dX9_elbow_45 ?_
      refine g_callVN (host := "PolarPlanimeter") F (kX0_fit Γ.1 S q hq 0 (by decide) z hB hc) okX0_fit (qi84 hq) nwM5 ⟨(Nat.le_of_ble_eq_true rfl), (Nat.le_of_ble_eq_true rfl)⟩ rfl rfl (Nat.le_of_ble_eq_true rfl) ⟨(Nat.le_of_ble_eq_true rfl), (Nat.le_of_ble_eq_true rfl)⟩ dX9_elbow_48 (toV (fun S16 h17 => ?_))
      obtain ⟨fr15, ar15⟩ := h17
      have hq18 : Shp S16.1 S16.2.1 q := Fr.q fr15 hq
      refine g_aload F 0 rfl dX9_elbow_51 ?_
      refine g_iload_n (k := 1) F 2 rfl dX9_elbow_53 ?_
      refine g_i2l F dX9_elbow_54 ?_
      refine g_iload_n (k := 2) F 3 rfl dX9_elbow_55 ?_
      refine g_i2l F dX9_elbow_56 ?_
      refine g_callVN (host := "PolarPlanimeter") F (kX0_place Γ.1 S16 q hq18 z ar15 hB (x).toInt64 (y).toInt64 (by exact ⟨by rw [I64_t]; omega, by rw [I64_t]; omega⟩) (by exact ⟨by rw [I64_t]; omega, by rw [I64_t]; omega⟩)) okX0_place (qi84 hq18) nwM6 ⟨(Nat.le_of_ble_eq_true rfl), (Nat.le_of_ble_eq_true rfl)⟩ rfl rfl (Nat.le_of_ble_eq_true rfl) ⟨(Nat.le_of_ble_eq_true rfl), (Nat.le_of_ble_eq_true rfl)⟩ dX9_elbow_57 (toI (fun r19 S20 h21 => ?_))
      obtain ⟨fr19, -, pr19⟩ := h21
      have hq22 : Shp S20.1 S20.2.1 q := Fr.q fr19 hq18
      refine g_istore (L' := [(5, .int r19), (4, .ref (q 84)), (0, .ref (q 80)), (1, .int x), (2, .int y), (3, .int w)]) F dX9_elbow_60 (Nat.le_of_ble_eq_true rfl) rfl ?_
      refine g_iload_n (k := 3) F 5 rfl dX9_elbow_62 ?_
      refine g_if_ne (t := 77) F dX9_elbow_63 (by decide) (fun c23 => ?_) (fun c23 => ?_)
      · have hw0 : ¬ w = 0 := c23
        refine g_iload_n (k := 3) F 5 rfl dX9_elbow_77 ?_
        refine g_iconst (v := 1) F (by decide) dX9_elbow_78 ?_
        refine g_icmp_ne (t := 90) F dX9_elbow_79 (by decide) (fun c24 => ?_) (fun c24 => ?_)
        · have hw1 : ¬ w = 1 := c24
          refine g_aload F 1 rfl dX9_elbow_90 ?_
          refine gfX9_224e F (qi84 hq22) rfl dX9_elbow_92 ?_
          refine x_lret F T ⟨_, rfl, ?_⟩ (Nat.le_of_ble_eq_true rfl) (Nat.le_of_ble_eq_true rfl) dX9_elbow_95
          rw [show oElb x y w (z, H, l, n, tx) = (0, zEn z x.toInt64 y.toInt64 w) from if_pos (show tElb x y w = 0 from if_pos ⟨h1, h2, by omega, by omega⟩)]
          exact ⟨rfl, (en_y pr19 hw0 hw1), P_fc (Fr.tr (l := FC) (Fr.tr (l := FC) Fr.rf fr15 (by decide) (by decide)) fr19 (by decide) (by decide)), Cl_up ⟨pm, hH⟩ (Fr.tr (l := FC) (Fr.tr (l := FC) Fr.rf fr15 (by decide) (by decide)) fr19 (by decide) (by decide)) (Cs.fr (s := 0) (l := [83, 84, 85, 86, 87, 88, 89]) (by decide) (Fr.tr (l := [83, 84, 85, 86, 87, 88, 89]) (Fr.tr (l := [83, 84, 85, 86, 87, 88, 89]) Fr.rf fr15 (by decide) (by decide)) fr19 (by decide) (by decide)) (by decide) hc) ((congrFun (fr19.2.2 (80) (by decide) (by decide)).1 7).trans ((congrFun (fr15.2.2 (80) (by decide) (by decide)).1 7).trans hn7)) ((congrFun (fr19.2.2 (80) (by decide) (by decide)).1 8).trans ((congrFun (fr15.2.2 (80) (by decide) (by decide)).1 8).trans hl8)) (fun j hj => (congrFun ((fr19.2.2 (93) (by decide) (by decide)).1.trans ((fr15.2.2 (93) (by decide) (by decide)).1.trans rfl)) j).trans (htx j hj))⟩
        · have hw1 : w = 1 := c24
          refine g_aload F 1 rfl dX9_elbow_82 ?_
          refine gfX9_220e F (qi84 hq22) rfl dX9_elbow_84 ?_
          refine g_goto (t := 95) F dX9_elbow_87 (by decide) ?_
          refine x_lret F T ⟨_, rfl, ?_⟩ (Nat.le_of_ble_eq_true rfl) (Nat.le_of_ble_eq_true rfl) dX9_elbow_95
          rw [show oElb x y w (z, H, l, n, tx) = (0, zEn z x.toInt64 y.toInt64 w) from if_pos (show tElb x y w = 0 from if_pos ⟨h1, h2, by omega, by omega⟩)]
          exact ⟨rfl, (en_x pr19 hw0 hw1), P_fc (Fr.tr (l := FC) (Fr.tr (l := FC) Fr.rf fr15 (by decide) (by decide)) fr19 (by decide) (by decide)), Cl_up ⟨pm, hH⟩ (Fr.tr (l := FC) (Fr.tr (l := FC) Fr.rf fr15 (by decide) (by decide)) fr19 (by decide) (by decide)) (Cs.fr (s := 0) (l := [83, 84, 85, 86, 87, 88, 89]) (by decide) (Fr.tr (l := [83, 84, 85, 86, 87, 88, 89]) (Fr.tr (l := [83, 84, 85, 86, 87, 88, 89]) Fr.rf fr15 (by decide) (by decide)) fr19 (by decide) (by decide)) (by decide) hc) ((congrFun (fr19.2.2 (80) (by decide) (by decide)).1 7).trans ((congrFun (fr15.2.2 (80) (by decide) (by decide)).1 7).trans hn7)) ((congrFun (fr19.2.2 (80) (by decide) (by decide)).1 8).trans ((congrFun (fr15.2.2 (80) (by decide) (by decide)).1 8).trans hl8)) (fun j hj => (congrFun ((fr19.2.2 (93) (by decide) (by decide)).1.trans ((fr15.2.2 (93) (by decide) (by decide)).1.trans rfl)) j).trans (htx j hj))⟩
      · have hw0 : w = 0 := c23
        refine g_iload F 0 rfl dX9_elbow_66 ?_
        refine g_if_eq (t := 75) F dX9_elbow_68 (by decide) (fun c25 => ?_) (fun c25 => ?_)
        · have g1 := c25
          refine g_lconst (v := 0) F (by decide) dX9_elbow_75 ?_
          refine x_lret F T ⟨_, rfl, ?_⟩ (Nat.le_of_ble_eq_true rfl) (Nat.le_of_ble_eq_true rfl) dX9_elbow_76
          rw [show oElb x y w (z, H, l, n, tx) = (0, zEn z x.toInt64 y.toInt64 w) from if_pos (show tElb x y w = 0 from if_pos ⟨h1, h2, by omega, by omega⟩)]
          exact ⟨rfl, (en_0 pr19 g1), P_fc (Fr.tr (l := FC) (Fr.tr (l := FC) Fr.rf fr15 (by decide) (by decide)) fr19 (by decide) (by decide)), Cl_up ⟨pm, hH⟩ (Fr.tr (l := FC) (Fr.tr (l := FC) Fr.rf fr15 (by decide) (by decide)) fr19 (by decide) (by decide)) (Cs.fr (s := 0) (l := [83, 84, 85, 86, 87, 88, 89]) (by decide) (Fr.tr (l := [83, 84, 85, 86, 87, 88, 89]) (Fr.tr (l := [83, 84, 85, 86, 87, 88, 89]) Fr.rf fr15 (by decide) (by decide)) fr19 (by decide) (by decide)) (by decide) hc) ((congrFun (fr19.2.2 (80) (by decide) (by decide)).1 7).trans ((congrFun (fr15.2.2 (80) (by decide) (by decide)).1 7).trans hn7)) ((congrFun (fr19.2.2 (80) (by decide) (by decide)).1 8).trans ((congrFun (fr15.2.2 (80) (by decide) (by decide)).1 8).trans hl8)) (fun j hj => (congrFun ((fr19.2.2 (93) (by decide) (by decide)).1.trans ((fr15.2.2 (93) (by decide) (by decide)).1.trans rfl)) j).trans (htx j hj))⟩
        · have g1 := c25
          refine g_lconst (v := 1) F (by decide) dX9_elbow_71 ?_
          refine g_goto (t := 76) F dX9_elbow_72 (by decide) ?_
          refine x_lret F T ⟨_, rfl, ?_⟩ (Nat.le_of_ble_eq_true rfl) (Nat.le_of_ble_eq_true rfl) dX9_elbow_76
          rw [show oElb x y w (z, H, l, n, tx) = (0, zEn z x.toInt64 y.toInt64 w) from if_pos (show tElb x y w = 0 from if_pos ⟨h1, h2, by omega, by omega⟩)]
          exact ⟨rfl, (en_1 pr19 g1 hw0), P_fc (Fr.tr (l := FC) (Fr.tr (l := FC) Fr.rf fr15 (by decide) (by decide)) fr19 (by decide) (by decide)), Cl_up ⟨pm, hH⟩ (Fr.tr (l := FC) (Fr.tr (l := FC) Fr.rf fr15 (by decide) (by decide)) fr19 (by decide) (by decide)) (Cs.fr (s := 0) (l := [83, 84, 85, 86, 87, 88, 89]) (by decide) (Fr.tr (l := [83, 84, 85, 86, 87, 88, 89]) (Fr.tr (l := [83, 84, 85, 86, 87, 88, 89]) Fr.rf fr15 (by decide) (by decide)) fr19 (by decide) (by decide)) (by decide) hc) ((congrFun (fr19.2.2 (80) (by decide) (by decide)).1 7).trans ((congrFun (fr15.2.2 (80) (by decide) (by decide)).1 7).trans hn7)) ((congrFun (fr19.2.2 (80) (by decide) (by decide)).1 8).trans ((congrFun (fr15.2.2 (80) (by decide) (by decide)).1 8).trans hl8)) (fun j hj => (congrFun ((fr19.2.2 (93) (by decide) (by decide)).1.trans ((fr15.2.2 (93) (by decide) (by decide)).1.trans rfl)) j).trans (htx j hj))⟩
    · have h2 : ¬ (-40000 ≤ y.toInt ∧ y.toInt ≤ 40000) := fun h9 => if01_0 er5 c8 (w32.mpr h9)
      refine x_throw F T thr_IAE tx205 ?_ ⟨(Nat.le_of_ble_eq_true rfl), (Nat.le_of_ble_eq_true rfl), (Nat.le_of_ble_eq_true rfl), (Nat.le_of_ble_eq_true rfl)⟩ (Nat.le_of_ble_eq_true rfl) (Nat.le_of_ble_eq_true rfl) dX9_elbow_18 dX9_elbow_21 dX9_elbow_22 dX9_elbow_24 dX9_elbow_27
      rw [show oElb x y w (z, H, l, n, tx) = (1, 0) from t_err (show tElb x y w = 1 from if_neg (fun h => by omega)) (by decide)]; exact ⟨⟨rfl, rfl⟩, FrP.rf, hw⟩
set_option maxHeartbeats 4000000 in
set_option maxRecDepth 100000 in
theorem kX9_ifSet (g : Glo) (S : PS) (q : Nat → Nat) (hq : Shp S.1 S.2.1 q) (z : ZZ) (H : List ZZ) (l : Int32) (n : Nat) (tx : Nat → Int32) (hB : Bz z) (hw : Cl S q (z, H, l, n, tx)) (c : Int32) (b : Bool) (k v : Int32) : Cx g mX9_ifSet 3 18 [.ref (q 80), .int c, .int (bI b), .int k, .int v] S (pJ9 (fun r S' => (oIfs c b k v (z, H, l, n, tx)).1 = 0 ∧ r = (oIfs c b k v (z, H, l, n, tx)).2 ∧ FrP S S' q P94 ∧ Cl S' q (z, H, l, n, tx))) (fun E S' => (E = eIOB ∧ (oIfs c b k v (z, H, l, n, tx)).1 = 1 ∨ E = eIAE ∧ (oIfs c b k v (z, H, l, n, tx)).1 = 2) ∧ FrP S S' q P94 ∧ Cl S' q (z, H, l, n, tx)) := by
  refine Cx.of (by decide) (Nat.le_of_ble_eq_true rfl) (fun Γ hg F T => ?_)
  subst hg
  show G Γ S 0 0 0 [(0, .ref (q 80)), (1, .int c), (2, .int (bI b)), (3, .int k), (4, .int v)] []
  have hc : Cs S q 0 z := hw.1
  obtain ⟨pm, hH9⟩ := hw.2.1
  have hH : Hs S q pm H := hH9
  have hn7 : pI S (q 80) 7 = nI n := hw.2.2.1
  have hl8 : pI S (q 80) 8 = l := hw.2.2.2.1
  have htx : ∀ j, j < n → pI S (q 93) j = tx j := hw.2.2.2.2
  have hnc := (nc_e hB).2
  have hnr := (nr_e hB).2
  have tn := nI_toInt (n := nc z) (by omega)
  have tr := nI_toInt (n := nr z) (by omega)
  refine g_aload_n (k := 0) F 0 rfl dX9_ifSet_0 ?_
  refine g_iload_n (k := 1) F 1 rfl dX9_ifSet_1 ?_
  refine x_callV F (kX9_checkCorner Γ.1 S q hq z hB hc c) okX9_checkCorner (qi80 hq) mw134 ⟨(Nat.le_of_ble_eq_true rfl), (Nat.le_of_ble_eq_true rfl)⟩ rfl rfl (Nat.le_of_ble_eq_true rfl) ⟨(Nat.le_of_ble_eq_true rfl), (Nat.le_of_ble_eq_true rfl)⟩ dX9_ifSet_2 (fun E4 S5 h6 => ?_) (toV (fun S2 h3 => ?_))
  · obtain ⟨rfl, hC9, rfl⟩ := h6
    exact x_out F T (by rw [show oIfs c b k v (z, H, l, n, tx) = (1, 0) from t_err (show tIfs z c k v = 1 from if_pos (.inl hC9)) (by decide)]; exact ⟨(.inl ⟨rfl, rfl⟩), FrP.rf, hw⟩) (Nat.le_of_ble_eq_true rfl) (Nat.le_of_ble_eq_true rfl)
  obtain ⟨hcX9_checkCorner, rfl⟩ := h3
  refine g_iload_n (k := 3) F 3 rfl dX9_ifSet_5 ?_
  refine x_callS F (kX9_checkSetting Γ.1 S k) okX9_checkSetting mw267 ⟨(Nat.le_of_ble_eq_true rfl), (Nat.le_of_ble_eq_true rfl)⟩ rfl rfl (Nat.le_of_ble_eq_true rfl) ⟨(Nat.le_of_ble_eq_true rfl), (Nat.le_of_ble_eq_true rfl)⟩ dX9_ifSet_6 (fun E10 S11 h12 => ?_) (toV (fun S8 h9 => ?_))
  · obtain ⟨rfl, hC9, rfl⟩ := h12
    exact x_out F T (by rw [show oIfs c b k v (z, H, l, n, tx) = (1, 0) from t_err (show tIfs z c k v = 1 from if_pos (.inr hC9)) (by decide)]; exact ⟨(.inl ⟨rfl, rfl⟩), FrP.rf, hw⟩) (Nat.le_of_ble_eq_true rfl) (Nat.le_of_ble_eq_true rfl)
  obtain ⟨hcX9_checkSetting, rfl⟩ := h9
  refine g_iload_n (k := 3) F 3 rfl dX9_ifSet_9 ?_
  refine g_iload F 4 rfl dX9_ifSet_10 ?_
  refine x_callS F (kX9_checkValue Γ.1 S k v hcX9_checkSetting) okX9_checkValue mw496 ⟨(Nat.le_of_ble_eq_true rfl), (Nat.le_of_ble_eq_true rfl)⟩ rfl rfl (Nat.le_of_ble_eq_true rfl) ⟨(Nat.le_of_ble_eq_true rfl), (Nat.le_of_ble_eq_true rfl)⟩ dX9_ifSet_12 (fun E16 S17 h18 => ?_) (toV (fun S14 h15 => ?_))
  · obtain ⟨rfl, hC9, rfl⟩ := h18
    exact x_out F T (by rw [show oIfs c b k v (z, H, l, n, tx) = (2, 0) from t_err (show tIfs z c k v = 2 from (if_neg (fun h => h.elim (fun h => h hcX9_checkCorner) (fun h => h hcX9_checkSetting))).trans (if_neg hC9)) (by decide)]; exact ⟨(.inr ⟨rfl, rfl⟩), FrP.rf, hw⟩) (Nat.le_of_ble_eq_true rfl) (Nat.le_of_ble_eq_true rfl)
  obtain ⟨hcX9_checkValue, rfl⟩ := h15
  refine g_aload_n (k := 0) F 0 rfl dX9_ifSet_15 ?_
  refine gfX9_16 F (qi80 hq) (qr80_1 hq) dX9_ifSet_16 ?_
  refine g_aload_n (k := 0) F 0 rfl dX9_ifSet_19 ?_
  refine gfX9_10 F (qi80 hq) (qr80_0 hq) dX9_ifSet_20 ?_
  refine g_callVN (host := "PolarPlanimeter") F (kX6_copy Γ.1 S q hq 1 0 (by decide) (by decide) (by decide) z hB hc) okX6_copy (qs0 hq (s := 1) (by decide)) nwM7 ⟨(Nat.le_of_ble_eq_true rfl), (Nat.le_of_ble_eq_true rfl)⟩ rfl rfl (Nat.le_of_ble_eq_true rfl) ⟨(Nat.le_of_ble_eq_true rfl), (Nat.le_of_ble_eq_true rfl)⟩ dX9_ifSet_23 (toV (fun S20 h21 => ?_))
  obtain ⟨fr19, cr19⟩ := h21
  have hq22 : Shp S20.1 S20.2.1 q := Fr.q fr19 hq
  refine g_aload_n (k := 0) F 0 rfl dX9_ifSet_26 ?_
  refine gfX9_16 F (qi80 hq22) (qr80_1 hq22) dX9_ifSet_27 ?_
  refine gfX9_91 F (qs0 hq22 (s := 1) (by decide)) (qt0_3 hq22 (s := 1) (by decide)) dX9_ifSet_30 ?_
  refine g_iload_n (k := 3) F 3 rfl dX9_ifSet_33 ?_
  refine g_iload F 4 rfl dX9_ifSet_34 ?_
  refine g_iast (j := k.toInt.toNat) F (qs1 hq22 (s := 1) (by decide)) (kN hcX9_checkSetting.1) (by rw [(qm1 hq22 (s := 1) (by decide))]; omega) (by rw [(qm1 hq22 (s := 1) (by decide))]; decide) dX9_ifSet_36 ?_
  refine g_aload_n (k := 0) F 0 rfl dX9_ifSet_37 ?_
  refine gfX9_16 F (qi80 hq22) (qr80_1 hq22) dX9_ifSet_38 ?_
  refine gfX9_73 F (qs0 hq22 (s := 1) (by decide)) (qt0_5 hq22 (s := 1) (by decide)) dX9_ifSet_41 ?_
  refine g_callVN (host := "PolarPlanimeter") F (kX5_clear Γ.1 (wI S20 (q 11) (k.toInt.toNat) v) q hq22 1 (by decide) (zWs z k.toInt.toNat v) (B_set hB hcX9_checkSetting hcX9_checkValue) (Cs_st (s := 1) hq22 (by decide) (by omega) cr19)) okX5_clear (qs6 hq22 (s := 1) (by decide)) nwM26 ⟨(Nat.le_of_ble_eq_true rfl), (Nat.le_of_ble_eq_true rfl)⟩ rfl rfl (Nat.le_of_ble_eq_true rfl) ⟨(Nat.le_of_ble_eq_true rfl), (Nat.le_of_ble_eq_true rfl)⟩ dX9_ifSet_44 (toI (fun r23 S24 h25 => ?_))
  obtain ⟨rfl, fr23, cr23⟩ := h25
  have hq26 : Shp S24.1 S24.2.1 q := Fr.q fr23 hq22
  refine g_pop F dX9_ifSet_47 rfl ?_
  refine g_aload_n (k := 0) F 0 rfl dX9_ifSet_48 ?_
  refine g_aload_n (k := 0) F 0 rfl dX9_ifSet_49 ?_
  refine gfX9_16 F (qi80 hq26) (qr80_1 hq26) dX9_ifSet_50 ?_
  refine g_callV F (kX9_refusal Γ.1 S24 q hq26 1 (by decide) (vp_updL (zWs z k.toInt.toNat v) 69 0) (B_no (B_set hB hcX9_checkSetting hcX9_checkValue)) cr23) okX9_refusal (qi80 hq26) mw283 ⟨(Nat.le_of_ble_eq_true rfl), (Nat.le_of_ble_eq_true rfl)⟩ rfl rfl (Nat.le_of_ble_eq_true rfl) ⟨(Nat.le_of_ble_eq_true rfl), (Nat.le_of_ble_eq_true rfl)⟩ dX9_ifSet_53 (toI (fun r27 S28 h29 => ?_))
  obtain ⟨rfl, fr27⟩ := h29
  have hq30 : Shp S28.1 S28.2.1 q := Fr.q fr27 hq26
  refine g_if_eq (t := 61) F dX9_ifSet_56 (by decide) (fun c31 => ?_) (fun c31 => ?_)
  · have hn9 : nc (vp_updL (zWs z k.toInt.toNat v) 69 0) = nc z := nr_nc.trans (ws_nc (by omega))
    have hf9 : zRf (vp_updL (zWs z k.toInt.toNat v) 69 0) = 0 := by
      have := zRf_le (z := (vp_updL (zWs z k.toInt.toNat v) 69 0))
      rw [show (0 : Int32) = nI 0 from rfl, nI_eq (by omega) (by omega)] at c31
      exact c31
    have hf8 : zSh (zWs z k.toInt.toNat v) = 0 := by rw [← nr_Rf (y := (zWs z k.toInt.toNat v)) (by rw [ws_nc (by omega)]; omega)]; exact hf9
    refine g_aload_n (k := 0) F 0 rfl dX9_ifSet_61 ?_
    refine gfX9_29 F (qi80 hq30) (qr80_3 hq30) dX9_ifSet_62 ?_
    refine g_aload_n (k := 0) F 0 rfl dX9_ifSet_65 ?_
    refine gfX9_16 F (qi80 hq30) (qr80_1 hq30) dX9_ifSet_66 ?_
    refine g_iload_n (k := 1) F 1 rfl dX9_ifSet_69 ?_
    refine g_rei (nI c.toInt.toNat) (kN (by omega)) ?_
    refine g_iload_n (k := 2) F 2 rfl dX9_ifSet_70 ?_
    refine g_callVN (host := "PolarPlanimeter") F (kX1_sum Γ.1 S28 q hq30 1 (by decide) (vp_updL (zWs z k.toInt.toNat v) 69 0) (B_no (B_set hB hcX9_checkSetting hcX9_checkValue)) (Cs.fr (s := 1) (l := [83, 84]) (by decide) fr27 (by decide) cr23) c.toInt.toNat (by rw [hn9]; omega) b (zRf_0 (B_no (B_set hB hcX9_checkSetting hcX9_checkValue)) hf9).2.1) okX1_sum (qi83 hq30) nwM2 ⟨(Nat.le_of_ble_eq_true rfl), (Nat.le_of_ble_eq_true rfl)⟩ rfl rfl (Nat.le_of_ble_eq_true rfl) ⟨(Nat.le_of_ble_eq_true rfl), (Nat.le_of_ble_eq_true rfl)⟩ dX9_ifSet_71 (toJ (fun r32 S33 h34 => ?_))
    obtain ⟨er32, fr32⟩ := h34
    have hq35 : Shp S33.1 S33.2.1 q := Fr.q fr32 hq30
    refine x_lret F T ⟨_, rfl, ?_⟩ (Nat.le_of_ble_eq_true rfl) (Nat.le_of_ble_eq_true rfl) dX9_ifSet_74
    rw [show oIfs c b k v (z, H, l, n, tx) = (0, zIf z c.toInt.toNat b k.toInt.toNat v) from if_pos (show tIfs z c k v = 0 from (if_neg (fun h => h.elim (fun h => h hcX9_checkCorner) (fun h => h hcX9_checkSetting))).trans (if_pos hcX9_checkValue))]
    exact ⟨rfl, (er32.trans ((nr_Su (by rw [ws_nc (by omega)]; omega) (by rw [ws_nc (by omega)]; omega)).trans (if_pos hf8).symm)), P_fc (Fr.tr (l := FC) (Fr.tr (l := FC) (Fr.tr (l := FC) (Fr.wI hq (Fr.tr (l := FC) Fr.rf fr19 (by decide) (by decide)) (by decide) (by decide)) fr23 (by decide) (by decide)) fr27 (by decide) (by decide)) fr32 (by decide) (by decide)), Cl_up ⟨pm, hH⟩ (Fr.tr (l := FC) (Fr.tr (l := FC) (Fr.tr (l := FC) (Fr.wI hq (Fr.tr (l := FC) Fr.rf fr19 (by decide) (by decide)) (by decide) (by decide)) fr23 (by decide) (by decide)) fr27 (by decide) (by decide)) fr32 (by decide) (by decide)) (Cs.fr (s := 0) (l := [10, 11, 12, 13, 14, 15, 16, 17, 18, 19, 83, 84, 85]) (by decide) (Fr.tr (l := [10, 11, 12, 13, 14, 15, 16, 17, 18, 19, 83, 84, 85]) (Fr.tr (l := [10, 11, 12, 13, 14, 15, 16, 17, 18, 19, 83, 84, 85]) (Fr.tr (l := [10, 11, 12, 13, 14, 15, 16, 17, 18, 19, 83, 84, 85]) (Fr.wI hq (Fr.tr (l := [10, 11, 12, 13, 14, 15, 16, 17, 18, 19, 83, 84, 85]) Fr.rf fr19 (by decide) (by decide)) (by decide) (by decide)) fr23 (by decide) (by decide)) fr27 (by decide) (by decide)) fr32 (by decide) (by decide)) (by decide) hc) ((congrFun (fr32.2.2 (80) (by decide) (by decide)).1 7).trans ((congrFun (fr27.2.2 (80) (by decide) (by decide)).1 7).trans ((congrFun (fr23.2.2 (80) (by decide) (by decide)).1 7).trans ((up2_a (qne hq22 (by decide) (by decide) (by decide))).trans ((congrFun (fr19.2.2 (80) (by decide) (by decide)).1 7).trans hn7))))) ((congrFun (fr32.2.2 (80) (by decide) (by decide)).1 8).trans ((congrFun (fr27.2.2 (80) (by decide) (by decide)).1 8).trans ((congrFun (fr23.2.2 (80) (by decide) (by decide)).1 8).trans ((up2_a (qne hq22 (by decide) (by decide) (by decide))).trans ((congrFun (fr19.2.2 (80) (by decide) (by decide)).1 8).trans hl8))))) (fun j hj => (congrFun ((fr32.2.2 (93) (by decide) (by decide)).1.trans ((fr27.2.2 (93) (by decide) (by decide)).1.trans ((fr23.2.2 (93) (by decide) (by decide)).1.trans ((up2_r (qne hq22 (by decide) (by decide) (by decide))).trans ((fr19.2.2 (93) (by decide) (by decide)).1.trans rfl))))) j).trans (htx j hj))⟩
  · have hf9 : ¬ zRf (vp_updL (zWs z k.toInt.toNat v) 69 0) = 0 := fun h => c31 (by rw [h]; rfl)
    have hf8 : ¬ zSh (zWs z k.toInt.toNat v) = 0 := by rw [← nr_Rf (y := (zWs z k.toInt.toNat v)) (by rw [ws_nc (by omega)]; omega)]; exact hf9
    refine g_lconst (v := 0) F (by decide) dX9_ifSet_59 ?_
    refine x_lret F T ⟨_, rfl, ?_⟩ (Nat.le_of_ble_eq_true rfl) (Nat.le_of_ble_eq_true rfl) dX9_ifSet_60
    rw [show oIfs c b k v (z, H, l, n, tx) = (0, zIf z c.toInt.toNat b k.toInt.toNat v) from if_pos (show tIfs z c k v = 0 from (if_neg (fun h => h.elim (fun h => h hcX9_checkCorner) (fun h => h hcX9_checkSetting))).trans (if_pos hcX9_checkValue))]
    exact ⟨rfl, (if_neg hf8).symm, P_fc (Fr.tr (l := FC) (Fr.tr (l := FC) (Fr.wI hq (Fr.tr (l := FC) Fr.rf fr19 (by decide) (by decide)) (by decide) (by decide)) fr23 (by decide) (by decide)) fr27 (by decide) (by decide)), Cl_up ⟨pm, hH⟩ (Fr.tr (l := FC) (Fr.tr (l := FC) (Fr.wI hq (Fr.tr (l := FC) Fr.rf fr19 (by decide) (by decide)) (by decide) (by decide)) fr23 (by decide) (by decide)) fr27 (by decide) (by decide)) (Cs.fr (s := 0) (l := [10, 11, 12, 13, 14, 15, 16, 17, 18, 19, 83, 84, 85]) (by decide) (Fr.tr (l := [10, 11, 12, 13, 14, 15, 16, 17, 18, 19, 83, 84, 85]) (Fr.tr (l := [10, 11, 12, 13, 14, 15, 16, 17, 18, 19, 83, 84, 85]) (Fr.wI hq (Fr.tr (l := [10, 11, 12, 13, 14, 15, 16, 17, 18, 19, 83, 84, 85]) Fr.rf fr19 (by decide) (by decide)) (by decide) (by decide)) fr23 (by decide) (by decide)) fr27 (by decide) (by decide)) (by decide) hc) ((congrFun (fr27.2.2 (80) (by decide) (by decide)).1 7).trans ((congrFun (fr23.2.2 (80) (by decide) (by decide)).1 7).trans ((up2_a (qne hq22 (by decide) (by decide) (by decide))).trans ((congrFun (fr19.2.2 (80) (by decide) (by decide)).1 7).trans hn7)))) ((congrFun (fr27.2.2 (80) (by decide) (by decide)).1 8).trans ((congrFun (fr23.2.2 (80) (by decide) (by decide)).1 8).trans ((up2_a (qne hq22 (by decide) (by decide) (by decide))).trans ((congrFun (fr19.2.2 (80) (by decide) (by decide)).1 8).trans hl8)))) (fun j hj => (congrFun ((fr27.2.2 (93) (by decide) (by decide)).1.trans ((fr23.2.2 (93) (by decide) (by decide)).1.trans ((up2_r (qne hq22 (by decide) (by decide) (by decide))).trans ((fr19.2.2 (93) (by decide) (by decide)).1.trans rfl)))) j).trans (htx j hj))⟩
