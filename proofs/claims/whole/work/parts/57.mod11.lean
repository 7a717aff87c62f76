set_option maxHeartbeats 4000000 in
set_option maxRecDepth 100000 in
theorem kX10_remove (g : Glo) (S : PS) (q : Nat → Nat) (hq : Shp S.1 S.2.1 q) (z : ZZ) (hz : pJ S (q 95) = z) (hB : Bz z) (H : List ZZ) (l : Int32) (n : Nat) (tx : Nat → Int32) (hm : Mo S q z H l n tx) (k : Int32) : Ct g mX10_remove 0 0 [.ref (q 94), .int k] S (pI9 (fun r S' => r = (oRem k (z, H, l, n, tx)).2.1 ∧ Fr S S' q [94, 95, 96] ∧ pI S' (q 94) 0 = (oRem k (z, H, l, n, tx)).1 ∧ Mw S' q (oRem k (z, H, l, n, tx)).2.2)) := by
  refine Ct.of (by decide) (Nat.le_of_ble_eq_true rfl) (fun Γ hg F T => ?_)
  subst hg
  show G Γ S 0 0 0 [(0, .ref (q 94)), (1, .int k)] []
  refine g_aload_n (k := 0) F 0 rfl dX10_remove_0 ?_
  refine g_aload_n (k := 0) F 0 rfl dX10_remove_1 ?_
  refine g_iload_n (k := 1) F 1 rfl dX10_remove_2 ?_
  refine g_callV F (kX10_isCorner Γ.1 _ q hq z hz hB k) okX10_isCorner (qi94 hq) mw274 ⟨(Nat.le_of_ble_eq_true rfl), (Nat.le_of_ble_eq_true rfl)⟩ rfl rfl (Nat.le_of_ble_eq_true rfl) ⟨(Nat.le_of_ble_eq_true rfl), (Nat.le_of_ble_eq_true rfl)⟩ dX10_remove_3 (toI (fun r1 S2 h3 => ?_))
  obtain ⟨er1, rfl⟩ := h3
  have jn5 : ∀ (w14 : Int32), w14 = tRem z k → G Γ S 0 0 14 [(0, .ref (q 94)), (1, .int k)] [.int w14, .ref (q 94)] := by
    intro w14 ht
    refine pfX10_35 F (qi94 hq) dX10_remove_14 ?_
    refine g_aload_n (k := 0) F 0 rfl dX10_remove_17 ?_
    refine gfX10_35e F (qi94 hq) up2_s dX10_remove_18 ?_
    refine g_if_le (t := 26) F dX10_remove_21 (by decide) (fun c6 => ?_) (fun c6 => ?_)
    · obtain ⟨ht0, hk9, hv9⟩ := tRem_i (ht ▸ c6)
      rcases hv9 with hv9
      have hnc9 := (nc_e hB).2
      refine g_aload_n (k := 0) F 0 rfl dX10_remove_26 ?_
      refine g_callV F (kX10_save Γ.1 (wI S (q 94) 0 w14) q hq z hz hB H (Sv_of hm.2.1 ((up2_k (by decide)).trans rfl) rfl)) okX10_save (qi94 hq) mw161 ⟨(Nat.le_of_ble_eq_true rfl), (Nat.le_of_ble_eq_true rfl)⟩ rfl rfl (Nat.le_of_ble_eq_true rfl) ⟨(Nat.le_of_ble_eq_true rfl), (Nat.le_of_ble_eq_true rfl)⟩ dX10_remove_27 (toV (fun S8 h9 => ?_))
      obtain ⟨fr7, gr7, jr7, vr7⟩ := h9
      have hq10 : Shp S8.1 S8.2.1 q := Fr.q fr7 hq
      refine g_aload_n (k := 0) F 0 rfl dX10_remove_30 ?_
      refine gfX10_7 F (qi94 hq10) (qr94_1 hq10) dX10_remove_31 ?_
      refine g_bipush (v := 8) F (by decide) dX10_remove_34 ?_
      refine g_dup2 F dX10_remove_36 rfl rfl ?_
      refine g_lalde ((fr7.2.2 (95) (by decide) (by decide)).2.trans hz) (j := 8) F (qi95 hq10) rfl (by rw [(qn95 hq10)]; omega) (by rw [(qn95 hq10)]; decide) dX10_remove_37 ?_
      refine g_lconst (v := 1) F (by decide) dX10_remove_38 ?_
      refine g_lsub F dX10_remove_39 ?_
      refine g_last (j := 8) F (qi95 hq10) rfl (by rw [(qn95 hq10)]; omega) (by rw [(qn95 hq10)]; decide) dX10_remove_40 ?_
      refine g_bipush (v := 9) F (by decide) dX10_remove_41 ?_
      refine g_iconst (v := 3) F (by decide) dX10_remove_43 ?_
      refine g_iload_n (k := 1) F 1 rfl dX10_remove_44 ?_
      refine g_imul F dX10_remove_45 ?_
      refine g_rei (nI (3 * k.toInt.toNat)) (nmul rfl (kN hk9.1)) ?_
      refine g_iadd F dX10_remove_46 ?_
      refine g_rei (nI (9 + (3 * k.toInt.toNat))) (nadd rfl rfl) ?_
      refine g_istore_n (k := 2) (L' := [(2, .int (nI (9 + (3 * k.toInt.toNat)))), (0, .ref (q 94)), (1, .int k)]) F dX10_remove_47 (Nat.le_of_ble_eq_true rfl) rfl ?_
      have lp11 : ∀ (n9 : Nat) (i : Nat) (S1 : PS), 9 + 3 * nc z < i + n9 → (9 + 3 * k.toInt.toNat ≤ i) → (i ≤ 9 + 3 * (nc z - 1)) → (Fr (wJ S8 (q 95) (8) ((z 8) - 1)) S1 q [95]) → (pJ S1 (q 95) = remR z k.toInt.toNat i) → G Γ S1 0 0 48 [(2, .int (nI i)), (0, .ref (q 94)), (1, .int k)] [] := by
        intro n9
        induction n9 with
        | zero =>
          intro i S1 hm9 hi1 hi2 hf hz1
          exact absurd hm9 (by omega)
        | succ n9 ihlp11 =>
          intro i S1 hm9 hi1 hi2 hf hz1
          have hq12 : Shp S1.1 S1.2.1 q := Fr.q hf hq10
          refine g_iload_n (k := 2) F 0 rfl dX10_remove_48 ?_
          refine g_bipush (v := 9) F (by decide) dX10_remove_49 ?_
          refine g_iconst (v := 3) F (by decide) dX10_remove_51 ?_
          refine g_aload_n (k := 0) F 1 rfl dX10_remove_52 ?_
          refine g_callV F (kX10_corners Γ.1 S1 q hq12 _ hz1 (B_rem hB (show k.toInt.toNat < nc z by omega) hi2)) okX10_corners (qi94 hq12) mw247 ⟨(Nat.le_of_ble_eq_true rfl), (Nat.le_of_ble_eq_true rfl)⟩ rfl rfl (Nat.le_of_ble_eq_true rfl) ⟨(Nat.le_of_ble_eq_true rfl), (Nat.le_of_ble_eq_true rfl)⟩ dX10_remove_53 (toI (fun r13 S14 h15 => ?_))
          obtain ⟨er13, rfl⟩ := h15
          obtain rfl := er13.trans (congrArg nI (nc_rem hB (show k.toInt.toNat < nc z by omega)))
          refine g_imul F dX10_remove_56 ?_
          refine g_rei (nI (3 * (nc z - 1))) (nmul rfl rfl) ?_
          refine g_iadd F dX10_remove_57 ?_
          refine g_rei (nI (9 + (3 * (nc z - 1)))) (nadd rfl rfl) ?_
          refine g_icmp_ge (t := 81) F dX10_remove_58 (by decide) (fun c16 => ?_) (fun c16 => ?_)
          · obtain rfl : i = 9 + 3 * (nc z - 1) := by
              rw [nI_leI (by omega) (by omega)] at c16
              omega
            refine g_aload_n (k := 0) F 1 rfl dX10_remove_81 ?_
            refine g_callV F (kX10_dropRuns Γ.1 S1 q hq12 _ hz1 (B_rem hB (show k.toInt.toNat < nc z by omega) hi2)) okX10_dropRuns (qi94 hq12) mw166 ⟨(Nat.le_of_ble_eq_true rfl), (Nat.le_of_ble_eq_true rfl)⟩ rfl rfl (Nat.le_of_ble_eq_true rfl) ⟨(Nat.le_of_ble_eq_true rfl), (Nat.le_of_ble_eq_true rfl)⟩ dX10_remove_82 (toI (fun r17 S18 h19 => ?_))
            obtain ⟨er17, fr17, zr17⟩ := h19
            have hq20 : Shp S18.1 S18.2.1 q := Fr.q fr17 hq12
            refine g_pop F dX10_remove_85 rfl ?_
            refine g_aload_n (k := 0) F 1 rfl dX10_remove_86 ?_
            refine g_callV F (kX10_corners Γ.1 S18 q hq20 _ zr17 (B_no (B_rem hB (show k.toInt.toNat < nc z by omega) hi2))) okX10_corners (qi94 hq20) mw247 ⟨(Nat.le_of_ble_eq_true rfl), (Nat.le_of_ble_eq_true rfl)⟩ rfl rfl (Nat.le_of_ble_eq_true rfl) ⟨(Nat.le_of_ble_eq_true rfl), (Nat.le_of_ble_eq_true rfl)⟩ dX10_remove_87 (toI (fun r21 S22 h23 => ?_))
            obtain ⟨er21, rfl⟩ := h23
            obtain rfl := er21.trans (congrArg nI (show nc (vp_updL (remR z k.toInt.toNat (9 + 3 * (nc z - 1))) 69 0) = nc z - 1 from nc_rem (i := 9 + 3 * (nc z - 1)) hB (show k.toInt.toNat < nc z by omega)))
            refine g_iret F T ⟨_, rfl, ?_⟩ (Nat.le_of_ble_eq_true rfl) (Nat.le_of_ble_eq_true rfl) dX10_remove_90
            rw [show oRem k (z, H, l, n, tx) = (0, nI (nc z - 1), (zRem z k, psh H z, l, n, tx)) from if_pos ht0]
            exact ⟨rfl, (Fr.tr (l := [94, 95, 96]) (Fr.tr (l := [94, 95, 96]) (Fr.wJ hq (Fr.tr (l := [94, 95, 96]) (Fr.wI hq Fr.rf (by decide) (by decide)) fr7 (by decide) (by decide)) (by decide) (by decide)) hf (by decide) (by decide)) fr17 (by decide) (by decide)), ((congrFun (fr17.2.2 (94) (by decide) (by decide)).1 0).trans ((congrFun (hf.2.2 (94) (by decide) (by decide)).1 0).trans ((gr7 0 (by decide)).trans up2_s))).trans (ht.trans ht0), ⟨zr17, Sv_of vr7 ((congrFun (fr17.2.2 (94) (by decide) (by decide)).1 2).trans ((congrFun (hf.2.2 (94) (by decide) (by decide)).1 2).trans rfl)) ((fr17.2.2 (96) (by decide) (by decide)).2.trans ((hf.2.2 (96) (by decide) (by decide)).2.trans ((up2_r (qne hq10 (by decide) (by decide) (by decide))).trans rfl))), ((congrFun (fr17.2.2 (94) (by decide) (by decide)).1 4).trans ((congrFun (hf.2.2 (94) (by decide) (by decide)).1 4).trans ((gr7 4 (by decide)).trans ((up2_k (by decide)).trans hm.2.2.1)))), ((congrFun (fr17.2.2 (94) (by decide) (by decide)).1 5).trans ((congrFun (hf.2.2 (94) (by decide) (by decide)).1 5).trans ((gr7 5 (by decide)).trans ((up2_k (by decide)).trans hm.2.2.2.1)))), fun j9 hj9 => (congrFun ((fr17.2.2 (97) (by decide) (by decide)).1.trans ((hf.2.2 (97) (by decide) (by decide)).1.trans ((fr7.2.2 (97) (by decide) (by decide)).1.trans ((up2_r (qne hq (by decide) (by decide) (by decide))).trans rfl)))) j9).trans (hm.2.2.2.2 j9 hj9)⟩⟩
          · have hi9 : i < 9 + 3 * (nc z - 1) := by
              rw [nI_leI (by omega) (by omega)] at c16
              omega
            refine g_aload_n (k := 0) F 1 rfl dX10_remove_61 ?_
            refine gfX10_7 F (qi94 hq12) (qr94_1 hq12) dX10_remove_62 ?_
            refine g_iload_n (k := 2) F 0 rfl dX10_remove_65 ?_
            refine g_aload_n (k := 0) F 1 rfl dX10_remove_66 ?_
            refine gfX10_7 F (qi94 hq12) (qr94_1 hq12) dX10_remove_67 ?_
            refine g_iload_n (k := 2) F 0 rfl dX10_remove_70 ?_
            refine g_iconst (v := 3) F (by decide) dX10_remove_71 ?_
            refine g_iadd F dX10_remove_72 ?_
            refine g_rei (nI (i + 3)) (nadd rfl rfl) ?_
            refine g_lalde hz1 (j := (i + 3)) F (qi95 hq12) rfl (by rw [(qn95 hq12)]; omega) (by rw [(qn95 hq12)]; decide) dX10_remove_73 ?_
            refine g_last (j := i) F (qi95 hq12) rfl (by rw [(qn95 hq12)]; omega) (by rw [(qn95 hq12)]; decide) dX10_remove_74 ?_
            obtain ⟨x24, ex24⟩ : ∃ y9 : Int32, y9 = (nI i) + 1 := ⟨_, rfl⟩
            refine g_iinc (k := 0) (v := x24) (L' := [(2, .int x24), (0, .ref (q 94)), (1, .int k)]) F dX10_remove_75 rfl (by rw [ex24]; rfl) (Nat.le_of_ble_eq_true rfl) rfl ?_
            refine g_goto (t := 48) F dX10_remove_78 (by decide) ?_
            obtain rfl : x24 = nI (i + 1) := (ex24.trans (nI_1 _))
            refine g_sub (L' := [(2, .int (nI (i + 1))), (0, .ref (q 94)), (1, .int k)]) [0, 1, 2] rfl ?_
            exact ihlp11 (i + 1) ((wJ S1 (q 95) (i) ((remR z k.toInt.toNat i) ((i + 3))))) (by omega) (by omega) (by omega) (Fr.wJ hq10 hf (by decide) (by decide)) ((up2_updL.trans (congrArg (fun f9 => vp_updL f9 (i) ((remR z k.toInt.toNat i) ((i + 3)))) hz1)).trans (rem_s hi1))
      exact lp11 (9 + 3 * nc z + 1) (9 + 3 * k.toInt.toNat) (wJ S8 (q 95) (8) ((z 8) - 1)) (by omega) (by omega) (by omega) Fr.rf ((up2_updL.trans (congrArg (fun f9 => vp_updL f9 (8) ((z 8) - 1)) ((fr7.2.2 (95) (by decide) (by decide)).2.trans hz))).trans rem_0)
    · have ht1 : ¬ tRem z k = 0 := fun h => c6 (by rw [ht, h]; decide)
      refine g_iconst (v := 0) F (by decide) dX10_remove_24 ?_
      refine g_iret F T ⟨_, rfl, ?_⟩ (Nat.le_of_ble_eq_true rfl) (Nat.le_of_ble_eq_true rfl) dX10_remove_25
      rw [show oRem k (z, H, l, n, tx) = (tRem z k, 0, (z, H, l, n, tx)) from if_neg ht1]
      exact ⟨rfl, (Fr.wI hq Fr.rf (by decide) (by decide)), up2_s.trans ht, ⟨hz, Sv_of hm.2.1 ((up2_k (by decide)).trans rfl) rfl, ((up2_k (by decide)).trans hm.2.2.1), ((up2_k (by decide)).trans hm.2.2.2.1), fun j9 hj9 => (congrFun ((up2_r (qne hq (by decide) (by decide) (by decide))).trans rfl) j9).trans (hm.2.2.2.2 j9 hj9)⟩⟩
  refine g_if_eq (t := 13) F dX10_remove_6 (by decide) (fun c4 => ?_) (fun c4 => ?_)
  · have hk8 := if01_0 er1 c4
    refine g_iconst (v := 1) F (by decide) dX10_remove_13 ?_
    exact jn5 (1) (by unfold tRem; rw [if_neg hk8])
  · have hk8 := if01_1 er1 c4
    refine g_iconst (v := 0) F (by decide) dX10_remove_9 ?_
    refine g_goto (t := 14) F dX10_remove_10 (by decide) ?_
    exact jn5 (0) (by unfold tRem; rw [if_pos hk8])
set_option maxHeartbeats 4000000 in
set_option maxRecDepth 100000 in
theorem kX10_putCorner (g : Glo) (S : PS) (q : Nat → Nat) (hq : Shp S.1 S.2.1 q) (z : ZZ) (hz : pJ S (q 95) = z) (k : Nat) (hk : k < 20) (kk : Int32) (hkk : kk = nI k) (x y s : Int32) : Ct g mX10_putCorner 0 0 [.ref (q 94), .int kk, .int x, .int y, .int s] S (pV9 (fun S' => Fr S S' q [95] ∧ pJ S' (q 95) = pC z k x y s)) := by
  refine Ct.of (by decide) (Nat.le_of_ble_eq_true rfl) (fun Γ hg F T => ?_)
  subst hg
  show G Γ S 0 0 0 [(0, .ref (q 94)), (1, .int kk), (2, .int x), (3, .int y), (4, .int s)] []
  refine g_aload_n (k := 0) F 0 rfl dX10_putCorner_0 ?_
  refine gfX10_7 F (qi94 hq) (qr94_1 hq) dX10_putCorner_1 ?_
  refine g_bipush (v := 9) F (by decide) dX10_putCorner_4 ?_
  refine g_iconst (v := 3) F (by decide) dX10_putCorner_6 ?_
  refine g_iload_n (k := 1) F 1 rfl dX10_putCorner_7 ?_
  refine g_imul F dX10_putCorner_8 ?_
  refine g_rei (nI (3 * k)) (nmul rfl hkk) ?_
  refine g_iadd F dX10_putCorner_9 ?_
  refine g_rei (nI (9 + (3 * k))) (nadd rfl rfl) ?_
  refine g_iload_n (k := 2) F 2 rfl dX10_putCorner_10 ?_
  refine g_i2l F dX10_putCorner_11 ?_
  refine g_last (j := (9 + (3 * k))) F (qi95 hq) rfl (by rw [(qn95 hq)]; omega) (by rw [(qn95 hq)]; decide) dX10_putCorner_12 ?_
  refine g_aload_n (k := 0) F 0 rfl dX10_putCorner_13 ?_
  refine gfX10_7 F (qi94 hq) (qr94_1 hq) dX10_putCorner_14 ?_
  refine g_bipush (v := 9) F (by decide) dX10_putCorner_17 ?_
  refine g_iconst (v := 3) F (by decide) dX10_putCorner_19 ?_
  refine g_iload_n (k := 1) F 1 rfl dX10_putCorner_20 ?_
  refine g_imul F dX10_putCorner_21 ?_
  refine g_rei (nI (3 * k)) (nmul rfl hkk) ?_
  refine g_iadd F dX10_putCorner_22 ?_
  refine g_rei (nI (9 + (3 * k))) (nadd rfl rfl) ?_
  refine g_iconst (v := 1) F (by decide) dX10_putCorner_23 ?_
  refine g_iadd F dX10_putCorner_24 ?_
  refine g_rei (nI ((9 + (3 * k)) + 1)) (nadd rfl rfl) ?_
  refine g_iload_n (k := 3) F 3 rfl dX10_putCorner_25 ?_
  refine g_i2l F dX10_putCorner_26 ?_
  refine g_last (j := ((9 + (3 * k)) + 1)) F (qi95 hq) rfl (by rw [(qn95 hq)]; omega) (by rw [(qn95 hq)]; decide) dX10_putCorner_27 ?_
  refine g_aload_n (k := 0) F 0 rfl dX10_putCorner_28 ?_
  refine gfX10_7 F (qi94 hq) (qr94_1 hq) dX10_putCorner_29 ?_
  refine g_bipush (v := 9) F (by decide) dX10_putCorner_32 ?_
  refine g_iconst (v := 3) F (by decide) dX10_putCorner_34 ?_
  refine g_iload_n (k := 1) F 1 rfl dX10_putCorner_35 ?_
  refine g_imul F dX10_putCorner_36 ?_
  refine g_rei (nI (3 * k)) (nmul rfl hkk) ?_
  refine g_iadd F dX10_putCorner_37 ?_
  refine g_rei (nI (9 + (3 * k))) (nadd rfl rfl) ?_
  refine g_iconst (v := 2) F (by decide) dX10_putCorner_38 ?_
  refine g_iadd F dX10_putCorner_39 ?_
  refine g_rei (nI ((9 + (3 * k)) + 2)) (nadd rfl rfl) ?_
  refine g_iload F 4 rfl dX10_putCorner_40 ?_
  refine g_i2l F dX10_putCorner_42 ?_
  refine g_last (j := ((9 + (3 * k)) + 2)) F (qi95 hq) rfl (by rw [(qn95 hq)]; omega) (by rw [(qn95 hq)]; decide) dX10_putCorner_43 ?_
  refine g_vret F T ⟨rfl, ?_⟩ (Nat.le_of_ble_eq_true rfl) (Nat.le_of_ble_eq_true rfl) dX10_putCorner_44
  exact ⟨(Fr.wJ hq (Fr.wJ hq (Fr.wJ hq Fr.rf (by decide) (by decide)) (by decide) (by decide)) (by decide) (by decide)), (up2_updL.trans (congrArg (fun f9 => vp_updL f9 (((9 + (3 * k)) + 2)) (s).toInt64) (up2_updL.trans (congrArg (fun f9 => vp_updL f9 (((9 + (3 * k)) + 1)) (y).toInt64) (up2_updL.trans (congrArg (fun f9 => vp_updL f9 ((9 + (3 * k))) (x).toInt64) hz))))))⟩
set_option maxHeartbeats 4000000 in
set_option maxRecDepth 100000 in
theorem kX10_insert (g : Glo) (S : PS) (q : Nat → Nat) (hq : Shp S.1 S.2.1 q) (z : ZZ) (hz : pJ S (q 95) = z) (hB : Bz z) (H : List ZZ) (l : Int32) (n : Nat) (tx : Nat → Int32) (hm : Mo S q z H l n tx) (k a b : Int32) : Ct g mX10_insert 0 0 [.ref (q 94), .int k, .int a, .int b] S (pI9 (fun r S' => r = (oIns k a b (z, H, l, n, tx)).2.1 ∧ Fr S S' q [94, 95, 96] ∧ pI S' (q 94) 0 = (oIns k a b (z, H, l, n, tx)).1 ∧ Mw S' q (oIns k a b (z, H, l, n, tx)).2.2)) := by
  refine Ct.of (by decide) (Nat.le_of_ble_eq_true rfl) (fun Γ hg F T => ?_)
  subst hg
  show G Γ S 0 0 0 [(0, .ref (q 94)), (1, .int k), (2, .int a), (3, .int b)] []
  refine g_aload_n (k := 0) F 0 rfl dX10_insert_0 ?_
  refine g_iload_n (k := 1) F 1 rfl dX10_insert_1 ?_
  refine g_i2l F dX10_insert_2 ?_
  refine g_lconst (v := 0) F (by decide) dX10_insert_3 ?_
  refine g_aload_n (k := 0) F 0 rfl dX10_insert_4 ?_
  refine g_callV F (kX10_corners Γ.1 _ q hq z hz hB ) okX10_corners (qi94 hq) mw247 ⟨(Nat.le_of_ble_eq_true rfl), (Nat.le_of_ble_eq_true rfl)⟩ rfl rfl (Nat.le_of_ble_eq_true rfl) ⟨(Nat.le_of_ble_eq_true rfl), (Nat.le_of_ble_eq_true rfl)⟩ dX10_insert_5 (toI (fun r1 S2 h3 => ?_))
  obtain ⟨rfl, rfl⟩ := h3
  refine g_i2l F dX10_insert_8 ?_
  refine g_callS F (kX10_within Γ.1 _ _ _ _) okX10_within mw158 ⟨(Nat.le_of_ble_eq_true rfl), (Nat.le_of_ble_eq_true rfl)⟩ rfl rfl (Nat.le_of_ble_eq_true rfl) ⟨(Nat.le_of_ble_eq_true rfl), (Nat.le_of_ble_eq_true rfl)⟩ dX10_insert_9 (toI (fun r4 S5 h6 => ?_))
  obtain ⟨er4, rfl⟩ := h6
  have jn8 : ∀ (w45 : Int32), w45 = tIns z k a b → G Γ S 0 0 45 [(0, .ref (q 94)), (1, .int k), (2, .int a), (3, .int b)] [.int w45, .ref (q 94)] := by
    intro w45 ht
    refine pfX10_35 F (qi94 hq) dX10_insert_45 ?_
    refine g_aload_n (k := 0) F 0 rfl dX10_insert_48 ?_
    refine gfX10_35e F (qi94 hq) up2_s dX10_insert_49 ?_
    refine g_if_le (t := 57) F dX10_insert_52 (by decide) (fun c9 => ?_) (fun c9 => ?_)
    · obtain ⟨ht0, hk9, hv9, h209⟩ := tIns_i (ht ▸ c9)
      rcases hv9 with hv9
      have hnc9 := (nc_e hB).2
      refine g_aload_n (k := 0) F 0 rfl dX10_insert_57 ?_
      refine g_callV F (kX10_save Γ.1 (wI S (q 94) 0 w45) q hq z hz hB H (Sv_of hm.2.1 ((up2_k (by decide)).trans rfl) rfl)) okX10_save (qi94 hq) mw161 ⟨(Nat.le_of_ble_eq_true rfl), (Nat.le_of_ble_eq_true rfl)⟩ rfl rfl (Nat.le_of_ble_eq_true rfl) ⟨(Nat.le_of_ble_eq_true rfl), (Nat.le_of_ble_eq_true rfl)⟩ dX10_insert_58 (toV (fun S11 h12 => ?_))
      obtain ⟨fr10, gr10, jr10, vr10⟩ := h12
      have hq13 : Shp S11.1 S11.2.1 q := Fr.q fr10 hq
      refine g_bipush (v := 9) F (by decide) dX10_insert_61 ?_
      refine g_iconst (v := 3) F (by decide) dX10_insert_63 ?_
      refine g_aload_n (k := 0) F 0 rfl dX10_insert_64 ?_
      refine g_callV F (kX10_corners Γ.1 _ q hq13 z ((fr10.2.2 (95) (by decide) (by decide)).2.trans hz) hB ) okX10_corners (qi94 hq13) mw247 ⟨(Nat.le_of_ble_eq_true rfl), (Nat.le_of_ble_eq_true rfl)⟩ rfl rfl (Nat.le_of_ble_eq_true rfl) ⟨(Nat.le_of_ble_eq_true rfl), (Nat.le_of_ble_eq_true rfl)⟩ dX10_insert_65 (toI (fun r14 S15 h16 => ?_))
      obtain ⟨rfl, rfl⟩ := h16
      refine g_imul F dX10_insert_68 ?_
      refine g_rei (nI (3 * (nc z))) (nmul rfl rfl) ?_
      refine g_iadd F dX10_insert_69 ?_
      refine g_rei (nI (9 + (3 * (nc z)))) (nadd rfl rfl) ?_
      refine g_iconst (v := 1) F (by decide) dX10_insert_70 ?_
      refine g_isub F dX10_insert_71 ?_
      refine g_rei (nI ((9 + (3 * (nc z))) - 1)) (nsub rfl rfl (by omega)) ?_
      refine g_istore (L' := [(4, .int (nI ((9 + (3 * (nc z))) - 1))), (0, .ref (q 94)), (1, .int k), (2, .int a), (3, .int b)]) F dX10_insert_72 (Nat.le_of_ble_eq_true rfl) rfl ?_
      have lp17 : ∀ (n9 : Nat) (i : Nat) (S1 : PS), i < n9 → (8 + 3 * k.toInt.toNat ≤ i) → (i ≤ 8 + 3 * nc z) → (Fr S11 S1 q [95]) → (pJ S1 (q 95) = insR z i) → G Γ S1 0 0 74 [(4, .int (nI i)), (0, .ref (q 94)), (1, .int k), (2, .int a), (3, .int b)] [] := by
        intro n9
        induction n9 with
        | zero =>
          intro i S1 hm9 hi1 hi2 hf hz1
          exact absurd hm9 (by omega)
        | succ n9 ihlp17 =>
          intro i S1 hm9 hi1 hi2 hf hz1
          have hq18 : Shp S1.1 S1.2.1 q := Fr.q hf hq13
          refine g_iload F 0 rfl dX10_insert_74 ?_
          refine g_bipush (v := 9) F (by decide) dX10_insert_76 ?_
          refine g_iconst (v := 3) F (by decide) dX10_insert_78 ?_
          refine g_iload_n (k := 1) F 2 rfl dX10_insert_79 ?_
          refine g_imul F dX10_insert_80 ?_
          refine g_rei (nI (3 * k.toInt.toNat)) (nmul rfl (kN hk9.1)) ?_
          refine g_iadd F dX10_insert_81 ?_
          refine g_rei (nI (9 + (3 * k.toInt.toNat))) (nadd rfl rfl) ?_
          refine g_icmp_lt (t := 107) F dX10_insert_82 (by decide) (fun c19 => ?_) (fun c19 => ?_)
          · have hi9 : i = 8 + 3 * k.toInt.toNat := by
              rw [nI_ltI (by omega) (by omega)] at c19
              omega
            subst hi9
            refine g_aload_n (k := 0) F 1 rfl dX10_insert_107 ?_
            refine g_iload_n (k := 1) F 2 rfl dX10_insert_108 ?_
            refine g_iload_n (k := 2) F 3 rfl dX10_insert_109 ?_
            refine g_iload_n (k := 3) F 4 rfl dX10_insert_110 ?_
            refine g_iconst (v := 0) F (by decide) dX10_insert_111 ?_
            refine g_callV F (kX10_putCorner Γ.1 S1 q hq18 (insR z (8 + 3 * k.toInt.toNat)) hz1 k.toInt.toNat (by omega) k (kN hk9.1) a b 0) okX10_putCorner (qi94 hq18) mw255 ⟨(Nat.le_of_ble_eq_true rfl), (Nat.le_of_ble_eq_true rfl)⟩ rfl rfl (Nat.le_of_ble_eq_true rfl) ⟨(Nat.le_of_ble_eq_true rfl), (Nat.le_of_ble_eq_true rfl)⟩ dX10_insert_112 (toV (fun S21 h22 => ?_))
            obtain ⟨fr20, zr20⟩ := h22
            have hq23 : Shp S21.1 S21.2.1 q := Fr.q fr20 hq18
            refine g_aload_n (k := 0) F 1 rfl dX10_insert_115 ?_
            refine gfX10_7 F (qi94 hq23) (qr94_1 hq23) dX10_insert_116 ?_
            refine g_bipush (v := 8) F (by decide) dX10_insert_119 ?_
            refine g_dup2 F dX10_insert_121 rfl rfl ?_
            refine g_lalde zr20 (j := 8) F (qi95 hq23) rfl (by rw [(qn95 hq23)]; omega) (by rw [(qn95 hq23)]; decide) dX10_insert_122 ?_
            refine g_lconst (v := 1) F (by decide) dX10_insert_123 ?_
            refine g_ladd F dX10_insert_124 ?_
            refine g_last (j := 8) F (qi95 hq23) rfl (by rw [(qn95 hq23)]; omega) (by rw [(qn95 hq23)]; decide) dX10_insert_125 ?_
            refine g_aload_n (k := 0) F 1 rfl dX10_insert_126 ?_
            refine g_callV F (kX10_dropRuns Γ.1 (wJ S21 (q 95) (8) (((pC (insR z (8 + 3 * k.toInt.toNat)) k.toInt.toNat a b 0) 8) + 1)) q hq23 _ (zInP_t k.toInt.toNat a b (up2_updL.trans (congrArg (fun f9 => vp_updL f9 (8) (((pC (insR z (8 + 3 * k.toInt.toNat)) k.toInt.toNat a b 0) 8) + 1)) zr20))) (B_ins hB (show k.toInt.toNat ≤ nc z by omega) h209 hv9)) okX10_dropRuns (qi94 hq23) mw166 ⟨(Nat.le_of_ble_eq_true rfl), (Nat.le_of_ble_eq_true rfl)⟩ rfl rfl (Nat.le_of_ble_eq_true rfl) ⟨(Nat.le_of_ble_eq_true rfl), (Nat.le_of_ble_eq_true rfl)⟩ dX10_insert_127 (toI (fun r24 S25 h26 => ?_))
            obtain ⟨er24, fr24, zr24⟩ := h26
            have hq27 : Shp S25.1 S25.2.1 q := Fr.q fr24 hq23
            refine g_pop F dX10_insert_130 rfl ?_
            refine g_aload_n (k := 0) F 1 rfl dX10_insert_131 ?_
            refine g_callV F (kX10_corners Γ.1 S25 q hq27 _ zr24 (B_no (B_ins hB (show k.toInt.toNat ≤ nc z by omega) h209 hv9))) okX10_corners (qi94 hq27) mw247 ⟨(Nat.le_of_ble_eq_true rfl), (Nat.le_of_ble_eq_true rfl)⟩ rfl rfl (Nat.le_of_ble_eq_true rfl) ⟨(Nat.le_of_ble_eq_true rfl), (Nat.le_of_ble_eq_true rfl)⟩ dX10_insert_132 (toI (fun r28 S29 h30 => ?_))
            obtain ⟨er28, rfl⟩ := h30
            obtain rfl := er28.trans (congrArg nI (nc_insU k.toInt.toNat a b hB))
            refine g_iret F T ⟨_, rfl, ?_⟩ (Nat.le_of_ble_eq_true rfl) (Nat.le_of_ble_eq_true rfl) dX10_insert_135
            rw [show oIns k a b (z, H, l, n, tx) = (0, nI (nc z + 1), (zIns z k a b, psh H z, l, n, tx)) from if_pos ht0]
            exact ⟨rfl, (Fr.tr (l := [94, 95, 96]) (Fr.wJ hq (Fr.tr (l := [94, 95, 96]) (Fr.tr (l := [94, 95, 96]) (Fr.tr (l := [94, 95, 96]) (Fr.wI hq Fr.rf (by decide) (by decide)) fr10 (by decide) (by decide)) hf (by decide) (by decide)) fr20 (by decide) (by decide)) (by decide) (by decide)) fr24 (by decide) (by decide)), ((congrFun (fr24.2.2 (94) (by decide) (by decide)).1 0).trans ((congrFun (fr20.2.2 (94) (by decide) (by decide)).1 0).trans ((congrFun (hf.2.2 (94) (by decide) (by decide)).1 0).trans ((gr10 0 (by decide)).trans up2_s)))).trans (ht.trans ht0), ⟨zr24, Sv_of vr10 ((congrFun (fr24.2.2 (94) (by decide) (by decide)).1 2).trans ((congrFun (fr20.2.2 (94) (by decide) (by decide)).1 2).trans ((congrFun (hf.2.2 (94) (by decide) (by decide)).1 2).trans rfl))) ((fr24.2.2 (96) (by decide) (by decide)).2.trans ((up2_r (qne hq23 (by decide) (by decide) (by decide))).trans ((fr20.2.2 (96) (by decide) (by decide)).2.trans ((hf.2.2 (96) (by decide) (by decide)).2.trans rfl)))), ((congrFun (fr24.2.2 (94) (by decide) (by decide)).1 4).trans ((congrFun (fr20.2.2 (94) (by decide) (by decide)).1 4).trans ((congrFun (hf.2.2 (94) (by decide) (by decide)).1 4).trans ((gr10 4 (by decide)).trans ((up2_k (by decide)).trans hm.2.2.1))))), ((congrFun (fr24.2.2 (94) (by decide) (by decide)).1 5).trans ((congrFun (fr20.2.2 (94) (by decide) (by decide)).1 5).trans ((congrFun (hf.2.2 (94) (by decide) (by decide)).1 5).trans ((gr10 5 (by decide)).trans ((up2_k (by decide)).trans hm.2.2.2.1))))), fun j9 hj9 => (congrFun ((fr24.2.2 (97) (by decide) (by decide)).1.trans ((fr20.2.2 (97) (by decide) (by decide)).1.trans ((hf.2.2 (97) (by decide) (by decide)).1.trans ((fr10.2.2 (97) (by decide) (by decide)).1.trans ((up2_r (qne hq (by decide) (by decide) (by decide))).trans rfl))))) j9).trans (hm.2.2.2.2 j9 hj9)⟩⟩
          · have hi9 : 9 + 3 * k.toInt.toNat ≤ i := by
              rw [nI_ltI (by omega) (by omega)] at c19
              omega
            refine g_aload_n (k := 0) F 1 rfl dX10_insert_85 ?_
            refine gfX10_7 F (qi94 hq18) (qr94_1 hq18) dX10_insert_86 ?_
            refine g_iload F 0 rfl dX10_insert_89 ?_
            refine g_iconst (v := 3) F (by decide) dX10_insert_91 ?_
            refine g_iadd F dX10_insert_92 ?_
            refine g_rei (nI (i + 3)) (nadd rfl rfl) ?_
            refine g_aload_n (k := 0) F 1 rfl dX10_insert_93 ?_
            refine gfX10_7 F (qi94 hq18) (qr94_1 hq18) dX10_insert_94 ?_
            refine g_iload F 0 rfl dX10_insert_97 ?_
            refine g_lalde hz1 (j := i) F (qi95 hq18) rfl (by rw [(qn95 hq18)]; omega) (by rw [(qn95 hq18)]; decide) dX10_insert_99 ?_
            refine g_last (j := (i + 3)) F (qi95 hq18) rfl (by rw [(qn95 hq18)]; omega) (by rw [(qn95 hq18)]; decide) dX10_insert_100 ?_
            obtain ⟨x31, ex31⟩ : ∃ y9 : Int32, y9 = (nI i) + (-1) := ⟨_, rfl⟩
            refine g_iinc (k := 0) (v := x31) (L' := [(4, .int x31), (0, .ref (q 94)), (1, .int k), (2, .int a), (3, .int b)]) F dX10_insert_101 rfl (by rw [ex31]; rfl) (Nat.le_of_ble_eq_true rfl) rfl ?_
            refine g_goto (t := 74) F dX10_insert_104 (by decide) ?_
            obtain rfl : x31 = nI (i - 1) := (ex31.trans (nI_m1 (by omega)))
            refine g_sub (L' := [(4, .int (nI (i - 1))), (0, .ref (q 94)), (1, .int k), (2, .int a), (3, .int b)]) [0, 1, 2, 3, 4] rfl ?_
            exact ihlp17 (i - 1) ((wJ S1 (q 95) ((i + 3)) ((insR z i) i))) (by omega) (by omega) (by omega) (Fr.wJ hq13 hf (by decide) (by decide)) ((up2_updL.trans (congrArg (fun f9 => vp_updL f9 ((i + 3)) ((insR z i) i)) hz1)).trans (ins_s (by omega) hi2))
      exact lp17 (8 + 3 * nc z + 1) ((9 + (3 * nc z)) - 1) S11 (by omega) (by omega) (by omega) Fr.rf (((fr10.2.2 (95) (by decide) (by decide)).2.trans hz).trans ins_0)
    · have ht1 : ¬ tIns z k a b = 0 := fun h => c9 (by rw [ht, h]; decide)
      refine g_iconst (v := 0) F (by decide) dX10_insert_55 ?_
      refine g_iret F T ⟨_, rfl, ?_⟩ (Nat.le_of_ble_eq_true rfl) (Nat.le_of_ble_eq_true rfl) dX10_insert_56
      rw [show oIns k a b (z, H, l, n, tx) = (tIns z k a b, 0, (z, H, l, n, tx)) from if_neg ht1]
      exact ⟨rfl, (Fr.wI hq Fr.rf (by decide) (by decide)), up2_s.trans ht, ⟨hz, Sv_of hm.2.1 ((up2_k (by decide)).trans rfl) rfl, ((up2_k (by decide)).trans hm.2.2.1), ((up2_k (by decide)).trans hm.2.2.2.1), fun j9 hj9 => (congrFun ((up2_r (qne hq (by decide) (by decide) (by decide))).trans rfl) j9).trans (hm.2.2.2.2 j9 hj9)⟩⟩
  refine g_if_ne (t := 19) F dX10_insert_12 (by decide) (fun c7 => ?_) (fun c7 => ?_)
  · have hk8 := wI_t (lo := 0) (hi := (nc z : Int)) er4 c7 (by decide) (nc_64 (nc_e hB).2)
    refine g_iload_n (k := 2) F 2 rfl dX10_insert_19 ?_
    refine g_iload_n (k := 3) F 3 rfl dX10_insert_20 ?_
    refine g_callS F (kX10_isPoint Γ.1 _ _ _) okX10_isPoint mw251 ⟨(Nat.le_of_ble_eq_true rfl), (Nat.le_of_ble_eq_true rfl)⟩ rfl rfl (Nat.le_of_ble_eq_true rfl) ⟨(Nat.le_of_ble_eq_true rfl), (Nat.le_of_ble_eq_true rfl)⟩ dX10_insert_21 (toI (fun r32 S33 h34 => ?_))
    obtain ⟨er32, rfl⟩ := h34
    refine g_if_ne (t := 31) F dX10_insert_24 (by decide) (fun c35 => ?_) (fun c35 => ?_)
    · have hv8 := if01_1 er32 c35
      refine g_aload_n (k := 0) F 0 rfl dX10_insert_31 ?_
      refine g_callV F (kX10_corners Γ.1 _ q hq z hz hB ) okX10_corners (qi94 hq) mw247 ⟨(Nat.le_of_ble_eq_true rfl), (Nat.le_of_ble_eq_true rfl)⟩ rfl rfl (Nat.le_of_ble_eq_true rfl) ⟨(Nat.le_of_ble_eq_true rfl), (Nat.le_of_ble_eq_true rfl)⟩ dX10_insert_32 (toI (fun r36 S37 h38 => ?_))
      obtain ⟨rfl, rfl⟩ := h38
      refine g_bipush (v := 20) F (by decide) dX10_insert_35 ?_
      refine g_icmp_ne (t := 44) F dX10_insert_37 (by decide) (fun c39 => ?_) (fun c39 => ?_)
      · have h208 : nc z ≠ 20 := fun h => c39 (by rw [h]; rfl)
        refine g_iconst (v := 0) F (by decide) dX10_insert_44 ?_
        exact jn8 (0) (by unfold tIns; rw [if_neg (fun h => h hk8), if_neg (fun h => h hv8), if_neg h208])
      · have h208 : nc z = 20 := by
          have := (nc_e hB).2
          rw [show (20 : Int32) = nI 20 from rfl, nI_eq (by omega) (by omega)] at c39
          exact c39
        refine g_iconst (v := 3) F (by decide) dX10_insert_40 ?_
        refine g_goto (t := 45) F dX10_insert_41 (by decide) ?_
        exact jn8 (3) (by unfold tIns; rw [if_neg (fun h => h hk8), if_neg (fun h => h hv8), if_pos h208])
    · have hv8 := if01_0 er32 c35
      refine g_iconst (v := 2) F (by decide) dX10_insert_27 ?_
      refine g_goto (t := 45) F dX10_insert_28 (by decide) ?_
      exact jn8 (2) (by unfold tIns; rw [if_neg (fun h => h hk8), if_pos hv8])
  · have hk8 := wI_f (lo := 0) (hi := (nc z : Int)) er4 c7 (by decide) (nc_64 (nc_e hB).2)
    refine g_iconst (v := 1) F (by decide) dX10_insert_15 ?_
    refine g_goto (t := 45) F dX10_insert_16 (by decide) ?_
    exact jn8 (1) (by unfold tIns; rw [if_pos hk8])
