set_option maxHeartbeats 4000000 in
set_option maxRecDepth 100000 in
theorem kX10_remove (g : Glo) (S : PS) (q : Nat → Nat) (hq : Shp S.1 S.2.1 q) (z : ZZ) (hz : pJ S (q 95) = z) (hB : Bz z) (H : List ZZ) (l : Int32) (n : Nat) (tx : Nat → Int32) (hm : Mo S q z H l n tx) (k : Int32) : Ct g mX10_remove 0 0 [.ref (q 94), .int k] S (pI9 (fun r S' => r = (oRem k (z, H, l, n, tx)).2.1 ∧ Fr S S' q [94, 95, 96] ∧ pI S' (q 94) 0 = (oRem k (z, H, l, n, tx)).1 ∧ Mw S' q (oRem k (z, H, l, n, tx)).2.2)) := by
  refine Ct.of (by decide) (Nat.le_of_ble_eq_true rfl) (fun Γ hg F T => ?_)
  subst hg
  show G Γ S 0 0 0 [(0, .ref (q 94)), (1, .int k)] []
  refine g_aload_n (k := 0) F 0 rfl dX10_remove_0 ?_
  refine g_aload_n (k := 0) F 0 rfl dX10_remove_1 ?_
  refine g_iload_n (k := 1) F 1 rfl dX10_remove_2 ?_
  refine g_callV F (kX10_isCorner Γ.1 _ q hq z hz hB k) okX10_isCorner (qi94 hq) mw274 ⟨(Nat.le_of_ble_eq_true rfl), (Nat.le_of_ble_eq_true rfl)⟩ rfl rfl (Nat.le_of_ble_eq_true rfl) ⟨(Nat.le_of_ble_eq_true rfl), (Nat.le_of_ble_eq_true rfl)⟩ dX10_remove_3 (toI (fun r1 S2 h3 => ?_))
  obtain ⟨er1, rfl⟩ := h3
  have jn5 : ∀ (w14 : Int32), w14 = tRem z k → G Γ S 0 0 14 [(0, .ref (q 94)), (1, .int k)] [.int w14, .ref (q 94)] := by
    intro w14 ht
    refine pfX10_35 F (qi94 hq) dX10_remove_14 ?_
    refine g_aload_n (k := 0) F 0 rfl dX10_remove_17 ?_
    refine gfX10_35e F (qi94 hq) up2_s dX10_remove_18 ?_
    refine g_if_le (t := 26) F dX10_remove_21 (by decide) (fun c6 => ?_) (fun c6 => ?_)
    · obtain ⟨ht0, hk9, hv9⟩ := tRem_i (ht ▸ c6)
      rcases hv9 with hv9
      have hnc9 := (nc_e hB).2
      refine g_aload_n (k := 0) F 0 rfl dX10_remove_26 ?_
      refine g_callV F (kX10_save Γ.1 (wI S (q 94) 0 w14) q hq z hz hB H (Sv_of hm.2.1 ((up2_k (by decide)).trans rfl) rfl)) okX10_save (qi94 hq) mw161 ⟨(Nat.le_of_ble_eq_true rfl), (Nat.le_of_ble_eq_true rfl)⟩ rfl rfl (Nat.le_of_ble_eq_true rfl) ⟨(Nat.le_of_ble_eq_true rfl), (Nat.le_of_ble_eq_true rfl)⟩ dX10_remove_27 (toV (fun S8 h9 => ?_))
      obtain ⟨fr7, gr7, jr7, vr7⟩ := h9
      have hq10 : Shp S8.1 S8.2.1 q := Fr.q fr7 hq
      refine g_aload_n (k := 0) F 0 rfl dX10_remove_30 ?_
      refine gfX10_7 F (qi94 hq10) (qr94_1 hq10) dX10_remove_31 ?_
      refine g_bipush (v := 8) F (by decide) dX10_remove_34 ?_
      refine g_dup2 F dX10_remove_36 rfl rfl ?_
      refine g_lalde ((fr7.2.2 (95) (by decide) (by decide)).2.trans hz) (j := 8) F (qi95 hq10) rfl (by rw [(qn95 hq10)]; omega) (by rw [(qn95 hq10)]; decide) dX10_remove_37 ?_
      refine g_lconst (v := 1) F (by decide) dX10_remove_38 ?_
      refine g_lsub F dX10_remove_39 ?_
      refine g_last (j := 8) F (qi95 hq10) rfl (by rw [(qn95 hq10)]; omega) (by rw [(qn95 hq10)]; decide) dX10_remove_40 ?_
      refine g_bipush (v := 9) F (by decide) dX10_remove_41 ?_
      refine g_iconst (v := 3) F (by decide) dX10_remove_43 ?_
      refine g_iload_n (k := 1) F 1 rfl dX10_remove_44 ?_
      refine g_imul F dX10_remove_45 ?_
      refine g_rei (nI (3 * k.toInt.toNat)) (nmul rfl (kN hk9.1)) ?_
      refine g_iadd F dX10_remove_46 ?_
      refine g_rei (nI (9 + (3 * k.toInt.toNat))) (nadd rfl rfl) ?_
      refine g_istore_n (k := 2) (L' := [(2, .int (nI (9 + (3 * k.toInt.toNat)))), (0, .ref (q 94)), (1, .int k)]) F dX10_remove_47 (Nat.le_of_ble_eq_true rfl) rfl ?_
      have lp11 : ∀ (n9 : Nat) (i : Nat) (S1 : PS), 9 + 3 * nc z < i + n9 → (9 + 3 * k.toInt.toNat ≤ i) → (i ≤ 9 + 3 * (nc z - 1)) → (Fr (wJ S8 (q 95) (8) ((z 8) - 1)) S1 q [95]) → (pJ S1 (q 95) = remR z k.toInt.toNat i) → G Γ S1 0 0 48 [(2, .int (nI i)), (0, .ref (q 94)), (1, .int k)] [] := by
        intro n9
        induction n9 with
        | zero =>
          intro i S1 hm9 hi1 hi2 hf hz1
          exact absurd hm9 (by omega)
        | succ n9 ihlp11 =>
          intro i S1 hm9 hi1 hi2 hf hz1
          have hq12 : Shp S1.1 S1.2.1 q := Fr.q hf hq10
          refine g_iload_n (k := 2) F 0 rfl dX10_remove_48 ?_
          refine g_bipush (v := 9) F (by decide) dX10_remove_49 ?_
          refine g_iconst (v := 3) F (by decide) dX10_remove_51 ?_
          refine g_aload_n (k := 0) F 1 rfl dX10_remove_52 ?_
          refine g_callV F (kX10_corners Γ.1 S1 q hq12 _ hz1 (B_rem hB (show k.toInt.toNat < nc z by omega) hi2)) okX10_corners (qi94 hq12) mw247 ⟨(Nat.le_of_ble_eq_true rfl), (Nat.le_of_ble_eq_true rfl)⟩ rfl rfl (Nat.le_of_ble_eq_true rfl) ⟨(Nat.le_of_ble_eq_true rfl), (Nat.le_of_ble_eq_true rfl)⟩ dX10_remove_53 (toI (fun r13 S14 h15 => ?_))
          obtain ⟨er13, rfl⟩ := h15
          obtain rfl := er13.trans (congrArg nI (nc_rem hB (show k.toInt.toNat < nc z by omega)))
          refine g_imul F dX10_remove_56 ?_
          refine g_rei (nI (3 * (nc z - 1))) (nmul rfl rfl) ?_
          refine g_iadd F dX10_remove_57 ?_
          refine g_rei (nI (9 + (3 * (nc z - 1)))) (nadd rfl rfl) ?_
          refine g_icmp_ge (t := 81) F dX10_remove_58 (by decide) (fun c16 => ?_) (fun c16 => ?_)
          · obtain rfl : i = 9 + 3 * (nc z - 1) := by
              rw [nI_leI (by omega) (by omega)] at c16
              omega
            refine g_aload_n (k := 0) F 1 rfl dX10_remove_81 ?_
            refine g_callV F (kX10_dropRuns Γ.1 S1 q hq12 _ hz1 (B_rem hB (show k.toInt.toNat < nc z by omega) hi2)) okX10_dropRuns (qi94 hq12) mw166 ⟨(Nat.le_of_ble_eq_true rfl), (Nat.le_of_ble_eq_true rfl)⟩ rfl rfl (Nat.le_of_ble_eq_true rfl) ⟨(Nat.le_of_ble_eq_true rfl), (Nat.le_of_ble_eq_true rfl)⟩ dX10_remove_82 (toI (fun r17 S18 h19 => ?_))
            obtain ⟨er17, fr17, zr17⟩ := h19
            have hq20 : Shp S18.1 S18.2.1 q := Fr.q fr17 hq12
            refine g_pop F dX10_remove_85 rfl ?_
            refine g_aload_n (k := 0) F 1 rfl dX10_remove_86 ?_
            refine g_callV F (kX10_corners Γ.1 S18 q hq20 _ zr17 (B_no (B_rem hB (show k.toInt.toNat < nc z by omega) hi2))) okX10_corners (qi94 hq20) mw247 ⟨(Nat.le_of_ble_eq_true rfl), (Nat.le_of_ble_eq_true rfl)⟩ rfl rfl (Nat.le_of_ble_eq_true rfl) ⟨(Nat.le_of_ble_eq_true rfl), (Nat.le_of_ble_eq_true rfl)⟩ dX10_remove_87 (toI (fun r21 S22 h23 => ?_))
            obtain ⟨er21, rfl⟩ := h23
            obtain rfl := er21.trans (congrArg nI (show nc (vp_updL (remR z k.toInt.toNat (9 + 3 * (nc z - 1))) 69 0) = nc z - 1 from nc_rem (i := 9 + 3 * (nc z - 1)) hB (show k.toInt.toNat < nc z by omega)))
            refine g_iret F T ⟨_, rfl, ?_⟩ (Nat.le_of_ble_eq_true rfl) (Nat.le_of_ble_eq_true rfl) dX10_remove_90
            rw [show oRem k (z, H, l, n, tx) = (0, nI (nc z - 1), (zRem z k, psh H z, l, n, tx)) from if_pos ht0]
            exact ⟨rfl, (Fr.tr (l := [94, 95, 96]) (Fr.tr (l := [94, 95, 96]) (Fr.wJ hq (Fr.tr (l := [94, 95, 96]) (Fr.wI hq Fr.rf (by decide) (by decide)) fr7 (by decide) (by decide)) (by decide) (by decide)) hf (by decide) (by decide)) fr17 (by decide) (by decide)), ((congrFun (fr17.2.2 (94) (by decide) (by decide)).1 0).trans ((congrFun (hf.2.2 (94) (by decide) (by decide)).1 0).trans ((gr7 0 (by decide)).trans up2_s))).trans (ht.trans ht0), ⟨zr17, Sv_of vr7 ((congrFun (fr17.2.2 (94) (by decide) (by decide)).1 2).trans ((congrFun (hf.2.2 (94) (by decide) (by decide)).1 2).trans rfl)) ((fr17.2.2 (96) (by decide) (by decide)).2.trans ((hf.2.2 (96) (by decide) (by decide)).2.trans ((up2_r (qne hq10 (by decide) (by decide) (by decide))).trans rfl))), ((congrFun (fr17.2.2 (94) (by decide) (by decide)).1 4).trans ((congrFun (hf.2.2 (94) (by decide) (by decide)).1 4).trans ((gr7 4 (by decide)).trans ((up2_k (by decide)).trans hm.2.2.1)))), ((congrFun (fr17.2.2 (94) (by decide) (by decide)).1 5).trans ((congrFun (hf.2.2 (94) (by decide) (by decide)).1 5).trans ((gr7 5 (by decide)).trans ((up2_k (by decide)).trans hm.2.2.2.1)))), fun j9 hj9 => (congrFun ((fr17.2.2 (97) (by decide) (by decide)).1.trans ((hf.2.2 (97) (by decide) (by decide)).1.trans ((fr7.2.2 (97) (by decide) (by decide)).1.trans ((up2_r (qne hq (by decide) (by decide) (by decide))).trans rfl)))) j9).trans (hm.2.2.2.2 j9 hj9)⟩⟩
          · have hi9 : i < 9 + 3 * (nc z - 1) := by
              rw [nI_leI (by omega) (by omega)] at c16
              omega
            refine g_aload_n (k := 0) F 1 rfl dX10_remove_61 ?_
            refine gfX10_7 F (qi94 hq12) (qr94_1 hq12) dX10_remove_62 ?_
            refine g_iload_n (k := 2) F 0 rfl dX10_remove_65 ?_
            refine g_aload_n (k := 0) F 1 rfl dX10_remove_66 ?_
            refine gfX10_7 F (qi94 hq12) (qr94_1 hq12) dX10_remove_67 ?_
            refine g_iload_n (k := 2) F 0 rfl dX10_remove_70 ?_
            refine g_iconst (v := 3) F (by decide) dX10_remove_71 ?_
            refine g_iadd F dX10_remove_72 ?_
            refine g_rei (nI (i + 3)) (nadd rfl rfl) ?_
            refine g_lalde hz1 (j := (i + 3)) F (qi95 hq12) rfl (by rw [(qn95 hq12)]; omega) (by rw [(qn95 hq12)]; decide) dX10_remove_73 ?_
            refine g_last (j := i) F (qi95 hq12) rfl (by rw [(qn95 hq12)]; omega) (by rw [(qn95 hq12)]; decide) dX10_remove_74 ?_
            obtain ⟨x24, ex24⟩ : ∃ y9 : Int32, y9 = (nI i) + 1 := ⟨_, rfl⟩
            refine g_iinc (k := 0) (v := x24) (L' := [(2, .int x24), (0, .ref (q 94)), (1, .int k)]) F dX10_remove_75 rfl (by rw [ex24]; rfl) (Nat.le_of_ble_eq_true rfl) rfl ?_
            refine g_goto (t := 48) F dX10_remove_78 (by decide) ?_
            obtain rfl : x24 = nI (i + 1) := (ex24.trans (nI_1 _))
            refine g_sub (L' := [(2, .int (nI (i + 1))), (0, .ref (q 94)), (1, .int k)]) [0, 1, 2] rfl ?_
            exact ihlp11 (i + 1) ((wJ S1 (q 95) (i) ((remR z k.toInt.toNat i) ((i + 3))))) (by omega) (by omega) (by omega) (Fr.wJ hq10 hf (by decide) (by decide)) ((up2_updL.trans (congrArg (fun f9 => vp_updL f9 (i) ((remR z k.toInt.toNat i) ((i + 3)))) hz1)).trans (rem_s hi1))
      exact lp11 (9 + 3 * nc z + 1) (9 + 3 * k.toInt.toNat) (wJ S8 (q 95) (8) ((z 8) - 1)) (by omega) (by omega) (by omega) Fr.rf ((up2_updL.trans (congrArg (fun f9 => vp_updL f9 (8) ((z 8) - 1)) ((fr7.2.2 (95) (by decide) (by decide)).2.trans hz))).trans rem_0)
    · have ht1 : ¬ tRem z k = 0 := fun h => c6 (by rw [ht, h]; decide)
      refine g_iconst (v := 0) F (by decide) dX10_remove_24 ?_
      refine g_iret F T ⟨_, rfl, ?_⟩ (Nat.le_of_ble_eq_true rfl) (Nat.le_of_ble_eq_true rfl) dX10_remove_25
      rw [show oRem k (z, H, l, n, tx) = (tRem z k, 0, (z, H, l, n, tx)) from if_neg ht1]
      exact ⟨rfl, (Fr.wI hq Fr.rf (by decide) (by decide)), up2_s.trans ht, ⟨hz, Sv_of hm.2.1 ((up2_k (by decide)).trans rfl) rfl, ((up2_k (by decide)).trans hm.2.2.1), ((up2_k (by decide)).trans hm.2.2.2.1), fun j9 hj9 => (congrFun ((up2_r (qne hq (by decide) (by decide) (by decide))).trans rfl) j9).trans (hm.2.2.2.2 j9 hj9)⟩⟩
  refine g_if_eq (t := 13) F dX10_remove_6 (by decide) (fun c4 => ?_) (fun c4 => ?_)
  · have hk8 := if01_0 er1 c4
    refine g_iconst (v := 1) F (by decide) dX10_remove_13 ?_
    exact jn5 (1) (by unfold tRem; rw [if_neg hk8])
  · have hk8 := if01_1 er1 c4
    refine g_iconst (v := 0) F (by decide) dX10_remove_9 ?_
    refine g_goto (t := 14) F dX10_remove_10 (by decide) ?_
    exact jn5 (0) (by unfold tRem; rw [if_pos hk8])
set_option maxHeartbeats 4000000 in
set_option maxRecDepth 100000 in
theorem kX10_putCorner (g : Glo) (S : PS) (q : Nat → Nat) (hq : Shp S.1 S.2.1 q) (z : ZZ) (hz : pJ S (q 95) = z) (k : Nat) (hk : k < 20) (kk : Int32) (hkk : kk = nI k) (x y s : Int32) : Ct g mX10_putCorner 0 0 [.ref (q 94), .int kk, .int x, .int y, .int s] S (pV9 (fun S' => Fr S S' q [95] ∧ pJ S' (q 95) = pC z k x y s)) := by
  refine Ct.of (by decide) (Nat.le_of_ble_eq_true rfl) (fun Γ hg F T => ?_)
  subst hg
  show G Γ S 0 0 0 [(0, .ref (q 94)), (1, .int kk), (2, .int x), (3, .int y), (4, .int s)] []
  refine g_aload_n (k := 0) F 0 rfl dX10_putCorner_0 ?_
  refine gfX10_7 F (qi94 hq) (qr94_1 hq) dX10_putCorner_1 ?_
  refine g_bipush (v := 9) F (by decide) dX10_putCorner_4 ?_
  refine g_iconst (v := 3) F (by decide) dX10_putCorner_6 ?_
  refine g_iload_n (k := 1) F 1 rfl dX10_putCorner_7 ?_
  refine g_imul F dX10_putCorner_8 ?_
  refine g_rei (nI (3 * k)) (nmul rfl hkk) ?_
  refine g_iadd F dX10_putCorner_9 ?_
  refine g_rei (nI (9 + (3 * k))) (nadd rfl rfl) ?_
  refine g_iload_n (k := 2) F 2 rfl dX10_putCorner_10 ?_
  refine g_i2l F dX10_putCorner_11 ?_
  refine g_last (j := (9 + (3 * k))) F (qi95 hq) rfl (by rw [(qn95 hq)]; omega) (by rw [(qn95 hq)]; decide) dX10_putCorner_12 ?_
  refine g_aload_n (k := 0) F 0 rfl dX10_putCorner_13 ?_
  refine gfX10_7 F (qi94 hq) (qr94_1 hq) dX10_putCorner_14 ?_
  refine g_bipush (v := 9) F (by decide) dX10_putCorner_17 ?_
  refine g_iconst (v := 3) F (by decide) dX10_putCorner_19 ?_
  refine g_iload_n (k := 1) F 1 rfl dX10_putCorner_20 ?_
  refine g_imul F dX10_putCorner_21 ?_
  refine g_rei (nI (3 * k)) (nmul rfl hkk) ?_
  refine g_iadd F dX10_putCorner_22 ?_
  refine g_rei (nI (9 + (3 * k))) (nadd rfl rfl) ?_
  refine g_iconst (v := 1) F (by decide) dX10_putCorner_23 ?_
  refine g_iadd F dX10_putCorner_24 ?_
  refine g_rei (nI ((9 + (3 * k)) + 1)) (nadd rfl rfl) ?_
  refine g_iload_n (k := 3) F 3 rfl dX10_putCorner_25 ?_
  refine g_i2l F dX10_putCorner_26 ?_
  refine g_last (j := ((9 + (3 * k)) + 1)) F (qi95 hq) rfl (by rw [(qn95 hq)]; omega) (by rw [(qn95 hq)]; decide) dX10_putCorner_27 ?_
  refine g_aload_n (k := 0) F 0 rfl dX10_putCorner_28 ?_
  refine gfX10_7 F (qi94 hq) (qr94_1 hq) dX10_putCorner_29 ?_
  refine g_bipush (v := 9) F (by decide) dX10_putCorner_32 ?_
  refine g_iconst (v := 3) F (by decide) dX10_putCorner_34 ?_
  refine g_iload_n (k := 1) F 1 rfl dX10_putCorner_35 ?_
  refine g_imul F dX10_putCorner_36 ?_
  refine g_rei (nI (3 * k)) (nmul rfl hkk) ?_
  refine g_iadd F dX10_putCorner_37 ?_
  refine g_rei (nI (9 + (3 * k))) (nadd rfl rfl) ?_
  refine g_iconst (v := 2) F (by decide) dX10_putCorner_38 ?_
  refine g_iadd F dX10_putCorner_39 ?_
  refine g_rei (nI ((9 + (3 * k)) + 2)) (nadd rfl rfl) ?_
  refine g_iload F 4 rfl dX10_putCorner_40 ?_
  refine g_i2l F dX10_putCorner_42 ?_
  refine g_last (j := ((9 + (3 * k)) + 2)) F (qi95 hq) rfl (by rw [(qn95 hq)]; omega) (by rw [(qn95 hq)]; decide) dX10_putCorner_43 ?_
  refine g_vret F T ⟨rfl, ?_⟩ (Nat.le_of_ble_eq_true rfl) (Nat.le_of_ble_eq_true rfl) dX10_putCorner_44
  exact ⟨(Fr.wJ hq (Fr.wJ hq (Fr.wJ hq Fr.rf (by decide) (by decide)) (by decide) (by decide)) (by decide) (by decide)), (up2_updL.trans (congrArg (fun f9 => vp_updL f9 (((9 + (3 * k)) + 2)) (s).toInt64) (up2_updL.trans (congrArg (fun f9 => vp_updL f9 (((9 + (3 * k)) + 1)) (y).toInt64) (up2_updL.trans (congrArg (fun f9 => vp_updL f9 ((9 + (3 * k))) (x).toInt64) hz))))))⟩
