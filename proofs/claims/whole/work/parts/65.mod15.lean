set_option maxHeartbeats 4000000 in
set_option maxRecDepth 100000 in
theorem kJ_isNaN (g : Glo) (S : PS) (v : UInt64) (hv : FP.Core.val64 v ≠ .nan) : Ct g mJxe99ae_isNaN_b9ae7 0 0 [.double v] S (pI9 (fun r S' => r = 0 ∧ S = S')) := by
  refine Ct.of (by decide) (Nat.le_of_ble_eq_true rfl) (fun Γ hg F T => ?_)
  subst hg
  show G Γ S 0 0 0 [(0, .double v)] []
  refine g_dload_n (k := 0) F 0 rfl dJxe99ae_isNaN_b9ae7_0 ?_
  refine g_dload_n (k := 0) F 0 rfl dJxe99ae_isNaN_b9ae7_1 ?_
  refine g_dcmp F dJxe99ae_isNaN_b9ae7_2 ?_
  refine g_if_eq (t := 10) F dJxe99ae_isNaN_b9ae7_3 (by decide) (fun c1 => ?_) (fun c1 => ?_)
  · refine g_iconst (v := 0) F (by decide) dJxe99ae_isNaN_b9ae7_10 ?_
    refine g_zret F T rfl ⟨_, rfl, ?_⟩ (Nat.le_of_ble_eq_true rfl) (Nat.le_of_ble_eq_true rfl) dJxe99ae_isNaN_b9ae7_11
    exact ⟨rfl, rfl⟩
  · exact absurd (cmp_self hv) c1
set_option maxHeartbeats 4000000 in
set_option maxRecDepth 100000 in
theorem kJ_bits (g : Glo) (S : PS) (v : UInt64) (hv : FP.Core.val64 v ≠ .nan) : Ct g mJxe99ae_doubleToLongBits_ccdee 0 0 [.double v] S (pJ9 (fun r S' => r = v.toInt64 ∧ S = S')) := by
  refine Ct.of (by decide) (Nat.le_of_ble_eq_true rfl) (fun Γ hg F T => ?_)
  subst hg
  show G Γ S 0 0 0 [(0, .double v)] []
  refine g_dload_n (k := 0) F 0 rfl dJxe99ae_doubleToLongBits_ccdee_0 ?_
  refine g_callS F (kJ_isNaN Γ.1 _ v hv) okJxe99ae_isNaN_b9ae7 mw1007 ⟨(Nat.le_of_ble_eq_true rfl), (Nat.le_of_ble_eq_true rfl)⟩ rfl rfl (Nat.le_of_ble_eq_true rfl) ⟨(Nat.le_of_ble_eq_true rfl), (Nat.le_of_ble_eq_true rfl)⟩ dJxe99ae_doubleToLongBits_ccdee_1 (toI (fun r1 S2 h3 => ?_))
  obtain ⟨er1, rfl⟩ := h3
  refine g_if_ne (t := 12) F dJxe99ae_doubleToLongBits_ccdee_4 (by decide) (fun c4 => ?_) (fun c4 => ?_)
  · exact absurd er1 c4
  · refine g_dload_n (k := 0) F 0 rfl dJxe99ae_doubleToLongBits_ccdee_7 ?_
    refine g_raw F mw1002 mw1003 mw1004 mw1000 ⟨(Nat.le_of_ble_eq_true rfl), (by decide +kernel)⟩ dJxe99ae_doubleToLongBits_ccdee_8 ?_
    refine g_lret F T ⟨_, rfl, ?_⟩ (Nat.le_of_ble_eq_true rfl) (Nat.le_of_ble_eq_true rfl) dJxe99ae_doubleToLongBits_ccdee_11
    exact ⟨rfl, rfl⟩
set_option maxHeartbeats 4000000 in
set_option maxRecDepth 100000 in
theorem kX10_errorNow (g : Glo) (S : PS) (q : Nat → Nat) (hq : Shp S.1 S.2.1 q) (z : ZZ) (hz : pJ S (q 95) = z) (hB : Bz z) : Ct g mX10_errorNow 0 0 [.ref (q 94)] S (pD9 (fun r S' => r = zEr z ∧ Fm S S' q [])) := by
  refine Ct.of (by decide) (Nat.le_of_ble_eq_true rfl) (fun Γ hg F T => ?_)
  subst hg
  show G Γ S 0 0 0 [(0, .ref (q 94))] []
  refine g_aload_n (k := 0) F 0 rfl dX10_errorNow_0 ?_
  refine g_callV F (kX10_twiceArea Γ.1 _ q hq z hz hB ) okX10_twiceArea (qi94 hq) mw880 ⟨(Nat.le_of_ble_eq_true rfl), (Nat.le_of_ble_eq_true rfl)⟩ rfl rfl (Nat.le_of_ble_eq_true rfl) ⟨(Nat.le_of_ble_eq_true rfl), (Nat.le_of_ble_eq_true rfl)⟩ dX10_errorNow_1 (toJ (fun r1 S2 h3 => ?_))
  obtain ⟨er1, rfl⟩ := h3
  refine g_ldc2 F mw517 dX10_errorNow_4 ?_
  refine g_ldiv F dX10_errorNow_7 (by decide) ?_
  refine g_topl (fun x4 ex4 => ?_)
  refine g_lstore_n (k := 1) (L' := [(1, .long x4), (0, .ref (q 94))]) F dX10_errorNow_8 (Nat.le_of_ble_eq_true rfl) rfl ?_
  refine g_aload_n (k := 0) F 1 rfl dX10_errorNow_9 ?_
  refine gfX10_7 F (qi94 hq) (qr94_1 hq) dX10_errorNow_10 ?_
  refine g_bipush (v := 69) F (by decide) dX10_errorNow_13 ?_
  refine g_lalde hz (j := 69) F (qi95 hq) rfl (by rw [(qn95 hq)]; omega) (by rw [(qn95 hq)]; decide) dX10_errorNow_15 ?_
  refine g_lconst (v := 0) F (by decide) dX10_errorNow_16 ?_
  refine g_lcmp F dX10_errorNow_17 ?_
  refine g_if_eq (t := 27) F dX10_errorNow_18 (by decide) (fun c5 => ?_) (fun c5 => ?_)
  · rw [lc_eq] at c5
    have h69 := c5
    refine g_dconst0 F dX10_errorNow_27 ?_
    refine g_goto (t := 41) F dX10_errorNow_28 (by decide) ?_
    refine g_dret F T ⟨_, rfl, ?_⟩ (Nat.le_of_ble_eq_true rfl) (Nat.le_of_ble_eq_true rfl) dX10_errorNow_41
    exact ⟨(if_pos (.inl h69)).symm, Fm.rf⟩
  · rw [lc_eq] at c5
    have h69 := c5
    refine g_lload_n (k := 1) F 0 rfl dX10_errorNow_21 ?_
    refine g_lconst (v := 0) F (by decide) dX10_errorNow_22 ?_
    refine g_lcmp F dX10_errorNow_23 ?_
    refine g_if_ne (t := 31) F dX10_errorNow_24 (by decide) (fun c6 => ?_) (fun c6 => ?_)
    · rw [lc_eq] at c6
      have hA9 : ¬ zTw z / 2 = 0 := by rw [← er1, ← ex4]; exact c6
      refine g_dconst1 F dX10_errorNow_31 ?_
      refine g_aload_n (k := 0) F 1 rfl dX10_errorNow_32 ?_
      refine g_callV F (kX10_difference Γ.1 S q hq z hz hB ) okX10_difference (qi94 hq) mw892 ⟨(Nat.le_of_ble_eq_true rfl), (Nat.le_of_ble_eq_true rfl)⟩ rfl rfl (Nat.le_of_ble_eq_true rfl) ⟨(Nat.le_of_ble_eq_true rfl), (Nat.le_of_ble_eq_true rfl)⟩ dX10_errorNow_33 (toJ (fun r7 S8 h9 => ?_))
      obtain ⟨er7, gh9⟩ := h9
      have hq10 : Shp S8.1 S8.2.1 q := Fm.q gh9 hq
      refine g_l2d F dX10_errorNow_36 ?_
      refine g_dmul F dX10_errorNow_37 vf_one ?_
      refine g_lload_n (k := 1) F 0 rfl dX10_errorNow_38 ?_
      refine g_l2d F dX10_errorNow_39 ?_
      refine g_ddiv F dX10_errorNow_40 (vf_div1 (by rw [ex4, er1]; exact hA9) (by rw [ex4, er1]; exact tw_s hB)) ?_
      refine g_dret F T ⟨_, rfl, ?_⟩ (Nat.le_of_ble_eq_true rfl) (Nat.le_of_ble_eq_true rfl) dX10_errorNow_41
      exact ⟨by unfold zEr; rw [if_neg (fun h => h.elim h69 hA9), ex4, er1, er7, one9], (Fm.tr Fm.rf gh9 (by decide))⟩
    · rw [lc_eq] at c6
      have hA9 : zTw z / 2 = 0 := by rw [← er1, ← ex4]; exact c6
      refine g_dconst0 F dX10_errorNow_27 ?_
      refine g_goto (t := 41) F dX10_errorNow_28 (by decide) ?_
      refine g_dret F T ⟨_, rfl, ?_⟩ (Nat.le_of_ble_eq_true rfl) (Nat.le_of_ble_eq_true rfl) dX10_errorNow_41
      exact ⟨(if_pos (.inr hA9)).symm, Fm.rf⟩
set_option maxHeartbeats 4000000 in
set_option maxRecDepth 100000 in
theorem kX10_error (g : Glo) (S : PS) (q : Nat → Nat) (hq : Shp S.1 S.2.1 q) (z : ZZ) (hz : pJ S (q 95) = z) (hB : Bz z) (H : List ZZ) (l : Int32) (n : Nat) (tx : Nat → Int32) (hm : Mo S q z H l n tx) : Ct g mX10_error 0 0 [.ref (q 94)] S (pD9 (fun r S' => r = (oErr (z, H, l, n, tx)).2 ∧ Fr S S' q [94, 98] ∧ pI S' (q 94) 0 = (oErr (z, H, l, n, tx)).1 ∧ Mo S' q z H l n tx)) := by
  refine Ct.of (by decide) (Nat.le_of_ble_eq_true rfl) (fun Γ hg F T => ?_)
  subst hg
  show G Γ S 0 0 0 [(0, .ref (q 94))] []
  refine g_aload_n (k := 0) F 0 rfl dX10_error_0 ?_
  refine g_iconst (v := 0) F (by decide) dX10_error_1 ?_
  refine pfX10_35 F (qi94 hq) dX10_error_2 ?_
  refine g_aload_n (k := 0) F 0 rfl dX10_error_5 ?_
  refine g_callV F (kX10_errorNow Γ.1 (wI S (q 94) 0 0) q hq z hz hB) okX10_errorNow (qi94 hq) mw960 ⟨(Nat.le_of_ble_eq_true rfl), (Nat.le_of_ble_eq_true rfl)⟩ rfl rfl (Nat.le_of_ble_eq_true rfl) ⟨(Nat.le_of_ble_eq_true rfl), (Nat.le_of_ble_eq_true rfl)⟩ dX10_error_6 (toD (fun r1 S2 h3 => ?_))
  obtain ⟨er1, gr1⟩ := h3
  have hq4 : Shp S2.1 S2.2.1 q := Fr.q gr1.1 hq
  refine g_dret F T ⟨_, rfl, ?_⟩ (Nat.le_of_ble_eq_true rfl) (Nat.le_of_ble_eq_true rfl) dX10_error_9
  exact ⟨er1, (Fr.tr (l := [94, 98]) (Fr.wI hq Fr.rf (by decide) (by decide)) gr1.1 (by decide) (by decide)), ((congrFun gr1.2.1 0).trans up2_s), ⟨((gr1.1.2.2 (95) (by decide) (by decide)).2.trans hz), Sv_of hm.2.1 ((congrFun gr1.2.1 2).trans ((up2_k (by decide)).trans rfl)) ((gr1.1.2.2 (96) (by decide) (by decide)).2.trans rfl), ((congrFun gr1.2.1 4).trans ((up2_k (by decide)).trans hm.2.2.1)), ((congrFun gr1.2.1 5).trans ((up2_k (by decide)).trans hm.2.2.2.1)), fun j9 hj9 => (congrFun ((gr1.1.2.2 (97) (by decide) (by decide)).1.trans ((up2_r (qne hq (by decide) (by decide) (by decide))).trans rfl)) j9).trans (hm.2.2.2.2 j9 hj9)⟩⟩
set_option maxHeartbeats 4000000 in
set_option maxRecDepth 100000 in
theorem kX10_leastArm (g : Glo) (S : PS) (q : Nat → Nat) (hq : Shp S.1 S.2.1 q) (z : ZZ) (hz : pJ S (q 95) = z) (hB : Bz z) (H : List ZZ) (l : Int32) (n : Nat) (tx : Nat → Int32) (hm : Mo S q z H l n tx) : Ct g mX10_leastArm 0 0 [.ref (q 94)] S (pI9 (fun r S' => r = (oLea (z, H, l, n, tx)).2 ∧ Fr S S' q [94, 95] ∧ pI S' (q 94) 0 = (oLea (z, H, l, n, tx)).1 ∧ Mo S' q z H l n tx)) := by
  refine Ct.of (by decide) (Nat.le_of_ble_eq_true rfl) (fun Γ hg F T => ?_)
  subst hg
  show G Γ S 0 0 0 [(0, .ref (q 94))] []
  refine g_aload_n (k := 0) F 0 rfl dX10_leastArm_0 ?_
  refine g_iconst (v := 0) F (by decide) dX10_leastArm_1 ?_
  refine pfX10_35 F (qi94 hq) dX10_leastArm_2 ?_
  refine g_aload_n (k := 0) F 0 rfl dX10_leastArm_5 ?_
  refine g_callV F (kX10_leastNow Γ.1 (wI S (q 94) 0 0) q hq z hz hB) okX10_leastNow (qi94 hq) mw948 ⟨(Nat.le_of_ble_eq_true rfl), (Nat.le_of_ble_eq_true rfl)⟩ rfl rfl (Nat.le_of_ble_eq_true rfl) ⟨(Nat.le_of_ble_eq_true rfl), (Nat.le_of_ble_eq_true rfl)⟩ dX10_leastArm_6 (toI (fun r1 S2 h3 => ?_))
  obtain ⟨er1, fr1, zr1⟩ := h3
  have hq4 : Shp S2.1 S2.2.1 q := Fr.q fr1 hq
  refine g_iret F T ⟨_, rfl, ?_⟩ (Nat.le_of_ble_eq_true rfl) (Nat.le_of_ble_eq_true rfl) dX10_leastArm_9
  exact ⟨er1, (Fr.tr (l := [94, 95]) (Fr.wI hq Fr.rf (by decide) (by decide)) fr1 (by decide) (by decide)), ((congrFun (fr1.2.2 (94) (by decide) (by decide)).1 0).trans up2_s), ⟨zr1, Sv_of hm.2.1 ((congrFun (fr1.2.2 (94) (by decide) (by decide)).1 2).trans ((up2_k (by decide)).trans rfl)) ((fr1.2.2 (96) (by decide) (by decide)).2.trans rfl), ((congrFun (fr1.2.2 (94) (by decide) (by decide)).1 4).trans ((up2_k (by decide)).trans hm.2.2.1)), ((congrFun (fr1.2.2 (94) (by decide) (by decide)).1 5).trans ((up2_k (by decide)).trans hm.2.2.2.1)), fun j9 hj9 => (congrFun ((fr1.2.2 (97) (by decide) (by decide)).1.trans ((up2_r (qne hq (by decide) (by decide) (by decide))).trans rfl)) j9).trans (hm.2.2.2.2 j9 hj9)⟩⟩
set_option maxHeartbeats 4000000 in
set_option maxRecDepth 100000 in
theorem kX10_firstError (g : Glo) (S : PS) (q : Nat → Nat) (hq : Shp S.1 S.2.1 q) (z : ZZ) (hz : pJ S (q 95) = z) (hB : Bz z) (H : List ZZ) (l : Int32) (n : Nat) (tx : Nat → Int32) (hm : Mo S q z H l n tx) (hn60 : n ≤ 60) : Ct g mX10_firstError 0 0 [.ref (q 94)] S (pI9 (fun r S' => r = (oFst (z, H, l, n, tx)).2.1 ∧ Fr S S' q [94, 99] ∧ pI S' (q 94) 0 = (oFst (z, H, l, n, tx)).1 ∧ Mw S' q (oFst (z, H, l, n, tx)).2.2)) := by
  refine Ct.of (by decide) (Nat.le_of_ble_eq_true rfl) (fun Γ hg F T => ?_)
  subst hg
  show G Γ S 0 0 0 [(0, .ref (q 94))] []
  refine g_aload_n (k := 0) F 0 rfl dX10_firstError_0 ?_
  refine g_iconst (v := 0) F (by decide) dX10_firstError_1 ?_
  refine pfX10_35 F (qi94 hq) dX10_firstError_2 ?_
  refine g_aload_n (k := 0) F 0 rfl dX10_firstError_5 ?_
  refine g_callV F (kX10_readText Γ.1 (wI S (q 94) 0 0) q hq n tx ((up2_k (by decide)).trans hm.2.2.2.1) hn60 (fun j9 hj9 => (congrFun ((up2_r (qne hq (by decide) (by decide) (by decide))).trans rfl) j9).trans (hm.2.2.2.2 j9 hj9))) okX10_readText (qi94 hq) mw638 ⟨(Nat.le_of_ble_eq_true rfl), (Nat.le_of_ble_eq_true rfl)⟩ rfl rfl (Nat.le_of_ble_eq_true rfl) ⟨(Nat.le_of_ble_eq_true rfl), (Nat.le_of_ble_eq_true rfl)⟩ dX10_firstError_6 (toI (fun r1 S2 h3 => ?_))
  obtain ⟨rfl, fr1, lr1, tr1⟩ := h3
  have hq4 : Shp S2.1 S2.2.1 q := Fr.q fr1 hq
  refine g_iret F T ⟨_, rfl, ?_⟩ (Nat.le_of_ble_eq_true rfl) (Nat.le_of_ble_eq_true rfl) dX10_firstError_9
  exact ⟨rfl, (Fr.tr (l := [94, 99]) (Fr.wI hq Fr.rf (by decide) (by decide)) fr1 (by decide) (by decide)), ((lr1 0 (by decide)).trans up2_s), ⟨((fr1.2.2 (95) (by decide) (by decide)).2.trans hz), Sv_of hm.2.1 ((lr1 2 (by decide)).trans ((up2_k (by decide)).trans rfl)) ((fr1.2.2 (96) (by decide) (by decide)).2.trans rfl), ((lr1 4 (by decide)).trans ((up2_k (by decide)).trans hm.2.2.1)), ((lr1 5 (by decide)).trans ((up2_k (by decide)).trans hm.2.2.2.1)), fun j9 hj9 => (congrFun ((fr1.2.2 (97) (by decide) (by decide)).1.trans ((up2_r (qne hq (by decide) (by decide) (by decide))).trans rfl)) j9).trans (hm.2.2.2.2 j9 hj9)⟩⟩
set_option maxHeartbeats 4000000 in
set_option maxRecDepth 100000 in
theorem kX10_mix (g : Glo) (S : PS) (q : Nat → Nat) (hq : Shp S.1 S.2.1 q) (h v : Int64) (hh : pJ S (q 94) 17 = h) : Ct g mX10_mix 0 0 [.ref (q 94), .long v] S (pV9 (fun S' => Fr S S' q [94] ∧ pI S' (q 94) = pI S (q 94) ∧ pJ S' (q 94) 17 = 31 * h + v)) := by
  refine Ct.of (by decide) (Nat.le_of_ble_eq_true rfl) (fun Γ hg F T => ?_)
  subst hg
  show G Γ S 0 0 0 [(0, .ref (q 94)), (1, .long v)] []
  refine g_aload_n (k := 0) F 0 rfl dX10_mix_0 ?_
  refine g_ldc2 F mw997 dX10_mix_1 ?_
  refine g_aload_n (k := 0) F 0 rfl dX10_mix_4 ?_
  refine gfX10_322e F (qi94 hq) hh dX10_mix_5 ?_
  refine g_lmul F dX10_mix_8 ?_
  refine g_lload_n (k := 1) F 1 rfl dX10_mix_9 ?_
  refine g_ladd F dX10_mix_10 ?_
  refine g_topl (fun x1 ex1 => ?_)
  refine pfX10_322 F (qi94 hq) dX10_mix_11 ?_
  refine g_vret F T ⟨rfl, ?_⟩ (Nat.le_of_ble_eq_true rfl) (Nat.le_of_ble_eq_true rfl) dX10_mix_14
  exact ⟨(Fr.wJ hq Fr.rf (by decide) (by decide)), rfl, up2_s.trans ex1⟩
set_option maxHeartbeats 4000000 in
set_option maxRecDepth 100000 in
theorem kX10_digest (g : Glo) (S : PS) (q : Nat → Nat) (hq : Shp S.1 S.2.1 q) (z : ZZ) (hz : pJ S (q 95) = z) (hB : Bz z) (H : List ZZ) (l : Int32) (n : Nat) (tx : Nat → Int32) (hm : Mo S q z H l n tx) (hn60 : n ≤ 60) : Ct g mX10_digest 0 0 [.ref (q 94)] S (pJ9 (fun r S' => r = (oDig (z, H, l, n, tx)).2 ∧ Fr S S' q [94, 95, 98] ∧ pI S' (q 94) 0 = (oDig (z, H, l, n, tx)).1 ∧ Mo S' q z H l n tx)) := by
  refine Ct.of (by decide) (Nat.le_of_ble_eq_true rfl) (fun Γ hg F T => ?_)
  subst hg
  show G Γ S 0 0 0 [(0, .ref (q 94))] []
  have hnc := (nc_e hB).2
  have hnr := (nr_e hB).2
  refine g_aload_n (k := 0) F 0 rfl dX10_digest_0 ?_
  refine g_iconst (v := 0) F (by decide) dX10_digest_1 ?_
  refine pfX10_35 F (qi94 hq) dX10_digest_2 ?_
  refine g_aload_n (k := 0) F 0 rfl dX10_digest_5 ?_
  refine g_ldc2 F mw991 dX10_digest_6 ?_
  refine pfX10_322 F (qi94 hq) dX10_digest_9 ?_
  refine g_iconst (v := 0) F (by decide) dX10_digest_12 ?_
  refine g_istore_n (k := 1) (L' := [(1, .int 0), (0, .ref (q 94))]) F dX10_digest_13 (Nat.le_of_ble_eq_true rfl) rfl ?_
  have lp1 : ∀ (n9 : Nat) (i : Nat) (S1 : PS), 15 < i + n9 → (i ≤ 15) → (Fr S S1 q [94, 95, 98]) → (Mo S1 q z H l n tx) → (pI S1 (q 94) 0 = 0) → (pJ S1 (q 94) 17 = mixF (fun i => zCt z H.length (nI i)) i 2113) → G Γ S1 0 0 14 [(1, .int (nI i)), (0, .ref (q 94))] [] := by
    intro n9
    induction n9 with
    | zero =>
      intro i S1 hm9 hi1 hf1 hm1 ht1 hh1
      exact absurd hm9 (by omega)
    | succ n9 ihlp1 =>
      intro i S1 hm9 hi1 hf1 hm1 ht1 hh1
      have hq2 : Shp S1.1 S1.2.1 q := Fr.q hf1 hq
      refine g_iload_n (k := 1) F 0 rfl dX10_digest_14 ?_
      refine g_bipush (v := 15) F (by decide) dX10_digest_15 ?_
      refine g_icmp_ge (t := 35) F dX10_digest_17 (by decide) (fun c3 => ?_) (fun c3 => ?_)
      · obtain rfl : i = 15 := by
          rw [show (15 : Int32) = nI 15 from rfl, nI_leI (by omega) (by omega)] at c3
          omega
        refine g_iconst (v := 0) F (by decide) dX10_digest_35 ?_
        refine g_istore_n (k := 1) (L' := [(1, .int 0), (0, .ref (q 94))]) F dX10_digest_36 (Nat.le_of_ble_eq_true rfl) rfl ?_
        have lp4 : ∀ (n9 : Nat) (i : Nat) (S2 : PS), 5 < i + n9 → (i ≤ 5) → (Fr S S2 q [94, 95, 98]) → (Mo S2 q z H l n tx) → (pI S2 (q 94) 0 = 0) → (pJ S2 (q 94) 17 = mixF (fun i => z (2 + i)) i (zD1 (z, H, l, n, tx))) → G Γ S2 0 0 37 [(1, .int (nI i)), (0, .ref (q 94))] [] := by
          intro n9
          induction n9 with
          | zero =>
            intro i S2 hm9 hi2 hf2 hm2 ht2 hh2
            exact absurd hm9 (by omega)
          | succ n9 ihlp4 =>
            intro i S2 hm9 hi2 hf2 hm2 ht2 hh2
            have hq5 : Shp S2.1 S2.2.1 q := Fr.q hf2 hq
            refine g_iload_n (k := 1) F 0 rfl dX10_digest_37 ?_
            refine g_iconst (v := 5) F (by decide) dX10_digest_38 ?_
            refine g_icmp_ge (t := 57) F dX10_digest_39 (by decide) (fun c6 => ?_) (fun c6 => ?_)
            · obtain rfl : i = 5 := by
                rw [show (5 : Int32) = nI 5 from rfl, nI_leI (by omega) (by omega)] at c6
                omega
              refine g_iconst (v := 0) F (by decide) dX10_digest_57 ?_
              refine g_istore_n (k := 1) (L' := [(1, .int 0), (0, .ref (q 94))]) F dX10_digest_58 (Nat.le_of_ble_eq_true rfl) rfl ?_
              have lp7 : ∀ (n9 : Nat) (i : Nat) (S3 : PS), 6 * nc z < i + n9 → (i ≤ 6 * nc z) → (Fr S S3 q [94, 95, 98]) → (Mo S3 q z H l n tx) → (pI S3 (q 94) 0 = 0) → (pJ S3 (q 94) 17 = mixF (fun i => zCn z (i / 6) (nI (i % 6))) i (zD2 (z, H, l, n, tx))) → G Γ S3 0 0 59 [(1, .int (nI i)), (0, .ref (q 94))] [] := by
                intro n9
                induction n9 with
                | zero =>
                  intro i S3 hm9 hi3 hf3 hm3 ht3 hh3
                  exact absurd hm9 (by omega)
                | succ n9 ihlp7 =>
                  intro i S3 hm9 hi3 hf3 hm3 ht3 hh3
                  have hq8 : Shp S3.1 S3.2.1 q := Fr.q hf3 hq
                  refine g_iload_n (k := 1) F 0 rfl dX10_digest_59 ?_
                  refine g_bipush (v := 6) F (by decide) dX10_digest_60 ?_
                  refine g_aload_n (k := 0) F 1 rfl dX10_digest_62 ?_
                  refine g_callV F (kX10_corners Γ.1 S3 q hq8 z hm3.1 hB ) okX10_corners (qi94 hq8) mw247 ⟨(Nat.le_of_ble_eq_true rfl), (Nat.le_of_ble_eq_true rfl)⟩ rfl rfl (Nat.le_of_ble_eq_true rfl) ⟨(Nat.le_of_ble_eq_true rfl), (Nat.le_of_ble_eq_true rfl)⟩ dX10_digest_63 (toI (fun r9 S10 h11 => ?_))
                  obtain ⟨rfl, rfl⟩ := h11
                  refine g_imul F dX10_digest_66 ?_
                  refine g_rei (nI (6 * (nc z))) (nmul rfl rfl) ?_
                  refine g_icmp_ge (t := 92) F dX10_digest_67 (by decide) (fun c12 => ?_) (fun c12 => ?_)
                  · obtain rfl : i = 6 * nc z := by
                      rw [nI_leI (by omega) (by omega)] at c12
                      omega
                    refine g_iconst (v := 0) F (by decide) dX10_digest_92 ?_
                    refine g_istore_n (k := 1) (L' := [(1, .int 0), (0, .ref (q 94))]) F dX10_digest_93 (Nat.le_of_ble_eq_true rfl) rfl ?_
                    have lp13 : ∀ (n9 : Nat) (r : Nat) (S4 : PS), nr z < r + n9 → (r ≤ nr z) → (Fr S S4 q [94, 95, 98]) → (Mo S4 q z H l n tx) → (pI S4 (q 94) 0 = 0) → (pJ S4 (q 94) 17 = zD4 (z, H, l, n, tx) r) → G Γ S4 0 0 94 [(1, .int (nI r)), (0, .ref (q 94))] [] := by
                      intro n9
                      induction n9 with
                      | zero =>
                        intro r S4 hm9 hi4 hf4 hm4 ht4 hh4
                        exact absurd hm9 (by omega)
                      | succ n9 ihlp13 =>
                        intro r S4 hm9 hi4 hf4 hm4 ht4 hh4
                        have hq14 : Shp S4.1 S4.2.1 q := Fr.q hf4 hq
                        refine g_iload_n (k := 1) F 0 rfl dX10_digest_94 ?_
                        refine g_i2l F dX10_digest_95 ?_
                        refine g_aload_n (k := 0) F 1 rfl dX10_digest_96 ?_
                        refine gfX10_7 F (qi94 hq14) (qr94_1 hq14) dX10_digest_97 ?_
                        refine g_bipush (v := 69) F (by decide) dX10_digest_100 ?_
                        refine g_lalde hm4.1 (j := 69) F (qi95 hq14) rfl (by rw [(qn95 hq14)]; omega) (by rw [(qn95 hq14)]; decide) dX10_digest_102 ?_
                        refine g_lcmp F dX10_digest_103 ?_
                        refine g_if_ge (t := 137) F dX10_digest_104 (by decide) (fun c15 => ?_) (fun c15 => ?_)
                        · rw [lc_ge] at c15
                          rw [nI_L (by omega), z69 hB, lN_le (by omega) (by omega)] at c15
                          have hr9 : r = nr z := by omega
                          refine g_aload_n (k := 0) F 1 rfl dX10_digest_137 ?_
                          refine g_aload_n (k := 0) F 1 rfl dX10_digest_138 ?_
                          refine g_callV F (kX10_leastNow Γ.1 S4 q hq14 z hm4.1 hB) okX10_leastNow (qi94 hq14) mw948 ⟨(Nat.le_of_ble_eq_true rfl), (Nat.le_of_ble_eq_true rfl)⟩ rfl rfl (Nat.le_of_ble_eq_true rfl) ⟨(Nat.le_of_ble_eq_true rfl), (Nat.le_of_ble_eq_true rfl)⟩ dX10_digest_139 (toI (fun r16 S17 h18 => ?_))
                          obtain ⟨er16, fr16, zr16⟩ := h18
                          have eLE := er16
                          have hq19 : Shp S17.1 S17.2.1 q := Fr.q fr16 hq14
                          refine g_i2l F dX10_digest_142 ?_
                          refine g_callV F (kX10_mix Γ.1 S17 q hq19 (zD4 (z, H, l, n, tx) r) (r16).toInt64 ((congrFun (fr16.2.2 (94) (by decide) (by decide)).2 17).trans hh4)) okX10_mix (qi94 hq19) mw993 ⟨(Nat.le_of_ble_eq_true rfl), (Nat.le_of_ble_eq_true rfl)⟩ rfl rfl (Nat.le_of_ble_eq_true rfl) ⟨(Nat.le_of_ble_eq_true rfl), (Nat.le_of_ble_eq_true rfl)⟩ dX10_digest_143 (toV (fun S21 h22 => ?_))
                          obtain ⟨mr20, ir20, jr20⟩ := h22
                          have hq23 : Shp S21.1 S21.2.1 q := Fr.q mr20 hq19
                          refine g_aload_n (k := 0) F 1 rfl dX10_digest_146 ?_
                          refine g_aload_n (k := 0) F 1 rfl dX10_digest_147 ?_
                          refine g_callV F (kX10_errorNow Γ.1 S21 q hq23 z ((mr20.2.2 (95) (by decide) (by decide)).2.trans zr16) hB) okX10_errorNow (qi94 hq23) mw960 ⟨(Nat.le_of_ble_eq_true rfl), (Nat.le_of_ble_eq_true rfl)⟩ rfl rfl (Nat.le_of_ble_eq_true rfl) ⟨(Nat.le_of_ble_eq_true rfl), (Nat.le_of_ble_eq_true rfl)⟩ dX10_digest_148 (toD (fun r24 S25 h26 => ?_))
                          obtain ⟨er24, gr24⟩ := h26
                          have hq27 : Shp S25.1 S25.2.1 q := Fr.q gr24.1 hq23
                          refine g_callS F (kJ_bits Γ.1 _ r24 (by rw [er24]; exact zEr_nn hB)) okJxe99ae_doubleToLongBits_ccdee mw998 ⟨(Nat.le_of_ble_eq_true rfl), (Nat.le_of_ble_eq_true rfl)⟩ rfl rfl (Nat.le_of_ble_eq_true rfl) ⟨(Nat.le_of_ble_eq_true rfl), (Nat.le_of_ble_eq_true rfl)⟩ dX10_digest_151 (toJ (fun r28 S29 h30 => ?_))
                          obtain ⟨er28, rfl⟩ := h30
                          have eER : r28 = (zEr z).toInt64 := by rw [er28, er24]
                          refine g_callV F (kX10_mix Γ.1 S25 q hq27 ((31 * (zD4 (z, H, l, n, tx) r) + (r16).toInt64)) r28 ((gr24.2.2 17 (by decide)).trans jr20)) okX10_mix (qi94 hq27) mw993 ⟨(Nat.le_of_ble_eq_true rfl), (Nat.le_of_ble_eq_true rfl)⟩ rfl rfl (Nat.le_of_ble_eq_true rfl) ⟨(Nat.le_of_ble_eq_true rfl), (Nat.le_of_ble_eq_true rfl)⟩ dX10_digest_154 (toV (fun S32 h33 => ?_))
                          obtain ⟨mr31, ir31, jr31⟩ := h33
                          have hq34 : Shp S32.1 S32.2.1 q := Fr.q mr31 hq27
                          refine g_aload_n (k := 0) F 1 rfl dX10_digest_157 ?_
                          refine g_aload_n (k := 0) F 1 rfl dX10_digest_158 ?_
                          refine gfX10_226e F (qi94 hq34) ((congrFun ir31 4).trans ((congrFun gr24.2.1 4).trans ((congrFun ir20 4).trans ((congrFun (fr16.2.2 (94) (by decide) (by decide)).1 4).trans hm4.2.2.1)))) dX10_digest_159 ?_
                          refine g_i2l F dX10_digest_162 ?_
                          refine g_callV F (kX10_mix Γ.1 S32 q hq34 ((31 * ((31 * (zD4 (z, H, l, n, tx) r) + (r16).toInt64)) + r28)) (l).toInt64 jr31) okX10_mix (qi94 hq34) mw993 ⟨(Nat.le_of_ble_eq_true rfl), (Nat.le_of_ble_eq_true rfl)⟩ rfl rfl (Nat.le_of_ble_eq_true rfl) ⟨(Nat.le_of_ble_eq_true rfl), (Nat.le_of_ble_eq_true rfl)⟩ dX10_digest_163 (toV (fun S36 h37 => ?_))
                          obtain ⟨mr35, ir35, jr35⟩ := h37
                          have hq38 : Shp S36.1 S36.2.1 q := Fr.q mr35 hq34
                          refine g_aload_n (k := 0) F 1 rfl dX10_digest_166 ?_
                          refine g_aload_n (k := 0) F 1 rfl dX10_digest_167 ?_
                          refine gfX10_236e F (qi94 hq38) ((congrFun ir35 5).trans ((congrFun ir31 5).trans ((congrFun gr24.2.1 5).trans ((congrFun ir20 5).trans ((congrFun (fr16.2.2 (94) (by decide) (by decide)).1 5).trans hm4.2.2.2.1))))) dX10_digest_168 ?_
                          refine g_i2l F dX10_digest_171 ?_
                          refine g_callV F (kX10_mix Γ.1 S36 q hq38 ((31 * ((31 * ((31 * (zD4 (z, H, l, n, tx) r) + (r16).toInt64)) + r28)) + (l).toInt64)) ((nI n)).toInt64 jr35) okX10_mix (qi94 hq38) mw993 ⟨(Nat.le_of_ble_eq_true rfl), (Nat.le_of_ble_eq_true rfl)⟩ rfl rfl (Nat.le_of_ble_eq_true rfl) ⟨(Nat.le_of_ble_eq_true rfl), (Nat.le_of_ble_eq_true rfl)⟩ dX10_digest_172 (toV (fun S40 h41 => ?_))
                          obtain ⟨mr39, ir39, jr39⟩ := h41
                          have hq42 : Shp S40.1 S40.2.1 q := Fr.q mr39 hq38
                          refine g_iconst (v := 0) F (by decide) dX10_digest_175 ?_
                          refine g_istore_n (k := 1) (L' := [(1, .int 0), (0, .ref (q 94))]) F dX10_digest_176 (Nat.le_of_ble_eq_true rfl) rfl ?_
                          have lp43 : ∀ (n9 : Nat) (i : Nat) (S6 : PS), n < i + n9 → (i ≤ n) → (Fr S S6 q [94, 95, 98]) → (Mo S6 q z H l n tx) → (pI S6 (q 94) 0 = 0) → (pJ S6 (q 94) 17 = mixF (fun i => (tx i).toInt64) i (zD5 (z, H, l, n, tx))) → G Γ S6 0 0 177 [(1, .int (nI i)), (0, .ref (q 94))] [] := by
                            intro n9
                            induction n9 with
                            | zero =>
                              intro i S6 hm9 hi6 hf6 hm6 ht6 hh6
                              exact absurd hm9 (by omega)
                            | succ n9 ihlp43 =>
                              intro i S6 hm9 hi6 hf6 hm6 ht6 hh6
                              have hq44 : Shp S6.1 S6.2.1 q := Fr.q hf6 hq
                              refine g_iload_n (k := 1) F 0 rfl dX10_digest_177 ?_
                              refine g_aload_n (k := 0) F 1 rfl dX10_digest_178 ?_
                              refine gfX10_236e F (qi94 hq44) hm6.2.2.2.1 dX10_digest_179 ?_
                              refine g_icmp_ge (t := 202) F dX10_digest_182 (by decide) (fun c45 => ?_) (fun c45 => ?_)
                              · obtain rfl : i = n := by
                                  rw [nI_leI (by omega) (by omega)] at c45
                                  omega
                                refine g_aload_n (k := 0) F 1 rfl dX10_digest_202 ?_
                                refine gfX10_322e F (qi94 hq44) hh6 dX10_digest_203 ?_
                                refine g_lret F T ⟨_, rfl, ?_⟩ (Nat.le_of_ble_eq_true rfl) (Nat.le_of_ble_eq_true rfl) dX10_digest_206
                                exact ⟨rfl, hf6, ht6, ⟨hm6.1, Sv_of hm6.2.1 rfl rfl, hm6.2.2.1, hm6.2.2.2.1, fun j9 hj9 => (congrFun rfl j9).trans (hm6.2.2.2.2 j9 hj9)⟩⟩
                              · have hi9 : i < n := by
                                  rw [nI_leI (by omega) (by omega)] at c45
                                  omega
                                refine g_aload_n (k := 0) F 1 rfl dX10_digest_185 ?_
                                refine g_aload_n (k := 0) F 1 rfl dX10_digest_186 ?_
                                refine gfX10_16 F (qi94 hq44) (qr94_6 hq44) dX10_digest_187 ?_
                                refine g_iload_n (k := 1) F 0 rfl dX10_digest_190 ?_
                                refine g_ialde rfl (j := i) F (qi97 hq44) rfl (by rw [(qn97 hq44)]; omega) (by rw [(qn97 hq44)]; decide) dX10_digest_191 ?_
                                refine g_rei (tx i) (hm6.2.2.2.2 i hi9) ?_
                                refine g_i2l F dX10_digest_192 ?_
                                refine g_callV F (kX10_mix Γ.1 S6 q hq44 (mixF (fun i => (tx i).toInt64) i (zD5 (z, H, l, n, tx))) ((tx i)).toInt64 hh6) okX10_mix (qi94 hq44) mw993 ⟨(Nat.le_of_ble_eq_true rfl), (Nat.le_of_ble_eq_true rfl)⟩ rfl rfl (Nat.le_of_ble_eq_true rfl) ⟨(Nat.le_of_ble_eq_true rfl), (Nat.le_of_ble_eq_true rfl)⟩ dX10_digest_193 (toV (fun S47 h48 => ?_))
                                obtain ⟨mr46, ir46, jr46⟩ := h48
                                have hq49 : Shp S47.1 S47.2.1 q := Fr.q mr46 hq44
                                obtain ⟨x50, ex50⟩ : ∃ y9 : Int32, y9 = (nI i) + 1 := ⟨_, rfl⟩
                                refine g_iinc (k := 0) (v := x50) (L' := [(1, .int x50), (0, .ref (q 94))]) F dX10_digest_196 rfl (by rw [ex50]; rfl) (Nat.le_of_ble_eq_true rfl) rfl ?_
                                refine g_goto (t := 177) F dX10_digest_199 (by decide) ?_
                                obtain rfl : x50 = nI (i + 1) := (ex50.trans (nI_1 _))
                                refine g_sub (L' := [(1, .int (nI (i + 1))), (0, .ref (q 94))]) [0, 1] rfl ?_
                                exact ihlp43 (i + 1) (S47) (by omega) (by omega) (Fr.tr (l := [94, 95, 98]) hf6 mr46 (by decide) (by decide)) ⟨((mr46.2.2 (95) (by decide) (by decide)).2.trans hm6.1), Sv_of hm6.2.1 ((congrFun ir46 2).trans rfl) ((mr46.2.2 (96) (by decide) (by decide)).2.trans rfl), ((congrFun ir46 4).trans hm6.2.2.1), ((congrFun ir46 5).trans hm6.2.2.2.1), fun j9 hj9 => (congrFun ((mr46.2.2 (97) (by decide) (by decide)).1.trans rfl) j9).trans (hm6.2.2.2.2 j9 hj9)⟩ ((congrFun ir46 0).trans ht6) (jr46.trans rfl)
                          exact lp43 (n + 1) 0 S40 (by omega) (by omega) (Fr.tr (l := [94, 95, 98]) (Fr.tr (l := [94, 95, 98]) (Fr.tr (l := [94, 95, 98]) (Fr.tr (l := [94, 95, 98]) (Fr.tr (l := [94, 95, 98]) (Fr.tr (l := [94, 95, 98]) hf4 fr16 (by decide) (by decide)) mr20 (by decide) (by decide)) gr24.1 (by decide) (by decide)) mr31 (by decide) (by decide)) mr35 (by decide) (by decide)) mr39 (by decide) (by decide)) ⟨((mr39.2.2 (95) (by decide) (by decide)).2.trans ((mr35.2.2 (95) (by decide) (by decide)).2.trans ((mr31.2.2 (95) (by decide) (by decide)).2.trans ((gr24.1.2.2 (95) (by decide) (by decide)).2.trans ((mr20.2.2 (95) (by decide) (by decide)).2.trans zr16))))), Sv_of hm4.2.1 ((congrFun ir39 2).trans ((congrFun ir35 2).trans ((congrFun ir31 2).trans ((congrFun gr24.2.1 2).trans ((congrFun ir20 2).trans ((congrFun (fr16.2.2 (94) (by decide) (by decide)).1 2).trans rfl)))))) ((mr39.2.2 (96) (by decide) (by decide)).2.trans ((mr35.2.2 (96) (by decide) (by decide)).2.trans ((mr31.2.2 (96) (by decide) (by decide)).2.trans ((gr24.1.2.2 (96) (by decide) (by decide)).2.trans ((mr20.2.2 (96) (by decide) (by decide)).2.trans ((fr16.2.2 (96) (by decide) (by decide)).2.trans rfl)))))), ((congrFun ir39 4).trans ((congrFun ir35 4).trans ((congrFun ir31 4).trans ((congrFun gr24.2.1 4).trans ((congrFun ir20 4).trans ((congrFun (fr16.2.2 (94) (by decide) (by decide)).1 4).trans hm4.2.2.1)))))), ((congrFun ir39 5).trans ((congrFun ir35 5).trans ((congrFun ir31 5).trans ((congrFun gr24.2.1 5).trans ((congrFun ir20 5).trans ((congrFun (fr16.2.2 (94) (by decide) (by decide)).1 5).trans hm4.2.2.2.1)))))), fun j9 hj9 => (congrFun ((mr39.2.2 (97) (by decide) (by decide)).1.trans ((mr35.2.2 (97) (by decide) (by decide)).1.trans ((mr31.2.2 (97) (by decide) (by decide)).1.trans ((gr24.1.2.2 (97) (by decide) (by decide)).1.trans ((mr20.2.2 (97) (by decide) (by decide)).1.trans ((fr16.2.2 (97) (by decide) (by decide)).1.trans rfl)))))) j9).trans (hm4.2.2.2.2 j9 hj9)⟩ ((congrFun ir39 0).trans ((congrFun ir35 0).trans ((congrFun ir31 0).trans ((congrFun gr24.2.1 0).trans ((congrFun ir20 0).trans ((congrFun (fr16.2.2 (94) (by decide) (by decide)).1 0).trans ht4)))))) (jr39.trans (by rw [eLE, eER, hr9]; rfl))
                        · rw [lc_ge] at c15
                          rw [nI_L (by omega), z69 hB, lN_le (by omega) (by omega)] at c15
                          have hi9 : r < nr z := by omega
                          refine g_iconst (v := 0) F (by decide) dX10_digest_107 ?_
                          refine g_istore_n (k := 2) (L' := [(2, .int 0), (1, .int (nI r)), (0, .ref (q 94))]) F dX10_digest_108 (Nat.le_of_ble_eq_true rfl) rfl ?_
                          have lp51 : ∀ (n9 : Nat) (k : Nat) (S5 : PS), 6 < k + n9 → (k ≤ 6) → (Fr S S5 q [94, 95, 98]) → (Mo S5 q z H l n tx) → (pI S5 (q 94) 0 = 0) → (pJ S5 (q 94) 17 = mixF (fun k => zMn z r (nI k)) k (zD4 (z, H, l, n, tx) r)) → G Γ S5 0 0 109 [(2, .int (nI k)), (1, .int (nI r)), (0, .ref (q 94))] [] := by
                            intro n9
                            induction n9 with
                            | zero =>
                              intro k S5 hm9 hi5 hf5 hm5 ht5 hh5
                              exact absurd hm9 (by omega)
                            | succ n9 ihlp51 =>
                              intro k S5 hm9 hi5 hf5 hm5 ht5 hh5
                              have hq52 : Shp S5.1 S5.2.1 q := Fr.q hf5 hq
                              refine g_iload_n (k := 2) F 0 rfl dX10_digest_109 ?_
                              refine g_bipush (v := 6) F (by decide) dX10_digest_110 ?_
                              refine g_icmp_ge (t := 131) F dX10_digest_112 (by decide) (fun c53 => ?_) (fun c53 => ?_)
                              · have hk9 : k = 6 := by
                                  rw [show (6 : Int32) = nI 6 from rfl, nI_leI (by omega) (by omega)] at c53
                                  omega
                                obtain ⟨x54, ex54⟩ : ∃ y9 : Int32, y9 = (nI r) + 1 := ⟨_, rfl⟩
                                refine g_iinc (k := 1) (v := x54) (L' := [(1, .int x54), (2, .int (nI k)), (0, .ref (q 94))]) F dX10_digest_131 rfl (by rw [ex54]; rfl) (Nat.le_of_ble_eq_true rfl) rfl ?_
                                refine g_goto (t := 94) F dX10_digest_134 (by decide) ?_
                                obtain rfl : x54 = nI (r + 1) := (ex54.trans (nI_1 _))
                                refine g_sub (L' := [(1, .int (nI (r + 1))), (0, .ref (q 94))]) [0, 2] rfl ?_
                                exact ihlp13 (r + 1) (S5) (by omega) (by omega) hf5 ⟨hm5.1, Sv_of hm5.2.1 rfl rfl, hm5.2.2.1, hm5.2.2.2.1, fun j9 hj9 => (congrFun rfl j9).trans (hm5.2.2.2.2 j9 hj9)⟩ ht5 (hh5.trans (by rw [hk9]; rfl))
                              · have hi9 : k < 6 := by
                                  rw [show (6 : Int32) = nI 6 from rfl, nI_leI (by omega) (by omega)] at c53
                                  omega
                                refine g_aload_n (k := 0) F 2 rfl dX10_digest_115 ?_
                                refine g_aload_n (k := 0) F 2 rfl dX10_digest_116 ?_
                                refine g_iload_n (k := 1) F 1 rfl dX10_digest_117 ?_
                                refine g_iload_n (k := 2) F 0 rfl dX10_digest_118 ?_
                                refine g_callV F (kX10_madeNow Γ.1 S5 q hq52 z hm5.1 hB r (by omega) (nI k) (by rw [nI_toInt (by omega)]; omega)) okX10_madeNow (qi94 hq52) mw795 ⟨(Nat.le_of_ble_eq_true rfl), (Nat.le_of_ble_eq_true rfl)⟩ rfl rfl (Nat.le_of_ble_eq_true rfl) ⟨(Nat.le_of_ble_eq_true rfl), (Nat.le_of_ble_eq_true rfl)⟩ dX10_digest_119 (toJ (fun r55 S56 h57 => ?_))
                                obtain ⟨er55, gr55⟩ := h57
                                have hq58 : Shp S56.1 S56.2.1 q := Fr.q gr55.1 hq52
                                refine g_callV F (kX10_mix Γ.1 S56 q hq58 (mixF (fun k => zMn z r (nI k)) k (zD4 (z, H, l, n, tx) r)) r55 ((gr55.2.2 17 (by decide)).trans hh5)) okX10_mix (qi94 hq58) mw993 ⟨(Nat.le_of_ble_eq_true rfl), (Nat.le_of_ble_eq_true rfl)⟩ rfl rfl (Nat.le_of_ble_eq_true rfl) ⟨(Nat.le_of_ble_eq_true rfl), (Nat.le_of_ble_eq_true rfl)⟩ dX10_digest_122 (toV (fun S60 h61 => ?_))
                                obtain ⟨mr59, ir59, jr59⟩ := h61
                                have hq62 : Shp S60.1 S60.2.1 q := Fr.q mr59 hq58
                                obtain ⟨x63, ex63⟩ : ∃ y9 : Int32, y9 = (nI k) + 1 := ⟨_, rfl⟩
                                refine g_iinc (k := 0) (v := x63) (L' := [(2, .int x63), (1, .int (nI r)), (0, .ref (q 94))]) F dX10_digest_125 rfl (by rw [ex63]; rfl) (Nat.le_of_ble_eq_true rfl) rfl ?_
                                refine g_goto (t := 109) F dX10_digest_128 (by decide) ?_
                                obtain rfl : x63 = nI (k + 1) := (ex63.trans (nI_1 _))
                                refine g_sub (L' := [(2, .int (nI (k + 1))), (1, .int (nI r)), (0, .ref (q 94))]) [0, 1, 2] rfl ?_
                                exact ihlp51 (k + 1) (S60) (by omega) (by omega) (Fr.tr (l := [94, 95, 98]) (Fr.tr (l := [94, 95, 98]) hf5 gr55.1 (by decide) (by decide)) mr59 (by decide) (by decide)) ⟨((mr59.2.2 (95) (by decide) (by decide)).2.trans ((gr55.1.2.2 (95) (by decide) (by decide)).2.trans hm5.1)), Sv_of hm5.2.1 ((congrFun ir59 2).trans ((congrFun gr55.2.1 2).trans rfl)) ((mr59.2.2 (96) (by decide) (by decide)).2.trans ((gr55.1.2.2 (96) (by decide) (by decide)).2.trans rfl)), ((congrFun ir59 4).trans ((congrFun gr55.2.1 4).trans hm5.2.2.1)), ((congrFun ir59 5).trans ((congrFun gr55.2.1 5).trans hm5.2.2.2.1)), fun j9 hj9 => (congrFun ((mr59.2.2 (97) (by decide) (by decide)).1.trans ((gr55.1.2.2 (97) (by decide) (by decide)).1.trans rfl)) j9).trans (hm5.2.2.2.2 j9 hj9)⟩ ((congrFun ir59 0).trans ((congrFun gr55.2.1 0).trans ht5)) (jr59.trans (by rw [er55]; rfl))
                          exact lp51 (6 + 1) 0 S4 (by omega) (by omega) hf4 ⟨hm4.1, Sv_of hm4.2.1 rfl rfl, hm4.2.2.1, hm4.2.2.2.1, fun j9 hj9 => (congrFun rfl j9).trans (hm4.2.2.2.2 j9 hj9)⟩ ht4 (hh4.trans rfl)
                    exact lp13 (nr z + 1) 0 S3 (by omega) (by omega) hf3 ⟨hm3.1, Sv_of hm3.2.1 rfl rfl, hm3.2.2.1, hm3.2.2.2.1, fun j9 hj9 => (congrFun rfl j9).trans (hm3.2.2.2.2 j9 hj9)⟩ ht3 (hh3.trans rfl)
                  · have hi9 : i < 6 * nc z := by
                      rw [nI_leI (by omega) (by omega)] at c12
                      omega
                    refine g_aload_n (k := 0) F 1 rfl dX10_digest_70 ?_
                    refine g_aload_n (k := 0) F 1 rfl dX10_digest_71 ?_
                    refine g_iload_n (k := 1) F 0 rfl dX10_digest_72 ?_
                    refine g_bipush (v := 6) F (by decide) dX10_digest_73 ?_
                    refine g_idiv F dX10_digest_75 (by decide) ?_
                    refine g_rei (nI (i / 6)) (ndiv rfl rfl (by omega) (by omega) (by omega)) ?_
                    refine g_iload_n (k := 1) F 0 rfl dX10_digest_76 ?_
                    refine g_bipush (v := 6) F (by decide) dX10_digest_77 ?_
                    refine g_irem F dX10_digest_79 (by decide) ?_
                    refine g_rei (nI (i % 6)) (nrem rfl rfl (by omega) (by omega) (by omega)) ?_
                    refine g_callV F (kX10_cornerNow Γ.1 S3 q hq8 z hm3.1 hB (i / 6) (by omega) (nI (i % 6)) (by rw [nI_toInt (by omega)]; omega)) okX10_cornerNow (qi94 hq8) mw726 ⟨(Nat.le_of_ble_eq_true rfl), (Nat.le_of_ble_eq_true rfl)⟩ rfl rfl (Nat.le_of_ble_eq_true rfl) ⟨(Nat.le_of_ble_eq_true rfl), (Nat.le_of_ble_eq_true rfl)⟩ dX10_digest_80 (toJ (fun r64 S65 h66 => ?_))
                    obtain ⟨er64, gr64⟩ := h66
                    have hq67 : Shp S65.1 S65.2.1 q := Fr.q gr64.1 hq8
                    refine g_callV F (kX10_mix Γ.1 S65 q hq67 (mixF (fun i => zCn z (i / 6) (nI (i % 6))) i (zD2 (z, H, l, n, tx))) r64 ((gr64.2.2 17 (by decide)).trans hh3)) okX10_mix (qi94 hq67) mw993 ⟨(Nat.le_of_ble_eq_true rfl), (Nat.le_of_ble_eq_true rfl)⟩ rfl rfl (Nat.le_of_ble_eq_true rfl) ⟨(Nat.le_of_ble_eq_true rfl), (Nat.le_of_ble_eq_true rfl)⟩ dX10_digest_83 (toV (fun S69 h70 => ?_))
                    obtain ⟨mr68, ir68, jr68⟩ := h70
                    have hq71 : Shp S69.1 S69.2.1 q := Fr.q mr68 hq67
                    obtain ⟨x72, ex72⟩ : ∃ y9 : Int32, y9 = (nI i) + 1 := ⟨_, rfl⟩
                    refine g_iinc (k := 0) (v := x72) (L' := [(1, .int x72), (0, .ref (q 94))]) F dX10_digest_86 rfl (by rw [ex72]; rfl) (Nat.le_of_ble_eq_true rfl) rfl ?_
                    refine g_goto (t := 59) F dX10_digest_89 (by decide) ?_
                    obtain rfl : x72 = nI (i + 1) := (ex72.trans (nI_1 _))
                    refine g_sub (L' := [(1, .int (nI (i + 1))), (0, .ref (q 94))]) [0, 1] rfl ?_
                    exact ihlp7 (i + 1) (S69) (by omega) (by omega) (Fr.tr (l := [94, 95, 98]) (Fr.tr (l := [94, 95, 98]) hf3 gr64.1 (by decide) (by decide)) mr68 (by decide) (by decide)) ⟨((mr68.2.2 (95) (by decide) (by decide)).2.trans ((gr64.1.2.2 (95) (by decide) (by decide)).2.trans hm3.1)), Sv_of hm3.2.1 ((congrFun ir68 2).trans ((congrFun gr64.2.1 2).trans rfl)) ((mr68.2.2 (96) (by decide) (by decide)).2.trans ((gr64.1.2.2 (96) (by decide) (by decide)).2.trans rfl)), ((congrFun ir68 4).trans ((congrFun gr64.2.1 4).trans hm3.2.2.1)), ((congrFun ir68 5).trans ((congrFun gr64.2.1 5).trans hm3.2.2.2.1)), fun j9 hj9 => (congrFun ((mr68.2.2 (97) (by decide) (by decide)).1.trans ((gr64.1.2.2 (97) (by decide) (by decide)).1.trans rfl)) j9).trans (hm3.2.2.2.2 j9 hj9)⟩ ((congrFun ir68 0).trans ((congrFun gr64.2.1 0).trans ht3)) (jr68.trans (by rw [er64]; rfl))
              exact lp7 (6 * nc z + 1) 0 S2 (by omega) (by omega) hf2 ⟨hm2.1, Sv_of hm2.2.1 rfl rfl, hm2.2.2.1, hm2.2.2.2.1, fun j9 hj9 => (congrFun rfl j9).trans (hm2.2.2.2.2 j9 hj9)⟩ ht2 (hh2.trans rfl)
            · have hi9 : i < 5 := by
                rw [show (5 : Int32) = nI 5 from rfl, nI_leI (by omega) (by omega)] at c6
                omega
              refine g_aload_n (k := 0) F 1 rfl dX10_digest_42 ?_
              refine g_aload_n (k := 0) F 1 rfl dX10_digest_43 ?_
              refine g_iload_n (k := 1) F 0 rfl dX10_digest_44 ?_
              refine g_callV F (kX10_of Γ.1 S2 q hq5 z hm2.1 hB i (by omega)) okX10_of (qi94 hq5) mw496 ⟨(Nat.le_of_ble_eq_true rfl), (Nat.le_of_ble_eq_true rfl)⟩ rfl rfl (Nat.le_of_ble_eq_true rfl) ⟨(Nat.le_of_ble_eq_true rfl), (Nat.le_of_ble_eq_true rfl)⟩ dX10_digest_45 (toJ (fun r73 S74 h75 => ?_))
              obtain ⟨er73, rfl⟩ := h75
              refine g_callV F (kX10_mix Γ.1 S2 q hq5 (mixF (fun i => z (2 + i)) i (zD1 (z, H, l, n, tx))) r73 hh2) okX10_mix (qi94 hq5) mw993 ⟨(Nat.le_of_ble_eq_true rfl), (Nat.le_of_ble_eq_true rfl)⟩ rfl rfl (Nat.le_of_ble_eq_true rfl) ⟨(Nat.le_of_ble_eq_true rfl), (Nat.le_of_ble_eq_true rfl)⟩ dX10_digest_48 (toV (fun S77 h78 => ?_))
              obtain ⟨mr76, ir76, jr76⟩ := h78
              have hq79 : Shp S77.1 S77.2.1 q := Fr.q mr76 hq5
              obtain ⟨x80, ex80⟩ : ∃ y9 : Int32, y9 = (nI i) + 1 := ⟨_, rfl⟩
              refine g_iinc (k := 0) (v := x80) (L' := [(1, .int x80), (0, .ref (q 94))]) F dX10_digest_51 rfl (by rw [ex80]; rfl) (Nat.le_of_ble_eq_true rfl) rfl ?_
              refine g_goto (t := 37) F dX10_digest_54 (by decide) ?_
              obtain rfl : x80 = nI (i + 1) := (ex80.trans (nI_1 _))
              refine g_sub (L' := [(1, .int (nI (i + 1))), (0, .ref (q 94))]) [0, 1] rfl ?_
              exact ihlp4 (i + 1) (S77) (by omega) (by omega) (Fr.tr (l := [94, 95, 98]) hf2 mr76 (by decide) (by decide)) ⟨((mr76.2.2 (95) (by decide) (by decide)).2.trans hm2.1), Sv_of hm2.2.1 ((congrFun ir76 2).trans rfl) ((mr76.2.2 (96) (by decide) (by decide)).2.trans rfl), ((congrFun ir76 4).trans hm2.2.2.1), ((congrFun ir76 5).trans hm2.2.2.2.1), fun j9 hj9 => (congrFun ((mr76.2.2 (97) (by decide) (by decide)).1.trans rfl) j9).trans (hm2.2.2.2.2 j9 hj9)⟩ ((congrFun ir76 0).trans ht2) (jr76.trans (by rw [er73]; rfl))
        exact lp4 (5 + 1) 0 S1 (by omega) (by omega) hf1 ⟨hm1.1, Sv_of hm1.2.1 rfl rfl, hm1.2.2.1, hm1.2.2.2.1, fun j9 hj9 => (congrFun rfl j9).trans (hm1.2.2.2.2 j9 hj9)⟩ ht1 (hh1.trans rfl)
      · have hi9 : i < 15 := by
          rw [show (15 : Int32) = nI 15 from rfl, nI_leI (by omega) (by omega)] at c3
          omega
        refine g_aload_n (k := 0) F 1 rfl dX10_digest_20 ?_
        refine g_aload_n (k := 0) F 1 rfl dX10_digest_21 ?_
        refine g_iload_n (k := 1) F 0 rfl dX10_digest_22 ?_
        refine g_callV F (kX10_counted Γ.1 S1 q hq2 z hm1.1 hB H.length hm1.2.1.2.1 hm1.2.1.1 (nI i) (by rw [nI_toInt (by omega)]; omega)) okX10_counted (qi94 hq2) mw876 ⟨(Nat.le_of_ble_eq_true rfl), (Nat.le_of_ble_eq_true rfl)⟩ rfl rfl (Nat.le_of_ble_eq_true rfl) ⟨(Nat.le_of_ble_eq_true rfl), (Nat.le_of_ble_eq_true rfl)⟩ dX10_digest_23 (toJ (fun r81 S82 h83 => ?_))
        obtain ⟨er81, gr81⟩ := h83
        have hq84 : Shp S82.1 S82.2.1 q := Fr.q gr81.1 hq2
        refine g_callV F (kX10_mix Γ.1 S82 q hq84 (mixF (fun i => zCt z H.length (nI i)) i 2113) r81 ((gr81.2.2 17 (by decide)).trans hh1)) okX10_mix (qi94 hq84) mw993 ⟨(Nat.le_of_ble_eq_true rfl), (Nat.le_of_ble_eq_true rfl)⟩ rfl rfl (Nat.le_of_ble_eq_true rfl) ⟨(Nat.le_of_ble_eq_true rfl), (Nat.le_of_ble_eq_true rfl)⟩ dX10_digest_26 (toV (fun S86 h87 => ?_))
        obtain ⟨mr85, ir85, jr85⟩ := h87
        have hq88 : Shp S86.1 S86.2.1 q := Fr.q mr85 hq84
        obtain ⟨x89, ex89⟩ : ∃ y9 : Int32, y9 = (nI i) + 1 := ⟨_, rfl⟩
        refine g_iinc (k := 0) (v := x89) (L' := [(1, .int x89), (0, .ref (q 94))]) F dX10_digest_29 rfl (by rw [ex89]; rfl) (Nat.le_of_ble_eq_true rfl) rfl ?_
        refine g_goto (t := 14) F dX10_digest_32 (by decide) ?_
        obtain rfl : x89 = nI (i + 1) := (ex89.trans (nI_1 _))
        refine g_sub (L' := [(1, .int (nI (i + 1))), (0, .ref (q 94))]) [0, 1] rfl ?_
        exact ihlp1 (i + 1) (S86) (by omega) (by omega) (Fr.tr (l := [94, 95, 98]) (Fr.tr (l := [94, 95, 98]) hf1 gr81.1 (by decide) (by decide)) mr85 (by decide) (by decide)) ⟨((mr85.2.2 (95) (by decide) (by decide)).2.trans ((gr81.1.2.2 (95) (by decide) (by decide)).2.trans hm1.1)), Sv_of hm1.2.1 ((congrFun ir85 2).trans ((congrFun gr81.2.1 2).trans rfl)) ((mr85.2.2 (96) (by decide) (by decide)).2.trans ((gr81.1.2.2 (96) (by decide) (by decide)).2.trans rfl)), ((congrFun ir85 4).trans ((congrFun gr81.2.1 4).trans hm1.2.2.1)), ((congrFun ir85 5).trans ((congrFun gr81.2.1 5).trans hm1.2.2.2.1)), fun j9 hj9 => (congrFun ((mr85.2.2 (97) (by decide) (by decide)).1.trans ((gr81.1.2.2 (97) (by decide) (by decide)).1.trans rfl)) j9).trans (hm1.2.2.2.2 j9 hj9)⟩ ((congrFun ir85 0).trans ((congrFun gr81.2.1 0).trans ht1)) (jr85.trans (by rw [er81]; rfl))
  exact lp1 (15 + 1) 0 (wJ (wI S (q 94) 0 0) (q 94) 17 2113) (by omega) (by omega) (Fr.wJ hq (Fr.wI hq Fr.rf (by decide) (by decide)) (by decide) (by decide)) ⟨((up2_r (qne hq (by decide) (by decide) (by decide))).trans hz), Sv_of hm.2.1 ((up2_k (by decide)).trans rfl) ((up2_r (qne hq (by decide) (by decide) (by decide))).trans rfl), ((up2_k (by decide)).trans hm.2.2.1), ((up2_k (by decide)).trans hm.2.2.2.1), fun j9 hj9 => (congrFun ((up2_r (qne hq (by decide) (by decide) (by decide))).trans rfl) j9).trans (hm.2.2.2.2 j9 hj9)⟩ up2_s (up2_s.trans rfl)
