set_option maxHeartbeats 4000000 in
set_option maxRecDepth 100000 in
theorem kX10_steps (g : Glo) (S : PS) (q : Nat → Nat) (hq : Shp S.1 S.2.1 q) (z : ZZ) (hz : pJ S (q 95) = z) (hB : Bz z) (h0 : 0 < nc z) (k : Nat) (hk : k < 1000) : Ct g mX10_steps 0 0 [.ref (q 94), .int (nI k)] S (pI9 (fun r S' => r = nI (zN z k) ∧ S = S')) := by
  refine Ct.of (by decide) (Nat.le_of_ble_eq_true rfl) (fun Γ hg F T => ?_)
  subst hg
  show G Γ S 0 0 0 [(0, .ref (q 94)), (1, .int (nI k))] []
  have hnc := (nc_e hB).2
  have hmd := Nat.mod_lt k h0
  have bx0 := zX_b hB h0 k
  have bx1 := zX_b hB h0 (k + 1)
  have by0 := zY_b hB h0 k
  have by1 := zY_b hB h0 (k + 1)
  have bst := hB.2.1.2.2.1
  have hbx := bx0; have hbx1 := bx1; have hby := by0; have hby1 := by1; unfold wtn at hbx hbx1 hby hby1
  refine g_aload_n (k := 0) F 0 rfl dX10_steps_0 ?_
  refine g_iload_n (k := 1) F 1 rfl dX10_steps_1 ?_
  refine g_iconst (v := 1) F (by decide) dX10_steps_2 ?_
  refine g_iadd F dX10_steps_3 ?_
  refine g_rei (nI (k + 1)) (nadd rfl rfl) ?_
  refine g_callV F (kX10_x Γ.1 _ q hq z hz hB h0 ((k + 1)) (by omega)) okX10_x (qi94 hq) mw474 ⟨(Nat.le_of_ble_eq_true rfl), (Nat.le_of_ble_eq_true rfl)⟩ rfl rfl (Nat.le_of_ble_eq_true rfl) ⟨(Nat.le_of_ble_eq_true rfl), (Nat.le_of_ble_eq_true rfl)⟩ dX10_steps_4 (toJ (fun r1 S2 h3 => ?_))
  obtain ⟨er1, rfl⟩ := h3
  refine g_aload_n (k := 0) F 0 rfl dX10_steps_7 ?_
  refine g_iload_n (k := 1) F 1 rfl dX10_steps_8 ?_
  refine g_callV F (kX10_x Γ.1 _ q hq z hz hB h0 k (by omega)) okX10_x (qi94 hq) mw474 ⟨(Nat.le_of_ble_eq_true rfl), (Nat.le_of_ble_eq_true rfl)⟩ rfl rfl (Nat.le_of_ble_eq_true rfl) ⟨(Nat.le_of_ble_eq_true rfl), (Nat.le_of_ble_eq_true rfl)⟩ dX10_steps_9 (toJ (fun r4 S5 h6 => ?_))
  obtain ⟨er4, rfl⟩ := h6
  refine g_lsub F dX10_steps_12 ?_
  refine g_callS F (kX10_size Γ.1 _ _) okX10_size mw497 ⟨(Nat.le_of_ble_eq_true rfl), (Nat.le_of_ble_eq_true rfl)⟩ rfl rfl (Nat.le_of_ble_eq_true rfl) ⟨(Nat.le_of_ble_eq_true rfl), (Nat.le_of_ble_eq_true rfl)⟩ dX10_steps_13 (toJ (fun r7 S8 h9 => ?_))
  obtain ⟨er7, rfl⟩ := h9
  refine g_lstore_n (k := 2) (L' := [(2, .long r7), (0, .ref (q 94)), (1, .int (nI k))]) F dX10_steps_16 (Nat.le_of_ble_eq_true rfl) rfl ?_
  refine g_aload_n (k := 0) F 1 rfl dX10_steps_17 ?_
  refine g_iload_n (k := 1) F 2 rfl dX10_steps_18 ?_
  refine g_iconst (v := 1) F (by decide) dX10_steps_19 ?_
  refine g_iadd F dX10_steps_20 ?_
  refine g_rei (nI (k + 1)) (nadd rfl rfl) ?_
  refine g_callV F (kX10_y Γ.1 _ q hq z hz hB h0 ((k + 1)) (by omega)) okX10_y (qi94 hq) mw478 ⟨(Nat.le_of_ble_eq_true rfl), (Nat.le_of_ble_eq_true rfl)⟩ rfl rfl (Nat.le_of_ble_eq_true rfl) ⟨(Nat.le_of_ble_eq_true rfl), (Nat.le_of_ble_eq_true rfl)⟩ dX10_steps_21 (toJ (fun r10 S11 h12 => ?_))
  obtain ⟨er10, rfl⟩ := h12
  refine g_aload_n (k := 0) F 1 rfl dX10_steps_24 ?_
  refine g_iload_n (k := 1) F 2 rfl dX10_steps_25 ?_
  refine g_callV F (kX10_y Γ.1 _ q hq z hz hB h0 k (by omega)) okX10_y (qi94 hq) mw478 ⟨(Nat.le_of_ble_eq_true rfl), (Nat.le_of_ble_eq_true rfl)⟩ rfl rfl (Nat.le_of_ble_eq_true rfl) ⟨(Nat.le_of_ble_eq_true rfl), (Nat.le_of_ble_eq_true rfl)⟩ dX10_steps_26 (toJ (fun r13 S14 h15 => ?_))
  obtain ⟨er13, rfl⟩ := h15
  refine g_lsub F dX10_steps_29 ?_
  refine g_callS F (kX10_size Γ.1 _ _) okX10_size mw497 ⟨(Nat.le_of_ble_eq_true rfl), (Nat.le_of_ble_eq_true rfl)⟩ rfl rfl (Nat.le_of_ble_eq_true rfl) ⟨(Nat.le_of_ble_eq_true rfl), (Nat.le_of_ble_eq_true rfl)⟩ dX10_steps_30 (toJ (fun r16 S17 h18 => ?_))
  obtain ⟨er16, rfl⟩ := h18
  refine g_lstore (L' := [(4, .long r16), (2, .long r7), (0, .ref (q 94)), (1, .int (nI k))]) F dX10_steps_33 (Nat.le_of_ble_eq_true rfl) rfl ?_
  refine g_lload F 0 rfl dX10_steps_35 ?_
  refine g_lload_n (k := 2) F 1 rfl dX10_steps_37 ?_
  refine g_lcmp F dX10_steps_38 ?_
  have jn20 : ∀ (w48 : Int64), w48 = lN (max ((zX z (k + 1)).toInt - (zX z k).toInt).natAbs ((zY z (k + 1)).toInt - (zY z k).toInt).natAbs) → G Γ S 0 0 48 [(0, .ref (q 94)), (1, .int (nI k))] [.long w48] := by
    intro w48 ej
    refine g_lstore_n (k := 2) (L' := [(2, .long w48), (0, .ref (q 94)), (1, .int (nI k))]) F dX10_steps_48 (Nat.le_of_ble_eq_true rfl) rfl ?_
    refine g_lload_n (k := 2) F 0 rfl dX10_steps_49 ?_
    refine g_aload_n (k := 0) F 1 rfl dX10_steps_50 ?_
    refine g_iconst (v := 2) F (by decide) dX10_steps_51 ?_
    refine g_callV F (kX10_of Γ.1 _ q hq z hz hB 2 (by decide)) okX10_of (qi94 hq) mw500 ⟨(Nat.le_of_ble_eq_true rfl), (Nat.le_of_ble_eq_true rfl)⟩ rfl rfl (Nat.le_of_ble_eq_true rfl) ⟨(Nat.le_of_ble_eq_true rfl), (Nat.le_of_ble_eq_true rfl)⟩ dX10_steps_52 (toJ (fun r21 S22 h23 => ?_))
    obtain ⟨er21, rfl⟩ := h23
    refine g_ladd F dX10_steps_55 ?_
    refine g_lconst (v := 1) F (by decide) dX10_steps_56 ?_
    refine g_lsub F dX10_steps_57 ?_
    refine g_aload_n (k := 0) F 1 rfl dX10_steps_58 ?_
    refine g_iconst (v := 2) F (by decide) dX10_steps_59 ?_
    refine g_callV F (kX10_of Γ.1 _ q hq z hz hB 2 (by decide)) okX10_of (qi94 hq) mw500 ⟨(Nat.le_of_ble_eq_true rfl), (Nat.le_of_ble_eq_true rfl)⟩ rfl rfl (Nat.le_of_ble_eq_true rfl) ⟨(Nat.le_of_ble_eq_true rfl), (Nat.le_of_ble_eq_true rfl)⟩ dX10_steps_60 (toJ (fun r24 S25 h26 => ?_))
    obtain ⟨er24, rfl⟩ := h26
    refine g_ldiv F dX10_steps_63 (by rw [er24]; exact stne hB) ?_
    refine g_topl (fun x27 ex27 => ?_)
    refine g_lstore (L' := [(6, .long x27), (2, .long w48), (0, .ref (q 94)), (1, .int (nI k))]) F dX10_steps_64 (Nat.le_of_ble_eq_true rfl) rfl ?_
    refine g_lload F 0 rfl dX10_steps_66 ?_
    refine g_lconst (v := 1) F (by decide) dX10_steps_68 ?_
    refine g_lcmp F dX10_steps_69 ?_
    refine g_if_ge (t := 77) F dX10_steps_70 (by decide) (fun c28 => ?_) (fun c28 => ?_)
    · rw [lc_ge] at c28
      refine g_lload F 0 rfl dX10_steps_77 ?_
      refine g_l2i F dX10_steps_79 ?_
      refine g_iret F T ⟨_, rfl, ?_⟩ (Nat.le_of_ble_eq_true rfl) (Nat.le_of_ble_eq_true rfl) dX10_steps_80
      exact ⟨nst_t (by omega) bst (by rw [ex27, er21, er24, ej]) c28, rfl⟩
    · rw [lc_ge] at c28
      refine g_iconst (v := 1) F (by decide) dX10_steps_73 ?_
      refine g_goto (t := 80) F dX10_steps_74 (by decide) ?_
      refine g_iret F T ⟨_, rfl, ?_⟩ (Nat.le_of_ble_eq_true rfl) (Nat.le_of_ble_eq_true rfl) dX10_steps_80
      exact ⟨nst_f (by omega) bst (by rw [ex27, er21, er24, ej]) c28, rfl⟩
  refine g_if_le (t := 47) F dX10_steps_39 (by decide) (fun c19 => ?_) (fun c19 => ?_)
  · rw [lc_le] at c19
    refine g_lload_n (k := 2) F 1 rfl dX10_steps_47 ?_
    refine g_sub (L' := [(0, .ref (q 94)), (1, .int (nI k))]) [2, 3] rfl ?_
    exact jn20 (r7) (by rw [er16, er7, er13, er10, er4, er1, szd bx1 bx0, szd by1 by0, lN_le (by omega) (by omega)] at c19; rw [er7, er4, er1, szd bx1 bx0, Nat.max_eq_left c19])
  · rw [lc_le] at c19
    refine g_lload F 0 rfl dX10_steps_42 ?_
    refine g_goto (t := 48) F dX10_steps_44 (by decide) ?_
    refine g_sub (L' := [(0, .ref (q 94)), (1, .int (nI k))]) [2, 3] rfl ?_
    exact jn20 (r16) (by rw [er16, er7, er13, er10, er4, er1, szd bx1 bx0, szd by1 by0, lN_le (by omega) (by omega)] at c19; rw [er16, er13, er10, szd by1 by0, Nat.max_eq_right (by omega)])
set_option maxHeartbeats 4000000 in
set_option maxRecDepth 100000 in
theorem kX10_pointX (g : Glo) (S : PS) (q : Nat → Nat) (hq : Shp S.1 S.2.1 q) (z : ZZ) (hz : pJ S (q 95) = z) (hB : Bz z) (h0 : 0 < nc z) (k : Nat) (hk : k < 1000) (i : Nat) (hi : i < 100000) : Ct g mX10_pointX 0 0 [.ref (q 94), .int (nI k), .int (nI i)] S (pJ9 (fun r S' => r = zPx z k i ∧ S = S')) := by
  refine Ct.of (by decide) (Nat.le_of_ble_eq_true rfl) (fun Γ hg F T => ?_)
  subst hg
  show G Γ S 0 0 0 [(0, .ref (q 94)), (1, .int (nI k)), (2, .int (nI i))] []
  have hnc := (nc_e hB).2
  have hmd := Nat.mod_lt k h0
  have hzn := zN_b hB h0 k
  refine g_ldc2 F mw508 dX10_pointX_0 ?_
  refine g_aload_n (k := 0) F 0 rfl dX10_pointX_3 ?_
  refine g_iload_n (k := 1) F 1 rfl dX10_pointX_4 ?_
  refine g_callV F (kX10_x Γ.1 _ q hq z hz hB h0 k (by omega)) okX10_x (qi94 hq) mw474 ⟨(Nat.le_of_ble_eq_true rfl), (Nat.le_of_ble_eq_true rfl)⟩ rfl rfl (Nat.le_of_ble_eq_true rfl) ⟨(Nat.le_of_ble_eq_true rfl), (Nat.le_of_ble_eq_true rfl)⟩ dX10_pointX_5 (toJ (fun r1 S2 h3 => ?_))
  obtain ⟨er1, rfl⟩ := h3
  refine g_lmul F dX10_pointX_8 ?_
  refine g_ldc2 F mw508 dX10_pointX_9 ?_
  refine g_aload_n (k := 0) F 0 rfl dX10_pointX_12 ?_
  refine g_iload_n (k := 1) F 1 rfl dX10_pointX_13 ?_
  refine g_iconst (v := 1) F (by decide) dX10_pointX_14 ?_
  refine g_iadd F dX10_pointX_15 ?_
  refine g_rei (nI (k + 1)) (nadd rfl rfl) ?_
  refine g_callV F (kX10_x Γ.1 _ q hq z hz hB h0 ((k + 1)) (by omega)) okX10_x (qi94 hq) mw474 ⟨(Nat.le_of_ble_eq_true rfl), (Nat.le_of_ble_eq_true rfl)⟩ rfl rfl (Nat.le_of_ble_eq_true rfl) ⟨(Nat.le_of_ble_eq_true rfl), (Nat.le_of_ble_eq_true rfl)⟩ dX10_pointX_16 (toJ (fun r4 S5 h6 => ?_))
  obtain ⟨er4, rfl⟩ := h6
  refine g_aload_n (k := 0) F 0 rfl dX10_pointX_19 ?_
  refine g_iload_n (k := 1) F 1 rfl dX10_pointX_20 ?_
  refine g_callV F (kX10_x Γ.1 _ q hq z hz hB h0 k (by omega)) okX10_x (qi94 hq) mw474 ⟨(Nat.le_of_ble_eq_true rfl), (Nat.le_of_ble_eq_true rfl)⟩ rfl rfl (Nat.le_of_ble_eq_true rfl) ⟨(Nat.le_of_ble_eq_true rfl), (Nat.le_of_ble_eq_true rfl)⟩ dX10_pointX_21 (toJ (fun r7 S8 h9 => ?_))
  obtain ⟨er7, rfl⟩ := h9
  refine g_lsub F dX10_pointX_24 ?_
  refine g_lmul F dX10_pointX_25 ?_
  refine g_iload_n (k := 2) F 2 rfl dX10_pointX_26 ?_
  refine g_i2l F dX10_pointX_27 ?_
  refine g_lmul F dX10_pointX_28 ?_
  refine g_aload_n (k := 0) F 0 rfl dX10_pointX_29 ?_
  refine g_iload_n (k := 1) F 1 rfl dX10_pointX_30 ?_
  refine g_callV F (kX10_steps Γ.1 _ q hq z hz hB h0 k (by omega)) okX10_steps (qi94 hq) mw493 ⟨(Nat.le_of_ble_eq_true rfl), (Nat.le_of_ble_eq_true rfl)⟩ rfl rfl (Nat.le_of_ble_eq_true rfl) ⟨(Nat.le_of_ble_eq_true rfl), (Nat.le_of_ble_eq_true rfl)⟩ dX10_pointX_31 (toI (fun r10 S11 h12 => ?_))
  obtain ⟨rfl, rfl⟩ := h12
  refine g_i2l F dX10_pointX_34 ?_
  refine g_ldiv F dX10_pointX_35 (by rw [nI_L (by omega)]; exact lN_ne0 (by omega) (by omega)) ?_
  refine g_ladd F dX10_pointX_36 ?_
  refine g_lret F T ⟨_, rfl, ?_⟩ (Nat.le_of_ble_eq_true rfl) (Nat.le_of_ble_eq_true rfl) dX10_pointX_37
  exact ⟨by rw [er1, er4, er7, nI_L (by omega), nI_L (by omega)]; rfl, rfl⟩
set_option maxHeartbeats 4000000 in
set_option maxRecDepth 100000 in
theorem kX10_pointY (g : Glo) (S : PS) (q : Nat → Nat) (hq : Shp S.1 S.2.1 q) (z : ZZ) (hz : pJ S (q 95) = z) (hB : Bz z) (h0 : 0 < nc z) (k : Nat) (hk : k < 1000) (i : Nat) (hi : i < 100000) : Ct g mX10_pointY 0 0 [.ref (q 94), .int (nI k), .int (nI i)] S (pJ9 (fun r S' => r = zPy z k i ∧ S = S')) := by
  refine Ct.of (by decide) (Nat.le_of_ble_eq_true rfl) (fun Γ hg F T => ?_)
  subst hg
  show G Γ S 0 0 0 [(0, .ref (q 94)), (1, .int (nI k)), (2, .int (nI i))] []
  have hnc := (nc_e hB).2
  have hmd := Nat.mod_lt k h0
  have hzn := zN_b hB h0 k
  refine g_ldc2 F mw508 dX10_pointY_0 ?_
  refine g_aload_n (k := 0) F 0 rfl dX10_pointY_3 ?_
  refine g_iload_n (k := 1) F 1 rfl dX10_pointY_4 ?_
  refine g_callV F (kX10_y Γ.1 _ q hq z hz hB h0 k (by omega)) okX10_y (qi94 hq) mw478 ⟨(Nat.le_of_ble_eq_true rfl), (Nat.le_of_ble_eq_true rfl)⟩ rfl rfl (Nat.le_of_ble_eq_true rfl) ⟨(Nat.le_of_ble_eq_true rfl), (Nat.le_of_ble_eq_true rfl)⟩ dX10_pointY_5 (toJ (fun r1 S2 h3 => ?_))
  obtain ⟨er1, rfl⟩ := h3
  refine g_lmul F dX10_pointY_8 ?_
  refine g_ldc2 F mw508 dX10_pointY_9 ?_
  refine g_aload_n (k := 0) F 0 rfl dX10_pointY_12 ?_
  refine g_iload_n (k := 1) F 1 rfl dX10_pointY_13 ?_
  refine g_iconst (v := 1) F (by decide) dX10_pointY_14 ?_
  refine g_iadd F dX10_pointY_15 ?_
  refine g_rei (nI (k + 1)) (nadd rfl rfl) ?_
  refine g_callV F (kX10_y Γ.1 _ q hq z hz hB h0 ((k + 1)) (by omega)) okX10_y (qi94 hq) mw478 ⟨(Nat.le_of_ble_eq_true rfl), (Nat.le_of_ble_eq_true rfl)⟩ rfl rfl (Nat.le_of_ble_eq_true rfl) ⟨(Nat.le_of_ble_eq_true rfl), (Nat.le_of_ble_eq_true rfl)⟩ dX10_pointY_16 (toJ (fun r4 S5 h6 => ?_))
  obtain ⟨er4, rfl⟩ := h6
  refine g_aload_n (k := 0) F 0 rfl dX10_pointY_19 ?_
  refine g_iload_n (k := 1) F 1 rfl dX10_pointY_20 ?_
  refine g_callV F (kX10_y Γ.1 _ q hq z hz hB h0 k (by omega)) okX10_y (qi94 hq) mw478 ⟨(Nat.le_of_ble_eq_true rfl), (Nat.le_of_ble_eq_true rfl)⟩ rfl rfl (Nat.le_of_ble_eq_true rfl) ⟨(Nat.le_of_ble_eq_true rfl), (Nat.le_of_ble_eq_true rfl)⟩ dX10_pointY_21 (toJ (fun r7 S8 h9 => ?_))
  obtain ⟨er7, rfl⟩ := h9
  refine g_lsub F dX10_pointY_24 ?_
  refine g_lmul F dX10_pointY_25 ?_
  refine g_iload_n (k := 2) F 2 rfl dX10_pointY_26 ?_
  refine g_i2l F dX10_pointY_27 ?_
  refine g_lmul F dX10_pointY_28 ?_
  refine g_aload_n (k := 0) F 0 rfl dX10_pointY_29 ?_
  refine g_iload_n (k := 1) F 1 rfl dX10_pointY_30 ?_
  refine g_callV F (kX10_steps Γ.1 _ q hq z hz hB h0 k (by omega)) okX10_steps (qi94 hq) mw493 ⟨(Nat.le_of_ble_eq_true rfl), (Nat.le_of_ble_eq_true rfl)⟩ rfl rfl (Nat.le_of_ble_eq_true rfl) ⟨(Nat.le_of_ble_eq_true rfl), (Nat.le_of_ble_eq_true rfl)⟩ dX10_pointY_31 (toI (fun r10 S11 h12 => ?_))
  obtain ⟨rfl, rfl⟩ := h12
  refine g_i2l F dX10_pointY_34 ?_
  refine g_ldiv F dX10_pointY_35 (by rw [nI_L (by omega)]; exact lN_ne0 (by omega) (by omega)) ?_
  refine g_ladd F dX10_pointY_36 ?_
  refine g_lret F T ⟨_, rfl, ?_⟩ (Nat.le_of_ble_eq_true rfl) (Nat.le_of_ble_eq_true rfl) dX10_pointY_37
  exact ⟨by rw [er1, er4, er7, nI_L (by omega), nI_L (by omega)]; rfl, rfl⟩
set_option maxHeartbeats 4000000 in
set_option maxRecDepth 100000 in
theorem kX10_reaches (g : Glo) (S : PS) (q : Nat → Nat) (hq : Shp S.1 S.2.1 q) (z : ZZ) (hz : pJ S (q 95) = z) (hB : Bz z) (tx ty : Int64) (ht : wtn tx (-50000) 50000) (hu : wtn ty (-50000) 50000) : Ct g mX10_reaches 0 0 [.ref (q 94), .long tx, .long ty] S (pI9 (fun r S' => (r = 1 ∧ zRe z tx ty ∨ r = 0 ∧ ¬ zRe z tx ty) ∧ S = S')) := by
  refine Ct.of (by decide) (Nat.le_of_ble_eq_true rfl) (fun Γ hg F T => ?_)
  subst hg
  show G Γ S 0 0 0 [(0, .ref (q 94)), (1, .long tx), (3, .long ty)] []
  refine g_lload_n (k := 1) F 1 rfl dX10_reaches_0 ?_
  refine g_ldc2 F mw508 dX10_reaches_1 ?_
  refine g_aload_n (k := 0) F 0 rfl dX10_reaches_4 ?_
  refine gfX10_7 F (qi94 hq) (qr94_1 hq) dX10_reaches_5 ?_
  refine g_iconst (v := 0) F (by decide) dX10_reaches_8 ?_
  refine g_lalde hz (j := 0) F (qi95 hq) rfl (by rw [(qn95 hq)]; omega) (by rw [(qn95 hq)]; decide) dX10_reaches_9 ?_
  refine g_lmul F dX10_reaches_10 ?_
  refine g_lsub F dX10_reaches_11 ?_
  refine g_topl (fun x1 ex1 => ?_)
  refine g_lstore (L' := [(5, .long x1), (0, .ref (q 94)), (1, .long tx), (3, .long ty)]) F dX10_reaches_12 (Nat.le_of_ble_eq_true rfl) rfl ?_
  refine g_lload_n (k := 3) F 3 rfl dX10_reaches_14 ?_
  refine g_ldc2 F mw508 dX10_reaches_15 ?_
  refine g_aload_n (k := 0) F 1 rfl dX10_reaches_18 ?_
  refine gfX10_7 F (qi94 hq) (qr94_1 hq) dX10_reaches_19 ?_
  refine g_iconst (v := 1) F (by decide) dX10_reaches_22 ?_
  refine g_lalde hz (j := 1) F (qi95 hq) rfl (by rw [(qn95 hq)]; omega) (by rw [(qn95 hq)]; decide) dX10_reaches_23 ?_
  refine g_lmul F dX10_reaches_24 ?_
  refine g_lsub F dX10_reaches_25 ?_
  refine g_topl (fun x2 ex2 => ?_)
  refine g_lstore (L' := [(7, .long x2), (5, .long x1), (0, .ref (q 94)), (1, .long tx), (3, .long ty)]) F dX10_reaches_26 (Nat.le_of_ble_eq_true rfl) rfl ?_
  refine g_lload F 1 rfl dX10_reaches_28 ?_
  refine g_lload F 1 rfl dX10_reaches_30 ?_
  refine g_lmul F dX10_reaches_32 ?_
  refine g_lload F 0 rfl dX10_reaches_33 ?_
  refine g_lload F 0 rfl dX10_reaches_35 ?_
  refine g_lmul F dX10_reaches_37 ?_
  refine g_ladd F dX10_reaches_38 ?_
  refine g_callS F (kX10_root Γ.1 _ _ (by rw [ex1, ex2]; exact rt_D hB ht hu)) okX10_root mw517 ⟨(Nat.le_of_ble_eq_true rfl), (Nat.le_of_ble_eq_true rfl)⟩ rfl rfl (Nat.le_of_ble_eq_true rfl) ⟨(Nat.le_of_ble_eq_true rfl), (Nat.le_of_ble_eq_true rfl)⟩ dX10_reaches_39 (toJ (fun r3 S4 h5 => ?_))
  obtain ⟨er3, rfl⟩ := h5
  refine g_lstore (L' := [(9, .long r3), (7, .long x2), (5, .long x1), (0, .ref (q 94)), (1, .long tx), (3, .long ty)]) F dX10_reaches_42 (Nat.le_of_ble_eq_true rfl) rfl ?_
  refine g_ldc2 F mw508 dX10_reaches_44 ?_
  refine g_aload_n (k := 0) F 3 rfl dX10_reaches_47 ?_
  refine g_iconst (v := 0) F (by decide) dX10_reaches_48 ?_
  refine g_callV F (kX10_of Γ.1 _ q hq z hz hB 0 (by decide)) okX10_of (qi94 hq) mw500 ⟨(Nat.le_of_ble_eq_true rfl), (Nat.le_of_ble_eq_true rfl)⟩ rfl rfl (Nat.le_of_ble_eq_true rfl) ⟨(Nat.le_of_ble_eq_true rfl), (Nat.le_of_ble_eq_true rfl)⟩ dX10_reaches_49 (toJ (fun r6 S7 h8 => ?_))
  obtain ⟨er6, rfl⟩ := h8
  refine g_lmul F dX10_reaches_52 ?_
  refine g_topl (fun x9 ex9 => ?_)
  refine g_lstore (L' := [(11, .long x9), (9, .long r3), (7, .long x2), (5, .long x1), (0, .ref (q 94)), (1, .long tx), (3, .long ty)]) F dX10_reaches_53 (Nat.le_of_ble_eq_true rfl) rfl ?_
  refine g_ldc2 F mw508 dX10_reaches_55 ?_
  refine g_aload_n (k := 0) F 4 rfl dX10_reaches_58 ?_
  refine g_iconst (v := 1) F (by decide) dX10_reaches_59 ?_
  refine g_callV F (kX10_of Γ.1 _ q hq z hz hB 1 (by decide)) okX10_of (qi94 hq) mw500 ⟨(Nat.le_of_ble_eq_true rfl), (Nat.le_of_ble_eq_true rfl)⟩ rfl rfl (Nat.le_of_ble_eq_true rfl) ⟨(Nat.le_of_ble_eq_true rfl), (Nat.le_of_ble_eq_true rfl)⟩ dX10_reaches_60 (toJ (fun r10 S11 h12 => ?_))
  obtain ⟨er10, rfl⟩ := h12
  refine g_lmul F dX10_reaches_63 ?_
  refine g_topl (fun x13 ex13 => ?_)
  refine g_lstore (L' := [(13, .long x13), (11, .long x9), (9, .long r3), (7, .long x2), (5, .long x1), (0, .ref (q 94)), (1, .long tx), (3, .long ty)]) F dX10_reaches_64 (Nat.le_of_ble_eq_true rfl) rfl ?_
  refine g_lload F 2 rfl dX10_reaches_66 ?_
  refine g_lconst (v := 0) F (by decide) dX10_reaches_68 ?_
  refine g_lcmp F dX10_reaches_69 ?_
  refine g_if_le (t := 102) F dX10_reaches_70 (by decide) (fun c14 => ?_) (fun c14 => ?_)
  · rw [lc_le] at c14
    refine g_iconst (v := 0) F (by decide) dX10_reaches_102 ?_
    refine g_zret F T rfl ⟨_, rfl, ?_⟩ (Nat.le_of_ble_eq_true rfl) (Nat.le_of_ble_eq_true rfl) dX10_reaches_103
    have he : r3 = rt (zD z tx ty) := by rw [er3, ex1, ex2]; rfl
    have hp : x9 = 16 * z 2 := by rw [ex9, er6]
    have hl9 : x13 = 16 * z 3 := by rw [ex13, er10]
    refine ⟨Or.inr ⟨rfl, fun h => ?_⟩, rfl⟩
    unfold zRe sp at h
    rw [← he] at h
    exact absurd h.1 (L_nlt.mpr c14)
  · rw [lc_le] at c14
    refine g_lload F 2 rfl dX10_reaches_73 ?_
    refine g_lload F 1 rfl dX10_reaches_75 ?_
    refine g_lload F 0 rfl dX10_reaches_77 ?_
    refine g_ladd F dX10_reaches_79 ?_
    refine g_lcmp F dX10_reaches_80 ?_
    refine g_if_gt (t := 102) F dX10_reaches_81 (by decide) (fun c15 => ?_) (fun c15 => ?_)
    · rw [lc_gt] at c15
      refine g_iconst (v := 0) F (by decide) dX10_reaches_102 ?_
      refine g_zret F T rfl ⟨_, rfl, ?_⟩ (Nat.le_of_ble_eq_true rfl) (Nat.le_of_ble_eq_true rfl) dX10_reaches_103
      have he : r3 = rt (zD z tx ty) := by rw [er3, ex1, ex2]; rfl
      have hp : x9 = 16 * z 2 := by rw [ex9, er6]
      have hl9 : x13 = 16 * z 3 := by rw [ex13, er10]
      refine ⟨Or.inr ⟨rfl, fun h => ?_⟩, rfl⟩
      unfold zRe sp at h
      rw [← he, ← hp, ← hl9] at h
      exact absurd h.2.1 (L_nle.mpr c15)
    · rw [lc_gt] at c15
      refine g_lload F 2 rfl dX10_reaches_84 ?_
      refine g_lload F 1 rfl dX10_reaches_86 ?_
      refine g_lload F 0 rfl dX10_reaches_88 ?_
      refine g_lsub F dX10_reaches_90 ?_
      refine g_callS F (kX10_size Γ.1 _ _) okX10_size mw497 ⟨(Nat.le_of_ble_eq_true rfl), (Nat.le_of_ble_eq_true rfl)⟩ rfl rfl (Nat.le_of_ble_eq_true rfl) ⟨(Nat.le_of_ble_eq_true rfl), (Nat.le_of_ble_eq_true rfl)⟩ dX10_reaches_91 (toJ (fun r16 S17 h18 => ?_))
      obtain ⟨er16, rfl⟩ := h18
      refine g_lcmp F dX10_reaches_94 ?_
      refine g_if_lt (t := 102) F dX10_reaches_95 (by decide) (fun c19 => ?_) (fun c19 => ?_)
      · rw [lc_lt] at c19
        refine g_iconst (v := 0) F (by decide) dX10_reaches_102 ?_
        refine g_zret F T rfl ⟨_, rfl, ?_⟩ (Nat.le_of_ble_eq_true rfl) (Nat.le_of_ble_eq_true rfl) dX10_reaches_103
        have he : r3 = rt (zD z tx ty) := by rw [er3, ex1, ex2]; rfl
        have hp : x9 = 16 * z 2 := by rw [ex9, er6]
        have hl9 : x13 = 16 * z 3 := by rw [ex13, er10]
        refine ⟨Or.inr ⟨rfl, fun h => ?_⟩, rfl⟩
        unfold zRe sp at h
        rw [← he, ← hp, ← hl9, ← er16] at h
        exact absurd h.2.2 (L_nle.mpr c19)
      · rw [lc_lt] at c19
        refine g_iconst (v := 1) F (by decide) dX10_reaches_98 ?_
        refine g_goto (t := 103) F dX10_reaches_99 (by decide) ?_
        refine g_zret F T rfl ⟨_, rfl, ?_⟩ (Nat.le_of_ble_eq_true rfl) (Nat.le_of_ble_eq_true rfl) dX10_reaches_103
        have he : r3 = rt (zD z tx ty) := by rw [er3, ex1, ex2]; rfl
        have hp : x9 = 16 * z 2 := by rw [ex9, er6]
        have hl9 : x13 = 16 * z 3 := by rw [ex13, er10]
        refine ⟨Or.inl ⟨rfl, ?_⟩, rfl⟩
        unfold zRe sp
        rw [← he, ← hp, ← hl9, ← er16]
        exact ⟨L_nle.mp c14, L_nlt.mp c15, L_nlt.mp c19⟩
set_option maxHeartbeats 4000000 in
set_option maxRecDepth 100000 in
theorem kX10_layElbow (g : Glo) (S : PS) (q : Nat → Nat) (hq : Shp S.1 S.2.1 q) (z : ZZ) (hz : pJ S (q 95) = z) (hB : Bz z) (tx ty : Int64) (ht : wtn tx (-50000) 50000) (hu : wtn ty (-50000) 50000) (hr : zRe z tx ty) : Ct g mX10_layElbow 0 0 [.ref (q 94), .long tx, .long ty] S (pV9 (fun S' => Fr S S' q [94] ∧ pJ S' (q 94) 7 = zEx z tx ty ∧ pJ S' (q 94) 8 = zEy z tx ty)) := by
  refine Ct.of (by decide) (Nat.le_of_ble_eq_true rfl) (fun Γ hg F T => ?_)
  subst hg
  show G Γ S 0 0 0 [(0, .ref (q 94)), (1, .long tx), (3, .long ty)] []
  have hab := zA_b hB ht hu hr
  refine g_lload_n (k := 1) F 1 rfl dX10_layElbow_0 ?_
  refine g_ldc2 F mw508 dX10_layElbow_1 ?_
  refine g_aload_n (k := 0) F 0 rfl dX10_layElbow_4 ?_
  refine gfX10_7 F (qi94 hq) (qr94_1 hq) dX10_layElbow_5 ?_
  refine g_iconst (v := 0) F (by decide) dX10_layElbow_8 ?_
  refine g_lalde hz (j := 0) F (qi95 hq) rfl (by rw [(qn95 hq)]; omega) (by rw [(qn95 hq)]; decide) dX10_layElbow_9 ?_
  refine g_lmul F dX10_layElbow_10 ?_
  refine g_lsub F dX10_layElbow_11 ?_
  refine g_topl (fun x1 ex1 => ?_)
  refine g_lstore (L' := [(5, .long x1), (0, .ref (q 94)), (1, .long tx), (3, .long ty)]) F dX10_layElbow_12 (Nat.le_of_ble_eq_true rfl) rfl ?_
  refine g_lload_n (k := 3) F 3 rfl dX10_layElbow_14 ?_
  refine g_ldc2 F mw508 dX10_layElbow_15 ?_
  refine g_aload_n (k := 0) F 1 rfl dX10_layElbow_18 ?_
  refine gfX10_7 F (qi94 hq) (qr94_1 hq) dX10_layElbow_19 ?_
  refine g_iconst (v := 1) F (by decide) dX10_layElbow_22 ?_
  refine g_lalde hz (j := 1) F (qi95 hq) rfl (by rw [(qn95 hq)]; omega) (by rw [(qn95 hq)]; decide) dX10_layElbow_23 ?_
  refine g_lmul F dX10_layElbow_24 ?_
  refine g_lsub F dX10_layElbow_25 ?_
  refine g_topl (fun x2 ex2 => ?_)
  refine g_lstore (L' := [(7, .long x2), (5, .long x1), (0, .ref (q 94)), (1, .long tx), (3, .long ty)]) F dX10_layElbow_26 (Nat.le_of_ble_eq_true rfl) rfl ?_
  refine g_lload F 1 rfl dX10_layElbow_28 ?_
  refine g_lload F 1 rfl dX10_layElbow_30 ?_
  refine g_lmul F dX10_layElbow_32 ?_
  refine g_lload F 0 rfl dX10_layElbow_33 ?_
  refine g_lload F 0 rfl dX10_layElbow_35 ?_
  refine g_lmul F dX10_layElbow_37 ?_
  refine g_ladd F dX10_layElbow_38 ?_
  refine g_topl (fun x3 ex3 => ?_)
  refine g_lstore (L' := [(9, .long x3), (7, .long x2), (5, .long x1), (0, .ref (q 94)), (1, .long tx), (3, .long ty)]) F dX10_layElbow_39 (Nat.le_of_ble_eq_true rfl) rfl ?_
  refine g_lload F 0 rfl dX10_layElbow_41 ?_
  refine g_callS F (kX10_root Γ.1 _ _ (by rw [ex3, ex1, ex2]; exact rt_D hB ht hu)) okX10_root mw517 ⟨(Nat.le_of_ble_eq_true rfl), (Nat.le_of_ble_eq_true rfl)⟩ rfl rfl (Nat.le_of_ble_eq_true rfl) ⟨(Nat.le_of_ble_eq_true rfl), (Nat.le_of_ble_eq_true rfl)⟩ dX10_layElbow_43 (toJ (fun r4 S5 h6 => ?_))
  obtain ⟨er4, rfl⟩ := h6
  refine g_lstore (L' := [(11, .long r4), (9, .long x3), (7, .long x2), (5, .long x1), (0, .ref (q 94)), (1, .long tx), (3, .long ty)]) F dX10_layElbow_46 (Nat.le_of_ble_eq_true rfl) rfl ?_
  refine g_ldc2 F mw508 dX10_layElbow_48 ?_
  refine g_aload_n (k := 0) F 4 rfl dX10_layElbow_51 ?_
  refine g_iconst (v := 0) F (by decide) dX10_layElbow_52 ?_
  refine g_callV F (kX10_of Γ.1 _ q hq z hz hB 0 (by decide)) okX10_of (qi94 hq) mw500 ⟨(Nat.le_of_ble_eq_true rfl), (Nat.le_of_ble_eq_true rfl)⟩ rfl rfl (Nat.le_of_ble_eq_true rfl) ⟨(Nat.le_of_ble_eq_true rfl), (Nat.le_of_ble_eq_true rfl)⟩ dX10_layElbow_53 (toJ (fun r7 S8 h9 => ?_))
  obtain ⟨er7, rfl⟩ := h9
  refine g_lmul F dX10_layElbow_56 ?_
  refine g_topl (fun x10 ex10 => ?_)
  refine g_lstore (L' := [(13, .long x10), (11, .long r4), (9, .long x3), (7, .long x2), (5, .long x1), (0, .ref (q 94)), (1, .long tx), (3, .long ty)]) F dX10_layElbow_57 (Nat.le_of_ble_eq_true rfl) rfl ?_
  refine g_ldc2 F mw508 dX10_layElbow_59 ?_
  refine g_aload_n (k := 0) F 5 rfl dX10_layElbow_62 ?_
  refine g_iconst (v := 1) F (by decide) dX10_layElbow_63 ?_
  refine g_callV F (kX10_of Γ.1 _ q hq z hz hB 1 (by decide)) okX10_of (qi94 hq) mw500 ⟨(Nat.le_of_ble_eq_true rfl), (Nat.le_of_ble_eq_true rfl)⟩ rfl rfl (Nat.le_of_ble_eq_true rfl) ⟨(Nat.le_of_ble_eq_true rfl), (Nat.le_of_ble_eq_true rfl)⟩ dX10_layElbow_64 (toJ (fun r11 S12 h13 => ?_))
  obtain ⟨er11, rfl⟩ := h13
  refine g_lmul F dX10_layElbow_67 ?_
  refine g_topl (fun x14 ex14 => ?_)
  refine g_lstore (L' := [(15, .long x14), (13, .long x10), (11, .long r4), (9, .long x3), (7, .long x2), (5, .long x1), (0, .ref (q 94)), (1, .long tx), (3, .long ty)]) F dX10_layElbow_68 (Nat.le_of_ble_eq_true rfl) rfl ?_
  refine g_lload F 3 rfl dX10_layElbow_70 ?_
  refine g_lload F 1 rfl dX10_layElbow_72 ?_
  refine g_lload F 1 rfl dX10_layElbow_74 ?_
  refine g_lmul F dX10_layElbow_76 ?_
  refine g_ladd F dX10_layElbow_77 ?_
  refine g_lload F 0 rfl dX10_layElbow_78 ?_
  refine g_lload F 0 rfl dX10_layElbow_80 ?_
  refine g_lmul F dX10_layElbow_82 ?_
  refine g_lsub F dX10_layElbow_83 ?_
  refine g_ldc2 F mw521 dX10_layElbow_84 ?_
  refine g_lload F 2 rfl dX10_layElbow_87 ?_
  refine g_lmul F dX10_layElbow_89 ?_
  refine g_ldiv F dX10_layElbow_90 (by rw [er4, ex3, ex1, ex2]; exact hab.2.2.1) ?_
  refine g_topl (fun x15 ex15 => ?_)
  refine g_lstore (L' := [(17, .long x15), (15, .long x14), (13, .long x10), (11, .long r4), (9, .long x3), (7, .long x2), (5, .long x1), (0, .ref (q 94)), (1, .long tx), (3, .long ty)]) F dX10_layElbow_91 (Nat.le_of_ble_eq_true rfl) rfl ?_
  refine g_lload F 2 rfl dX10_layElbow_93 ?_
  refine g_lload F 2 rfl dX10_layElbow_95 ?_
  refine g_lmul F dX10_layElbow_97 ?_
  refine g_lload F 0 rfl dX10_layElbow_98 ?_
  refine g_lload F 0 rfl dX10_layElbow_100 ?_
  refine g_lmul F dX10_layElbow_102 ?_
  refine g_lsub F dX10_layElbow_103 ?_
  refine g_topl (fun x16 ex16 => ?_)
  refine g_lstore (L' := [(19, .long x16), (17, .long x15), (15, .long x14), (13, .long x10), (11, .long r4), (9, .long x3), (7, .long x2), (5, .long x1), (0, .ref (q 94)), (1, .long tx), (3, .long ty)]) F dX10_layElbow_104 (Nat.le_of_ble_eq_true rfl) rfl ?_
  have hD9 : x3 = zD z tx ty := by rw [ex3, ex1, ex2]; rfl
  have hA9 : x15 = zA z tx ty := by rw [ex15, ex10, ex14, er4, er7, er11, hD9]; rfl
  have hH : x16 = zHb z tx ty := by rw [ex16, ex10, er7, hA9]; rfl
  refine g_lload F 0 rfl dX10_layElbow_106 ?_
  refine g_lconst (v := 0) F (by decide) dX10_layElbow_108 ?_
  refine g_lcmp F dX10_layElbow_109 ?_
  have jn18 : ∀ (w122 : Int64), w122 = (if zHb z tx ty < 0 then 0 else rt (zHb z tx ty)) → G Γ S 0 0 122 [(19, .long x16), (17, .long x15), (15, .long x14), (13, .long x10), (11, .long r4), (9, .long x3), (7, .long x2), (5, .long x1), (0, .ref (q 94)), (1, .long tx), (3, .long ty)] [.long w122] := by
    intro w122 ej
    refine g_lstore (L' := [(21, .long w122), (19, .long x16), (17, .long x15), (15, .long x14), (13, .long x10), (11, .long r4), (9, .long x3), (7, .long x2), (5, .long x1), (0, .ref (q 94)), (1, .long tx), (3, .long ty)]) F dX10_layElbow_122 (Nat.le_of_ble_eq_true rfl) rfl ?_
    refine g_aload_n (k := 0) F 9 rfl dX10_layElbow_124 ?_
    refine g_iconst (v := 3) F (by decide) dX10_layElbow_125 ?_
    refine g_callV F (kX10_of Γ.1 _ q hq z hz hB 3 (by decide)) okX10_of (qi94 hq) mw500 ⟨(Nat.le_of_ble_eq_true rfl), (Nat.le_of_ble_eq_true rfl)⟩ rfl rfl (Nat.le_of_ble_eq_true rfl) ⟨(Nat.le_of_ble_eq_true rfl), (Nat.le_of_ble_eq_true rfl)⟩ dX10_layElbow_126 (toJ (fun r19 S20 h21 => ?_))
    obtain ⟨er19, rfl⟩ := h21
    refine g_lconst (v := 1) F (by decide) dX10_layElbow_129 ?_
    refine g_lcmp F dX10_layElbow_130 ?_
    have jn23 : ∀ (w142 : Int64), w142 = zH z tx ty → G Γ S 0 0 142 [(19, .long x16), (17, .long x15), (15, .long x14), (13, .long x10), (11, .long r4), (9, .long x3), (7, .long x2), (5, .long x1), (0, .ref (q 94)), (1, .long tx), (3, .long ty)] [.long w142] := by
      intro w142 ek
      refine g_lstore (L' := [(21, .long w142), (19, .long x16), (17, .long x15), (15, .long x14), (13, .long x10), (11, .long r4), (9, .long x3), (7, .long x2), (5, .long x1), (0, .ref (q 94)), (1, .long tx), (3, .long ty)]) F dX10_layElbow_142 (Nat.le_of_ble_eq_true rfl) rfl ?_
      refine g_aload_n (k := 0) F 9 rfl dX10_layElbow_144 ?_
      refine g_ldc2 F mw508 dX10_layElbow_145 ?_
      refine g_aload_n (k := 0) F 9 rfl dX10_layElbow_148 ?_
      refine gfX10_7 F (qi94 hq) (qr94_1 hq) dX10_layElbow_149 ?_
      refine g_iconst (v := 0) F (by decide) dX10_layElbow_152 ?_
      refine g_lalde hz (j := 0) F (qi95 hq) rfl (by rw [(qn95 hq)]; omega) (by rw [(qn95 hq)]; decide) dX10_layElbow_153 ?_
      refine g_lmul F dX10_layElbow_154 ?_
      refine g_lload F 8 rfl dX10_layElbow_155 ?_
      refine g_lload F 2 rfl dX10_layElbow_157 ?_
      refine g_lmul F dX10_layElbow_159 ?_
      refine g_lload F 7 rfl dX10_layElbow_160 ?_
      refine g_lload F 0 rfl dX10_layElbow_162 ?_
      refine g_lmul F dX10_layElbow_164 ?_
      refine g_lsub F dX10_layElbow_165 ?_
      refine g_lload F 5 rfl dX10_layElbow_166 ?_
      refine g_ldiv F dX10_layElbow_168 (by rw [er4, ex3, ex1, ex2]; exact hab.2.2.2.1) ?_
      refine g_ladd F dX10_layElbow_169 ?_
      refine g_topl (fun x24 ex24 => ?_)
      refine pfX10_64 F (qi94 hq) dX10_layElbow_170 ?_
      refine g_aload_n (k := 0) F 9 rfl dX10_layElbow_173 ?_
      refine g_ldc2 F mw508 dX10_layElbow_174 ?_
      refine g_aload_n (k := 0) F 9 rfl dX10_layElbow_177 ?_
      refine gfX10_7 F (qi94 hq) (qr94_1 hq) dX10_layElbow_178 ?_
      refine g_iconst (v := 1) F (by decide) dX10_layElbow_181 ?_
      refine g_lalde ((up2_r (qne hq (by decide) (by decide) (by decide))).trans hz) (j := 1) F (qi95 hq) rfl (by rw [(qn95 hq)]; omega) (by rw [(qn95 hq)]; decide) dX10_layElbow_182 ?_
      refine g_lmul F dX10_layElbow_183 ?_
      refine g_lload F 7 rfl dX10_layElbow_184 ?_
      refine g_lload F 2 rfl dX10_layElbow_186 ?_
      refine g_lmul F dX10_layElbow_188 ?_
      refine g_lload F 8 rfl dX10_layElbow_189 ?_
      refine g_lload F 0 rfl dX10_layElbow_191 ?_
      refine g_lmul F dX10_layElbow_193 ?_
      refine g_ladd F dX10_layElbow_194 ?_
      refine g_lload F 5 rfl dX10_layElbow_195 ?_
      refine g_ldiv F dX10_layElbow_197 (by rw [er4, ex3, ex1, ex2]; exact hab.2.2.2.1) ?_
      refine g_ladd F dX10_layElbow_198 ?_
      refine g_topl (fun x25 ex25 => ?_)
      refine pfX10_68 F (qi94 hq) dX10_layElbow_199 ?_
      refine g_vret F T ⟨rfl, ?_⟩ (Nat.le_of_ble_eq_true rfl) (Nat.le_of_ble_eq_true rfl) dX10_layElbow_202
      exact ⟨(Fr.wJ hq (Fr.wJ hq Fr.rf (by decide) (by decide)) (by decide) (by decide)), ((up2_k (by decide)).trans up2_s).trans (by rw [ex24, hA9, ek, ex1, ex2, er4, hD9]; rfl), up2_s.trans (by rw [ex25, hA9, ek, ex1, ex2, er4, hD9]; rfl)⟩
    refine g_if_ne (t := 140) F dX10_layElbow_131 (by decide) (fun c22 => ?_) (fun c22 => ?_)
    · rw [lc_eq] at c22
      refine g_lload F 0 rfl dX10_layElbow_140 ?_
      refine g_sub (L' := [(19, .long x16), (17, .long x15), (15, .long x14), (13, .long x10), (11, .long r4), (9, .long x3), (7, .long x2), (5, .long x1), (0, .ref (q 94)), (1, .long tx), (3, .long ty)]) [1, 2, 3, 4, 5, 6, 7, 8, 9, 10, 11] rfl ?_
      exact jn23 (w122) (by rw [er19] at c22; unfold zH; rw [if_neg c22, ej])
    · rw [lc_eq] at c22
      refine g_lload F 0 rfl dX10_layElbow_134 ?_
      refine g_lneg F dX10_layElbow_136 ?_
      refine g_goto (t := 142) F dX10_layElbow_137 (by decide) ?_
      refine g_sub (L' := [(19, .long x16), (17, .long x15), (15, .long x14), (13, .long x10), (11, .long r4), (9, .long x3), (7, .long x2), (5, .long x1), (0, .ref (q 94)), (1, .long tx), (3, .long ty)]) [1, 2, 3, 4, 5, 6, 7, 8, 9, 10, 11] rfl ?_
      exact jn23 ((-w122)) (by rw [er19] at c22; unfold zH; rw [if_pos c22, ej])
  refine g_if_ge (t := 117) F dX10_layElbow_110 (by decide) (fun c17 => ?_) (fun c17 => ?_)
  · rw [lc_ge] at c17
    refine g_lload F 0 rfl dX10_layElbow_117 ?_
    refine g_callS F (kX10_root Γ.1 _ _ (by rw [hH]; omega)) okX10_root mw517 ⟨(Nat.le_of_ble_eq_true rfl), (Nat.le_of_ble_eq_true rfl)⟩ rfl rfl (Nat.le_of_ble_eq_true rfl) ⟨(Nat.le_of_ble_eq_true rfl), (Nat.le_of_ble_eq_true rfl)⟩ dX10_layElbow_119 (toJ (fun r26 S27 h28 => ?_))
    obtain ⟨er26, rfl⟩ := h28
    exact jn18 (r26) (by rw [er26, if_neg (L_nlt.mpr (by rw [← hH]; exact c17)), hH])
  · rw [lc_ge] at c17
    refine g_lconst (v := 0) F (by decide) dX10_layElbow_113 ?_
    refine g_goto (t := 122) F dX10_layElbow_114 (by decide) ?_
    exact jn18 (0) (by rw [if_pos (by rw [← hH]; exact L_nle.mp c17)])
