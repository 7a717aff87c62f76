set_option maxHeartbeats 4000000 in
set_option maxRecDepth 100000 in
theorem kX10_steps (g : Glo) (S : PS) (q : Nat → Nat) (hq : Shp S.1 S.2.1 q) (z : ZZ) (hz : pJ S (q 95) = z) (hB : Bz z) (h0 : 0 < nc z) (k : Nat) (hk : k < 1000) : Ct g mX10_steps 0 0 [.ref (q 94), .int (nI k)] S (pI9 (fun r S' => r = nI (zN z k) ∧ S = S')) := by
  refine Ct.of (by decide) (Nat.le_of_ble_eq_true rfl) (fun Γ hg F T => ?_)
  subst hg
  show G Γ S 0 0 0 [(0, .ref (q 94)), (1, .int (nI k))] []
  have hnc := (nc_e hB).2
  have hmd := Nat.mod_lt k h0
  have bx0 := zX_b hB h0 k
  have bx1 := zX_b hB h0 (k + 1)
  have by0 := zY_b hB h0 k
  have by1 := zY_b hB h0 (k + 1)
  have bst := hB.2.1.2.2.1
  have hbx := bx0; have hbx1 := bx1; have hby := by0; have hby1 := by1; unfold wtn at hbx hbx1 hby hby1
  refine g_aload_n (k := 0) F 0 rfl dX10_steps_0 ?_
  refine g_iload_n (k := 1) F 1 rfl dX10_steps_1 ?_
  refine g_iconst (v := 1) F (by decide) dX10_steps_2 ?_
  refine g_iadd F dX10_steps_3 ?_
  refine g_rei (nI (k + 1)) (nadd rfl rfl) ?_
  refine g_callV F (kX10_x Γ.1 _ q hq z hz hB h0 ((k + 1)) (by omega)) okX10_x (qi94 hq) mw470 ⟨(Nat.le_of_ble_eq_true rfl), (Nat.le_of_ble_eq_true rfl)⟩ rfl rfl (Nat.le_of_ble_eq_true rfl) ⟨(Nat.le_of_ble_eq_true rfl), (Nat.le_of_ble_eq_true rfl)⟩ dX10_steps_4 (toJ (fun r1 S2 h3 => ?_))
  obtain ⟨er1, rfl⟩ := h3
  refine g_aload_n (k := 0) F 0 rfl dX10_steps_7 ?_
  refine g_iload_n (k := 1) F 1 rfl dX10_steps_8 ?_
  refine g_callV F (kX10_x Γ.1 _ q hq z hz hB h0 k (by omega)) okX10_x (qi94 hq) mw470 ⟨(Nat.le_of_ble_eq_true rfl), (Nat.le_of_ble_eq_true rfl)⟩ rfl rfl (Nat.le_of_ble_eq_true rfl) ⟨(Nat.le_of_ble_eq_true rfl), (Nat.le_of_ble_eq_true rfl)⟩ dX10_steps_9 (toJ (fun r4 S5 h6 => ?_))
  obtain ⟨er4, rfl⟩ := h6
  refine g_lsub F dX10_steps_12 ?_
  refine g_callS F (kX10_size Γ.1 _ _) okX10_size mw493 ⟨(Nat.le_of_ble_eq_true rfl), (Nat.le_of_ble_eq_true rfl)⟩ rfl rfl (Nat.le_of_ble_eq_true rfl) ⟨(Nat.le_of_ble_eq_true rfl), (Nat.le_of_ble_eq_true rfl)⟩ dX10_steps_13 (toJ (fun r7 S8 h9 => ?_))
  obtain ⟨er7, rfl⟩ := h9
  refine g_lstore_n (k := 2) (L' := [(2, .long r7), (0, .ref (q 94)), (1, .int (nI k))]) F dX10_steps_16 (Nat.le_of_ble_eq_true rfl) rfl ?_
  refine g_aload_n (k := 0) F 1 rfl dX10_steps_17 ?_
  refine g_iload_n (k := 1) F 2 rfl dX10_steps_18 ?_
  refine g_iconst (v := 1) F (by decide) dX10_steps_19 ?_
  refine g_iadd F dX10_steps_20 ?_
  refine g_rei (nI (k + 1)) (nadd rfl rfl) ?_
  refine g_callV F (kX10_y Γ.1 _ q hq z hz hB h0 ((k + 1)) (by omega)) okX10_y (qi94 hq) mw474 ⟨(Nat.le_of_ble_eq_true rfl), (Nat.le_of_ble_eq_true rfl)⟩ rfl rfl (Nat.le_of_ble_eq_true rfl) ⟨(Nat.le_of_ble_eq_true rfl), (Nat.le_of_ble_eq_true rfl)⟩ dX10_steps_21 (toJ (fun r10 S11 h12 => ?_))
  obtain ⟨er10, rfl⟩ := h12
  refine g_aload_n (k := 0) F 1 rfl dX10_steps_24 ?_
  refine g_iload_n (k := 1) F 2 rfl dX10_steps_25 ?_
  refine g_callV F (kX10_y Γ.1 _ q hq z hz hB h0 k (by omega)) okX10_y (qi94 hq) mw474 ⟨(Nat.le_of_ble_eq_true rfl), (Nat.le_of_ble_eq_true rfl)⟩ rfl rfl (Nat.le_of_ble_eq_true rfl) ⟨(Nat.le_of_ble_eq_true rfl), (Nat.le_of_ble_eq_true rfl)⟩ dX10_steps_26 (toJ (fun r13 S14 h15 => ?_))
  obtain ⟨er13, rfl⟩ := h15
  refine g_lsub F dX10_steps_29 ?_
  refine g_callS F (kX10_size Γ.1 _ _) okX10_size mw493 ⟨(Nat.le_of_ble_eq_true rfl), (Nat.le_of_ble_eq_true rfl)⟩ rfl rfl (Nat.le_of_ble_eq_true rfl) ⟨(Nat.le_of_ble_eq_true rfl), (Nat.le_of_ble_eq_true rfl)⟩ dX10_steps_30 (toJ (fun r16 S17 h18 => ?_))
  obtain ⟨er16, rfl⟩ := h18
  refine g_lstore (L' := [(4, .long r16), (2, .long r7), (0, .ref (q 94)), (1, .int (nI k))]) F dX10_steps_33 (Nat.le_of_ble_eq_true rfl) rfl ?_
  refine g_lload F 0 rfl dX10_steps_35 ?_
  refine g_lload_n (k := 2) F 1 rfl dX10_steps_37 ?_
  refine g_lcmp F dX10_steps_38 ?_
  have jn20 : ∀ (w48 : Int64), w48 = lN (max ((zX z (k + 1)).toInt - (zX z k).toInt).natAbs ((zY z (k + 1)).toInt - (zY z k).toInt).natAbs) → G Γ S 0 0 48 [(0, .ref (q 94)), (1, .int (nI k))] [.long w48] := by
    intro w48 ej
    refine g_lstore_n (k := 2) (L' := [(2, .long w48), (0, .ref (q 94)), (1, .int (nI k))]) F dX10_steps_48 (Nat.le_of_ble_eq_true rfl) rfl ?_
    refine g_lload_n (k := 2) F 0 rfl dX10_steps_49 ?_
    refine g_aload_n (k := 0) F 1 rfl dX10_steps_50 ?_
    refine g_iconst (v := 2) F (by decide) dX10_steps_51 ?_
    refine g_callV F (kX10_of Γ.1 _ q hq z hz hB 2 (by decide)) okX10_of (qi94 hq) mw496 ⟨(Nat.le_of_ble_eq_true rfl), (Nat.le_of_ble_eq_true rfl)⟩ rfl rfl (Nat.le_of_ble_eq_true rfl) ⟨(Nat.le_of_ble_eq_true rfl), (Nat.le_of_ble_eq_true rfl)⟩ dX10_steps_52 (toJ (fun r21 S22 h23 => ?_))
    obtain ⟨er21, rfl⟩ := h23
    refine g_ladd F dX10_steps_55 ?_
    refine g_lconst (v := 1) F (by decide) dX10_steps_56 ?_
    refine g_lsub F dX10_steps_57 ?_
    refine g_aload_n (k := 0) F 1 rfl dX10_steps_58 ?_
    refine g_iconst (v := 2) F (by decide) dX10_steps_59 ?_
    refine g_callV F (kX10_of Γ.1 _ q hq z hz hB 2 (by decide)) okX10_of (qi94 hq) mw496 ⟨(Nat.le_of_ble_eq_true rfl), (Nat.le_of_ble_eq_true rfl)⟩ rfl rfl (Nat.le_of_ble_eq_true rfl) ⟨(Nat.le_of_ble_eq_true rfl), (Nat.le_of_ble_eq_true rfl)⟩ dX10_steps_60 (toJ (fun r24 S25 h26 => ?_))
    obtain ⟨er24, rfl⟩ := h26
    refine g_ldiv F dX10_steps_63 (by rw [er24]; exact stne hB) ?_
    refine g_topl (fun x27 ex27 => ?_)
    refine g_lstore (L' := [(6, .long x27), (2, .long w48), (0, .ref (q 94)), (1, .int (nI k))]) F dX10_steps_64 (Nat.le_of_ble_eq_true rfl) rfl ?_
    refine g_lload F 0 rfl dX10_steps_66 ?_
    refine g_lconst (v := 1) F (by decide) dX10_steps_68 ?_
    refine g_lcmp F dX10_steps_69 ?_
    refine g_if_ge (t := 77) F dX10_steps_70 (by decide) (fun c28 => ?_) (fun c28 => ?_)
    · rw [lc_ge] at c28
      refine g_lload F 0 rfl dX10_steps_77 ?_
      refine g_l2i F dX10_steps_79 ?_
      refine g_iret F T ⟨_, rfl, ?_⟩ (Nat.le_of_ble_eq_true rfl) (Nat.le_of_ble_eq_true rfl) dX10_steps_80
      exact ⟨nst_t (by omega) bst (by rw [ex27, er21, er24, ej]) c28, rfl⟩
    · rw [lc_ge] at c28
      refine g_iconst (v := 1) F (by decide) dX10_steps_73 ?_
      refine g_goto (t := 80) F dX10_steps_74 (by decide) ?_
      refine g_iret F T ⟨_, rfl, ?_⟩ (Nat.le_of_ble_eq_true rfl) (Nat.le_of_ble_eq_true rfl) dX10_steps_80
      exact ⟨nst_f (by omega) bst (by rw [ex27, er21, er24, ej]) c28, rfl⟩
  refine g_if_le (t := 47) F dX10_steps_39 (by decide) (fun c19 => ?_) (fun c19 => ?_)
  · rw [lc_le] at c19
    refine g_lload_n (k := 2) F 1 rfl dX10_steps_47 ?_
    refine g_sub (L' := [(0, .ref (q 94)), (1, .int (nI k))]) [2, 3] rfl ?_
    exact jn20 (r7) (by rw [er16, er7, er13, er10, er4, er1, szd bx1 bx0, szd by1 by0, lN_le (by omega) (by omega)] at c19; rw [er7, er4, er1, szd bx1 bx0, Nat.max_eq_left c19])
  · rw [lc_le] at c19
    refine g_lload F 0 rfl dX10_steps_42 ?_
    refine g_goto (t := 48) F dX10_steps_44 (by decide) ?_
    refine g_sub (L' := [(0, .ref (q 94)), (1, .int (nI k))]) [2, 3] rfl ?_
    exact jn20 (r16) (by rw [er16, er7, er13, er10, er4, er1, szd bx1 bx0, szd by1 by0, lN_le (by omega) (by omega)] at c19; rw [er16, er13, er10, szd by1 by0, Nat.max_eq_right (by omega)])
set_option maxHeartbeats 4000000 in
set_option maxRecDepth 100000 in
theorem kX10_pointX (g : Glo) (S : PS) (q : Nat → Nat) (hq : Shp S.1 S.2.1 q) (z : ZZ) (hz : pJ S (q 95) = z) (hB : Bz z) (h0 : 0 < nc z) (k : Nat) (hk : k < 1000) (i : Nat) (hi : i < 100000) : Ct g mX10_pointX 0 0 [.ref (q 94), .int (nI k), .int (nI i)] S (pJ9 (fun r S' => r = zPx z k i ∧ S = S')) := by
  refine Ct.of (by decide) (Nat.le_of_ble_eq_true rfl) (fun Γ hg F T => ?_)
  subst hg
  show G Γ S 0 0 0 [(0, .ref (q 94)), (1, .int (nI k)), (2, .int (nI i))] []
  have hnc := (nc_e hB).2
  have hmd := Nat.mod_lt k h0
  have hzn := zN_b hB h0 k
  refine g_ldc2 F mw504 dX10_pointX_0 ?_
  refine g_aload_n (k := 0) F 0 rfl dX10_pointX_3 ?_
  refine g_iload_n (k := 1) F 1 rfl dX10_pointX_4 ?_
  refine g_callV F (kX10_x Γ.1 _ q hq z hz hB h0 k (by omega)) okX10_x (qi94 hq) mw470 ⟨(Nat.le_of_ble_eq_true rfl), (Nat.le_of_ble_eq_true rfl)⟩ rfl rfl (Nat.le_of_ble_eq_true rfl) ⟨(Nat.le_of_ble_eq_true rfl), (Nat.le_of_ble_eq_true rfl)⟩ dX10_pointX_5 (toJ (fun r1 S2 h3 => ?_))
  obtain ⟨er1, rfl⟩ := h3
  refine g_lmul F dX10_pointX_8 ?_
  refine g_ldc2 F mw504 dX10_pointX_9 ?_
  refine g_aload_n (k := 0) F 0 rfl dX10_pointX_12 ?_
  refine g_iload_n (k := 1) F 1 rfl dX10_pointX_13 ?_
  refine g_iconst (v := 1) F (by decide) dX10_pointX_14 ?_
  refine g_iadd F dX10_pointX_15 ?_
  refine g_rei (nI (k + 1)) (nadd rfl rfl) ?_
  refine g_callV F (kX10_x Γ.1 _ q hq z hz hB h0 ((k + 1)) (by omega)) okX10_x (qi94 hq) mw470 ⟨(Nat.le_of_ble_eq_true rfl), (Nat.le_of_ble_eq_true rfl)⟩ rfl rfl (Nat.le_of_ble_eq_true rfl) ⟨(Nat.le_of_ble_eq_true rfl), (Nat.le_of_ble_eq_true rfl)⟩ dX10_pointX_16 (toJ (fun r4 S5 h6 => ?_))
  obtain ⟨er4, rfl⟩ := h6
  refine g_aload_n (k := 0) F 0 rfl dX10_pointX_19 ?_
  refine g_iload_n (k := 1) F 1 rfl dX10_pointX_20 ?_
  refine g_callV F (kX10_x Γ.1 _ q hq z hz hB h0 k (by omega)) okX10_x (qi94 hq) mw470 ⟨(Nat.le_of_ble_eq_true rfl), (Nat.le_of_ble_eq_true rfl)⟩ rfl rfl (Nat.le_of_ble_eq_true rfl) ⟨(Nat.le_of_ble_eq_true rfl), (Nat.le_of_ble_eq_true rfl)⟩ dX10_pointX_21 (toJ (fun r7 S8 h9 => ?_))
  obtain ⟨er7, rfl⟩ := h9
  refine g_lsub F dX10_pointX_24 ?_
  refine g_lmul F dX10_pointX_25 ?_
  refine g_iload_n (k := 2) F 2 rfl dX10_pointX_26 ?_
  refine g_i2l F dX10_pointX_27 ?_
  refine g_lmul F dX10_pointX_28 ?_
  refine g_aload_n (k := 0) F 0 rfl dX10_pointX_29 ?_
  refine g_iload_n (k := 1) F 1 rfl dX10_pointX_30 ?_
  refine g_callV F (kX10_steps Γ.1 _ q hq z hz hB h0 k (by omega)) okX10_steps (qi94 hq) mw489 ⟨(Nat.le_of_ble_eq_true rfl), (Nat.le_of_ble_eq_true rfl)⟩ rfl rfl (Nat.le_of_ble_eq_true rfl) ⟨(Nat.le_of_ble_eq_true rfl), (Nat.le_of_ble_eq_true rfl)⟩ dX10_pointX_31 (toI (fun r10 S11 h12 => ?_))
  obtain ⟨rfl, rfl⟩ := h12
  refine g_i2l F dX10_pointX_34 ?_
  refine g_ldiv F dX10_pointX_35 (by rw [nI_L (by omega)]; exact lN_ne0 (by omega) (by omega)) ?_
  refine g_ladd F dX10_pointX_36 ?_
  refine g_lret F T ⟨_, rfl, ?_⟩ (Nat.le_of_ble_eq_true rfl) (Nat.le_of_ble_eq_true rfl) dX10_pointX_37
  exact ⟨by rw [er1, er4, er7, nI_L (by omega), nI_L (by omega)]; rfl, rfl⟩
set_option maxHeartbeats 4000000 in
set_option maxRecDepth 100000 in
theorem kX10_pointY (g : Glo) (S : PS) (q : Nat → Nat) (hq : Shp S.1 S.2.1 q) (z : ZZ) (hz : pJ S (q 95) = z) (hB : Bz z) (h0 : 0 < nc z) (k : Nat) (hk : k < 1000) (i : Nat) (hi : i < 100000) : Ct g mX10_pointY 0 0 [.ref (q 94), .int (nI k), .int (nI i)] S (pJ9 (fun r S' => r = zPy z k i ∧ S = S')) := by
  refine Ct.of (by decide) (Nat.le_of_ble_eq_true rfl) (fun Γ hg F T => ?_)
  subst hg
  show G Γ S 0 0 0 [(0, .ref (q 94)), (1, .int (nI k)), (2, .int (nI i))] []
  have hnc := (nc_e hB).2
  have hmd := Nat.mod_lt k h0
  have hzn := zN_b hB h0 k
  refine g_ldc2 F mw504 dX10_pointY_0 ?_
  refine g_aload_n (k := 0) F 0 rfl dX10_pointY_3 ?_
  refine g_iload_n (k := 1) F 1 rfl dX10_pointY_4 ?_
  refine g_callV F (kX10_y Γ.1 _ q hq z hz hB h0 k (by omega)) okX10_y (qi94 hq) mw474 ⟨(Nat.le_of_ble_eq_true rfl), (Nat.le_of_ble_eq_true rfl)⟩ rfl rfl (Nat.le_of_ble_eq_true rfl) ⟨(Nat.le_of_ble_eq_true rfl), (Nat.le_of_ble_eq_true rfl)⟩ dX10_pointY_5 (toJ (fun r1 S2 h3 => ?_))
  obtain ⟨er1, rfl⟩ := h3
  refine g_lmul F dX10_pointY_8 ?_
  refine g_ldc2 F mw504 dX10_pointY_9 ?_
  refine g_aload_n (k := 0) F 0 rfl dX10_pointY_12 ?_
  refine g_iload_n (k := 1) F 1 rfl dX10_pointY_13 ?_
  refine g_iconst (v := 1) F (by decide) dX10_pointY_14 ?_
  refine g_iadd F dX10_pointY_15 ?_
  refine g_rei (nI (k + 1)) (nadd rfl rfl) ?_
  refine g_callV F (kX10_y Γ.1 _ q hq z hz hB h0 ((k + 1)) (by omega)) okX10_y (qi94 hq) mw474 ⟨(Nat.le_of_ble_eq_true rfl), (Nat.le_of_ble_eq_true rfl)⟩ rfl rfl (Nat.le_of_ble_eq_true rfl) ⟨(Nat.le_of_ble_eq_true rfl), (Nat.le_of_ble_eq_true rfl)⟩ dX10_pointY_16 (toJ (fun r4 S5 h6 => ?_))
  obtain ⟨er4, rfl⟩ := h6
  refine g_aload_n (k := 0) F 0 rfl dX10_pointY_19 ?_
  refine g_iload_n (k := 1) F 1 rfl dX10_pointY_20 ?_
  refine g_callV F (kX10_y Γ.1 _ q hq z hz hB h0 k (by omega)) okX10_y (qi94 hq) mw474 ⟨(Nat.le_of_ble_eq_true rfl), (Nat.le_of_ble_eq_true rfl)⟩ rfl rfl (Nat.le_of_ble_eq_true rfl) ⟨(Nat.le_of_ble_eq_true rfl), (Nat.le_of_ble_eq_true rfl)⟩ dX10_pointY_21 (toJ (fun r7 S8 h9 => ?_))
  obtain ⟨er7, rfl⟩ := h9
  refine g_lsub F dX10_pointY_24 ?_
  refine g_lmul F dX10_pointY_25 ?_
  refine g_iload_n (k := 2) F 2 rfl dX10_pointY_26 ?_
  refine g_i2l F dX10_pointY_27 ?_
  refine g_lmul F dX10_pointY_28 ?_
  refine g_aload_n (k := 0) F 0 rfl dX10_pointY_29 ?_
  refine g_iload_n (k := 1) F 1 rfl dX10_pointY_30 ?_
  refine g_callV F (kX10_steps Γ.1 _ q hq z hz hB h0 k (by omega)) okX10_steps (qi94 hq) mw489 ⟨(Nat.le_of_ble_eq_true rfl), (Nat.le_of_ble_eq_true rfl)⟩ rfl rfl (Nat.le_of_ble_eq_true rfl) ⟨(Nat.le_of_ble_eq_true rfl), (Nat.le_of_ble_eq_true rfl)⟩ dX10_pointY_31 (toI (fun r10 S11 h12 => ?_))
  obtain ⟨rfl, rfl⟩ := h12
  refine g_i2l F dX10_pointY_34 ?_
  refine g_ldiv F dX10_pointY_35 (by rw [nI_L (by omega)]; exact lN_ne0 (by omega) (by omega)) ?_
  refine g_ladd F dX10_pointY_36 ?_
  refine g_lret F T ⟨_, rfl, ?_⟩ (Nat.le_of_ble_eq_true rfl) (Nat.le_of_ble_eq_true rfl) dX10_pointY_37
  exact ⟨by rw [er1, er4, er7, nI_L (by omega), nI_L (by omega)]; rfl, rfl⟩
set_option maxHeartbeats 4000000 in
set_option maxRecDepth 100000 in
theorem kX10_reaches (g : Glo) (S : PS) (q : Nat → Nat) (hq : Shp S.1 S.2.1 q) (z : ZZ) (hz : pJ S (q 95) = z) (hB : Bz z) (tx ty : Int64) (ht : wtn tx (-50000) 50000) (hu : wtn ty (-50000) 50000) : Ct g mX10_reaches 0 0 [.ref (q 94), .long tx, .long ty] S (pI9 (fun r S' => (r = 1 ∧ zRe z tx ty ∨ r = 0 ∧ ¬ zRe z tx ty) ∧ S = S')) := by
  refine Ct.of (by decide) (Nat.le_of_ble_eq_true rfl) (fun Γ hg F T => ?_)
  subst hg
  show G Γ S 0 0 0 [(0, .ref (q 94)), (1, .long tx), (3, .long ty)] []
  refine g_lload_n (k := 1) F 1 rfl dX10_reaches_0 ?_
  refine g_ldc2 F mw504 dX10_reaches_1 ?_
  refine g_aload_n (k := 0) F 0 rfl dX10_reaches_4 ?_
  refine gfX10_7 F (qi94 hq) (qr94_1 hq) dX10_reaches_5 ?_
  refine g_iconst (v := 0) F (by decide) dX10_reaches_8 ?_
  refine g_lalde hz (j := 0) F (qi95 hq) rfl (by rw [(qn95 hq)]; omega) (by rw [(qn95 hq)]; decide) dX10_reaches_9 ?_
  refine g_lmul F dX10_reaches_10 ?_
  refine g_lsub F dX10_reaches_11 ?_
  refine g_topl (fun x1 ex1 => ?_)
  refine g_lstore (L' := [(5, .long x1), (0, .ref (q 94)), (1, .long tx), (3, .long ty)]) F dX10_reaches_12 (Nat.le_of_ble_eq_true rfl) rfl ?_
  refine g_lload_n (k := 3) F 3 rfl dX10_reaches_14 ?_
  refine g_ldc2 F mw504 dX10_reaches_15 ?_
  refine g_aload_n (k := 0) F 1 rfl dX10_reaches_18 ?_
  refine gfX10_7 F (qi94 hq) (qr94_1 hq) dX10_reaches_19 ?_
  refine g_iconst (v := 1) F (by decide) dX10_reaches_22 ?_
  refine g_lalde hz (j := 1) F (qi95 hq) rfl (by rw [(qn95 hq)]; omega) (by rw [(qn95 hq)]; decide) dX10_reaches_23 ?_
  refine g_lmul F dX10_reaches_24 ?_
  refine g_lsub F dX10_reaches_25 ?_
  refine g_topl (fun x2 ex2 => ?_)
  refine g_lstore (L' := [(7, .long x2), (5, .long x1), (0, .ref (q 94)), (1, .long tx), (3, .long ty)]) F dX10_reaches_26 (Nat.le_of_ble_eq_true rfl) rfl ?_
  refine g_lload F 1 rfl dX10_reaches_28 ?_
  refine g_lload F 1 rfl dX10_reaches_30 ?_
  refine g_lmul F dX10_reaches_32 ?_
  refine g_lload F 0 rfl dX10_reaches_33 ?_
  refine g_lload F 0 rfl dX10_reaches_35 ?_
  refine g_lmul F dX10_reaches_37 ?_
  refine g_ladd F dX10_reaches_38 ?_
  refine g_callS F (kX10_root Γ.1 _ _ (by rw [ex1, ex2]; exact rt_D hB ht hu)) okX10_root mw513 ⟨(Nat.le_of_ble_eq_true rfl), (Nat.le_of_ble_eq_true rfl)⟩ rfl rfl (Nat.le_of_ble_eq_true rfl) ⟨(Nat.le_of_ble_eq_true rfl), (Nat.le_of_ble_eq_true rfl)⟩ dX10_reaches_39 (toJ (fun r3 S4 h5 => ?_))
  obtain ⟨er3, rfl⟩ := h5
  refine g_lstore (L' := [(9, .long r3), (7, .long x2), (5, .long x1), (0, .ref (q 94)), (1, .long tx), (3, .long ty)]) F dX10_reaches_42 (Nat.le_of_ble_eq_true rfl) rfl ?_
  refine g_ldc2 F mw504 dX10_reaches_44 ?_
  refine g_aload_n (k := 0) F 3 rfl dX10_reaches_47 ?_
  refine g_iconst (v := 0) F (by decide) dX10_reaches_48 ?_
  refine g_callV F (kX10_of Γ.1 _ q hq z hz hB 0 (by decide)) okX10_of (qi94 hq) mw496 ⟨(Nat.le_of_ble_eq_true rfl), (Nat.le_of_ble_eq_true rfl)⟩ rfl rfl (Nat.le_of_ble_eq_true rfl) ⟨(Nat.le_of_ble_eq_true rfl), (Nat.le_of_ble_eq_true rfl)⟩ dX10_reaches_49 (toJ (fun r6 S7 h8 => ?_))
  obtain ⟨er6, rfl⟩ := h8
  refine g_lmul F dX10_reaches_52 ?_
  refine g_topl (fun x9 ex9 => ?_)
  refine g_lstore (L' := [(11, .long x9), (9, .long r3), (7, .long x2), (5, .long x1), (0, .ref (q 94)), (1, .long tx), (3, .long ty)]) F dX10_reaches_53 (Nat.le_of_ble_eq_true rfl) rfl ?_
  refine g_ldc2 F mw504 dX10_reaches_55 ?_
  refine g_aload_n (k := 0) F 4 rfl dX10_reaches_58 ?_
  refine g_iconst (v := 1) F (by decide) dX10_reaches_59 ?_
  refine g_callV F (kX10_of Γ.1 _ q hq z hz hB 1 (by decide)) okX10_of (qi94 hq) mw496 ⟨(Nat.le_of_ble_eq_true rfl), (Nat.le_of_ble_eq_true rfl)⟩ rfl rfl (Nat.le_of_ble_eq_true rfl) ⟨(Nat.le_of_ble_eq_true rfl), (Nat.le_of_ble_eq_true rfl)⟩ dX10_reaches_60 (toJ (fun r10 S11 h12 => ?_))
  obtain ⟨er10, rfl⟩ := h12
  refine g_lmul F dX10_reaches_63 ?_
  refine g_topl (fun x13 ex13 => ?_)
  refine g_lstore (L' := [(13, .long x13), (11, .long x9), (9, .long r3), (7, .long x2), (5, .long x1), (0, .ref (q 94)), (1, .long tx), (3, .long ty)]) F dX10_reaches_64 (Nat.le_of_ble_eq_true rfl) rfl ?_
  refine g_lload F 2 rfl dX10_reaches_66 ?_
  refine g_lconst (v := 0) F (by decide) dX10_reaches_68 ?_
  refine g_lcmp F dX10_reaches_69 ?_
  refine g_if_le (t := 102) F dX10_reaches_70 (by decide) (fun c14 => ?_) (fun c14 => ?_)
  · rw [lc_le] at c14
    refine g_iconst (v := 0) F (by decide) dX10_reaches_102 ?_
    refine g_zret F T rfl ⟨_, rfl, ?_⟩ (Nat.le_of_ble_eq_true rfl) (Nat.le_of_ble_eq_true rfl) dX10_reaches_103
    have he : r3 = rt (zD z tx ty) := by rw [er3, ex1, ex2]; rfl
    have hp : x9 = 16 * z 2 := by rw [ex9, er6]
    have hl9 : x13 = 16 * z 3 := by rw [ex13, er10]
    refine ⟨Or.inr ⟨rfl, fun h => ?_⟩, rfl⟩
    unfold zRe sp at h
    rw [← he] at h
    exact absurd h.1 (L_nlt.mpr c14)
  · rw [lc_le] at c14
    refine g_lload F 2 rfl dX10_reaches_73 ?_
    refine g_lload F 1 rfl dX10_reaches_75 ?_
    refine g_lload F 0 rfl dX10_reaches_77 ?_
    refine g_ladd F dX10_reaches_79 ?_
    refine g_lcmp F dX10_reaches_80 ?_
    refine g_if_gt (t := 102) F dX10_reaches_81 (by decide) (fun c15 => ?_) (fun c15 => ?_)
    · rw [lc_gt] at c15
      refine g_iconst (v := 0) F (by decide) dX10_reaches_102 ?_
      refine g_zret F T rfl ⟨_, rfl, ?_⟩ (Nat.le_of_ble_eq_true rfl) (Nat.le_of_ble_eq_true rfl) dX10_reaches_103
      have he : r3 = rt (zD z tx ty) := by rw [er3, ex1, ex2]; rfl
      have hp : x9 = 16 * z 2 := by rw [ex9, er6]
      have hl9 : x13 = 16 * z 3 := by rw [ex13, er10]
      refine ⟨Or.inr ⟨rfl, fun h => ?_⟩, rfl⟩
      unfold zRe sp at h
      rw [← he, ← hp, ← hl9] at h
      exact absurd h.2.1 (L_nle.mpr c15)
    · rw [lc_gt] at c15
      refine g_lload F 2 rfl dX10_reaches_84 ?_
      refine g_lload F 1 rfl dX10_reaches_86 ?_
      refine g_lload F 0 rfl dX10_reaches_88 ?_
      refine g_lsub F dX10_reaches_90 ?_
      refine g_callS F (kX10_size Γ.1 _ _) okX10_size mw493 ⟨(Nat.le_of_ble_eq_true rfl), (Nat.le_of_ble_eq_true rfl)⟩ rfl rfl (Nat.le_of_ble_eq_true rfl) ⟨(Nat.le_of_ble_eq_true rfl), (Nat.le_of_ble_eq_true rfl)⟩ dX10_reaches_91 (toJ (fun r16 S17 h18 => ?_))
      obtain ⟨er16, rfl⟩ := h18
      refine g_lcmp F dX10_reaches_94 ?_
      refine g_if_lt (t := 102) F dX10_reaches_95 (by decide) (fun c19 => ?_) (fun c19 => ?_)
      · rw [lc_lt] at c19
        refine g_iconst (v := 0) F (by decide) dX10_reaches_102 ?_
        refine g_zret F T rfl ⟨_, rfl, ?_⟩ (Nat.le_of_ble_eq_true rfl) (Nat.le_of_ble_eq_true rfl) dX10_reaches_103
        have he : r3 = rt (zD z tx ty) := by rw [er3, ex1, ex2]; rfl
        have hp : x9 = 16 * z 2 := by rw [ex9, er6]
        have hl9 : x13 = 16 * z 3 := by rw [ex13, er10]
        refine ⟨Or.inr ⟨rfl, fun h => ?_⟩, rfl⟩
        unfold zRe sp at h
        rw [← he, ← hp, ← hl9, ← er16] at h
        exact absurd h.2.2 (L_nle.mpr c19)
      · rw [lc_lt] at c19
        refine g_iconst (v := 1) F (by decide) dX10_reaches_98 ?_
        refine g_goto (t := 103) F dX10_reaches_99 (by decide) ?_
        refine g_zret F T rfl ⟨_, rfl, ?_⟩ (Nat.le_of_ble_eq_true rfl) (Nat.le_of_ble_eq_true rfl) dX10_reaches_103
        have he : r3 = rt (zD z tx ty) := by rw [er3, ex1, ex2]; rfl
        have hp : x9 = 16 * z 2 := by rw [ex9, er6]
        have hl9 : x13 = 16 * z 3 := by rw [ex13, er10]
        refine ⟨Or.inl ⟨rfl, ?_⟩, rfl⟩
        unfold zRe sp
        rw [← he, ← hp, ← hl9, ← er16]
        exact ⟨L_nle.mp c14, L_nlt.mp c15, L_nlt.mp c19⟩
