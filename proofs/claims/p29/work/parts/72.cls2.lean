set_option maxHeartbeats 4000000 in
set_option maxRecDepth 100000 in
theorem kX4_previous (g : Glo) (S : PS) (q : Nat → Nat) (hq : Shp S.1 S.2.1 q) (s : Nat) (hs : s < 8) (z : ZZ) (hB : Bz z) (hc : Cs S q s z) (k : Nat) (hk : k < nc z) : Ct g mX4_previous 0 0 [.ref (q (10 * s + 2)), .int (nI k)] S (pI9 (fun r S' => r = nI (pv (nc z) k) ∧ S = S')) := by
  refine Ct.of (by decide) (Nat.le_of_ble_eq_true rfl) (fun Γ hg F T => ?_)
  subst hg
  show G Γ S 0 0 0 [(0, .ref (q (10 * s + 2))), (1, .int (nI k))] []
  have hnc := (nc_e hB).2
  refine g_iload_n (k := 1) F 1 rfl dX4_previous_0 ?_
  refine g_if_le (t := 10) F dX4_previous_1 (by decide) (fun c1 => ?_) (fun c1 => ?_)
  · have h9 : ¬ 0 < k := by
      rw [show (0 : Int32) = nI 0 from rfl, nI_leI (by omega) (by omega)] at c1
      omega
    refine g_aload_n (k := 0) F 0 rfl dX4_previous_10 ?_
    refine gfX4_21e F (qs2 hq hs) hc.n dX4_previous_11 ?_
    refine g_iconst (v := 1) F (by decide) dX4_previous_14 ?_
    refine g_isub F dX4_previous_15 ?_
    refine g_iret F T ⟨_, rfl, ?_⟩ (Nat.le_of_ble_eq_true rfl) (Nat.le_of_ble_eq_true rfl) dX4_previous_16
    exact ⟨(pv_e hnc hk).2 h9, rfl⟩
  · have h9 : 0 < k := by
      rw [show (0 : Int32) = nI 0 from rfl, nI_leI (by omega) (by omega)] at c1
      omega
    refine g_iload_n (k := 1) F 1 rfl dX4_previous_4 ?_
    refine g_iconst (v := 1) F (by decide) dX4_previous_5 ?_
    refine g_isub F dX4_previous_6 ?_
    refine g_goto (t := 16) F dX4_previous_7 (by decide) ?_
    refine g_iret F T ⟨_, rfl, ?_⟩ (Nat.le_of_ble_eq_true rfl) (Nat.le_of_ble_eq_true rfl) dX4_previous_16
    exact ⟨(pv_e hnc hk).1 h9, rfl⟩
set_option maxHeartbeats 4000000 in
set_option maxRecDepth 100000 in
theorem kX4_steps (g : Glo) (S : PS) (q : Nat → Nat) (hq : Shp S.1 S.2.1 q) (s : Nat) (hs : s < 8) (z : ZZ) (hB : Bz z) (hc : Cs S q s z) (k : Nat) (hk : k < nc z) (w : Int32) (hw : w.toInt64 = z 4) : Ct g mX4_steps 0 0 [.ref (q (10 * s + 2)), .int (nI k), .int w] S (pI9 (fun r S' => r = nI (zN z k) ∧ S = S')) := by
  refine Ct.of (by decide) (Nat.le_of_ble_eq_true rfl) (fun Γ hg F T => ?_)
  subst hg
  show G Γ S 0 0 0 [(0, .ref (q (10 * s + 2))), (1, .int (nI k)), (2, .int w)] []
  have hnc := (nc_e hB).2
  have h0 : 0 < nc z := by omega
  have bx0 := zX_b hB h0 k
  have bx1 := zX_b hB h0 (k + 1)
  have by0 := zY_b hB h0 k
  have by1 := zY_b hB h0 (k + 1)
  have hnx := nx_lt hk
  have bst : wtn w.toInt64 20 200 := by rw [hw]; exact hB.2.1.2.2.1
  refine g_aload_n (k := 0) F 0 rfl dX4_steps_0 ?_
  refine g_iload_n (k := 1) F 1 rfl dX4_steps_1 ?_
  refine g_callV F (kX4_next Γ.1 S q hq s hs (nc z) k (nc_e hB).2 (by omega) hc.n) okX4_next (qs2 hq hs) mw162 ⟨(Nat.le_of_ble_eq_true rfl), (Nat.le_of_ble_eq_true rfl)⟩ rfl rfl (Nat.le_of_ble_eq_true rfl) ⟨(Nat.le_of_ble_eq_true rfl), (Nat.le_of_ble_eq_true rfl)⟩ dX4_steps_2 (toI (fun r1 S2 h3 => ?_))
  obtain ⟨rfl, rfl⟩ := h3
  refine g_istore_n (k := 3) (L' := [(3, .int (nI (nx (nc z) k))), (0, .ref (q (10 * s + 2))), (1, .int (nI k)), (2, .int w)]) F dX4_steps_5 (Nat.le_of_ble_eq_true rfl) rfl ?_
  refine g_aload_n (k := 0) F 1 rfl dX4_steps_6 ?_
  refine gfX4_9 F (qs2 hq hs) (qt2_1 hq hs) dX4_steps_7 ?_
  refine g_iload_n (k := 3) F 0 rfl dX4_steps_10 ?_
  refine g_ialde rfl (j := (nx (nc z) k)) F (qs3 hq hs) rfl (by rw [(qm3 hq hs)]; omega) (by rw [(qm3 hq hs)]; decide) dX4_steps_11 ?_
  refine g_aload_n (k := 0) F 1 rfl dX4_steps_12 ?_
  refine gfX4_9 F (qs2 hq hs) (qt2_1 hq hs) dX4_steps_13 ?_
  refine g_iload_n (k := 1) F 2 rfl dX4_steps_16 ?_
  refine g_ialde rfl (j := k) F (qs3 hq hs) rfl (by rw [(qm3 hq hs)]; omega) (by rw [(qm3 hq hs)]; decide) dX4_steps_17 ?_
  refine g_isub F dX4_steps_18 ?_
  refine g_mabs F mw152 ⟨(Nat.le_of_ble_eq_true rfl), (Nat.le_of_ble_eq_true rfl)⟩ ⟨(Nat.le_of_ble_eq_true rfl), (Nat.le_of_ble_eq_true rfl)⟩ dX4_steps_19 ?_
  refine g_aload_n (k := 0) F 1 rfl dX4_steps_22 ?_
  refine gfX4_15 F (qs2 hq hs) (qt2_2 hq hs) dX4_steps_23 ?_
  refine g_iload_n (k := 3) F 0 rfl dX4_steps_26 ?_
  refine g_ialde rfl (j := (nx (nc z) k)) F (qs4 hq hs) rfl (by rw [(qm4 hq hs)]; omega) (by rw [(qm4 hq hs)]; decide) dX4_steps_27 ?_
  refine g_aload_n (k := 0) F 1 rfl dX4_steps_28 ?_
  refine gfX4_15 F (qs2 hq hs) (qt2_2 hq hs) dX4_steps_29 ?_
  refine g_iload_n (k := 1) F 2 rfl dX4_steps_32 ?_
  refine g_ialde rfl (j := k) F (qs4 hq hs) rfl (by rw [(qm4 hq hs)]; omega) (by rw [(qm4 hq hs)]; decide) dX4_steps_33 ?_
  refine g_isub F dX4_steps_34 ?_
  refine g_mabs F mw152 ⟨(Nat.le_of_ble_eq_true rfl), (Nat.le_of_ble_eq_true rfl)⟩ ⟨(Nat.le_of_ble_eq_true rfl), (Nat.le_of_ble_eq_true rfl)⟩ dX4_steps_35 ?_
  refine g_mmax F mw156 ⟨(Nat.le_of_ble_eq_true rfl), (Nat.le_of_ble_eq_true rfl)⟩ ⟨(Nat.le_of_ble_eq_true rfl), (Nat.le_of_ble_eq_true rfl)⟩ dX4_steps_38 ?_
  refine g_topi (fun x4 ex4 => ?_)
  refine g_istore (L' := [(4, .int x4), (3, .int (nI (nx (nc z) k))), (0, .ref (q (10 * s + 2))), (1, .int (nI k)), (2, .int w)]) F dX4_steps_41 (Nat.le_of_ble_eq_true rfl) rfl ?_
  refine g_lconst (v := 1) F (by decide) dX4_steps_43 ?_
  refine g_iload F 0 rfl dX4_steps_44 ?_
  refine g_iload_n (k := 2) F 4 rfl dX4_steps_46 ?_
  refine g_iadd F dX4_steps_47 ?_
  refine g_iconst (v := 1) F (by decide) dX4_steps_48 ?_
  refine g_isub F dX4_steps_49 ?_
  refine g_i2l F dX4_steps_50 ?_
  refine g_iload_n (k := 2) F 4 rfl dX4_steps_51 ?_
  refine g_i2l F dX4_steps_52 ?_
  refine g_callSN (host := "PolarPlanimeter") F (kX9_quotient Γ.1 _ _ _) okX9_quotient nwM51 ⟨(Nat.le_of_ble_eq_true rfl), (Nat.le_of_ble_eq_true rfl)⟩ rfl rfl (Nat.le_of_ble_eq_true rfl) ⟨(Nat.le_of_ble_eq_true rfl), (Nat.le_of_ble_eq_true rfl)⟩ dX4_steps_53 (toJ (fun r5 S6 h7 => ?_))
  obtain ⟨er5, rfl⟩ := h7
  refine g_mmaxL F mw159 ⟨(Nat.le_of_ble_eq_true rfl), (Nat.le_of_ble_eq_true rfl)⟩ ⟨(Nat.le_of_ble_eq_true rfl), (Nat.le_of_ble_eq_true rfl)⟩ dX4_steps_56 ?_
  refine g_l2i F dX4_steps_59 ?_
  refine g_iret F T ⟨_, rfl, ?_⟩ (Nat.le_of_ble_eq_true rfl) (Nat.le_of_ble_eq_true rfl) dX4_steps_60
  exact ⟨(nst_c (by rw [hc.X hk]; exact bx0) (by rw [hc.X1 hk]; exact bx1) (by rw [hc.Y hk]; exact by0) (by rw [hc.Y1 hk]; exact by1) bst rfl rfl ex4 er5).trans (by rw [hc.X hk, hc.X1 hk, hc.Y hk, hc.Y1 hk, hw]; rfl), rfl⟩
set_option maxHeartbeats 4000000 in
set_option maxRecDepth 100000 in
theorem kX4_allSteps (g : Glo) (S : PS) (q : Nat → Nat) (hq : Shp S.1 S.2.1 q) (s : Nat) (hs : s < 8) (z : ZZ) (hB : Bz z) (hc : Cs S q s z) (w : Int32) (hw : w.toInt64 = z 4) : Ct g mX4_allSteps 0 0 [.ref (q (10 * s + 2)), .int w] S (pJ9 (fun r S' => r = zAs z ∧ S = S')) := by
  refine Ct.of (by decide) (Nat.le_of_ble_eq_true rfl) (fun Γ hg F T => ?_)
  subst hg
  show G Γ S 0 0 0 [(0, .ref (q (10 * s + 2))), (1, .int w)] []
  have hnc := (nc_e hB).2
  refine g_lconst (v := 0) F (by decide) dX4_allSteps_0 ?_
  refine g_lstore_n (k := 2) (L' := [(2, .long 0), (0, .ref (q (10 * s + 2))), (1, .int w)]) F dX4_allSteps_1 (Nat.le_of_ble_eq_true rfl) rfl ?_
  refine g_iconst (v := 0) F (by decide) dX4_allSteps_2 ?_
  refine g_istore (L' := [(4, .int 0), (2, .long 0), (0, .ref (q (10 * s + 2))), (1, .int w)]) F dX4_allSteps_3 (Nat.le_of_ble_eq_true rfl) rfl ?_
  have lp1 : ∀ (n9 : Nat) (i : Nat) (a : Int64), nc z < i + n9 → (i ≤ nc z) → (a = sumF (fun k => lN (zN z k)) i) → G Γ S 0 0 5 [(4, .int (nI i)), (2, .long a), (0, .ref (q (10 * s + 2))), (1, .int w)] [] := by
    intro n9
    induction n9 with
    | zero =>
      intro i a hm9 hi ha
      exact absurd hm9 (by omega)
    | succ n9 ihlp1 =>
      intro i a hm9 hi ha
      refine g_iload F 0 rfl dX4_allSteps_5 ?_
      refine g_aload_n (k := 0) F 2 rfl dX4_allSteps_7 ?_
      refine gfX4_21e F (qs2 hq hs) hc.n dX4_allSteps_8 ?_
      refine g_icmp_ge (t := 31) F dX4_allSteps_11 (by decide) (fun c2 => ?_) (fun c2 => ?_)
      · obtain rfl : i = nc z := by
          rw [nI_leI (by omega) (by omega)] at c2
          omega
        refine g_lload_n (k := 2) F 1 rfl dX4_allSteps_31 ?_
        refine g_lret F T ⟨_, rfl, ?_⟩ (Nat.le_of_ble_eq_true rfl) (Nat.le_of_ble_eq_true rfl) dX4_allSteps_32
        exact ⟨ha, rfl⟩
      · have hi9 : i < nc z := by
          rw [nI_leI (by omega) (by omega)] at c2
          omega
        have hnx := nx_lt hi9
        refine g_lload_n (k := 2) F 1 rfl dX4_allSteps_14 ?_
        refine g_aload_n (k := 0) F 2 rfl dX4_allSteps_15 ?_
        refine g_iload F 0 rfl dX4_allSteps_16 ?_
        refine g_iload_n (k := 1) F 3 rfl dX4_allSteps_18 ?_
        refine g_callV F (kX4_steps Γ.1 S q hq s hs z hB hc i (by omega) w hw) okX4_steps (qs2 hq hs) mw369 ⟨(Nat.le_of_ble_eq_true rfl), (Nat.le_of_ble_eq_true rfl)⟩ rfl rfl (Nat.le_of_ble_eq_true rfl) ⟨(Nat.le_of_ble_eq_true rfl), (Nat.le_of_ble_eq_true rfl)⟩ dX4_allSteps_19 (toI (fun r3 S4 h5 => ?_))
        obtain ⟨rfl, rfl⟩ := h5
        refine g_i2l F dX4_allSteps_22 ?_
        refine g_ladd F dX4_allSteps_23 ?_
        refine g_topl (fun x6 ex6 => ?_)
        refine g_lstore_n (k := 2) (L' := [(2, .long x6), (4, .int (nI i)), (0, .ref (q (10 * s + 2))), (1, .int w)]) F dX4_allSteps_24 (Nat.le_of_ble_eq_true rfl) rfl ?_
        obtain ⟨x7, ex7⟩ : ∃ y9 : Int32, y9 = (nI i) + 1 := ⟨_, rfl⟩
        refine g_iinc (k := 1) (v := x7) (L' := [(4, .int x7), (2, .long x6), (0, .ref (q (10 * s + 2))), (1, .int w)]) F dX4_allSteps_25 rfl (by rw [ex7]; rfl) (Nat.le_of_ble_eq_true rfl) rfl ?_
        refine g_goto (t := 5) F dX4_allSteps_28 (by decide) ?_
        obtain rfl : x7 = nI (i + 1) := (ex7.trans (nI_1 _))
        refine g_sub (L' := [(4, .int (nI (i + 1))), (2, .long x6), (0, .ref (q (10 * s + 2))), (1, .int w)]) [0, 1, 2, 3] rfl ?_
        exact ihlp1 (i + 1) (x6) (by omega) (by omega) (by rw [ex6, ha, nI_L (by have := zN_b hB (show 0 < nc z by omega) i; omega)]; rfl)
  exact lp1 (nc z + 1) 0 0 (by omega) (by omega) rfl
set_option maxHeartbeats 4000000 in
set_option maxRecDepth 100000 in
theorem kX4_twiceArea (g : Glo) (S : PS) (q : Nat → Nat) (hq : Shp S.1 S.2.1 q) (s : Nat) (hs : s < 8) (z : ZZ) (hB : Bz z) (hc : Cs S q s z) : Ct g mX4_twiceArea 0 0 [.ref (q (10 * s + 2))] S (pJ9 (fun r S' => r = zTw z ∧ S = S')) := by
  refine Ct.of (by decide) (Nat.le_of_ble_eq_true rfl) (fun Γ hg F T => ?_)
  subst hg
  show G Γ S 0 0 0 [(0, .ref (q (10 * s + 2)))] []
  have hnc := (nc_e hB).2
  refine g_lconst (v := 0) F (by decide) dX4_twiceArea_0 ?_
  refine g_lstore_n (k := 1) (L' := [(1, .long 0), (0, .ref (q (10 * s + 2)))]) F dX4_twiceArea_1 (Nat.le_of_ble_eq_true rfl) rfl ?_
  refine g_iconst (v := 0) F (by decide) dX4_twiceArea_2 ?_
  refine g_istore_n (k := 3) (L' := [(3, .int 0), (1, .long 0), (0, .ref (q (10 * s + 2)))]) F dX4_twiceArea_3 (Nat.le_of_ble_eq_true rfl) rfl ?_
  have lp1 : ∀ (n9 : Nat) (i : Nat) (a : Int64), nc z < i + n9 → (i ≤ nc z) → (a = sumF (fun k => zX z k * zY z (k + 1) - zX z (k + 1) * zY z k) i) → G Γ S 0 0 4 [(3, .int (nI i)), (1, .long a), (0, .ref (q (10 * s + 2)))] [] := by
    intro n9
    induction n9 with
    | zero =>
      intro i a hm9 hi ha
      exact absurd hm9 (by omega)
    | succ n9 ihlp1 =>
      intro i a hm9 hi ha
      refine g_iload_n (k := 3) F 0 rfl dX4_twiceArea_4 ?_
      refine g_aload_n (k := 0) F 2 rfl dX4_twiceArea_5 ?_
      refine gfX4_21e F (qs2 hq hs) hc.n dX4_twiceArea_6 ?_
      refine g_icmp_ge (t := 61) F dX4_twiceArea_9 (by decide) (fun c2 => ?_) (fun c2 => ?_)
      · obtain rfl : i = nc z := by
          rw [nI_leI (by omega) (by omega)] at c2
          omega
        refine g_lload_n (k := 1) F 1 rfl dX4_twiceArea_61 ?_
        refine g_lret F T ⟨_, rfl, ?_⟩ (Nat.le_of_ble_eq_true rfl) (Nat.le_of_ble_eq_true rfl) dX4_twiceArea_62
        exact ⟨ha, rfl⟩
      · have hi9 : i < nc z := by
          rw [nI_leI (by omega) (by omega)] at c2
          omega
        have hnx := nx_lt hi9
        refine g_aload_n (k := 0) F 2 rfl dX4_twiceArea_12 ?_
        refine g_iload_n (k := 3) F 0 rfl dX4_twiceArea_13 ?_
        refine g_callV F (kX4_next Γ.1 S q hq s hs (nc z) i (nc_e hB).2 (by omega) hc.n) okX4_next (qs2 hq hs) mw162 ⟨(Nat.le_of_ble_eq_true rfl), (Nat.le_of_ble_eq_true rfl)⟩ rfl rfl (Nat.le_of_ble_eq_true rfl) ⟨(Nat.le_of_ble_eq_true rfl), (Nat.le_of_ble_eq_true rfl)⟩ dX4_twiceArea_14 (toI (fun r3 S4 h5 => ?_))
        obtain ⟨rfl, rfl⟩ := h5
        refine g_istore (L' := [(4, .int (nI (nx (nc z) i))), (3, .int (nI i)), (1, .long a), (0, .ref (q (10 * s + 2)))]) F dX4_twiceArea_17 (Nat.le_of_ble_eq_true rfl) rfl ?_
        refine g_lload_n (k := 1) F 2 rfl dX4_twiceArea_19 ?_
        refine g_aload_n (k := 0) F 3 rfl dX4_twiceArea_20 ?_
        refine gfX4_9 F (qs2 hq hs) (qt2_1 hq hs) dX4_twiceArea_21 ?_
        refine g_iload_n (k := 3) F 1 rfl dX4_twiceArea_24 ?_
        refine g_ialde rfl (j := i) F (qs3 hq hs) rfl (by rw [(qm3 hq hs)]; omega) (by rw [(qm3 hq hs)]; decide) dX4_twiceArea_25 ?_
        refine g_i2l F dX4_twiceArea_26 ?_
        refine g_aload_n (k := 0) F 3 rfl dX4_twiceArea_27 ?_
        refine gfX4_15 F (qs2 hq hs) (qt2_2 hq hs) dX4_twiceArea_28 ?_
        refine g_iload F 0 rfl dX4_twiceArea_31 ?_
        refine g_ialde rfl (j := (nx (nc z) i)) F (qs4 hq hs) rfl (by rw [(qm4 hq hs)]; omega) (by rw [(qm4 hq hs)]; decide) dX4_twiceArea_33 ?_
        refine g_i2l F dX4_twiceArea_34 ?_
        refine g_lmul F dX4_twiceArea_35 ?_
        refine g_aload_n (k := 0) F 3 rfl dX4_twiceArea_36 ?_
        refine gfX4_9 F (qs2 hq hs) (qt2_1 hq hs) dX4_twiceArea_37 ?_
        refine g_iload F 0 rfl dX4_twiceArea_40 ?_
        refine g_ialde rfl (j := (nx (nc z) i)) F (qs3 hq hs) rfl (by rw [(qm3 hq hs)]; omega) (by rw [(qm3 hq hs)]; decide) dX4_twiceArea_42 ?_
        refine g_i2l F dX4_twiceArea_43 ?_
        refine g_aload_n (k := 0) F 3 rfl dX4_twiceArea_44 ?_
        refine gfX4_15 F (qs2 hq hs) (qt2_2 hq hs) dX4_twiceArea_45 ?_
        refine g_iload_n (k := 3) F 1 rfl dX4_twiceArea_48 ?_
        refine g_ialde rfl (j := i) F (qs4 hq hs) rfl (by rw [(qm4 hq hs)]; omega) (by rw [(qm4 hq hs)]; decide) dX4_twiceArea_49 ?_
        refine g_i2l F dX4_twiceArea_50 ?_
        refine g_lmul F dX4_twiceArea_51 ?_
        refine g_lsub F dX4_twiceArea_52 ?_
        refine g_ladd F dX4_twiceArea_53 ?_
        refine g_topl (fun x6 ex6 => ?_)
        refine g_lstore_n (k := 1) (L' := [(1, .long x6), (4, .int (nI (nx (nc z) i))), (3, .int (nI i)), (0, .ref (q (10 * s + 2)))]) F dX4_twiceArea_54 (Nat.le_of_ble_eq_true rfl) rfl ?_
        obtain ⟨x7, ex7⟩ : ∃ y9 : Int32, y9 = (nI i) + 1 := ⟨_, rfl⟩
        refine g_iinc (k := 2) (v := x7) (L' := [(3, .int x7), (1, .long x6), (4, .int (nI (nx (nc z) i))), (0, .ref (q (10 * s + 2)))]) F dX4_twiceArea_55 rfl (by rw [ex7]; rfl) (Nat.le_of_ble_eq_true rfl) rfl ?_
        refine g_goto (t := 4) F dX4_twiceArea_58 (by decide) ?_
        obtain rfl : x7 = nI (i + 1) := (ex7.trans (nI_1 _))
        refine g_sub (L' := [(3, .int (nI (i + 1))), (1, .long x6), (0, .ref (q (10 * s + 2)))]) [0, 1, 3] rfl ?_
        exact ihlp1 (i + 1) (x6) (by omega) (by omega) (by rw [ex6, ha, hc.X hi9, hc.Y1 hi9, hc.X1 hi9, hc.Y hi9]; rfl)
  exact lp1 (nc z + 1) 0 0 (by omega) (by omega) rfl
set_option maxHeartbeats 4000000 in
set_option maxRecDepth 100000 in
theorem kX4_area (g : Glo) (S : PS) (q : Nat → Nat) (hq : Shp S.1 S.2.1 q) (s : Nat) (hs : s < 8) (z : ZZ) (hB : Bz z) (hc : Cs S q s z) : Ct g mX4_area 0 0 [.ref (q (10 * s + 2))] S (pJ9 (fun r S' => r = zTw z / 2 ∧ S = S')) := by
  refine Ct.of (by decide) (Nat.le_of_ble_eq_true rfl) (fun Γ hg F T => ?_)
  subst hg
  show G Γ S 0 0 0 [(0, .ref (q (10 * s + 2)))] []
  refine g_aload_n (k := 0) F 0 rfl dX4_area_0 ?_
  refine g_callV F (kX4_twiceArea Γ.1 S q hq s hs z hB hc ) okX4_twiceArea (qs2 hq hs) mw314 ⟨(Nat.le_of_ble_eq_true rfl), (Nat.le_of_ble_eq_true rfl)⟩ rfl rfl (Nat.le_of_ble_eq_true rfl) ⟨(Nat.le_of_ble_eq_true rfl), (Nat.le_of_ble_eq_true rfl)⟩ dX4_area_1 (toJ (fun r1 S2 h3 => ?_))
  obtain ⟨er1, rfl⟩ := h3
  refine g_ldc2 F mw313 dX4_area_4 ?_
  refine g_ldiv F dX4_area_7 (by decide) ?_
  refine g_lret F T ⟨_, rfl, ?_⟩ (Nat.le_of_ble_eq_true rfl) (Nat.le_of_ble_eq_true rfl) dX4_area_8
  exact ⟨by rw [er1], rfl⟩
set_option maxHeartbeats 4000000 in
set_option maxRecDepth 100000 in
theorem kX4_crossing (g : Glo) (S : PS) (q : Nat → Nat) (hq : Shp S.1 S.2.1 q) (s : Nat) (hs : s < 8) (z : ZZ) (hB : Bz z) (hc : Cs S q s z) (k : Nat) (hk : k < nc z) (x y : Int32) (hx : x.toInt64 = z 0) (hy : y.toInt64 = z 1) : Ct g mX4_crossing 0 0 [.ref (q (10 * s + 2)), .int (nI k), .int x, .int y] S (pI9 (fun r S' => r.toInt64 = zCr z k ∧ S = S')) := by
  refine Ct.of (by decide) (Nat.le_of_ble_eq_true rfl) (fun Γ hg F T => ?_)
  subst hg
  show G Γ S 0 0 0 [(0, .ref (q (10 * s + 2))), (1, .int (nI k)), (2, .int x), (3, .int y)] []
  have hnc := (nc_e hB).2
  have h0 : 0 < nc z := by omega
  have bx0 := zX_b hB h0 k
  have bx1 := zX_b hB h0 (k + 1)
  have by0 := zY_b hB h0 k
  have by1 := zY_b hB h0 (k + 1)
  have hnx := nx_lt hk
  refine g_aload_n (k := 0) F 0 rfl dX4_crossing_0 ?_
  refine g_iload_n (k := 1) F 1 rfl dX4_crossing_1 ?_
  refine g_callV F (kX4_next Γ.1 S q hq s hs (nc z) k (nc_e hB).2 (by omega) hc.n) okX4_next (qs2 hq hs) mw162 ⟨(Nat.le_of_ble_eq_true rfl), (Nat.le_of_ble_eq_true rfl)⟩ rfl rfl (Nat.le_of_ble_eq_true rfl) ⟨(Nat.le_of_ble_eq_true rfl), (Nat.le_of_ble_eq_true rfl)⟩ dX4_crossing_2 (toI (fun r1 S2 h3 => ?_))
  obtain ⟨rfl, rfl⟩ := h3
  refine g_istore (L' := [(4, .int (nI (nx (nc z) k))), (0, .ref (q (10 * s + 2))), (1, .int (nI k)), (2, .int x), (3, .int y)]) F dX4_crossing_5 (Nat.le_of_ble_eq_true rfl) rfl ?_
  refine g_aload_n (k := 0) F 1 rfl dX4_crossing_7 ?_
  refine gfX4_9 F (qs2 hq hs) (qt2_1 hq hs) dX4_crossing_8 ?_
  refine g_iload_n (k := 1) F 2 rfl dX4_crossing_11 ?_
  refine g_ialde rfl (j := k) F (qs3 hq hs) rfl (by rw [(qm3 hq hs)]; omega) (by rw [(qm3 hq hs)]; decide) dX4_crossing_12 ?_
  refine g_i2l F dX4_crossing_13 ?_
  refine g_aload_n (k := 0) F 1 rfl dX4_crossing_14 ?_
  refine gfX4_15 F (qs2 hq hs) (qt2_2 hq hs) dX4_crossing_15 ?_
  refine g_iload_n (k := 1) F 2 rfl dX4_crossing_18 ?_
  refine g_ialde rfl (j := k) F (qs4 hq hs) rfl (by rw [(qm4 hq hs)]; omega) (by rw [(qm4 hq hs)]; decide) dX4_crossing_19 ?_
  refine g_i2l F dX4_crossing_20 ?_
  refine g_aload_n (k := 0) F 1 rfl dX4_crossing_21 ?_
  refine gfX4_9 F (qs2 hq hs) (qt2_1 hq hs) dX4_crossing_22 ?_
  refine g_iload F 0 rfl dX4_crossing_25 ?_
  refine g_ialde rfl (j := (nx (nc z) k)) F (qs3 hq hs) rfl (by rw [(qm3 hq hs)]; omega) (by rw [(qm3 hq hs)]; decide) dX4_crossing_27 ?_
  refine g_i2l F dX4_crossing_28 ?_
  refine g_aload_n (k := 0) F 1 rfl dX4_crossing_29 ?_
  refine gfX4_15 F (qs2 hq hs) (qt2_2 hq hs) dX4_crossing_30 ?_
  refine g_iload F 0 rfl dX4_crossing_33 ?_
  refine g_ialde rfl (j := (nx (nc z) k)) F (qs4 hq hs) rfl (by rw [(qm4 hq hs)]; omega) (by rw [(qm4 hq hs)]; decide) dX4_crossing_35 ?_
  refine g_i2l F dX4_crossing_36 ?_
  refine g_iload_n (k := 2) F 3 rfl dX4_crossing_37 ?_
  refine g_i2l F dX4_crossing_38 ?_
  refine g_iload_n (k := 3) F 4 rfl dX4_crossing_39 ?_
  refine g_i2l F dX4_crossing_40 ?_
  refine g_callSN (host := "PolarPlanimeter") F (kX9_cross Γ.1 _ _ _ _ _ _ _) okX9_cross nwM52 ⟨(Nat.le_of_ble_eq_true rfl), (Nat.le_of_ble_eq_true rfl)⟩ rfl rfl (Nat.le_of_ble_eq_true rfl) ⟨(Nat.le_of_ble_eq_true rfl), (Nat.le_of_ble_eq_true rfl)⟩ dX4_crossing_41 (toJ (fun r4 S5 h6 => ?_))
  obtain ⟨er4, rfl⟩ := h6
  have hsd : r4 = zSd z k := by rw [er4, hc.X hk, hc.Y hk, hc.X1 hk, hc.Y1 hk, hx, hy]; rfl
  refine g_lstore (L' := [(5, .long r4), (4, .int (nI (nx (nc z) k))), (0, .ref (q (10 * s + 2))), (1, .int (nI k)), (2, .int x), (3, .int y)]) F dX4_crossing_44 (Nat.le_of_ble_eq_true rfl) rfl ?_
  refine g_aload_n (k := 0) F 2 rfl dX4_crossing_46 ?_
  refine gfX4_15 F (qs2 hq hs) (qt2_2 hq hs) dX4_crossing_47 ?_
  refine g_iload_n (k := 1) F 3 rfl dX4_crossing_50 ?_
  refine g_ialde rfl (j := k) F (qs4 hq hs) rfl (by rw [(qm4 hq hs)]; omega) (by rw [(qm4 hq hs)]; decide) dX4_crossing_51 ?_
  refine g_iload_n (k := 3) F 5 rfl dX4_crossing_52 ?_
  have jn8 : ¬ ((zY z k ≤ z 1 ∧ z 1 < zY z (k + 1)) ∧ 0 < zSd z k) → G Γ S 0 0 76 [(5, .long r4), (4, .int (nI (nx (nc z) k))), (0, .ref (q (10 * s + 2))), (1, .int (nI k)), (2, .int x), (3, .int y)] [] := by
    intro  hj
    refine g_aload_n (k := 0) F 2 rfl dX4_crossing_76 ?_
    refine gfX4_15 F (qs2 hq hs) (qt2_2 hq hs) dX4_crossing_77 ?_
    refine g_iload_n (k := 1) F 3 rfl dX4_crossing_80 ?_
    refine g_ialde rfl (j := k) F (qs4 hq hs) rfl (by rw [(qm4 hq hs)]; omega) (by rw [(qm4 hq hs)]; decide) dX4_crossing_81 ?_
    refine g_iload_n (k := 3) F 5 rfl dX4_crossing_82 ?_
    refine g_icmp_le (t := 106) F dX4_crossing_83 (by decide) (fun c9 => ?_) (fun c9 => ?_)
    · have g1 : zY z k ≤ z 1 := by
        rw [← hy, ← hc.Y hk]
        exact i64le.mp c9
      refine g_iconst (v := 0) F (by decide) dX4_crossing_106 ?_
      refine g_iret F T ⟨_, rfl, ?_⟩ (Nat.le_of_ble_eq_true rfl) (Nat.le_of_ble_eq_true rfl) dX4_crossing_107
      exact ⟨zcr_0 hj (fun h => absurd g1 (L_nle.mpr h.1.1)), rfl⟩
    · have g1 : ¬ zY z k ≤ z 1 := by
        rw [← hy, ← hc.Y hk]
        exact fun h => c9 (i64le.mpr h)
      refine g_aload_n (k := 0) F 2 rfl dX4_crossing_86 ?_
      refine gfX4_15 F (qs2 hq hs) (qt2_2 hq hs) dX4_crossing_87 ?_
      refine g_iload F 1 rfl dX4_crossing_90 ?_
      refine g_ialde rfl (j := (nx (nc z) k)) F (qs4 hq hs) rfl (by rw [(qm4 hq hs)]; omega) (by rw [(qm4 hq hs)]; decide) dX4_crossing_92 ?_
      refine g_iload_n (k := 3) F 5 rfl dX4_crossing_93 ?_
      refine g_icmp_gt (t := 106) F dX4_crossing_94 (by decide) (fun c10 => ?_) (fun c10 => ?_)
      · have g2 : z 1 < zY z (k + 1) := by
          rw [← hy, ← hc.Y1 hk]
          exact i64lt.mp c10
        refine g_iconst (v := 0) F (by decide) dX4_crossing_106 ?_
        refine g_iret F T ⟨_, rfl, ?_⟩ (Nat.le_of_ble_eq_true rfl) (Nat.le_of_ble_eq_true rfl) dX4_crossing_107
        exact ⟨zcr_0 hj (fun h => absurd g2 (L_nlt.mpr h.1.2)), rfl⟩
      · have g2 : ¬ z 1 < zY z (k + 1) := by
          rw [← hy, ← hc.Y1 hk]
          exact fun h => c10 (i64lt.mpr h)
        refine g_lload F 0 rfl dX4_crossing_97 ?_
        refine g_lconst (v := 0) F (by decide) dX4_crossing_99 ?_
        refine g_lcmp F dX4_crossing_100 ?_
        refine g_if_ge (t := 106) F dX4_crossing_101 (by decide) (fun c11 => ?_) (fun c11 => ?_)
        · rw [lc_ge] at c11
          have g3 : 0 ≤ zSd z k := by rw [← hsd]; exact c11
          refine g_iconst (v := 0) F (by decide) dX4_crossing_106 ?_
          refine g_iret F T ⟨_, rfl, ?_⟩ (Nat.le_of_ble_eq_true rfl) (Nat.le_of_ble_eq_true rfl) dX4_crossing_107
          exact ⟨zcr_0 hj (fun h => absurd g3 (L_nle.mpr h.2)), rfl⟩
        · rw [lc_ge] at c11
          have g3 : ¬ 0 ≤ zSd z k := by rw [← hsd]; exact c11
          refine g_iconst (v := (-1)) F (by decide) dX4_crossing_104 ?_
          refine g_iret F T ⟨_, rfl, ?_⟩ (Nat.le_of_ble_eq_true rfl) (Nat.le_of_ble_eq_true rfl) dX4_crossing_105
          exact ⟨zcr_m hj ⟨L_nle.mp g1, L_nlt.mp g2⟩ (L_nle.mp g3), rfl⟩
  refine g_icmp_gt (t := 76) F dX4_crossing_53 (by decide) (fun c7 => ?_) (fun c7 => ?_)
  · have g1 : z 1 < zY z k := by
      rw [← hy, ← hc.Y hk]
      exact i64lt.mp c7
    exact jn8  (fun h => absurd g1 (L_nlt.mpr h.1.1))
  · have g1 : ¬ z 1 < zY z k := by
      rw [← hy, ← hc.Y hk]
      exact fun h => c7 (i64lt.mpr h)
    refine g_aload_n (k := 0) F 2 rfl dX4_crossing_56 ?_
    refine gfX4_15 F (qs2 hq hs) (qt2_2 hq hs) dX4_crossing_57 ?_
    refine g_iload F 1 rfl dX4_crossing_60 ?_
    refine g_ialde rfl (j := (nx (nc z) k)) F (qs4 hq hs) rfl (by rw [(qm4 hq hs)]; omega) (by rw [(qm4 hq hs)]; decide) dX4_crossing_62 ?_
    refine g_iload_n (k := 3) F 5 rfl dX4_crossing_63 ?_
    refine g_icmp_le (t := 76) F dX4_crossing_64 (by decide) (fun c12 => ?_) (fun c12 => ?_)
    · have g2 : zY z (k + 1) ≤ z 1 := by
        rw [← hy, ← hc.Y1 hk]
        exact i64le.mp c12
      exact jn8  (fun h => absurd g2 (L_nle.mpr h.1.2))
    · have g2 : ¬ zY z (k + 1) ≤ z 1 := by
        rw [← hy, ← hc.Y1 hk]
        exact fun h => c12 (i64le.mpr h)
      refine g_lload F 0 rfl dX4_crossing_67 ?_
      refine g_lconst (v := 0) F (by decide) dX4_crossing_69 ?_
      refine g_lcmp F dX4_crossing_70 ?_
      refine g_if_le (t := 76) F dX4_crossing_71 (by decide) (fun c13 => ?_) (fun c13 => ?_)
      · rw [lc_le] at c13
        have g3 : zSd z k ≤ 0 := by rw [← hsd]; exact c13
        exact jn8  (fun h => absurd g3 (L_nle.mpr h.2))
      · rw [lc_le] at c13
        have g3 : ¬ zSd z k ≤ 0 := by rw [← hsd]; exact c13
        refine g_iconst (v := 1) F (by decide) dX4_crossing_74 ?_
        refine g_iret F T ⟨_, rfl, ?_⟩ (Nat.le_of_ble_eq_true rfl) (Nat.le_of_ble_eq_true rfl) dX4_crossing_75
        exact ⟨zcr_1 ⟨L_nlt.mp g1, L_nle.mp g2⟩ (L_nle.mp g3), rfl⟩
set_option maxHeartbeats 4000000 in
set_option maxRecDepth 100000 in
theorem kX4_windingAround (g : Glo) (S : PS) (q : Nat → Nat) (hq : Shp S.1 S.2.1 q) (s : Nat) (hs : s < 8) (z : ZZ) (hB : Bz z) (hc : Cs S q s z) (x y : Int32) (hx : x.toInt64 = z 0) (hy : y.toInt64 = z 1) : Ct g mX4_windingAround 0 0 [.ref (q (10 * s + 2)), .int x, .int y] S (pJ9 (fun r S' => r = zWi z ∧ S = S')) := by
  refine Ct.of (by decide) (Nat.le_of_ble_eq_true rfl) (fun Γ hg F T => ?_)
  subst hg
  show G Γ S 0 0 0 [(0, .ref (q (10 * s + 2))), (1, .int x), (2, .int y)] []
  have hnc := (nc_e hB).2
  refine g_lconst (v := 0) F (by decide) dX4_windingAround_0 ?_
  refine g_lstore_n (k := 3) (L' := [(3, .long 0), (0, .ref (q (10 * s + 2))), (1, .int x), (2, .int y)]) F dX4_windingAround_1 (Nat.le_of_ble_eq_true rfl) rfl ?_
  refine g_iconst (v := 0) F (by decide) dX4_windingAround_2 ?_
  refine g_istore (L' := [(5, .int 0), (3, .long 0), (0, .ref (q (10 * s + 2))), (1, .int x), (2, .int y)]) F dX4_windingAround_3 (Nat.le_of_ble_eq_true rfl) rfl ?_
  have lp1 : ∀ (n9 : Nat) (i : Nat) (a : Int64), nc z < i + n9 → (i ≤ nc z) → (a = sumF (zCr z) i) → G Γ S 0 0 5 [(5, .int (nI i)), (3, .long a), (0, .ref (q (10 * s + 2))), (1, .int x), (2, .int y)] [] := by
    intro n9
    induction n9 with
    | zero =>
      intro i a hm9 hi ha
      exact absurd hm9 (by omega)
    | succ n9 ihlp1 =>
      intro i a hm9 hi ha
      refine g_iload F 0 rfl dX4_windingAround_5 ?_
      refine g_aload_n (k := 0) F 2 rfl dX4_windingAround_7 ?_
      refine gfX4_21e F (qs2 hq hs) hc.n dX4_windingAround_8 ?_
      refine g_icmp_ge (t := 32) F dX4_windingAround_11 (by decide) (fun c2 => ?_) (fun c2 => ?_)
      · obtain rfl : i = nc z := by
          rw [nI_leI (by omega) (by omega)] at c2
          omega
        refine g_lload_n (k := 3) F 1 rfl dX4_windingAround_32 ?_
        refine g_lret F T ⟨_, rfl, ?_⟩ (Nat.le_of_ble_eq_true rfl) (Nat.le_of_ble_eq_true rfl) dX4_windingAround_33
        exact ⟨ha, rfl⟩
      · have hi9 : i < nc z := by
          rw [nI_leI (by omega) (by omega)] at c2
          omega
        have hnx := nx_lt hi9
        refine g_lload_n (k := 3) F 1 rfl dX4_windingAround_14 ?_
        refine g_aload_n (k := 0) F 2 rfl dX4_windingAround_15 ?_
        refine g_iload F 0 rfl dX4_windingAround_16 ?_
        refine g_iload_n (k := 1) F 3 rfl dX4_windingAround_18 ?_
        refine g_iload_n (k := 2) F 4 rfl dX4_windingAround_19 ?_
        refine g_callV F (kX4_crossing Γ.1 S q hq s hs z hB hc i (by omega) x y hx hy) okX4_crossing (qs2 hq hs) mw318 ⟨(Nat.le_of_ble_eq_true rfl), (Nat.le_of_ble_eq_true rfl)⟩ rfl rfl (Nat.le_of_ble_eq_true rfl) ⟨(Nat.le_of_ble_eq_true rfl), (Nat.le_of_ble_eq_true rfl)⟩ dX4_windingAround_20 (toI (fun r3 S4 h5 => ?_))
        obtain ⟨er3, rfl⟩ := h5
        refine g_i2l F dX4_windingAround_23 ?_
        refine g_ladd F dX4_windingAround_24 ?_
        refine g_topl (fun x6 ex6 => ?_)
        refine g_lstore_n (k := 3) (L' := [(3, .long x6), (5, .int (nI i)), (0, .ref (q (10 * s + 2))), (1, .int x), (2, .int y)]) F dX4_windingAround_25 (Nat.le_of_ble_eq_true rfl) rfl ?_
        obtain ⟨x7, ex7⟩ : ∃ y9 : Int32, y9 = (nI i) + 1 := ⟨_, rfl⟩
        refine g_iinc (k := 1) (v := x7) (L' := [(5, .int x7), (3, .long x6), (0, .ref (q (10 * s + 2))), (1, .int x), (2, .int y)]) F dX4_windingAround_26 rfl (by rw [ex7]; rfl) (Nat.le_of_ble_eq_true rfl) rfl ?_
        refine g_goto (t := 5) F dX4_windingAround_29 (by decide) ?_
        obtain rfl : x7 = nI (i + 1) := (ex7.trans (nI_1 _))
        refine g_sub (L' := [(5, .int (nI (i + 1))), (3, .long x6), (0, .ref (q (10 * s + 2))), (1, .int x), (2, .int y)]) [0, 1, 2, 3, 4] rfl ?_
        exact ihlp1 (i + 1) (x6) (by omega) (by omega) (by rw [ex6, ha, er3]; rfl)
  exact lp1 (nc z + 1) 0 0 (by omega) (by omega) rfl
set_option maxHeartbeats 4000000 in
set_option maxRecDepth 100000 in
theorem kX4_touches (g : Glo) (S : PS) (q : Nat → Nat) (hq : Shp S.1 S.2.1 q) (s : Nat) (hs : s < 8) (z : ZZ) (hB : Bz z) (hc : Cs S q s z) (x y : Int32) (hx : x.toInt64 = z 0) (hy : y.toInt64 = z 1) : Ct g mX4_touches 0 0 [.ref (q (10 * s + 2)), .int x, .int y] S (pI9 (fun r S' => (r = 1 ∧ zOO z ∨ r = 0 ∧ ¬ zOO z) ∧ S = S')) := by
  refine Ct.of (by decide) (Nat.le_of_ble_eq_true rfl) (fun Γ hg F T => ?_)
  subst hg
  show G Γ S 0 0 0 [(0, .ref (q (10 * s + 2))), (1, .int x), (2, .int y)] []
  have hnc := (nc_e hB).2
  refine g_iconst (v := 0) F (by decide) dX4_touches_0 ?_
  refine g_istore_n (k := 3) (L' := [(3, .int 0), (0, .ref (q (10 * s + 2))), (1, .int x), (2, .int y)]) F dX4_touches_1 (Nat.le_of_ble_eq_true rfl) rfl ?_
  have lp1 : ∀ (n9 : Nat) (i : Nat), nc z < i + n9 → (i ≤ nc z) → (∀ j, j < i → ¬ zOn z j) → G Γ S 0 0 2 [(3, .int (nI i)), (0, .ref (q (10 * s + 2))), (1, .int x), (2, .int y)] [] := by
    intro n9
    induction n9 with
    | zero =>
      intro i hm9 hi ha
      exact absurd hm9 (by omega)
    | succ n9 ihlp1 =>
      intro i hm9 hi ha
      refine g_iload_n (k := 3) F 0 rfl dX4_touches_2 ?_
      refine g_aload_n (k := 0) F 1 rfl dX4_touches_3 ?_
      refine gfX4_21e F (qs2 hq hs) hc.n dX4_touches_4 ?_
      refine g_icmp_ge (t := 119) F dX4_touches_7 (by decide) (fun c2 => ?_) (fun c2 => ?_)
      · obtain rfl : i = nc z := by
          rw [nI_leI (by omega) (by omega)] at c2
          omega
        refine g_iconst (v := 0) F (by decide) dX4_touches_119 ?_
        refine g_zret F T rfl ⟨_, rfl, ?_⟩ (Nat.le_of_ble_eq_true rfl) (Nat.le_of_ble_eq_true rfl) dX4_touches_120
        exact ⟨.inr ⟨rfl, on_n ha (Nat.le_refl _)⟩, rfl⟩
      · have hi9 : i < nc z := by
          rw [nI_leI (by omega) (by omega)] at c2
          omega
        have hnx := nx_lt hi9
        refine g_aload_n (k := 0) F 1 rfl dX4_touches_10 ?_
        refine g_iload_n (k := 3) F 0 rfl dX4_touches_11 ?_
        refine g_callV F (kX4_next Γ.1 S q hq s hs (nc z) i (nc_e hB).2 (by omega) hc.n) okX4_next (qs2 hq hs) mw162 ⟨(Nat.le_of_ble_eq_true rfl), (Nat.le_of_ble_eq_true rfl)⟩ rfl rfl (Nat.le_of_ble_eq_true rfl) ⟨(Nat.le_of_ble_eq_true rfl), (Nat.le_of_ble_eq_true rfl)⟩ dX4_touches_12 (toI (fun r3 S4 h5 => ?_))
        obtain ⟨rfl, rfl⟩ := h5
        refine g_istore (L' := [(4, .int (nI (nx (nc z) i))), (3, .int (nI i)), (0, .ref (q (10 * s + 2))), (1, .int x), (2, .int y)]) F dX4_touches_15 (Nat.le_of_ble_eq_true rfl) rfl ?_
        refine g_aload_n (k := 0) F 2 rfl dX4_touches_17 ?_
        refine gfX4_9 F (qs2 hq hs) (qt2_1 hq hs) dX4_touches_18 ?_
        refine g_iload_n (k := 3) F 1 rfl dX4_touches_21 ?_
        refine g_ialde rfl (j := i) F (qs3 hq hs) rfl (by rw [(qm3 hq hs)]; omega) (by rw [(qm3 hq hs)]; decide) dX4_touches_22 ?_
        refine g_i2l F dX4_touches_23 ?_
        refine g_aload_n (k := 0) F 2 rfl dX4_touches_24 ?_
        refine gfX4_15 F (qs2 hq hs) (qt2_2 hq hs) dX4_touches_25 ?_
        refine g_iload_n (k := 3) F 1 rfl dX4_touches_28 ?_
        refine g_ialde rfl (j := i) F (qs4 hq hs) rfl (by rw [(qm4 hq hs)]; omega) (by rw [(qm4 hq hs)]; decide) dX4_touches_29 ?_
        refine g_i2l F dX4_touches_30 ?_
        refine g_aload_n (k := 0) F 2 rfl dX4_touches_31 ?_
        refine gfX4_9 F (qs2 hq hs) (qt2_1 hq hs) dX4_touches_32 ?_
        refine g_iload F 0 rfl dX4_touches_35 ?_
        refine g_ialde rfl (j := (nx (nc z) i)) F (qs3 hq hs) rfl (by rw [(qm3 hq hs)]; omega) (by rw [(qm3 hq hs)]; decide) dX4_touches_37 ?_
        refine g_i2l F dX4_touches_38 ?_
        refine g_aload_n (k := 0) F 2 rfl dX4_touches_39 ?_
        refine gfX4_15 F (qs2 hq hs) (qt2_2 hq hs) dX4_touches_40 ?_
        refine g_iload F 0 rfl dX4_touches_43 ?_
        refine g_ialde rfl (j := (nx (nc z) i)) F (qs4 hq hs) rfl (by rw [(qm4 hq hs)]; omega) (by rw [(qm4 hq hs)]; decide) dX4_touches_45 ?_
        refine g_i2l F dX4_touches_46 ?_
        refine g_iload_n (k := 1) F 3 rfl dX4_touches_47 ?_
        refine g_i2l F dX4_touches_48 ?_
        refine g_iload_n (k := 2) F 4 rfl dX4_touches_49 ?_
        refine g_i2l F dX4_touches_50 ?_
        refine g_callSN (host := "PolarPlanimeter") F (kX9_cross Γ.1 _ _ _ _ _ _ _) okX9_cross nwM52 ⟨(Nat.le_of_ble_eq_true rfl), (Nat.le_of_ble_eq_true rfl)⟩ rfl rfl (Nat.le_of_ble_eq_true rfl) ⟨(Nat.le_of_ble_eq_true rfl), (Nat.le_of_ble_eq_true rfl)⟩ dX4_touches_51 (toJ (fun r6 S7 h8 => ?_))
        obtain ⟨er6, rfl⟩ := h8
        have hsd : r6 = zSd z i := by rw [er6, hc.X hi9, hc.Y hi9, hc.X1 hi9, hc.Y1 hi9, hx, hy]; rfl
        refine g_lconst (v := 0) F (by decide) dX4_touches_54 ?_
        refine g_lcmp F dX4_touches_55 ?_
        refine g_if_ne (t := 63) F dX4_touches_56 (by decide) (fun c9 => ?_) (fun c9 => ?_)
        · rw [lc_eq] at c9
          have g1 : ¬ zSd z i = 0 := by rw [← hsd]; exact c9
          refine g_iconst (v := 0) F (by decide) dX4_touches_63 ?_
          refine g_istore (L' := [(5, .int 0), (4, .int (nI (nx (nc z) i))), (3, .int (nI i)), (0, .ref (q (10 * s + 2))), (1, .int x), (2, .int y)]) F dX4_touches_64 (Nat.le_of_ble_eq_true rfl) rfl ?_
          refine g_iload F 0 rfl dX4_touches_66 ?_
          refine g_if_eq (t := 113) F dX4_touches_68 (by decide) (fun c10 => ?_) (fun c10 => ?_)
          · obtain ⟨x11, ex11⟩ : ∃ y9 : Int32, y9 = (nI i) + 1 := ⟨_, rfl⟩
            refine g_iinc (k := 2) (v := x11) (L' := [(3, .int x11), (5, .int 0), (4, .int (nI (nx (nc z) i))), (0, .ref (q (10 * s + 2))), (1, .int x), (2, .int y)]) F dX4_touches_113 rfl (by rw [ex11]; rfl) (Nat.le_of_ble_eq_true rfl) rfl ?_
            refine g_goto (t := 2) F dX4_touches_116 (by decide) ?_
            obtain rfl : x11 = nI (i + 1) := (ex11.trans (nI_1 _))
            refine g_sub (L' := [(3, .int (nI (i + 1))), (0, .ref (q (10 * s + 2))), (1, .int x), (2, .int y)]) [0, 3, 4, 5] rfl ?_
            exact ihlp1 (i + 1) (by omega) (by omega) (on_s ha (fun h => g1 h.1))
          · exact absurd rfl c10
        · rw [lc_eq] at c9
          have g1 : zSd z i = 0 := by rw [← hsd]; exact c9
          refine g_iconst (v := 1) F (by decide) dX4_touches_59 ?_
          refine g_goto (t := 64) F dX4_touches_60 (by decide) ?_
          refine g_istore (L' := [(5, .int 1), (4, .int (nI (nx (nc z) i))), (3, .int (nI i)), (0, .ref (q (10 * s + 2))), (1, .int x), (2, .int y)]) F dX4_touches_64 (Nat.le_of_ble_eq_true rfl) rfl ?_
          refine g_iload F 0 rfl dX4_touches_66 ?_
          refine g_if_eq (t := 113) F dX4_touches_68 (by decide) (fun c12 => ?_) (fun c12 => ?_)
          · exact absurd c12 (by decide)
          · refine g_iload_n (k := 1) F 4 rfl dX4_touches_71 ?_
            refine g_aload_n (k := 0) F 3 rfl dX4_touches_72 ?_
            refine gfX4_9 F (qs2 hq hs) (qt2_1 hq hs) dX4_touches_73 ?_
            refine g_iload_n (k := 3) F 2 rfl dX4_touches_76 ?_
            refine g_ialde rfl (j := i) F (qs3 hq hs) rfl (by rw [(qm3 hq hs)]; omega) (by rw [(qm3 hq hs)]; decide) dX4_touches_77 ?_
            refine g_aload_n (k := 0) F 3 rfl dX4_touches_78 ?_
            refine gfX4_9 F (qs2 hq hs) (qt2_1 hq hs) dX4_touches_79 ?_
            refine g_iload F 1 rfl dX4_touches_82 ?_
            refine g_ialde rfl (j := (nx (nc z) i)) F (qs3 hq hs) rfl (by rw [(qm3 hq hs)]; omega) (by rw [(qm3 hq hs)]; decide) dX4_touches_84 ?_
            refine g_callSN (host := "PolarPlanimeter") F (kX9_isBetween Γ.1 _ _ _ _) okX9_isBetween nwM53 ⟨(Nat.le_of_ble_eq_true rfl), (Nat.le_of_ble_eq_true rfl)⟩ rfl rfl (Nat.le_of_ble_eq_true rfl) ⟨(Nat.le_of_ble_eq_true rfl), (Nat.le_of_ble_eq_true rfl)⟩ dX4_touches_85 (toI (fun r13 S14 h15 => ?_))
            obtain ⟨er13, rfl⟩ := h15
            refine g_if_eq (t := 113) F dX4_touches_88 (by decide) (fun c16 => ?_) (fun c16 => ?_)
            · have g2 : ¬ btw (z 0) (zX z i) (zX z (i + 1)) := by
                rw [← hx, ← hc.X hi9, ← hc.X1 hi9]
                exact fun h => if01_0 er13 c16 (btw32.mpr h)
              obtain ⟨x17, ex17⟩ : ∃ y9 : Int32, y9 = (nI i) + 1 := ⟨_, rfl⟩
              refine g_iinc (k := 2) (v := x17) (L' := [(3, .int x17), (5, .int 1), (4, .int (nI (nx (nc z) i))), (0, .ref (q (10 * s + 2))), (1, .int x), (2, .int y)]) F dX4_touches_113 rfl (by rw [ex17]; rfl) (Nat.le_of_ble_eq_true rfl) rfl ?_
              refine g_goto (t := 2) F dX4_touches_116 (by decide) ?_
              obtain rfl : x17 = nI (i + 1) := (ex17.trans (nI_1 _))
              refine g_sub (L' := [(3, .int (nI (i + 1))), (0, .ref (q (10 * s + 2))), (1, .int x), (2, .int y)]) [0, 3, 4, 5] rfl ?_
              exact ihlp1 (i + 1) (by omega) (by omega) (on_s ha (fun h => g2 h.2.1))
            · have g2 : btw (z 0) (zX z i) (zX z (i + 1)) := by
                rw [← hx, ← hc.X hi9, ← hc.X1 hi9]
                exact btw32.mp (if01_1 er13 c16)
              refine g_iload_n (k := 2) F 5 rfl dX4_touches_91 ?_
              refine g_aload_n (k := 0) F 3 rfl dX4_touches_92 ?_
              refine gfX4_15 F (qs2 hq hs) (qt2_2 hq hs) dX4_touches_93 ?_
              refine g_iload_n (k := 3) F 2 rfl dX4_touches_96 ?_
              refine g_ialde rfl (j := i) F (qs4 hq hs) rfl (by rw [(qm4 hq hs)]; omega) (by rw [(qm4 hq hs)]; decide) dX4_touches_97 ?_
              refine g_aload_n (k := 0) F 3 rfl dX4_touches_98 ?_
              refine gfX4_15 F (qs2 hq hs) (qt2_2 hq hs) dX4_touches_99 ?_
              refine g_iload F 1 rfl dX4_touches_102 ?_
              refine g_ialde rfl (j := (nx (nc z) i)) F (qs4 hq hs) rfl (by rw [(qm4 hq hs)]; omega) (by rw [(qm4 hq hs)]; decide) dX4_touches_104 ?_
              refine g_callSN (host := "PolarPlanimeter") F (kX9_isBetween Γ.1 _ _ _ _) okX9_isBetween nwM53 ⟨(Nat.le_of_ble_eq_true rfl), (Nat.le_of_ble_eq_true rfl)⟩ rfl rfl (Nat.le_of_ble_eq_true rfl) ⟨(Nat.le_of_ble_eq_true rfl), (Nat.le_of_ble_eq_true rfl)⟩ dX4_touches_105 (toI (fun r18 S19 h20 => ?_))
              obtain ⟨er18, rfl⟩ := h20
              refine g_if_eq (t := 113) F dX4_touches_108 (by decide) (fun c21 => ?_) (fun c21 => ?_)
              · have g3 : ¬ btw (z 1) (zY z i) (zY z (i + 1)) := by
                  rw [← hy, ← hc.Y hi9, ← hc.Y1 hi9]
                  exact fun h => if01_0 er18 c21 (btw32.mpr h)
                obtain ⟨x22, ex22⟩ : ∃ y9 : Int32, y9 = (nI i) + 1 := ⟨_, rfl⟩
                refine g_iinc (k := 2) (v := x22) (L' := [(3, .int x22), (5, .int 1), (4, .int (nI (nx (nc z) i))), (0, .ref (q (10 * s + 2))), (1, .int x), (2, .int y)]) F dX4_touches_113 rfl (by rw [ex22]; rfl) (Nat.le_of_ble_eq_true rfl) rfl ?_
                refine g_goto (t := 2) F dX4_touches_116 (by decide) ?_
                obtain rfl : x22 = nI (i + 1) := (ex22.trans (nI_1 _))
                refine g_sub (L' := [(3, .int (nI (i + 1))), (0, .ref (q (10 * s + 2))), (1, .int x), (2, .int y)]) [0, 3, 4, 5] rfl ?_
                exact ihlp1 (i + 1) (by omega) (by omega) (on_s ha (fun h => g3 h.2.2))
              · have g3 : btw (z 1) (zY z i) (zY z (i + 1)) := by
                  rw [← hy, ← hc.Y hi9, ← hc.Y1 hi9]
                  exact btw32.mp (if01_1 er18 c21)
                refine g_iconst (v := 1) F (by decide) dX4_touches_111 ?_
                refine g_zret F T rfl ⟨_, rfl, ?_⟩ (Nat.le_of_ble_eq_true rfl) (Nat.le_of_ble_eq_true rfl) dX4_touches_112
                exact ⟨.inl ⟨rfl, i, hi9, g1, g2, g3⟩, rfl⟩
  exact lp1 (nc z + 1) 0 (by omega) (by omega) (fun j hj => absurd hj (Nat.not_lt_zero j))
set_option maxHeartbeats 4000000 in
set_option maxRecDepth 100000 in
theorem kX4_finePart (g : Glo) (S : PS) (a b : Int32) (i n : Nat) (ha : wtn a.toInt64 (-1000) 1000) (hb : wtn b.toInt64 (-1000) 1000) (hn : 0 < n) (hi : i < 1000000) (hn2 : n < 1000000) : Ct g mX4_finePart 0 0 [.int a, .int b, .int (nI i), .int (nI n)] S (pJ9 (fun r S' => r = pt a.toInt64 b.toInt64 i n ∧ S = S')) := by
  refine Ct.of (by decide) (Nat.le_of_ble_eq_true rfl) (fun Γ hg F T => ?_)
  subst hg
  show G Γ S 0 0 0 [(0, .int a), (1, .int b), (2, .int (nI i)), (3, .int (nI n))] []
  refine g_ldc2 F mw202 dX4_finePart_0 ?_
  refine g_iload_n (k := 0) F 0 rfl dX4_finePart_3 ?_
  refine g_i2l F dX4_finePart_4 ?_
  refine g_lmul F dX4_finePart_5 ?_
  refine g_ldc2 F mw202 dX4_finePart_6 ?_
  refine g_iload_n (k := 1) F 1 rfl dX4_finePart_9 ?_
  refine g_iload_n (k := 0) F 0 rfl dX4_finePart_10 ?_
  refine g_isub F dX4_finePart_11 ?_
  refine g_i2l F dX4_finePart_12 ?_
  refine g_lmul F dX4_finePart_13 ?_
  refine g_iload_n (k := 2) F 2 rfl dX4_finePart_14 ?_
  refine g_i2l F dX4_finePart_15 ?_
  refine g_lmul F dX4_finePart_16 ?_
  refine g_iload_n (k := 3) F 3 rfl dX4_finePart_17 ?_
  refine g_i2l F dX4_finePart_18 ?_
  refine g_callSN (host := "PolarPlanimeter") F (kX9_quotient Γ.1 _ _ _) okX9_quotient nwM51 ⟨(Nat.le_of_ble_eq_true rfl), (Nat.le_of_ble_eq_true rfl)⟩ rfl rfl (Nat.le_of_ble_eq_true rfl) ⟨(Nat.le_of_ble_eq_true rfl), (Nat.le_of_ble_eq_true rfl)⟩ dX4_finePart_19 (toJ (fun r1 S2 h3 => ?_))
  obtain ⟨er1, rfl⟩ := h3
  refine g_ladd F dX4_finePart_22 ?_
  refine g_lret F T ⟨_, rfl, ?_⟩ (Nat.le_of_ble_eq_true rfl) (Nat.le_of_ble_eq_true rfl) dX4_finePart_23
  exact ⟨fp_e ha hb hn hi hn2 er1, rfl⟩
set_option maxHeartbeats 4000000 in
set_option maxRecDepth 100000 in
theorem kX4_fineX (g : Glo) (S : PS) (q : Nat → Nat) (hq : Shp S.1 S.2.1 q) (s : Nat) (hs : s < 8) (z : ZZ) (hB : Bz z) (hc : Cs S q s z) (k : Nat) (hk : k < nc z) (i : Nat) (hi : i < 1000000) : Ct g mX4_fineX 0 0 [.ref (q (10 * s + 2)), .int (nI k), .int (nI i), .int (nI (zN z k))] S (pJ9 (fun r S' => r = zPx z k i ∧ S = S')) := by
  refine Ct.of (by decide) (Nat.le_of_ble_eq_true rfl) (fun Γ hg F T => ?_)
  subst hg
  show G Γ S 0 0 0 [(0, .ref (q (10 * s + 2))), (1, .int (nI k)), (2, .int (nI i)), (3, .int (nI (zN z k)))] []
  have hnc := (nc_e hB).2
  have h0 : 0 < nc z := by omega
  have bx0 := zX_b hB h0 k
  have bx1 := zX_b hB h0 (k + 1)
  have by0 := zY_b hB h0 k
  have by1 := zY_b hB h0 (k + 1)
  have hnx := nx_lt hk
  have hzn := zN_b hB h0 k
  refine g_aload_n (k := 0) F 0 rfl dX4_fineX_0 ?_
  refine gfX4_9 F (qs2 hq hs) (qt2_1 hq hs) dX4_fineX_1 ?_
  refine g_iload_n (k := 1) F 1 rfl dX4_fineX_4 ?_
  refine g_ialde rfl (j := k) F (qs3 hq hs) rfl (by rw [(qm3 hq hs)]; omega) (by rw [(qm3 hq hs)]; decide) dX4_fineX_5 ?_
  refine g_aload_n (k := 0) F 0 rfl dX4_fineX_6 ?_
  refine gfX4_9 F (qs2 hq hs) (qt2_1 hq hs) dX4_fineX_7 ?_
  refine g_aload_n (k := 0) F 0 rfl dX4_fineX_10 ?_
  refine g_iload_n (k := 1) F 1 rfl dX4_fineX_11 ?_
  refine g_callV F (kX4_next Γ.1 S q hq s hs (nc z) k (nc_e hB).2 (by omega) hc.n) okX4_next (qs2 hq hs) mw162 ⟨(Nat.le_of_ble_eq_true rfl), (Nat.le_of_ble_eq_true rfl)⟩ rfl rfl (Nat.le_of_ble_eq_true rfl) ⟨(Nat.le_of_ble_eq_true rfl), (Nat.le_of_ble_eq_true rfl)⟩ dX4_fineX_12 (toI (fun r1 S2 h3 => ?_))
  obtain ⟨rfl, rfl⟩ := h3
  refine g_ialde rfl (j := (nx (nc z) k)) F (qs3 hq hs) rfl (by rw [(qm3 hq hs)]; omega) (by rw [(qm3 hq hs)]; decide) dX4_fineX_15 ?_
  refine g_iload_n (k := 2) F 2 rfl dX4_fineX_16 ?_
  refine g_iload_n (k := 3) F 3 rfl dX4_fineX_17 ?_
  refine g_callS F (kX4_finePart Γ.1 _ _ _ i (zN z k) (by rw [hc.X hk]; exact bx0) (by rw [hc.X1 hk]; exact bx1) (by omega) hi (by omega)) okX4_finePart mw199 ⟨(Nat.le_of_ble_eq_true rfl), (Nat.le_of_ble_eq_true rfl)⟩ rfl rfl (Nat.le_of_ble_eq_true rfl) ⟨(Nat.le_of_ble_eq_true rfl), (Nat.le_of_ble_eq_true rfl)⟩ dX4_fineX_18 (toJ (fun r4 S5 h6 => ?_))
  obtain ⟨er4, rfl⟩ := h6
  refine g_lret F T ⟨_, rfl, ?_⟩ (Nat.le_of_ble_eq_true rfl) (Nat.le_of_ble_eq_true rfl) dX4_fineX_21
  exact ⟨by rw [er4, hc.X hk, hc.X1 hk]; rfl, rfl⟩
set_option maxHeartbeats 4000000 in
set_option maxRecDepth 100000 in
theorem kX4_fineY (g : Glo) (S : PS) (q : Nat → Nat) (hq : Shp S.1 S.2.1 q) (s : Nat) (hs : s < 8) (z : ZZ) (hB : Bz z) (hc : Cs S q s z) (k : Nat) (hk : k < nc z) (i : Nat) (hi : i < 1000000) : Ct g mX4_fineY 0 0 [.ref (q (10 * s + 2)), .int (nI k), .int (nI i), .int (nI (zN z k))] S (pJ9 (fun r S' => r = zPy z k i ∧ S = S')) := by
  refine Ct.of (by decide) (Nat.le_of_ble_eq_true rfl) (fun Γ hg F T => ?_)
  subst hg
  show G Γ S 0 0 0 [(0, .ref (q (10 * s + 2))), (1, .int (nI k)), (2, .int (nI i)), (3, .int (nI (zN z k)))] []
  have hnc := (nc_e hB).2
  have h0 : 0 < nc z := by omega
  have bx0 := zX_b hB h0 k
  have bx1 := zX_b hB h0 (k + 1)
  have by0 := zY_b hB h0 k
  have by1 := zY_b hB h0 (k + 1)
  have hnx := nx_lt hk
  have hzn := zN_b hB h0 k
  refine g_aload_n (k := 0) F 0 rfl dX4_fineY_0 ?_
  refine gfX4_15 F (qs2 hq hs) (qt2_2 hq hs) dX4_fineY_1 ?_
  refine g_iload_n (k := 1) F 1 rfl dX4_fineY_4 ?_
  refine g_ialde rfl (j := k) F (qs4 hq hs) rfl (by rw [(qm4 hq hs)]; omega) (by rw [(qm4 hq hs)]; decide) dX4_fineY_5 ?_
  refine g_aload_n (k := 0) F 0 rfl dX4_fineY_6 ?_
  refine gfX4_15 F (qs2 hq hs) (qt2_2 hq hs) dX4_fineY_7 ?_
  refine g_aload_n (k := 0) F 0 rfl dX4_fineY_10 ?_
  refine g_iload_n (k := 1) F 1 rfl dX4_fineY_11 ?_
  refine g_callV F (kX4_next Γ.1 S q hq s hs (nc z) k (nc_e hB).2 (by omega) hc.n) okX4_next (qs2 hq hs) mw162 ⟨(Nat.le_of_ble_eq_true rfl), (Nat.le_of_ble_eq_true rfl)⟩ rfl rfl (Nat.le_of_ble_eq_true rfl) ⟨(Nat.le_of_ble_eq_true rfl), (Nat.le_of_ble_eq_true rfl)⟩ dX4_fineY_12 (toI (fun r1 S2 h3 => ?_))
  obtain ⟨rfl, rfl⟩ := h3
  refine g_ialde rfl (j := (nx (nc z) k)) F (qs4 hq hs) rfl (by rw [(qm4 hq hs)]; omega) (by rw [(qm4 hq hs)]; decide) dX4_fineY_15 ?_
  refine g_iload_n (k := 2) F 2 rfl dX4_fineY_16 ?_
  refine g_iload_n (k := 3) F 3 rfl dX4_fineY_17 ?_
  refine g_callS F (kX4_finePart Γ.1 _ _ _ i (zN z k) (by rw [hc.Y hk]; exact by0) (by rw [hc.Y1 hk]; exact by1) (by omega) hi (by omega)) okX4_finePart mw199 ⟨(Nat.le_of_ble_eq_true rfl), (Nat.le_of_ble_eq_true rfl)⟩ rfl rfl (Nat.le_of_ble_eq_true rfl) ⟨(Nat.le_of_ble_eq_true rfl), (Nat.le_of_ble_eq_true rfl)⟩ dX4_fineY_18 (toJ (fun r4 S5 h6 => ?_))
  obtain ⟨er4, rfl⟩ := h6
  refine g_lret F T ⟨_, rfl, ?_⟩ (Nat.le_of_ble_eq_true rfl) (Nat.le_of_ble_eq_true rfl) dX4_fineY_21
  exact ⟨by rw [er4, hc.Y hk, hc.Y1 hk]; rfl, rfl⟩
