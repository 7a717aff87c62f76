set_option maxHeartbeats 4000000 in
set_option maxRecDepth 100000 in
theorem kX10_mean (g : Glo) (S : PS) (q : Nat → Nat) (hq : Shp S.1 S.2.1 q) (z : ZZ) (hz : pJ S (q 95) = z) (hB : Bz z) : Ct g mX10_mean 0 0 [.ref (q 94)] S (pJ9 (fun r S' => r = zMe z ∧ Fm S S' q [])) := by
  refine Ct.of (by decide) (Nat.le_of_ble_eq_true rfl) (fun Γ hg F T => ?_)
  subst hg
  show G Γ S 0 0 0 [(0, .ref (q 94))] []
  have hnr := (nr_e hB).2
  refine g_aload_n (k := 0) F 0 rfl dX10_mean_0 ?_
  refine g_callV F (kX10_layMean Γ.1 S q hq z hz hB ) okX10_layMean (qi94 hq) mw814 ⟨(Nat.le_of_ble_eq_true rfl), (Nat.le_of_ble_eq_true rfl)⟩ rfl rfl (Nat.le_of_ble_eq_true rfl) ⟨(Nat.le_of_ble_eq_true rfl), (Nat.le_of_ble_eq_true rfl)⟩ dX10_mean_1 (toV (fun S2 h3 => ?_))
  have hq4 : Shp S2.1 S2.2.1 q := Fm.q h3.1 hq
  refine g_lconst (v := 0) F (by decide) dX10_mean_4 ?_
  refine g_lstore_n (k := 1) (L' := [(1, .long 0), (0, .ref (q 94))]) F dX10_mean_5 (Nat.le_of_ble_eq_true rfl) rfl ?_
  refine g_iconst (v := 0) F (by decide) dX10_mean_6 ?_
  refine g_istore_n (k := 3) (L' := [(3, .int 0), (1, .long 0), (0, .ref (q 94))]) F dX10_mean_7 (Nat.le_of_ble_eq_true rfl) rfl ?_
  have lp5 : ∀ (n9 : Nat) (i : Nat) (a : Int64), nr z < i + n9 → (i ≤ nr z) → (a = zMs z (zOut z) i) → G Γ S2 0 0 8 [(3, .int (nI i)), (1, .long a), (0, .ref (q 94))] [] := by
    intro n9
    induction n9 with
    | zero =>
      intro i a hm9 hi ha
      exact absurd hm9 (by omega)
    | succ n9 ihlp5 =>
      intro i a hm9 hi ha
      refine g_iload_n (k := 3) F 0 rfl dX10_mean_8 ?_
      refine g_i2l F dX10_mean_9 ?_
      refine g_aload_n (k := 0) F 2 rfl dX10_mean_10 ?_
      refine gfX10_7 F (qi94 hq4) (qr94_1 hq4) dX10_mean_11 ?_
      refine g_bipush (v := 69) F (by decide) dX10_mean_14 ?_
      refine g_lalde ((h3.1.1.2.2 (95) (by decide) (by decide)).2.trans hz) (j := 69) F (qi95 hq4) rfl (by rw [(qn95 hq4)]; omega) (by rw [(qn95 hq4)]; decide) dX10_mean_16 ?_
      refine g_lcmp F dX10_mean_17 ?_
      refine g_if_ge (t := 48) F dX10_mean_18 (by decide) (fun c6 => ?_) (fun c6 => ?_)
      · rw [lc_ge] at c6
        rw [nI_L (by omega), z69 hB, lN_le (by omega) (by omega)] at c6
        have hi9 : i = nr z := by omega
        refine g_aload_n (k := 0) F 2 rfl dX10_mean_48 ?_
        refine gfX10_7 F (qi94 hq4) (qr94_1 hq4) dX10_mean_49 ?_
        refine g_bipush (v := 69) F (by decide) dX10_mean_52 ?_
        refine g_lalde ((h3.1.1.2.2 (95) (by decide) (by decide)).2.trans hz) (j := 69) F (qi95 hq4) rfl (by rw [(qn95 hq4)]; omega) (by rw [(qn95 hq4)]; decide) dX10_mean_54 ?_
        refine g_lconst (v := 0) F (by decide) dX10_mean_55 ?_
        refine g_lcmp F dX10_mean_56 ?_
        refine g_if_ne (t := 64) F dX10_mean_57 (by decide) (fun c7 => ?_) (fun c7 => ?_)
        · rw [lc_eq] at c7
          refine g_lload_n (k := 1) F 1 rfl dX10_mean_64 ?_
          refine g_aload_n (k := 0) F 2 rfl dX10_mean_65 ?_
          refine g_callV F (kX10_left Γ.1 _ q hq4 z ((h3.1.1.2.2 (95) (by decide) (by decide)).2.trans hz) hB (zOut z) h3.2) okX10_left (qi94 hq4) mw818 ⟨(Nat.le_of_ble_eq_true rfl), (Nat.le_of_ble_eq_true rfl)⟩ rfl rfl (Nat.le_of_ble_eq_true rfl) ⟨(Nat.le_of_ble_eq_true rfl), (Nat.le_of_ble_eq_true rfl)⟩ dX10_mean_66 (toI (fun r8 S9 h10 => ?_))
          obtain ⟨rfl, rfl⟩ := h10
          refine g_i2l F dX10_mean_69 ?_
          refine g_ldiv F dX10_mean_70 (mean_nz hB c7) ?_
          refine g_lret F T ⟨_, rfl, ?_⟩ (Nat.le_of_ble_eq_true rfl) (Nat.le_of_ble_eq_true rfl) dX10_mean_71
          exact ⟨by have hlf9 := lfF_le (zOut z) (nr z); unfold zMe; rw [if_neg (fun h => c7 ((z69_0 hB).mpr h)), ha, hi9, nI_L (by omega)], h3.1⟩
        · rw [lc_eq] at c7
          refine g_lconst (v := 0) F (by decide) dX10_mean_60 ?_
          refine g_goto (t := 71) F dX10_mean_61 (by decide) ?_
          refine g_lret F T ⟨_, rfl, ?_⟩ (Nat.le_of_ble_eq_true rfl) (Nat.le_of_ble_eq_true rfl) dX10_mean_71
          exact ⟨by unfold zMe; rw [if_pos ((z69_0 hB).mp c7)], h3.1⟩
      · rw [lc_ge] at c6
        rw [nI_L (by omega), z69 hB, lN_le (by omega) (by omega)] at c6
        have hi9 : i < nr z := by omega
        refine g_lload_n (k := 1) F 1 rfl dX10_mean_21 ?_
        refine g_aload_n (k := 0) F 2 rfl dX10_mean_22 ?_
        refine gfX10_20 F (qi94 hq4) (qr94_11 hq4) dX10_mean_23 ?_
        refine g_iload_n (k := 3) F 0 rfl dX10_mean_26 ?_
        refine g_zald (j := i) F (qi98 hq4) rfl (by rw [(qn98 hq4)]; omega) (by rw [(qn98 hq4)]; decide) dX10_mean_27 ?_
        refine g_if_eq (t := 35) F dX10_mean_28 (by decide) (fun c11 => ?_) (fun c11 => ?_)
        · have ob := bI_f (h3.2 i (by omega)) c11
          refine g_aload_n (k := 0) F 2 rfl dX10_mean_35 ?_
          refine g_iload_n (k := 3) F 0 rfl dX10_mean_36 ?_
          refine g_callV F (kX10_areaOf Γ.1 _ q hq4 z ((h3.1.1.2.2 (95) (by decide) (by decide)).2.trans hz) hB i (by omega)) okX10_areaOf (qi94 hq4) mw799 ⟨(Nat.le_of_ble_eq_true rfl), (Nat.le_of_ble_eq_true rfl)⟩ rfl rfl (Nat.le_of_ble_eq_true rfl) ⟨(Nat.le_of_ble_eq_true rfl), (Nat.le_of_ble_eq_true rfl)⟩ dX10_mean_37 (toJ (fun r12 S13 h14 => ?_))
          obtain ⟨er12, rfl⟩ := h14
          refine g_ladd F dX10_mean_40 ?_
          refine g_topl (fun x15 ex15 => ?_)
          refine g_lstore_n (k := 1) (L' := [(1, .long x15), (3, .int (nI i)), (0, .ref (q 94))]) F dX10_mean_41 (Nat.le_of_ble_eq_true rfl) rfl ?_
          obtain ⟨x16, ex16⟩ : ∃ y9 : Int32, y9 = (nI i) + 1 := ⟨_, rfl⟩
          refine g_iinc (k := 1) (v := x16) (L' := [(3, .int x16), (1, .long x15), (0, .ref (q 94))]) F dX10_mean_42 rfl (by rw [ex16]; rfl) (Nat.le_of_ble_eq_true rfl) rfl ?_
          refine g_goto (t := 8) F dX10_mean_45 (by decide) ?_
          obtain rfl : x16 = nI (i + 1) := (ex16.trans (nI_1 _))
          refine g_sub (L' := [(3, .int (nI (i + 1))), (1, .long x15), (0, .ref (q 94))]) [0, 1, 2] rfl ?_
          exact ihlp5 (i + 1) (x15) (by omega) (by omega) (by rw [ex15, ha, er12, ms_f ob])
        · have ob := bI_t (h3.2 i (by omega)) c11
          refine g_lconst (v := 0) F (by decide) dX10_mean_31 ?_
          refine g_goto (t := 40) F dX10_mean_32 (by decide) ?_
          refine g_ladd F dX10_mean_40 ?_
          refine g_topl (fun x17 ex17 => ?_)
          refine g_lstore_n (k := 1) (L' := [(1, .long x17), (3, .int (nI i)), (0, .ref (q 94))]) F dX10_mean_41 (Nat.le_of_ble_eq_true rfl) rfl ?_
          obtain ⟨x18, ex18⟩ : ∃ y9 : Int32, y9 = (nI i) + 1 := ⟨_, rfl⟩
          refine g_iinc (k := 1) (v := x18) (L' := [(3, .int x18), (1, .long x17), (0, .ref (q 94))]) F dX10_mean_42 rfl (by rw [ex18]; rfl) (Nat.le_of_ble_eq_true rfl) rfl ?_
          refine g_goto (t := 8) F dX10_mean_45 (by decide) ?_
          obtain rfl : x18 = nI (i + 1) := (ex18.trans (nI_1 _))
          refine g_sub (L' := [(3, .int (nI (i + 1))), (1, .long x17), (0, .ref (q 94))]) [0, 1, 2] rfl ?_
          exact ihlp5 (i + 1) (x17) (by omega) (by omega) (by rw [ex17, ha, ms_t ob])
  exact lp5 (nr z + 1) 0 0 (by omega) (by omega) rfl
set_option maxHeartbeats 4000000 in
set_option maxRecDepth 100000 in
theorem kX10_difference (g : Glo) (S : PS) (q : Nat → Nat) (hq : Shp S.1 S.2.1 q) (z : ZZ) (hz : pJ S (q 95) = z) (hB : Bz z) : Ct g mX10_difference 0 0 [.ref (q 94)] S (pJ9 (fun r S' => r = zDi z ∧ Fm S S' q [])) := by
  refine Ct.of (by decide) (Nat.le_of_ble_eq_true rfl) (fun Γ hg F T => ?_)
  subst hg
  show G Γ S 0 0 0 [(0, .ref (q 94))] []
  have hnr := (nr_e hB).2
  refine g_aload_n (k := 0) F 0 rfl dX10_difference_0 ?_
  refine gfX10_7 F (qi94 hq) (qr94_1 hq) dX10_difference_1 ?_
  refine g_bipush (v := 69) F (by decide) dX10_difference_4 ?_
  refine g_lalde hz (j := 69) F (qi95 hq) rfl (by rw [(qn95 hq)]; omega) (by rw [(qn95 hq)]; decide) dX10_difference_6 ?_
  refine g_lconst (v := 0) F (by decide) dX10_difference_7 ?_
  refine g_lcmp F dX10_difference_8 ?_
  refine g_if_ne (t := 16) F dX10_difference_9 (by decide) (fun c1 => ?_) (fun c1 => ?_)
  · rw [lc_eq] at c1
    refine g_aload_n (k := 0) F 0 rfl dX10_difference_16 ?_
    refine g_callV F (kX10_mean Γ.1 S q hq z hz hB ) okX10_mean (qi94 hq) mw884 ⟨(Nat.le_of_ble_eq_true rfl), (Nat.le_of_ble_eq_true rfl)⟩ rfl rfl (Nat.le_of_ble_eq_true rfl) ⟨(Nat.le_of_ble_eq_true rfl), (Nat.le_of_ble_eq_true rfl)⟩ dX10_difference_17 (toJ (fun r2 S3 h4 => ?_))
    obtain ⟨er2, gh4⟩ := h4
    have hq5 : Shp S3.1 S3.2.1 q := Fm.q gh4 hq
    refine g_aload_n (k := 0) F 0 rfl dX10_difference_20 ?_
    refine g_callV F (kX10_twiceArea Γ.1 _ q hq5 z ((gh4.1.2.2 (95) (by decide) (by decide)).2.trans hz) hB ) okX10_twiceArea (qi94 hq5) mw880 ⟨(Nat.le_of_ble_eq_true rfl), (Nat.le_of_ble_eq_true rfl)⟩ rfl rfl (Nat.le_of_ble_eq_true rfl) ⟨(Nat.le_of_ble_eq_true rfl), (Nat.le_of_ble_eq_true rfl)⟩ dX10_difference_21 (toJ (fun r6 S7 h8 => ?_))
    obtain ⟨er6, rfl⟩ := h8
    refine g_ldc2 F mw517 dX10_difference_24 ?_
    refine g_ldiv F dX10_difference_27 (by decide) ?_
    refine g_lsub F dX10_difference_28 ?_
    refine g_lret F T ⟨_, rfl, ?_⟩ (Nat.le_of_ble_eq_true rfl) (Nat.le_of_ble_eq_true rfl) dX10_difference_29
    exact ⟨by unfold zDi; rw [if_neg (fun h => c1 ((z69_0 hB).mpr h)), er2, er6], gh4⟩
  · rw [lc_eq] at c1
    refine g_lconst (v := 0) F (by decide) dX10_difference_12 ?_
    refine g_goto (t := 29) F dX10_difference_13 (by decide) ?_
    refine g_lret F T ⟨_, rfl, ?_⟩ (Nat.le_of_ble_eq_true rfl) (Nat.le_of_ble_eq_true rfl) dX10_difference_29
    exact ⟨by unfold zDi; rw [if_pos ((z69_0 hB).mp c1)], Fm.rf⟩
set_option maxHeartbeats 4000000 in
set_option maxRecDepth 100000 in
theorem kX10_outs (g : Glo) (S : PS) (q : Nat → Nat) (hq : Shp S.1 S.2.1 q) (z : ZZ) (hz : pJ S (q 95) = z) (hB : Bz z) : Ct g mX10_outs 0 0 [.ref (q 94)] S (pJ9 (fun r S' => r = zOu z ∧ Fm S S' q [])) := by
  refine Ct.of (by decide) (Nat.le_of_ble_eq_true rfl) (fun Γ hg F T => ?_)
  subst hg
  show G Γ S 0 0 0 [(0, .ref (q 94))] []
  have hnr := (nr_e hB).2
  refine g_aload_n (k := 0) F 0 rfl dX10_outs_0 ?_
  refine g_callV F (kX10_layMean Γ.1 S q hq z hz hB ) okX10_layMean (qi94 hq) mw814 ⟨(Nat.le_of_ble_eq_true rfl), (Nat.le_of_ble_eq_true rfl)⟩ rfl rfl (Nat.le_of_ble_eq_true rfl) ⟨(Nat.le_of_ble_eq_true rfl), (Nat.le_of_ble_eq_true rfl)⟩ dX10_outs_1 (toV (fun S2 h3 => ?_))
  have hq4 : Shp S2.1 S2.2.1 q := Fm.q h3.1 hq
  refine g_aload_n (k := 0) F 0 rfl dX10_outs_4 ?_
  refine gfX10_7 F (qi94 hq4) (qr94_1 hq4) dX10_outs_5 ?_
  refine g_bipush (v := 69) F (by decide) dX10_outs_8 ?_
  refine g_lalde ((h3.1.1.2.2 (95) (by decide) (by decide)).2.trans hz) (j := 69) F (qi95 hq4) rfl (by rw [(qn95 hq4)]; omega) (by rw [(qn95 hq4)]; decide) dX10_outs_10 ?_
  refine g_aload_n (k := 0) F 0 rfl dX10_outs_11 ?_
  refine g_callV F (kX10_left Γ.1 _ q hq4 z ((h3.1.1.2.2 (95) (by decide) (by decide)).2.trans hz) hB (zOut z) h3.2) okX10_left (qi94 hq4) mw818 ⟨(Nat.le_of_ble_eq_true rfl), (Nat.le_of_ble_eq_true rfl)⟩ rfl rfl (Nat.le_of_ble_eq_true rfl) ⟨(Nat.le_of_ble_eq_true rfl), (Nat.le_of_ble_eq_true rfl)⟩ dX10_outs_12 (toI (fun r5 S6 h7 => ?_))
  obtain ⟨rfl, rfl⟩ := h7
  refine g_i2l F dX10_outs_15 ?_
  refine g_lsub F dX10_outs_16 ?_
  refine g_lret F T ⟨_, rfl, ?_⟩ (Nat.le_of_ble_eq_true rfl) (Nat.le_of_ble_eq_true rfl) dX10_outs_17
  exact ⟨by unfold zOu; have h9 := lfF_le (zOut z) (nr z); rw [z69 hB, nI_L (by omega)], h3.1⟩
