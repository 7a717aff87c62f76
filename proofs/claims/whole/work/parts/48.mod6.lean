set_option maxHeartbeats 4000000 in
set_option maxRecDepth 100000 in
theorem kX10_areaOf (g : Glo) (S : PS) (q : Nat → Nat) (hq : Shp S.1 S.2.1 q) (z : ZZ) (hz : pJ S (q 95) = z) (hB : Bz z) (r : Nat) (hr : r < 12) : Ct g mX10_areaOf 0 0 [.ref (q 94), .int (nI r)] S (pJ9 (fun r9 S' => r9 = zAr z r ∧ S = S')) := by
  refine Ct.of (by decide) (Nat.le_of_ble_eq_true rfl) (fun Γ hg F T => ?_)
  subst hg
  show G Γ S 0 0 0 [(0, .ref (q 94)), (1, .int (nI r))] []
  refine g_aload_n (k := 0) F 0 rfl dX10_areaOf_0 ?_
  refine gfX10_7 F (qi94 hq) (qr94_1 hq) dX10_areaOf_1 ?_
  refine g_bipush (v := 70) F (by decide) dX10_areaOf_4 ?_
  refine g_iconst (v := 3) F (by decide) dX10_areaOf_6 ?_
  refine g_iload_n (k := 1) F 1 rfl dX10_areaOf_7 ?_
  refine g_imul F dX10_areaOf_8 ?_
  refine g_rei (nI (3 * r)) (nmul rfl rfl) ?_
  refine g_iadd F dX10_areaOf_9 ?_
  refine g_rei (nI (70 + (3 * r))) (nadd rfl rfl) ?_
  refine g_iconst (v := 2) F (by decide) dX10_areaOf_10 ?_
  refine g_iadd F dX10_areaOf_11 ?_
  refine g_rei (nI ((70 + (3 * r)) + 2)) (nadd rfl rfl) ?_
  refine g_lalde hz (j := ((70 + (3 * r)) + 2)) F (qi95 hq) rfl (by rw [(qn95 hq)]; omega) (by rw [(qn95 hq)]; decide) dX10_areaOf_12 ?_
  refine g_ldc2 F mw550 dX10_areaOf_13 ?_
  refine g_ldiv F dX10_areaOf_16 (by decide) ?_
  refine g_aload_n (k := 0) F 0 rfl dX10_areaOf_17 ?_
  refine g_callV F (kX10_constant Γ.1 _ q hq z hz hB ) okX10_constant (qi94 hq) mw803 ⟨(Nat.le_of_ble_eq_true rfl), (Nat.le_of_ble_eq_true rfl)⟩ rfl rfl (Nat.le_of_ble_eq_true rfl) ⟨(Nat.le_of_ble_eq_true rfl), (Nat.le_of_ble_eq_true rfl)⟩ dX10_areaOf_18 (toJ (fun r1 S2 h3 => ?_))
  obtain ⟨er1, rfl⟩ := h3
  refine g_ladd F dX10_areaOf_21 ?_
  refine g_lret F T ⟨_, rfl, ?_⟩ (Nat.le_of_ble_eq_true rfl) (Nat.le_of_ble_eq_true rfl) dX10_areaOf_22
  exact ⟨by rw [er1]; rfl, rfl⟩
set_option maxHeartbeats 4000000 in
set_option maxRecDepth 100000 in
theorem kX10_left (g : Glo) (S : PS) (q : Nat → Nat) (hq : Shp S.1 S.2.1 q) (z : ZZ) (hz : pJ S (q 95) = z) (hB : Bz z) (out : Nat → Bool) (ho : ∀ j, j < 12 → pI S (q 98) j = bI (out j)) : Ct g mX10_left 0 0 [.ref (q 94)] S (pI9 (fun r S' => r = nI (lfF out (nr z)) ∧ S = S')) := by
  refine Ct.of (by decide) (Nat.le_of_ble_eq_true rfl) (fun Γ hg F T => ?_)
  subst hg
  show G Γ S 0 0 0 [(0, .ref (q 94))] []
  have hnr := (nr_e hB).2
  refine g_iconst (v := 0) F (by decide) dX10_left_0 ?_
  refine g_istore_n (k := 1) (L' := [(1, .int 0), (0, .ref (q 94))]) F dX10_left_1 (Nat.le_of_ble_eq_true rfl) rfl ?_
  refine g_iconst (v := 0) F (by decide) dX10_left_2 ?_
  refine g_istore_n (k := 2) (L' := [(2, .int 0), (1, .int 0), (0, .ref (q 94))]) F dX10_left_3 (Nat.le_of_ble_eq_true rfl) rfl ?_
  have lp1 : ∀ (n9 : Nat) (i : Nat) (a : Nat), nr z < i + n9 → (i ≤ nr z) → (a = lfF out i) → G Γ S 0 0 4 [(2, .int (nI i)), (1, .int (nI a)), (0, .ref (q 94))] [] := by
    intro n9
    induction n9 with
    | zero =>
      intro i a hm9 hi ha
      exact absurd hm9 (by omega)
    | succ n9 ihlp1 =>
      intro i a hm9 hi ha
      refine g_iload_n (k := 2) F 0 rfl dX10_left_4 ?_
      refine g_i2l F dX10_left_5 ?_
      refine g_aload_n (k := 0) F 2 rfl dX10_left_6 ?_
      refine gfX10_7 F (qi94 hq) (qr94_1 hq) dX10_left_7 ?_
      refine g_bipush (v := 69) F (by decide) dX10_left_10 ?_
      refine g_lalde hz (j := 69) F (qi95 hq) rfl (by rw [(qn95 hq)]; omega) (by rw [(qn95 hq)]; decide) dX10_left_12 ?_
      refine g_lcmp F dX10_left_13 ?_
      refine g_if_ge (t := 40) F dX10_left_14 (by decide) (fun c2 => ?_) (fun c2 => ?_)
      · rw [lc_ge] at c2
        rw [nI_L (by omega), z69 hB, lN_le (by omega) (by omega)] at c2
        have hi9 : i = nr z := by omega
        refine g_iload_n (k := 1) F 1 rfl dX10_left_40 ?_
        refine g_iret F T ⟨_, rfl, ?_⟩ (Nat.le_of_ble_eq_true rfl) (Nat.le_of_ble_eq_true rfl) dX10_left_41
        exact ⟨by rw [ha, hi9], rfl⟩
      · rw [lc_ge] at c2
        rw [nI_L (by omega), z69 hB, lN_le (by omega) (by omega)] at c2
        have hi9 : i < nr z := by omega
        refine g_iload_n (k := 1) F 1 rfl dX10_left_17 ?_
        refine g_aload_n (k := 0) F 2 rfl dX10_left_18 ?_
        refine gfX10_20 F (qi94 hq) (qr94_11 hq) dX10_left_19 ?_
        refine g_iload_n (k := 2) F 0 rfl dX10_left_22 ?_
        refine g_zald (j := i) F (qi98 hq) rfl (by rw [(qn98 hq)]; omega) (by rw [(qn98 hq)]; decide) dX10_left_23 ?_
        refine g_if_eq (t := 31) F dX10_left_24 (by decide) (fun c3 => ?_) (fun c3 => ?_)
        · have ob := bI_f (ho i (by omega)) c3
          refine g_iconst (v := 1) F (by decide) dX10_left_31 ?_
          refine g_iadd F dX10_left_32 ?_
          refine g_rei (nI (a + 1)) (nadd rfl rfl) ?_
          refine g_istore_n (k := 1) (L' := [(1, .int (nI (a + 1))), (2, .int (nI i)), (0, .ref (q 94))]) F dX10_left_33 (Nat.le_of_ble_eq_true rfl) rfl ?_
          obtain ⟨x4, ex4⟩ : ∃ y9 : Int32, y9 = (nI i) + 1 := ⟨_, rfl⟩
          refine g_iinc (k := 1) (v := x4) (L' := [(2, .int x4), (1, .int (nI (a + 1))), (0, .ref (q 94))]) F dX10_left_34 rfl (by rw [ex4]; rfl) (Nat.le_of_ble_eq_true rfl) rfl ?_
          refine g_goto (t := 4) F dX10_left_37 (by decide) ?_
          obtain rfl : x4 = nI (i + 1) := (ex4.trans (nI_1 _))
          refine g_sub (L' := [(2, .int (nI (i + 1))), (1, .int (nI (a + 1))), (0, .ref (q 94))]) [0, 1, 2] rfl ?_
          exact ihlp1 (i + 1) ((a + 1)) (by omega) (by omega) (by rw [lfF_f ob, ha])
        · have ob := bI_t (ho i (by omega)) c3
          refine g_iconst (v := 0) F (by decide) dX10_left_27 ?_
          refine g_goto (t := 32) F dX10_left_28 (by decide) ?_
          refine g_iadd F dX10_left_32 ?_
          refine g_rei (nI (a + 0)) (nadd rfl rfl) ?_
          refine g_istore_n (k := 1) (L' := [(1, .int (nI (a + 0))), (2, .int (nI i)), (0, .ref (q 94))]) F dX10_left_33 (Nat.le_of_ble_eq_true rfl) rfl ?_
          obtain ⟨x5, ex5⟩ : ∃ y9 : Int32, y9 = (nI i) + 1 := ⟨_, rfl⟩
          refine g_iinc (k := 1) (v := x5) (L' := [(2, .int x5), (1, .int (nI (a + 0))), (0, .ref (q 94))]) F dX10_left_34 rfl (by rw [ex5]; rfl) (Nat.le_of_ble_eq_true rfl) rfl ?_
          refine g_goto (t := 4) F dX10_left_37 (by decide) ?_
          obtain rfl : x5 = nI (i + 1) := (ex5.trans (nI_1 _))
          refine g_sub (L' := [(2, .int (nI (i + 1))), (1, .int (nI (a + 0))), (0, .ref (q 94))]) [0, 1, 2] rfl ?_
          exact ihlp1 (i + 1) ((a + 0)) (by omega) (by omega) (by rw [lfF_t ob, ha])
  exact lp1 (nr z + 1) 0 0 (by omega) (by omega) rfl
set_option maxHeartbeats 4000000 in
set_option maxRecDepth 100000 in
theorem kX10_middle (g : Glo) (S : PS) (q : Nat → Nat) (hq : Shp S.1 S.2.1 q) (z : ZZ) (hz : pJ S (q 95) = z) (hB : Bz z) (out : Nat → Bool) (ho : ∀ j, j < 12 → pI S (q 98) j = bI (out j)) (hl : 1 ≤ lfF out (nr z)) : Ct g mX10_middle 0 0 [.ref (q 94)] S (pJ9 (fun r S' => r = midF (zAr z) out (nr z) ∧ S = S')) := by
  refine Ct.of (by decide) (Nat.le_of_ble_eq_true rfl) (fun Γ hg F T => ?_)
  subst hg
  show G Γ S 0 0 0 [(0, .ref (q 94))] []
  have hnr := (nr_e hB).2
  have hlf := lfF_le out (nr z)
  refine g_aload_n (k := 0) F 0 rfl dX10_middle_0 ?_
  refine g_callV F (kX10_left Γ.1 _ q hq z hz hB out ho) okX10_left (qi94 hq) mw818 ⟨(Nat.le_of_ble_eq_true rfl), (Nat.le_of_ble_eq_true rfl)⟩ rfl rfl (Nat.le_of_ble_eq_true rfl) ⟨(Nat.le_of_ble_eq_true rfl), (Nat.le_of_ble_eq_true rfl)⟩ dX10_middle_1 (toI (fun r1 S2 h3 => ?_))
  obtain ⟨rfl, rfl⟩ := h3
  refine g_iconst (v := 1) F (by decide) dX10_middle_4 ?_
  refine g_isub F dX10_middle_5 ?_
  refine g_rei (nI ((lfF out (nr z)) - 1)) (nsub rfl rfl (by omega)) ?_
  refine g_iconst (v := 2) F (by decide) dX10_middle_6 ?_
  refine g_idiv F dX10_middle_7 (by decide) ?_
  refine g_rei (nI (((lfF out (nr z)) - 1) / 2)) (ndiv rfl rfl (by omega) (by omega) (by omega)) ?_
  refine g_istore_n (k := 1) (L' := [(1, .int (nI (((lfF out (nr z)) - 1) / 2))), (0, .ref (q 94))]) F dX10_middle_8 (Nat.le_of_ble_eq_true rfl) rfl ?_
  refine g_iconst (v := 0) F (by decide) dX10_middle_9 ?_
  refine g_istore_n (k := 2) (L' := [(2, .int 0), (1, .int (nI (((lfF out (nr z)) - 1) / 2))), (0, .ref (q 94))]) F dX10_middle_10 (Nat.le_of_ble_eq_true rfl) rfl ?_
  have lp4 : ∀ (n9 : Nat) (i : Nat), nr z < i + n9 → (i ≤ nr z) → (∀ j, j < i → isM (zAr z) out (nr z) j = false) → G Γ S 0 0 11 [(2, .int (nI i)), (1, .int (nI (((lfF out (nr z)) - 1) / 2))), (0, .ref (q 94))] [] := by
    intro n9
    induction n9 with
    | zero =>
      intro i hm9 hi hj
      exact absurd hm9 (by omega)
    | succ n9 ihlp4 =>
      intro i hm9 hi hj
      refine g_iload_n (k := 2) F 0 rfl dX10_middle_11 ?_
      refine g_i2l F dX10_middle_12 ?_
      refine g_aload_n (k := 0) F 2 rfl dX10_middle_13 ?_
      refine gfX10_7 F (qi94 hq) (qr94_1 hq) dX10_middle_14 ?_
      refine g_bipush (v := 69) F (by decide) dX10_middle_17 ?_
      refine g_lalde hz (j := 69) F (qi95 hq) rfl (by rw [(qn95 hq)]; omega) (by rw [(qn95 hq)]; decide) dX10_middle_19 ?_
      refine g_lcmp F dX10_middle_20 ?_
      refine g_if_ge (t := 141) F dX10_middle_21 (by decide) (fun c5 => ?_) (fun c5 => ?_)
      · rw [lc_ge] at c5
        rw [nI_L (by omega), z69 hB, lN_le (by omega) (by omega)] at c5
        have hi9 : i = nr z := by omega
        refine g_lconst (v := 0) F (by decide) dX10_middle_141 ?_
        refine g_lret F T ⟨_, rfl, ?_⟩ (Nat.le_of_ble_eq_true rfl) (Nat.le_of_ble_eq_true rfl) dX10_middle_142
        exact ⟨(mid_none (fun j hj2 => hj j (by omega))).symm, rfl⟩
      · rw [lc_ge] at c5
        rw [nI_L (by omega), z69 hB, lN_le (by omega) (by omega)] at c5
        have hi9 : i < nr z := by omega
        refine g_iconst (v := 0) F (by decide) dX10_middle_24 ?_
        refine g_istore_n (k := 3) (L' := [(3, .int 0), (2, .int (nI i)), (1, .int (nI (((lfF out (nr z)) - 1) / 2))), (0, .ref (q 94))]) F dX10_middle_25 (Nat.le_of_ble_eq_true rfl) rfl ?_
        refine g_iconst (v := 0) F (by decide) dX10_middle_26 ?_
        refine g_istore (L' := [(4, .int 0), (3, .int 0), (2, .int (nI i)), (1, .int (nI (((lfF out (nr z)) - 1) / 2))), (0, .ref (q 94))]) F dX10_middle_27 (Nat.le_of_ble_eq_true rfl) rfl ?_
        have lp6 : ∀ (n9 : Nat) (o : Nat) (a : Nat), nr z < o + n9 → (o ≤ nr z) → (a = cntF (fun o => !out o && ahd (zAr z) o i) o) → G Γ S 0 0 29 [(4, .int (nI o)), (3, .int (nI a)), (2, .int (nI i)), (1, .int (nI (((lfF out (nr z)) - 1) / 2))), (0, .ref (q 94))] [] := by
          intro n9
          induction n9 with
          | zero =>
            intro o a hm9 ho2 ha
            exact absurd hm9 (by omega)
          | succ n9 ihlp6 =>
            intro o a hm9 ho2 ha
            refine g_iload F 0 rfl dX10_middle_29 ?_
            refine g_i2l F dX10_middle_31 ?_
            refine g_aload_n (k := 0) F 4 rfl dX10_middle_32 ?_
            refine gfX10_7 F (qi94 hq) (qr94_1 hq) dX10_middle_33 ?_
            refine g_bipush (v := 69) F (by decide) dX10_middle_36 ?_
            refine g_lalde hz (j := 69) F (qi95 hq) rfl (by rw [(qn95 hq)]; omega) (by rw [(qn95 hq)]; decide) dX10_middle_38 ?_
            refine g_lcmp F dX10_middle_39 ?_
            refine g_if_ge (t := 115) F dX10_middle_40 (by decide) (fun c7 => ?_) (fun c7 => ?_)
            · rw [lc_ge] at c7
              rw [nI_L (by omega), z69 hB, lN_le (by omega) (by omega)] at c7
              have ho9 : o = nr z := by omega
              have hab : a ≤ 12 := by rw [ha]; have := cntF_le (fun o => !out o && ahd (zAr z) o i) o; omega
              have hrk : a = rkF (zAr z) out (nr z) i := by rw [ha, ho9]; rfl
              refine g_aload_n (k := 0) F 4 rfl dX10_middle_115 ?_
              refine gfX10_20 F (qi94 hq) (qr94_11 hq) dX10_middle_116 ?_
              refine g_iload_n (k := 2) F 2 rfl dX10_middle_119 ?_
              refine g_zald (j := i) F (qi98 hq) rfl (by rw [(qn98 hq)]; omega) (by rw [(qn98 hq)]; decide) dX10_middle_120 ?_
              refine g_if_ne (t := 135) F dX10_middle_121 (by decide) (fun c8 => ?_) (fun c8 => ?_)
              · have ob := bI_t (ho i (by omega)) c8
                obtain ⟨x9, ex9⟩ : ∃ y9 : Int32, y9 = (nI i) + 1 := ⟨_, rfl⟩
                refine g_iinc (k := 2) (v := x9) (L' := [(2, .int x9), (4, .int (nI o)), (3, .int (nI a)), (1, .int (nI (((lfF out (nr z)) - 1) / 2))), (0, .ref (q 94))]) F dX10_middle_135 rfl (by rw [ex9]; rfl) (Nat.le_of_ble_eq_true rfl) rfl ?_
                refine g_goto (t := 11) F dX10_middle_138 (by decide) ?_
                obtain rfl : x9 = nI (i + 1) := (ex9.trans (nI_1 _))
                refine g_sub (L' := [(2, .int (nI (i + 1))), (1, .int (nI (((lfF out (nr z)) - 1) / 2))), (0, .ref (q 94))]) [0, 3, 4] rfl ?_
                exact ihlp4 (i + 1) (by omega) (by omega) (all_s hj (isM_f1 ob))
              · have ob := bI_f (ho i (by omega)) c8
                refine g_iload_n (k := 3) F 1 rfl dX10_middle_124 ?_
                refine g_iload_n (k := 1) F 3 rfl dX10_middle_125 ?_
                refine g_icmp_ne (t := 135) F dX10_middle_126 (by decide) (fun c10 => ?_) (fun c10 => ?_)
                · obtain ⟨x11, ex11⟩ : ∃ y9 : Int32, y9 = (nI i) + 1 := ⟨_, rfl⟩
                  refine g_iinc (k := 2) (v := x11) (L' := [(2, .int x11), (4, .int (nI o)), (3, .int (nI a)), (1, .int (nI (((lfF out (nr z)) - 1) / 2))), (0, .ref (q 94))]) F dX10_middle_135 rfl (by rw [ex11]; rfl) (Nat.le_of_ble_eq_true rfl) rfl ?_
                  refine g_goto (t := 11) F dX10_middle_138 (by decide) ?_
                  obtain rfl : x11 = nI (i + 1) := (ex11.trans (nI_1 _))
                  refine g_sub (L' := [(2, .int (nI (i + 1))), (1, .int (nI (((lfF out (nr z)) - 1) / 2))), (0, .ref (q 94))]) [0, 3, 4] rfl ?_
                  exact ihlp4 (i + 1) (by omega) (by omega) (all_s hj (isM_f2 (fun h => c10 (by rw [hrk, h]))))
                · refine g_aload_n (k := 0) F 4 rfl dX10_middle_129 ?_
                  refine g_iload_n (k := 2) F 2 rfl dX10_middle_130 ?_
                  refine g_callV F (kX10_areaOf Γ.1 _ q hq z hz hB i (by omega)) okX10_areaOf (qi94 hq) mw799 ⟨(Nat.le_of_ble_eq_true rfl), (Nat.le_of_ble_eq_true rfl)⟩ rfl rfl (Nat.le_of_ble_eq_true rfl) ⟨(Nat.le_of_ble_eq_true rfl), (Nat.le_of_ble_eq_true rfl)⟩ dX10_middle_131 (toJ (fun r12 S13 h14 => ?_))
                  obtain ⟨er12, rfl⟩ := h14
                  refine g_lret F T ⟨_, rfl, ?_⟩ (Nat.le_of_ble_eq_true rfl) (Nat.le_of_ble_eq_true rfl) dX10_middle_134
                  exact ⟨by rw [er12, mid_some hi9 (isM_t ob (by rw [nI_eq (by omega) (by omega)] at c10; rw [← hrk]; exact c10)) hj], rfl⟩
            · rw [lc_ge] at c7
              rw [nI_L (by omega), z69 hB, lN_le (by omega) (by omega)] at c7
              have ho9 : o < nr z := by omega
              refine g_aload_n (k := 0) F 4 rfl dX10_middle_43 ?_
              refine g_iload F 0 rfl dX10_middle_44 ?_
              refine g_callV F (kX10_areaOf Γ.1 _ q hq z hz hB o (by omega)) okX10_areaOf (qi94 hq) mw799 ⟨(Nat.le_of_ble_eq_true rfl), (Nat.le_of_ble_eq_true rfl)⟩ rfl rfl (Nat.le_of_ble_eq_true rfl) ⟨(Nat.le_of_ble_eq_true rfl), (Nat.le_of_ble_eq_true rfl)⟩ dX10_middle_46 (toJ (fun r15 S16 h17 => ?_))
              obtain ⟨er15, rfl⟩ := h17
              refine g_aload_n (k := 0) F 4 rfl dX10_middle_49 ?_
              refine g_iload_n (k := 2) F 2 rfl dX10_middle_50 ?_
              refine g_callV F (kX10_areaOf Γ.1 _ q hq z hz hB i (by omega)) okX10_areaOf (qi94 hq) mw799 ⟨(Nat.le_of_ble_eq_true rfl), (Nat.le_of_ble_eq_true rfl)⟩ rfl rfl (Nat.le_of_ble_eq_true rfl) ⟨(Nat.le_of_ble_eq_true rfl), (Nat.le_of_ble_eq_true rfl)⟩ dX10_middle_51 (toJ (fun r18 S19 h20 => ?_))
              obtain ⟨er18, rfl⟩ := h20
              refine g_lcmp F dX10_middle_54 ?_
              have jn22 : ∀ (w84 : Int32), (w84 = 1 ∧ ahd (zAr z) o i = true) ∨ (w84 = 0 ∧ ¬ ahd (zAr z) o i = true) → G Γ S 0 0 84 [(4, .int (nI o)), (3, .int (nI a)), (2, .int (nI i)), (1, .int (nI (((lfF out (nr z)) - 1) / 2))), (0, .ref (q 94))] [.int w84] := by
                intro w84 h84
                refine g_istore (L' := [(5, .int w84), (4, .int (nI o)), (3, .int (nI a)), (2, .int (nI i)), (1, .int (nI (((lfF out (nr z)) - 1) / 2))), (0, .ref (q 94))]) F dX10_middle_84 (Nat.le_of_ble_eq_true rfl) rfl ?_
                refine g_iload_n (k := 3) F 2 rfl dX10_middle_86 ?_
                refine g_aload_n (k := 0) F 5 rfl dX10_middle_87 ?_
                refine gfX10_20 F (qi94 hq) (qr94_11 hq) dX10_middle_88 ?_
                refine g_iload F 1 rfl dX10_middle_91 ?_
                refine g_zald (j := o) F (qi98 hq) rfl (by rw [(qn98 hq)]; omega) (by rw [(qn98 hq)]; decide) dX10_middle_93 ?_
                refine g_if_ne (t := 106) F dX10_middle_94 (by decide) (fun c23 => ?_) (fun c23 => ?_)
                · have ob := bI_t (ho o (by omega)) c23
                  refine g_iconst (v := 0) F (by decide) dX10_middle_106 ?_
                  refine g_iadd F dX10_middle_107 ?_
                  refine g_rei (nI (a + 0)) (nadd rfl rfl) ?_
                  refine g_istore_n (k := 3) (L' := [(3, .int (nI (a + 0))), (5, .int w84), (4, .int (nI o)), (2, .int (nI i)), (1, .int (nI (((lfF out (nr z)) - 1) / 2))), (0, .ref (q 94))]) F dX10_middle_108 (Nat.le_of_ble_eq_true rfl) rfl ?_
                  obtain ⟨x24, ex24⟩ : ∃ y9 : Int32, y9 = (nI o) + 1 := ⟨_, rfl⟩
                  refine g_iinc (k := 2) (v := x24) (L' := [(4, .int x24), (3, .int (nI (a + 0))), (5, .int w84), (2, .int (nI i)), (1, .int (nI (((lfF out (nr z)) - 1) / 2))), (0, .ref (q 94))]) F dX10_middle_109 rfl (by rw [ex24]; rfl) (Nat.le_of_ble_eq_true rfl) rfl ?_
                  refine g_goto (t := 29) F dX10_middle_112 (by decide) ?_
                  obtain rfl : x24 = nI (o + 1) := (ex24.trans (nI_1 _))
                  refine g_sub (L' := [(4, .int (nI (o + 1))), (3, .int (nI (a + 0))), (2, .int (nI i)), (1, .int (nI (((lfF out (nr z)) - 1) / 2))), (0, .ref (q 94))]) [0, 1, 3, 4, 5] rfl ?_
                  exact ihlp6 (o + 1) ((a + 0)) (by omega) (by omega) (by rw [cnt_f (by simp [ob]), ha])
                · have ob := bI_f (ho o (by omega)) c23
                  refine g_iload F 0 rfl dX10_middle_97 ?_
                  refine g_if_eq (t := 106) F dX10_middle_99 (by decide) (fun c25 => ?_) (fun c25 => ?_)
                  · refine g_iconst (v := 0) F (by decide) dX10_middle_106 ?_
                    refine g_iadd F dX10_middle_107 ?_
                    refine g_rei (nI (a + 0)) (nadd rfl rfl) ?_
                    refine g_istore_n (k := 3) (L' := [(3, .int (nI (a + 0))), (5, .int w84), (4, .int (nI o)), (2, .int (nI i)), (1, .int (nI (((lfF out (nr z)) - 1) / 2))), (0, .ref (q 94))]) F dX10_middle_108 (Nat.le_of_ble_eq_true rfl) rfl ?_
                    obtain ⟨x26, ex26⟩ : ∃ y9 : Int32, y9 = (nI o) + 1 := ⟨_, rfl⟩
                    refine g_iinc (k := 2) (v := x26) (L' := [(4, .int x26), (3, .int (nI (a + 0))), (5, .int w84), (2, .int (nI i)), (1, .int (nI (((lfF out (nr z)) - 1) / 2))), (0, .ref (q 94))]) F dX10_middle_109 rfl (by rw [ex26]; rfl) (Nat.le_of_ble_eq_true rfl) rfl ?_
                    refine g_goto (t := 29) F dX10_middle_112 (by decide) ?_
                    obtain rfl : x26 = nI (o + 1) := (ex26.trans (nI_1 _))
                    refine g_sub (L' := [(4, .int (nI (o + 1))), (3, .int (nI (a + 0))), (2, .int (nI i)), (1, .int (nI (((lfF out (nr z)) - 1) / 2))), (0, .ref (q 94))]) [0, 1, 3, 4, 5] rfl ?_
                    exact ihlp6 (o + 1) ((a + 0)) (by omega) (by omega) (by rw [cnt_f (by rw [ob, eq_false_of_ne_true (w0 h84 c25)]; rfl), ha])
                  · refine g_iconst (v := 1) F (by decide) dX10_middle_102 ?_
                    refine g_goto (t := 107) F dX10_middle_103 (by decide) ?_
                    refine g_iadd F dX10_middle_107 ?_
                    refine g_rei (nI (a + 1)) (nadd rfl rfl) ?_
                    refine g_istore_n (k := 3) (L' := [(3, .int (nI (a + 1))), (5, .int w84), (4, .int (nI o)), (2, .int (nI i)), (1, .int (nI (((lfF out (nr z)) - 1) / 2))), (0, .ref (q 94))]) F dX10_middle_108 (Nat.le_of_ble_eq_true rfl) rfl ?_
                    obtain ⟨x27, ex27⟩ : ∃ y9 : Int32, y9 = (nI o) + 1 := ⟨_, rfl⟩
                    refine g_iinc (k := 2) (v := x27) (L' := [(4, .int x27), (3, .int (nI (a + 1))), (5, .int w84), (2, .int (nI i)), (1, .int (nI (((lfF out (nr z)) - 1) / 2))), (0, .ref (q 94))]) F dX10_middle_109 rfl (by rw [ex27]; rfl) (Nat.le_of_ble_eq_true rfl) rfl ?_
                    refine g_goto (t := 29) F dX10_middle_112 (by decide) ?_
                    obtain rfl : x27 = nI (o + 1) := (ex27.trans (nI_1 _))
                    refine g_sub (L' := [(4, .int (nI (o + 1))), (3, .int (nI (a + 1))), (2, .int (nI i)), (1, .int (nI (((lfF out (nr z)) - 1) / 2))), (0, .ref (q 94))]) [0, 1, 3, 4, 5] rfl ?_
                    exact ihlp6 (o + 1) ((a + 1)) (by omega) (by omega) (by rw [cnt_t (by rw [ob, w1 h84 c25]; rfl), ha])
              refine g_if_lt (t := 79) F dX10_middle_55 (by decide) (fun c21 => ?_) (fun c21 => ?_)
              · rw [lc_lt] at c21
                refine g_iconst (v := 1) F (by decide) dX10_middle_79 ?_
                refine g_goto (t := 84) F dX10_middle_80 (by decide) ?_
                exact jn22 (1) (Or.inl ⟨rfl, ahd_t (Or.inl (by rw [← er15, ← er18]; exact c21))⟩)
              · rw [lc_lt] at c21
                refine g_aload_n (k := 0) F 4 rfl dX10_middle_58 ?_
                refine g_iload F 0 rfl dX10_middle_59 ?_
                refine g_callV F (kX10_areaOf Γ.1 _ q hq z hz hB o (by omega)) okX10_areaOf (qi94 hq) mw799 ⟨(Nat.le_of_ble_eq_true rfl), (Nat.le_of_ble_eq_true rfl)⟩ rfl rfl (Nat.le_of_ble_eq_true rfl) ⟨(Nat.le_of_ble_eq_true rfl), (Nat.le_of_ble_eq_true rfl)⟩ dX10_middle_61 (toJ (fun r28 S29 h30 => ?_))
                obtain ⟨er28, rfl⟩ := h30
                refine g_aload_n (k := 0) F 4 rfl dX10_middle_64 ?_
                refine g_iload_n (k := 2) F 2 rfl dX10_middle_65 ?_
                refine g_callV F (kX10_areaOf Γ.1 _ q hq z hz hB i (by omega)) okX10_areaOf (qi94 hq) mw799 ⟨(Nat.le_of_ble_eq_true rfl), (Nat.le_of_ble_eq_true rfl)⟩ rfl rfl (Nat.le_of_ble_eq_true rfl) ⟨(Nat.le_of_ble_eq_true rfl), (Nat.le_of_ble_eq_true rfl)⟩ dX10_middle_66 (toJ (fun r31 S32 h33 => ?_))
                obtain ⟨er31, rfl⟩ := h33
                refine g_lcmp F dX10_middle_69 ?_
                refine g_if_ne (t := 83) F dX10_middle_70 (by decide) (fun c34 => ?_) (fun c34 => ?_)
                · rw [lc_eq] at c34
                  refine g_iconst (v := 0) F (by decide) dX10_middle_83 ?_
                  exact jn22 (0) (Or.inr ⟨rfl, by rw [ahd_f (by rw [← er15, ← er18]; exact c21) (fun h => c34 (by rw [er28, er31]; exact h.1))]; decide⟩)
                · rw [lc_eq] at c34
                  refine g_iload F 0 rfl dX10_middle_73 ?_
                  refine g_iload_n (k := 2) F 2 rfl dX10_middle_75 ?_
                  refine g_icmp_ge (t := 83) F dX10_middle_76 (by decide) (fun c35 => ?_) (fun c35 => ?_)
                  · refine g_iconst (v := 0) F (by decide) dX10_middle_83 ?_
                    exact jn22 (0) (Or.inr ⟨rfl, by rw [ahd_f (by rw [← er15, ← er18]; exact c21) (fun h => by rw [nI_leI (by omega) (by omega)] at c35; omega)]; decide⟩)
                  · refine g_iconst (v := 1) F (by decide) dX10_middle_79 ?_
                    refine g_goto (t := 84) F dX10_middle_80 (by decide) ?_
                    exact jn22 (1) (Or.inl ⟨rfl, ahd_t (Or.inr ⟨by rw [← er28, ← er31]; exact c34, by rw [nI_leI (by omega) (by omega)] at c35; omega⟩)⟩)
        exact lp6 (nr z + 1) 0 0 (by omega) (by omega) rfl
  exact lp4 (nr z + 1) 0 (by omega) (by omega) (fun j hj => absurd hj (Nat.not_lt_zero j))
