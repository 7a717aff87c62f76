set_option maxHeartbeats 4000000 in
set_option maxRecDepth 100000 in
theorem kJ_nlzI (g : Glo) (S : PS) (I : Nat) (h0 : 0 < I) (h1 : I < 2 ^ 32) : Ct g mJ6_numberOfLeadingZeros_0f7a4 0 0 [.int (nI I)] S (pI9 (fun r S' => (∃ n, n ≤ 31 ∧ r = nI n ∧ I < 2 ^ (32 - n)) ∧ S = S')) := by
  refine Ct.of (by decide) (Nat.le_of_ble_eq_true rfl) (fun Γ hg F T => ?_)
  subst hg
  show G Γ S 0 0 0 [(0, .int (nI I))] []
  refine g_iload_n (k := 0) F 0 rfl dJ6_numberOfLeadingZeros_0f7a4_0 ?_
  refine g_if_gt (t := 15) F dJ6_numberOfLeadingZeros_0f7a4_1 (by decide) (fun c1 => ?_) (fun c1 => ?_)
  · have h31 := nI_pos31 h1 c1
    have hI0 : I < (I + 1) * 2 ^ (31 - 31) := by omega
    refine g_bipush (v := 31) F (by decide) dJ6_numberOfLeadingZeros_0f7a4_15 ?_
    refine g_istore_n (k := 1) (L' := [(1, .int 31), (0, .int (nI I))]) F dJ6_numberOfLeadingZeros_0f7a4_17 (Nat.le_of_ble_eq_true rfl) rfl ?_
    refine g_iload_n (k := 0) F 1 rfl dJ6_numberOfLeadingZeros_0f7a4_18 ?_
    refine g_ldcw F mw224 dJ6_numberOfLeadingZeros_0f7a4_19 ?_
    have jn3 : ∀ (y0 : Int32) (y1 : Int32), (∃ N J : Nat, y0 = nI J ∧ y1 = nI N ∧ 15 ≤ N ∧ N ≤ 31 ∧ 0 < J ∧ J < 65536 ∧ I < (J + 1) * 2 ^ (31 - N)) → G Γ S 0 0 33 [(1, .int y1), (0, .int y0)] [] := by
      intro y0 y1 hj1
      obtain ⟨N1, J1, rfl, rfl, hb1⟩ := hj1
      refine g_iload_n (k := 0) F 1 rfl dJ6_numberOfLeadingZeros_0f7a4_33 ?_
      refine g_sipush (v := 256) F (by decide) dJ6_numberOfLeadingZeros_0f7a4_34 ?_
      have jn5 : ∀ (y0 : Int32) (y1 : Int32), (∃ N J : Nat, y0 = nI J ∧ y1 = nI N ∧ 7 ≤ N ∧ N ≤ 31 ∧ 0 < J ∧ J < 256 ∧ I < (J + 1) * 2 ^ (31 - N)) → G Γ S 0 0 48 [(1, .int y1), (0, .int y0)] [] := by
        intro y0 y1 hj2
        obtain ⟨N2, J2, rfl, rfl, hb2⟩ := hj2
        refine g_iload_n (k := 0) F 1 rfl dJ6_numberOfLeadingZeros_0f7a4_48 ?_
        refine g_bipush (v := 16) F (by decide) dJ6_numberOfLeadingZeros_0f7a4_49 ?_
        have jn7 : ∀ (y0 : Int32) (y1 : Int32), (∃ N J : Nat, y0 = nI J ∧ y1 = nI N ∧ 3 ≤ N ∧ N ≤ 31 ∧ 0 < J ∧ J < 16 ∧ I < (J + 1) * 2 ^ (31 - N)) → G Γ S 0 0 61 [(1, .int y1), (0, .int y0)] [] := by
          intro y0 y1 hj3
          obtain ⟨N3, J3, rfl, rfl, hb3⟩ := hj3
          refine g_iload_n (k := 0) F 1 rfl dJ6_numberOfLeadingZeros_0f7a4_61 ?_
          refine g_iconst (v := 4) F (by decide) dJ6_numberOfLeadingZeros_0f7a4_62 ?_
          have jn9 : ∀ (y0 : Int32) (y1 : Int32), (∃ N J : Nat, y0 = nI J ∧ y1 = nI N ∧ 1 ≤ N ∧ N ≤ 31 ∧ 0 < J ∧ J < 4 ∧ I < (J + 1) * 2 ^ (31 - N)) → G Γ S 0 0 73 [(1, .int y1), (0, .int y0)] [] := by
            intro y0 y1 hj4
            obtain ⟨N4, J4, rfl, rfl, hb4⟩ := hj4
            refine g_iload_n (k := 1) F 0 rfl dJ6_numberOfLeadingZeros_0f7a4_73 ?_
            refine g_iload_n (k := 0) F 1 rfl dJ6_numberOfLeadingZeros_0f7a4_74 ?_
            refine g_iconst (v := 1) F (by decide) dJ6_numberOfLeadingZeros_0f7a4_75 ?_
            refine g_iushr F dJ6_numberOfLeadingZeros_0f7a4_76 ?_
            refine g_rei (nI (J4 / 2)) (pk_ushrN (by omega) 1 1 (by decide)) ?_
            refine g_isub F dJ6_numberOfLeadingZeros_0f7a4_77 ?_
            refine g_rei (nI (N4 - (J4 / 2))) (nsub rfl rfl (by omega)) ?_
            refine g_iret F T ⟨_, rfl, ?_⟩ (Nat.le_of_ble_eq_true rfl) (Nat.le_of_ble_eq_true rfl) dJ6_numberOfLeadingZeros_0f7a4_78
            exact ⟨⟨N4 - J4 / 2, by omega, rfl, nz_end hb4.2.2.2.2 (by omega) (by omega) (by omega) (by omega)⟩, rfl⟩
          refine g_icmp_lt (t := 73) F dJ6_numberOfLeadingZeros_0f7a4_63 (by decide) (fun c8 => ?_) (fun c8 => ?_)
          · have hJ9 : J3 < 4 := (nI_ltI (b := 4) (by omega) (by omega)).mp c8
            exact jn9 ((nI J3)) ((nI N3)) ⟨N3, J3, rfl, rfl, by omega, by omega, by omega, by omega, hb3.2.2.2.2⟩
          · have hJ9 : ¬ J3 < 4 := fun h => c8 ((nI_ltI (b := 4) (by omega) (by omega)).mpr h)
            obtain ⟨x10, ex10⟩ : ∃ y9 : Int32, y9 = (nI N3) + (-2) := ⟨_, rfl⟩
            refine g_iinc (k := 0) (v := x10) (L' := [(1, .int x10), (0, .int (nI J3))]) F dJ6_numberOfLeadingZeros_0f7a4_66 rfl (by rw [ex10]; rfl) (Nat.le_of_ble_eq_true rfl) rfl ?_
            obtain rfl : x10 = nI (N3 - 2) := (ex10.trans (nI_m (n := N3) (b := 2) (by omega)))
            refine g_iload_n (k := 0) F 1 rfl dJ6_numberOfLeadingZeros_0f7a4_69 ?_
            refine g_iconst (v := 2) F (by decide) dJ6_numberOfLeadingZeros_0f7a4_70 ?_
            refine g_iushr F dJ6_numberOfLeadingZeros_0f7a4_71 ?_
            refine g_rei (nI (J3 / 4)) (pk_ushrN (by omega) 2 2 (by decide)) ?_
            refine g_istore_n (k := 0) (L' := [(0, .int (nI (J3 / 4))), (1, .int (nI (N3 - 2)))]) F dJ6_numberOfLeadingZeros_0f7a4_72 (Nat.le_of_ble_eq_true rfl) rfl ?_
            refine g_sub (L' := [(1, .int (nI (N3 - 2))), (0, .int (nI (J3 / 4)))]) [1, 0] rfl ?_
            exact jn9 ((nI (J3 / 4))) ((nI (N3 - 2))) ⟨N3 - 2, J3 / 4, rfl, rfl, by omega, by omega, by omega, by omega, nz_step (k := 2) hb3.2.2.2.2 (by omega) (by omega)⟩
        refine g_icmp_lt (t := 61) F dJ6_numberOfLeadingZeros_0f7a4_51 (by decide) (fun c6 => ?_) (fun c6 => ?_)
        · have hJ9 : J2 < 16 := (nI_ltI (b := 16) (by omega) (by omega)).mp c6
          exact jn7 ((nI J2)) ((nI N2)) ⟨N2, J2, rfl, rfl, by omega, by omega, by omega, by omega, hb2.2.2.2.2⟩
        · have hJ9 : ¬ J2 < 16 := fun h => c6 ((nI_ltI (b := 16) (by omega) (by omega)).mpr h)
          obtain ⟨x11, ex11⟩ : ∃ y9 : Int32, y9 = (nI N2) + (-4) := ⟨_, rfl⟩
          refine g_iinc (k := 0) (v := x11) (L' := [(1, .int x11), (0, .int (nI J2))]) F dJ6_numberOfLeadingZeros_0f7a4_54 rfl (by rw [ex11]; rfl) (Nat.le_of_ble_eq_true rfl) rfl ?_
          obtain rfl : x11 = nI (N2 - 4) := (ex11.trans (nI_m (n := N2) (b := 4) (by omega)))
          refine g_iload_n (k := 0) F 1 rfl dJ6_numberOfLeadingZeros_0f7a4_57 ?_
          refine g_iconst (v := 4) F (by decide) dJ6_numberOfLeadingZeros_0f7a4_58 ?_
          refine g_iushr F dJ6_numberOfLeadingZeros_0f7a4_59 ?_
          refine g_rei (nI (J2 / 16)) (pk_ushrN (by omega) 4 4 (by decide)) ?_
          refine g_istore_n (k := 0) (L' := [(0, .int (nI (J2 / 16))), (1, .int (nI (N2 - 4)))]) F dJ6_numberOfLeadingZeros_0f7a4_60 (Nat.le_of_ble_eq_true rfl) rfl ?_
          refine g_sub (L' := [(1, .int (nI (N2 - 4))), (0, .int (nI (J2 / 16)))]) [1, 0] rfl ?_
          exact jn7 ((nI (J2 / 16))) ((nI (N2 - 4))) ⟨N2 - 4, J2 / 16, rfl, rfl, by omega, by omega, by omega, by omega, nz_step (k := 4) hb2.2.2.2.2 (by omega) (by omega)⟩
      refine g_icmp_lt (t := 48) F dJ6_numberOfLeadingZeros_0f7a4_37 (by decide) (fun c4 => ?_) (fun c4 => ?_)
      · have hJ9 : J1 < 256 := (nI_ltI (b := 256) (by omega) (by omega)).mp c4
        exact jn5 ((nI J1)) ((nI N1)) ⟨N1, J1, rfl, rfl, by omega, by omega, by omega, by omega, hb1.2.2.2.2⟩
      · have hJ9 : ¬ J1 < 256 := fun h => c4 ((nI_ltI (b := 256) (by omega) (by omega)).mpr h)
        obtain ⟨x12, ex12⟩ : ∃ y9 : Int32, y9 = (nI N1) + (-8) := ⟨_, rfl⟩
        refine g_iinc (k := 0) (v := x12) (L' := [(1, .int x12), (0, .int (nI J1))]) F dJ6_numberOfLeadingZeros_0f7a4_40 rfl (by rw [ex12]; rfl) (Nat.le_of_ble_eq_true rfl) rfl ?_
        obtain rfl : x12 = nI (N1 - 8) := (ex12.trans (nI_m (n := N1) (b := 8) (by omega)))
        refine g_iload_n (k := 0) F 1 rfl dJ6_numberOfLeadingZeros_0f7a4_43 ?_
        refine g_bipush (v := 8) F (by decide) dJ6_numberOfLeadingZeros_0f7a4_44 ?_
        refine g_iushr F dJ6_numberOfLeadingZeros_0f7a4_46 ?_
        refine g_rei (nI (J1 / 256)) (pk_ushrN (by omega) 8 8 (by decide)) ?_
        refine g_istore_n (k := 0) (L' := [(0, .int (nI (J1 / 256))), (1, .int (nI (N1 - 8)))]) F dJ6_numberOfLeadingZeros_0f7a4_47 (Nat.le_of_ble_eq_true rfl) rfl ?_
        refine g_sub (L' := [(1, .int (nI (N1 - 8))), (0, .int (nI (J1 / 256)))]) [1, 0] rfl ?_
        exact jn5 ((nI (J1 / 256))) ((nI (N1 - 8))) ⟨N1 - 8, J1 / 256, rfl, rfl, by omega, by omega, by omega, by omega, nz_step (k := 8) hb1.2.2.2.2 (by omega) (by omega)⟩
    refine g_icmp_lt (t := 33) F dJ6_numberOfLeadingZeros_0f7a4_22 (by decide) (fun c2 => ?_) (fun c2 => ?_)
    · have hJ9 : I < 65536 := (nI_ltI (b := 65536) (by omega) (by omega)).mp c2
      exact jn3 ((nI I)) (31) ⟨31, I, rfl, rfl, by omega, by omega, by omega, by omega, hI0⟩
    · have hJ9 : ¬ I < 65536 := fun h => c2 ((nI_ltI (b := 65536) (by omega) (by omega)).mpr h)
      obtain ⟨x13, ex13⟩ : ∃ y9 : Int32, y9 = 31 + (-16) := ⟨_, rfl⟩
      refine g_iinc (k := 0) (v := x13) (L' := [(1, .int x13), (0, .int (nI I))]) F dJ6_numberOfLeadingZeros_0f7a4_25 rfl (by rw [ex13]; rfl) (Nat.le_of_ble_eq_true rfl) rfl ?_
      obtain rfl : x13 = nI (31 - 16) := (ex13.trans (nI_m (n := 31) (b := 16) (by omega)))
      refine g_iload_n (k := 0) F 1 rfl dJ6_numberOfLeadingZeros_0f7a4_28 ?_
      refine g_bipush (v := 16) F (by decide) dJ6_numberOfLeadingZeros_0f7a4_29 ?_
      refine g_iushr F dJ6_numberOfLeadingZeros_0f7a4_31 ?_
      refine g_rei (nI (I / 65536)) (pk_ushrN (by omega) 16 16 (by decide)) ?_
      refine g_istore_n (k := 0) (L' := [(0, .int (nI (I / 65536))), (1, .int (nI (31 - 16)))]) F dJ6_numberOfLeadingZeros_0f7a4_32 (Nat.le_of_ble_eq_true rfl) rfl ?_
      refine g_sub (L' := [(1, .int (nI (31 - 16))), (0, .int (nI (I / 65536)))]) [1, 0] rfl ?_
      exact jn3 ((nI (I / 65536))) ((nI (31 - 16))) ⟨31 - 16, I / 65536, rfl, rfl, by omega, by omega, by omega, by omega, nz_step (k := 16) hI0 (by omega) (by omega)⟩
  · refine g_iload_n (k := 0) F 0 rfl dJ6_numberOfLeadingZeros_0f7a4_4 ?_
    refine g_if_ne (t := 13) F dJ6_numberOfLeadingZeros_0f7a4_5 (by decide) (fun c14 => ?_) (fun c14 => ?_)
    · refine g_iconst (v := 0) F (by decide) dJ6_numberOfLeadingZeros_0f7a4_13 ?_
      refine g_iret F T ⟨_, rfl, ?_⟩ (Nat.le_of_ble_eq_true rfl) (Nat.le_of_ble_eq_true rfl) dJ6_numberOfLeadingZeros_0f7a4_14
      exact ⟨⟨0, by omega, rfl, h1⟩, rfl⟩
    · exact absurd c14 (nI_z32 h1 h0)
set_option maxHeartbeats 4000000 in
set_option maxRecDepth 100000 in
theorem kJ_nlzL (g : Glo) (S : PS) (v : Nat) (h0 : 0 < v) (h1 : v < 9223372036854775808) : Ct g mJ13_numberOfLeadingZeros_95d88 0 0 [.long (lN v)] S (pI9 (fun r S' => (∃ n, n ≤ 63 ∧ r = nI n ∧ v < 2 ^ (64 - n)) ∧ S = S')) := by
  refine Ct.of (by decide) (Nat.le_of_ble_eq_true rfl) (fun Γ hg F T => ?_)
  subst hg
  show G Γ S 0 0 0 [(0, .long (lN v))] []
  refine g_lload_n (k := 0) F 0 rfl dJ13_numberOfLeadingZeros_95d88_0 ?_
  refine g_bipush (v := 32) F (by decide) dJ13_numberOfLeadingZeros_95d88_1 ?_
  refine g_lushr F dJ13_numberOfLeadingZeros_95d88_3 ?_
  refine g_rel (lN (v / 2 ^ 32)) (wb_shr (k := 32) (by omega) (by decide)) ?_
  refine g_l2i F dJ13_numberOfLeadingZeros_95d88_4 ?_
  refine g_rei (nI (v / 2 ^ 32)) (l2i_N) ?_
  refine g_istore_n (k := 2) (L' := [(2, .int (nI (v / 2 ^ 32))), (0, .long (lN v))]) F dJ13_numberOfLeadingZeros_95d88_5 (Nat.le_of_ble_eq_true rfl) rfl ?_
  refine g_iload_n (k := 2) F 0 rfl dJ13_numberOfLeadingZeros_95d88_6 ?_
  refine g_if_ne (t := 21) F dJ13_numberOfLeadingZeros_95d88_7 (by decide) (fun c1 => ?_) (fun c1 => ?_)
  · have hh9 : 0 < v / 2 ^ 32 := by
      rcases Nat.eq_zero_or_pos (v / 2 ^ 32) with h | h
      · exact absurd (by rw [h]; rfl) c1
      · exact h
    refine g_iload_n (k := 2) F 0 rfl dJ13_numberOfLeadingZeros_95d88_21 ?_
    refine g_callS F (kJ_nlzI Γ.1 _ _ hh9 (by omega)) okJ6_numberOfLeadingZeros_0f7a4 mw220 ⟨(Nat.le_of_ble_eq_true rfl), (Nat.le_of_ble_eq_true rfl)⟩ rfl rfl (Nat.le_of_ble_eq_true rfl) ⟨(Nat.le_of_ble_eq_true rfl), (Nat.le_of_ble_eq_true rfl)⟩ dJ13_numberOfLeadingZeros_95d88_22 (toI (fun r2 S3 h4 => ?_))
    obtain ⟨⟨m9, hm9, rfl, hv9⟩, rfl⟩ := h4
    refine g_iret F T ⟨_, rfl, ?_⟩ (Nat.le_of_ble_eq_true rfl) (Nat.le_of_ble_eq_true rfl) dJ13_numberOfLeadingZeros_95d88_25
    exact ⟨⟨m9, by omega, rfl, v32 hv9 (by omega)⟩, rfl⟩
  · have hh9 : v < 2 ^ 32 := by
      rw [show (0 : Int32) = nI 0 from rfl, nI_eq (by omega) (by omega)] at c1
      omega
    refine g_bipush (v := 32) F (by decide) dJ13_numberOfLeadingZeros_95d88_10 ?_
    refine g_lload_n (k := 0) F 1 rfl dJ13_numberOfLeadingZeros_95d88_12 ?_
    refine g_l2i F dJ13_numberOfLeadingZeros_95d88_13 ?_
    refine g_rei (nI v) (l2i_N) ?_
    refine g_callS F (kJ_nlzI Γ.1 _ _ h0 hh9) okJ6_numberOfLeadingZeros_0f7a4 mw220 ⟨(Nat.le_of_ble_eq_true rfl), (Nat.le_of_ble_eq_true rfl)⟩ rfl rfl (Nat.le_of_ble_eq_true rfl) ⟨(Nat.le_of_ble_eq_true rfl), (Nat.le_of_ble_eq_true rfl)⟩ dJ13_numberOfLeadingZeros_95d88_14 (toI (fun r5 S6 h7 => ?_))
    obtain ⟨⟨m9, hm9, rfl, hv9⟩, rfl⟩ := h7
    refine g_iadd F dJ13_numberOfLeadingZeros_95d88_17 ?_
    refine g_rei (nI (32 + m9)) (nadd rfl rfl) ?_
    refine g_goto (t := 25) F dJ13_numberOfLeadingZeros_95d88_18 (by decide) ?_
    refine g_iret F T ⟨_, rfl, ?_⟩ (Nat.le_of_ble_eq_true rfl) (Nat.le_of_ble_eq_true rfl) dJ13_numberOfLeadingZeros_95d88_25
    exact ⟨⟨32 + m9, by omega, rfl, v64 hv9 (by omega)⟩, rfl⟩
set_option maxHeartbeats 4000000 in
set_option maxRecDepth 100000 in
theorem kX9_root (g : Glo) (S : PS) (v : Int64) (hv : v.toInt < 16000000000000) : Ct g mX9_root 0 0 [.long v] S (pJ9 (fun r S' => r = rt v ∧ S = S')) := by
  refine Ct.of (by decide) (Nat.le_of_ble_eq_true rfl) (fun Γ hg F T => ?_)
  subst hg
  show G Γ S 0 0 0 [(0, .long v)] []
  refine g_lload_n (k := 0) F 0 rfl dX9_root_0 ?_
  refine g_lconst (v := 0) F (by decide) dX9_root_1 ?_
  refine g_lcmp F dX9_root_2 ?_
  refine g_if_gt (t := 8) F dX9_root_3 (by decide) (fun c1 => ?_) (fun c1 => ?_)
  · rw [lc_gt] at c1
    have hv1 : ¬ v ≤ 0 := L_nle.mpr c1
    obtain ⟨hV, hV0⟩ := L_N hv1
    generalize hVe : v.toInt.toNat = V at hV hV0
    have hV1 : V < 16000000000000 := by omega
    subst hV
    refine g_bipush (v := 64) F (by decide) dX9_root_8 ?_
    refine g_lload_n (k := 0) F 0 rfl dX9_root_10 ?_
    refine g_callS F (kJ_nlzL Γ.1 _ V hV0 (by omega)) okJ13_numberOfLeadingZeros_95d88 mw216 ⟨(Nat.le_of_ble_eq_true rfl), (Nat.le_of_ble_eq_true rfl)⟩ rfl rfl (Nat.le_of_ble_eq_true rfl) ⟨(Nat.le_of_ble_eq_true rfl), (Nat.le_of_ble_eq_true rfl)⟩ dX9_root_11 (toI (fun r2 S3 h4 => ?_))
    obtain ⟨⟨m9, hm9, rfl, hv9⟩, rfl⟩ := h4
    refine g_isub F dX9_root_14 ?_
    refine g_rei (nI (64 - m9)) (nsub rfl rfl (by omega)) ?_
    refine g_istore_n (k := 2) (L' := [(2, .int (nI (64 - m9))), (0, .long (lN V))]) F dX9_root_15 (Nat.le_of_ble_eq_true rfl) rfl ?_
    refine g_lconst (v := 1) F (by decide) dX9_root_16 ?_
    refine g_iload_n (k := 2) F 0 rfl dX9_root_17 ?_
    refine g_iconst (v := 1) F (by decide) dX9_root_18 ?_
    refine g_iadd F dX9_root_19 ?_
    refine g_rei (nI ((64 - m9) + 1)) (nadd rfl rfl) ?_
    refine g_iconst (v := 2) F (by decide) dX9_root_20 ?_
    refine g_idiv F dX9_root_21 (by decide) ?_
    refine g_rei (nI (((64 - m9) + 1) / 2)) (ndiv rfl rfl (by omega) (by omega) (by omega)) ?_
    refine g_lshl F dX9_root_22 ?_
    refine g_rel (lN (2 ^ ((64 - m9 + 1) / 2))) (pow_sh (by omega)) ?_
    refine g_lstore_n (k := 3) (L' := [(3, .long (lN (2 ^ ((64 - m9 + 1) / 2)))), (2, .int (nI (64 - m9))), (0, .long (lN V))]) F dX9_root_23 (Nat.le_of_ble_eq_true rfl) rfl ?_
    refine g_iconst (v := 0) F (by decide) dX9_root_24 ?_
    refine g_istore (L' := [(5, .int 0), (3, .long (lN (2 ^ ((64 - m9 + 1) / 2)))), (2, .int (nI (64 - m9))), (0, .long (lN V))]) F dX9_root_25 (Nat.le_of_ble_eq_true rfl) rfl ?_
    have lp5 : ∀ (n9 : Nat) (i : Nat) (g9 : Nat), 64 < i + n9 → (i ≤ 64) → (isq V ≤ g9) → ((g9 - isq V) * 2 ^ i ≤ 2 ^ 32) → (0 < g9 ∧ g9 ≤ 4294967296) → G Γ S 0 0 27 [(5, .int (nI i)), (3, .long (lN g9)), (2, .int (nI (64 - m9))), (0, .long (lN V))] [] := by
      intro n9
      induction n9 with
      | zero =>
        intro i g9 hm9 hi hg1 hg2 hg3
        exact absurd hm9 (by omega)
      | succ n9 ihlp5 =>
        intro i g9 hm9 hi hg1 hg2 hg3
        refine g_iload F 0 rfl dX9_root_27 ?_
        refine g_bipush (v := 64) F (by decide) dX9_root_29 ?_
        refine g_icmp_ge (t := 66) F dX9_root_31 (by decide) (fun c6 => ?_) (fun c6 => ?_)
        · have hi9 : i = 64 := by
            rw [show (64 : Int32) = nI 64 from rfl, nI_leI (by omega) (by omega)] at c6
            omega
          refine g_lload_n (k := 3) F 1 rfl dX9_root_66 ?_
          refine g_lret F T ⟨_, rfl, ?_⟩ (Nat.le_of_ble_eq_true rfl) (Nat.le_of_ble_eq_true rfl) dX9_root_67
          exact ⟨by rw [rt_N (by omega), nw_end hg1 (by rw [← hi9]; exact hg2)], rfl⟩
        · have hi9 : i < 64 := by
            rw [show (64 : Int32) = nI 64 from rfl, nI_leI (by omega) (by omega)] at c6
            omega
          refine g_lload_n (k := 3) F 1 rfl dX9_root_34 ?_
          refine g_lload_n (k := 0) F 3 rfl dX9_root_35 ?_
          refine g_lload_n (k := 3) F 1 rfl dX9_root_36 ?_
          refine g_callS F (kX9_quotient Γ.1 _ _ _) okX9_quotient mw225 ⟨(Nat.le_of_ble_eq_true rfl), (Nat.le_of_ble_eq_true rfl)⟩ rfl rfl (Nat.le_of_ble_eq_true rfl) ⟨(Nat.le_of_ble_eq_true rfl), (Nat.le_of_ble_eq_true rfl)⟩ dX9_root_37 (toJ (fun r7 S8 h9 => ?_))
          obtain ⟨er7, rfl⟩ := h9
          refine g_ladd F dX9_root_40 ?_
          refine g_ldc2 F mw215 dX9_root_41 ?_
          refine g_ldiv F dX9_root_44 (by decide) ?_
          refine g_topl (fun x10 ex10 => ?_)
          refine g_lstore (L' := [(6, .long x10), (5, .int (nI i)), (3, .long (lN g9)), (2, .int (nI (64 - m9))), (0, .long (lN V))]) F dX9_root_45 (Nat.le_of_ble_eq_true rfl) rfl ?_
          obtain rfl : x10 = lN ((g9 + V / g9) / 2) := by
            have hd9 : V / g9 ≤ V := Nat.div_le_self _ _
            rw [ex10, er7, if_neg (lN_ne0b (by omega) (by omega)), pk_lDiv (by omega) (by omega) (by omega)]
            exact nw_add (by omega) (by omega)
          refine g_lload F 0 rfl dX9_root_47 ?_
          refine g_lload_n (k := 3) F 2 rfl dX9_root_49 ?_
          refine g_lcmp F dX9_root_50 ?_
          refine g_if_lt (t := 57) F dX9_root_51 (by decide) (fun c11 => ?_) (fun c11 => ?_)
          · rw [lc_lt] at c11
            have hn6 : ¬ g9 ≤ (g9 + V / g9) / 2 := by
              rw [lN_lt2 (by omega) (nw_b2 hV1 hg3)] at c11
              omega
            refine g_lload F 0 rfl dX9_root_57 ?_
            refine g_lstore_n (k := 3) (L' := [(3, .long (lN ((g9 + V / g9) / 2))), (6, .long (lN ((g9 + V / g9) / 2))), (5, .int (nI i)), (2, .int (nI (64 - m9))), (0, .long (lN V))]) F dX9_root_59 (Nat.le_of_ble_eq_true rfl) rfl ?_
            obtain ⟨x12, ex12⟩ : ∃ y9 : Int32, y9 = (nI i) + 1 := ⟨_, rfl⟩
            refine g_iinc (k := 2) (v := x12) (L' := [(5, .int x12), (3, .long (lN ((g9 + V / g9) / 2))), (6, .long (lN ((g9 + V / g9) / 2))), (2, .int (nI (64 - m9))), (0, .long (lN V))]) F dX9_root_60 rfl (by rw [ex12]; rfl) (Nat.le_of_ble_eq_true rfl) rfl ?_
            refine g_goto (t := 27) F dX9_root_63 (by decide) ?_
            obtain rfl : x12 = nI (i + 1) := (ex12.trans (nI_1 _))
            refine g_sub (L' := [(5, .int (nI (i + 1))), (3, .long (lN ((g9 + V / g9) / 2))), (2, .int (nI (64 - m9))), (0, .long (lN V))]) [0, 1, 3, 4] rfl ?_
            exact ihlp5 (i + 1) ((g9 + V / g9) / 2) (by omega) (by omega) (nw_ge hg3.1) (nw_step hg3.1 hg1 hn6 hg2) (nw_b hV0 hg3 hn6)
          · rw [lc_lt] at c11
            have hn6 : g9 ≤ (g9 + V / g9) / 2 := by
              rw [lN_lt2 (by omega) (nw_b2 hV1 hg3)] at c11
              omega
            refine g_goto (t := 66) F dX9_root_54 (by decide) ?_
            refine g_lload_n (k := 3) F 2 rfl dX9_root_66 ?_
            refine g_lret F T ⟨_, rfl, ?_⟩ (Nat.le_of_ble_eq_true rfl) (Nat.le_of_ble_eq_true rfl) dX9_root_67
            exact ⟨by rw [rt_N (by omega), ← nw_stop hg1 hn6], rfl⟩
    exact lp5 65 0 (2 ^ ((64 - m9 + 1) / 2)) (by omega) (by omega) (nw_0 hv9 (by omega)).1 (nw_0 hv9 (by omega)).2 ⟨Nat.two_pow_pos _, nw_pow (by omega)⟩
  · rw [lc_gt] at c1
    have hv1 : v ≤ 0 := L_nlt.mp c1
    refine g_lconst (v := 0) F (by decide) dX9_root_6 ?_
    refine g_lret F T ⟨_, rfl, ?_⟩ (Nat.le_of_ble_eq_true rfl) (Nat.le_of_ble_eq_true rfl) dX9_root_7
    exact ⟨rt_np hv1, rfl⟩
