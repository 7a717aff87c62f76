set_option maxHeartbeats 4000000 in
set_option maxRecDepth 100000 in
theorem kX4_copy (g : Glo) (S : PS) (q : Nat → Nat) (hq : Shp S.1 S.2.1 q) (s u : Nat) (hs : s < 8) (hu : u < 8) (hsu : s ≠ u) (z : ZZ) (hB : Bz z) (hc : Cs S q u z) : Ct g mX4_copy 0 0 [.ref (q (10 * s + 2)), .ref (q (10 * u + 2))] S (pV9 (fun S' => Fr S S' q [10 * s + 2, 10 * s + 3, 10 * s + 4, 10 * s + 5] ∧ pI S' (q (10 * s + 2)) 0 = nI (nc z) ∧ ∀ k, k < 20 → pI S' (q (10 * s + 3)) k = pI S (q (10 * u + 3)) k ∧ pI S' (q (10 * s + 4)) k = pI S (q (10 * u + 4)) k ∧ pI S' (q (10 * s + 5)) k = pI S (q (10 * u + 5)) k)) := by
  refine Ct.of (by decide) (Nat.le_of_ble_eq_true rfl) (fun Γ hg F T => ?_)
  subst hg
  show G Γ S 0 0 0 [(0, .ref (q (10 * s + 2))), (1, .ref (q (10 * u + 2)))] []
  refine g_aload_n (k := 0) F 0 rfl dX4_copy_0 ?_
  refine g_aload_n (k := 1) F 1 rfl dX4_copy_1 ?_
  refine gfX4_21e F (qs2 hq hu) hc.n dX4_copy_2 ?_
  refine pfX4_21 F (qs2 hq hs) dX4_copy_5 ?_
  refine g_aload_n (k := 1) F 1 rfl dX4_copy_8 ?_
  refine gfX4_9 F (qs2 hq hu) (qt2_1 hq hu) dX4_copy_9 ?_
  refine g_iconst (v := 0) F (by decide) dX4_copy_12 ?_
  refine g_aload_n (k := 0) F 0 rfl dX4_copy_13 ?_
  refine gfX4_9 F (qs2 hq hs) (qt2_1 hq hs) dX4_copy_14 ?_
  refine g_iconst (v := 0) F (by decide) dX4_copy_17 ?_
  refine g_bipush (v := 20) F (by decide) dX4_copy_18 ?_
  refine g_acp (N := 20) F mw408 mw49 mw50 mw51 (qs3 hq hu) (qs3 hq hs) rfl (Nat.le_of_ble_eq_true rfl) (by rw [(qm3 hq hu)]; decide) (by rw [(qm3 hq hs)]; decide) ⟨(Nat.le_of_ble_eq_true rfl), (Nat.le_of_ble_eq_true rfl)⟩ dX4_copy_20 ?_
  refine g_aload_n (k := 1) F 1 rfl dX4_copy_23 ?_
  refine gfX4_15 F (qs2 hq hu) (qt2_2 hq hu) dX4_copy_24 ?_
  refine g_iconst (v := 0) F (by decide) dX4_copy_27 ?_
  refine g_aload_n (k := 0) F 0 rfl dX4_copy_28 ?_
  refine gfX4_15 F (qs2 hq hs) (qt2_2 hq hs) dX4_copy_29 ?_
  refine g_iconst (v := 0) F (by decide) dX4_copy_32 ?_
  refine g_bipush (v := 20) F (by decide) dX4_copy_33 ?_
  refine g_acp (N := 20) F mw408 mw49 mw50 mw51 (qs4 hq hu) (qs4 hq hs) rfl (Nat.le_of_ble_eq_true rfl) (by rw [(qm4 hq hu)]; decide) (by rw [(qm4 hq hs)]; decide) ⟨(Nat.le_of_ble_eq_true rfl), (Nat.le_of_ble_eq_true rfl)⟩ dX4_copy_35 ?_
  refine g_aload_n (k := 1) F 1 rfl dX4_copy_38 ?_
  refine gfX4_18 F (qs2 hq hu) (qt2_3 hq hu) dX4_copy_39 ?_
  refine g_iconst (v := 0) F (by decide) dX4_copy_42 ?_
  refine g_aload_n (k := 0) F 0 rfl dX4_copy_43 ?_
  refine gfX4_18 F (qs2 hq hs) (qt2_3 hq hs) dX4_copy_44 ?_
  refine g_iconst (v := 0) F (by decide) dX4_copy_47 ?_
  refine g_bipush (v := 20) F (by decide) dX4_copy_48 ?_
  refine g_acp (N := 20) F mw408 mw49 mw50 mw51 (qs5 hq hu) (qs5 hq hs) rfl (Nat.le_of_ble_eq_true rfl) (by rw [(qm5 hq hu)]; decide) (by rw [(qm5 hq hs)]; decide) ⟨(Nat.le_of_ble_eq_true rfl), (Nat.le_of_ble_eq_true rfl)⟩ dX4_copy_50 ?_
  refine g_vret F T ⟨rfl, ?_⟩ (Nat.le_of_ble_eq_true rfl) (Nat.le_of_ble_eq_true rfl) dX4_copy_53
  exact ⟨(Fr.wr hq (Fr.wr hq (Fr.wr hq (Fr.wI hq Fr.rf (by omega) (by simp)) (by omega) (by simp)) (by omega) (by simp)) (by omega) (by simp)), ((congrFun (upr_a (qne hq (by omega) (by omega) (by omega))) 0).trans ((congrFun (upr_a (qne hq (by omega) (by omega) (by omega))) 0).trans ((congrFun (upr_a (qne hq (by omega) (by omega) (by omega))) 0).trans up2_s))), fun k hk => ⟨(congrFun ((upr_a (qne hq (by omega) (by omega) (by omega))).trans ((upr_a (qne hq (by omega) (by omega) (by omega))).trans (upr_s.trans (acp_e ((up2_r (qne hq (by omega) (by omega) (by omega))).trans rfl) ((up2_r (qne hq (by omega) (by omega) (by omega))).trans rfl))))) k).trans (cpA_v hk), (congrFun ((upr_a (qne hq (by omega) (by omega) (by omega))).trans (upr_s.trans (acp_e ((upr_a (qne hq (by omega) (by omega) (by omega))).trans ((up2_r (qne hq (by omega) (by omega) (by omega))).trans rfl)) ((upr_a (qne hq (by omega) (by omega) (by omega))).trans ((up2_r (qne hq (by omega) (by omega) (by omega))).trans rfl))))) k).trans (cpA_v hk), (congrFun (upr_s.trans (acp_e ((upr_a (qne hq (by omega) (by omega) (by omega))).trans ((upr_a (qne hq (by omega) (by omega) (by omega))).trans ((up2_r (qne hq (by omega) (by omega) (by omega))).trans rfl))) ((upr_a (qne hq (by omega) (by omega) (by omega))).trans ((upr_a (qne hq (by omega) (by omega) (by omega))).trans ((up2_r (qne hq (by omega) (by omega) (by omega))).trans rfl))))) k).trans (cpA_v hk)⟩⟩
set_option maxHeartbeats 4000000 in
set_option maxRecDepth 100000 in
theorem kX5_copy (g : Glo) (S : PS) (q : Nat → Nat) (hq : Shp S.1 S.2.1 q) (s u : Nat) (hs : s < 8) (hu : u < 8) (hsu : s ≠ u) (z : ZZ) (hB : Bz z) (hc : Cs S q u z) : Ct g mX5_copy 0 0 [.ref (q (10 * s + 6)), .ref (q (10 * u + 6))] S (pV9 (fun S' => Fr S S' q [10 * s + 6, 10 * s + 7, 10 * s + 8, 10 * s + 9] ∧ pI S' (q (10 * s + 6)) 0 = nI (nr z) ∧ ∀ r, r < nr z → pI S' (q (10 * s + 7)) r = pI S (q (10 * u + 7)) r ∧ pI S' (q (10 * s + 8)) r = pI S (q (10 * u + 8)) r ∧ pJ S' (q (10 * s + 9)) r = pJ S (q (10 * u + 9)) r)) := by
  refine Ct.of (by decide) (Nat.le_of_ble_eq_true rfl) (fun Γ hg F T => ?_)
  subst hg
  show G Γ S 0 0 0 [(0, .ref (q (10 * s + 6))), (1, .ref (q (10 * u + 6)))] []
  have hnr := (nr_e hB).2
  refine g_aload_n (k := 0) F 0 rfl dX5_copy_0 ?_
  refine g_aload_n (k := 1) F 1 rfl dX5_copy_1 ?_
  refine gfX5_23e F (qs6 hq hu) hc.m dX5_copy_2 ?_
  refine pfX5_23 F (qs6 hq hs) dX5_copy_5 ?_
  refine g_iconst (v := 0) F (by decide) dX5_copy_8 ?_
  refine g_istore_n (k := 2) (L' := [(2, .int 0), (0, .ref (q (10 * s + 6))), (1, .ref (q (10 * u + 6)))]) F dX5_copy_9 (Nat.le_of_ble_eq_true rfl) rfl ?_
  have lp1 : ∀ (n9 : Nat) (i : Nat) (S1 : PS), nr z < i + n9 → (i ≤ nr z) → (Fr S S1 q [10 * s + 6, 10 * s + 7, 10 * s + 8, 10 * s + 9]) → (pI S1 (q (10 * s + 6)) 0 = nI (nr z)) → (∀ r, r < i → pI S1 (q (10 * s + 7)) r = pI S (q (10 * u + 7)) r) → (∀ r, r < i → pI S1 (q (10 * s + 8)) r = pI S (q (10 * u + 8)) r) → (∀ r, r < i → pJ S1 (q (10 * s + 9)) r = pJ S (q (10 * u + 9)) r) → G Γ S1 0 0 10 [(2, .int (nI i)), (0, .ref (q (10 * s + 6))), (1, .ref (q (10 * u + 6)))] [] := by
    intro n9
    induction n9 with
    | zero =>
      intro i S1 hm9 hi hf hm1 h7 h8 h9
      exact absurd hm9 (by omega)
    | succ n9 ihlp1 =>
      intro i S1 hm9 hi hf hm1 h7 h8 h9
      have hq2 : Shp S1.1 S1.2.1 q := Fr.q hf hq
      refine g_iload_n (k := 2) F 0 rfl dX5_copy_10 ?_
      refine g_aload_n (k := 0) F 1 rfl dX5_copy_11 ?_
      refine gfX5_23e F (qs6 hq2 hs) hm1 dX5_copy_12 ?_
      refine g_icmp_ge (t := 60) F dX5_copy_15 (by decide) (fun c3 => ?_) (fun c3 => ?_)
      · obtain rfl : i = nr z := by
          rw [nI_leI (by omega) (by omega)] at c3
          omega
        refine g_vret F T ⟨rfl, ?_⟩ (Nat.le_of_ble_eq_true rfl) (Nat.le_of_ble_eq_true rfl) dX5_copy_60
        exact ⟨hf, hm1, fun r hr => ⟨h7 r hr, h8 r hr, h9 r hr⟩⟩
      · have hi9 : i < nr z := by
          rw [nI_leI (by omega) (by omega)] at c3
          omega
        refine g_aload_n (k := 0) F 1 rfl dX5_copy_18 ?_
        refine gfX5_9 F (qs6 hq2 hs) (qt6_1 hq2 hs) dX5_copy_19 ?_
        refine g_iload_n (k := 2) F 0 rfl dX5_copy_22 ?_
        refine g_aload_n (k := 1) F 2 rfl dX5_copy_23 ?_
        refine gfX5_9 F (qs6 hq2 hu) (qt6_1 hq2 hu) dX5_copy_24 ?_
        refine g_iload_n (k := 2) F 0 rfl dX5_copy_27 ?_
        refine g_ialde (hf.2.2 (10 * u + 7) (by omega) (by simp; omega)).1 (j := i) F (qs7 hq2 hu) rfl (by rw [(qm7 hq2 hu)]; omega) (by rw [(qm7 hq2 hu)]; decide) dX5_copy_28 ?_
        refine g_iast (j := i) F (qs7 hq2 hs) rfl (by rw [(qm7 hq2 hs)]; omega) (by rw [(qm7 hq2 hs)]; decide) dX5_copy_29 ?_
        refine g_aload_n (k := 0) F 1 rfl dX5_copy_30 ?_
        refine gfX5_15 F (qs6 hq2 hs) (qt6_2 hq2 hs) dX5_copy_31 ?_
        refine g_iload_n (k := 2) F 0 rfl dX5_copy_34 ?_
        refine g_aload_n (k := 1) F 2 rfl dX5_copy_35 ?_
        refine gfX5_15 F (qs6 hq2 hu) (qt6_2 hq2 hu) dX5_copy_36 ?_
        refine g_iload_n (k := 2) F 0 rfl dX5_copy_39 ?_
        refine g_zalde ((up2_r (qne hq2 (by omega) (by omega) (by omega))).trans (hf.2.2 (10 * u + 8) (by omega) (by simp; omega)).1) (j := i) F (qs8 hq2 hu) rfl (by rw [(qm8 hq2 hu)]; omega) (by rw [(qm8 hq2 hu)]; decide) dX5_copy_40 ?_
        refine g_zast (j := i) F (qs8 hq2 hs) rfl (by rw [(qm8 hq2 hs)]; omega) (by rw [(qm8 hq2 hs)]; decide) (hc.bool hB hi9) dX5_copy_41 ?_
        refine g_aload_n (k := 0) F 1 rfl dX5_copy_42 ?_
        refine gfX5_19 F (qs6 hq2 hs) (qt6_3 hq2 hs) dX5_copy_43 ?_
        refine g_iload_n (k := 2) F 0 rfl dX5_copy_46 ?_
        refine g_aload_n (k := 1) F 2 rfl dX5_copy_47 ?_
        refine gfX5_19 F (qs6 hq2 hu) (qt6_3 hq2 hu) dX5_copy_48 ?_
        refine g_iload_n (k := 2) F 0 rfl dX5_copy_51 ?_
        refine g_lalde (hf.2.2 (10 * u + 9) (by omega) (by simp; omega)).2 (j := i) F (qs9 hq2 hu) rfl (by rw [(qm9 hq2 hu)]; omega) (by rw [(qm9 hq2 hu)]; decide) dX5_copy_52 ?_
        refine g_last (j := i) F (qs9 hq2 hs) rfl (by rw [(qm9 hq2 hs)]; omega) (by rw [(qm9 hq2 hs)]; decide) dX5_copy_53 ?_
        obtain ⟨x4, ex4⟩ : ∃ y9 : Int32, y9 = (nI i) + 1 := ⟨_, rfl⟩
        refine g_iinc (k := 0) (v := x4) (L' := [(2, .int x4), (0, .ref (q (10 * s + 6))), (1, .ref (q (10 * u + 6)))]) F dX5_copy_54 rfl (by rw [ex4]; rfl) (Nat.le_of_ble_eq_true rfl) rfl ?_
        refine g_goto (t := 10) F dX5_copy_57 (by decide) ?_
        obtain rfl : x4 = nI (i + 1) := (ex4.trans (nI_1 _))
        refine g_sub (L' := [(2, .int (nI (i + 1))), (0, .ref (q (10 * s + 6))), (1, .ref (q (10 * u + 6)))]) [0, 1, 2] rfl ?_
        exact ihlp1 (i + 1) ((wJ (wI (wI S1 (q (10 * s + 7)) (i) ((pI S (q (10 * u + 7))) i)) (q (10 * s + 8)) (i) ((pI S (q (10 * u + 8))) i)) (q (10 * s + 9)) (i) ((pJ S (q (10 * u + 9))) i))) (by omega) (by omega) (Fr.wJ hq (Fr.wI hq (Fr.wI hq hf (by omega) (by simp)) (by omega) (by simp)) (by omega) (by simp)) ((up2_a (qne hq2 (by omega) (by omega) (by omega))).trans ((up2_a (qne hq2 (by omega) (by omega) (by omega))).trans hm1)) (rI_o (qne hq2 (by omega) (by omega) (by omega)) (rI_set h7 rfl)) (rI_set (rI_o (qne hq2 (by omega) (by omega) (by omega)) h8) rfl) (zJ_set h9 rfl)
  exact lp1 (nr z + 1) 0 (wI S (q (10 * s + 6)) 0 (nI (nr z))) (by omega) (by omega) (Fr.wI hq Fr.rf (by omega) (by simp)) up2_s (fun r h => absurd h (Nat.not_lt_zero r)) (fun r h => absurd h (Nat.not_lt_zero r)) (fun r h => absurd h (Nat.not_lt_zero r))
set_option maxHeartbeats 4000000 in
set_option maxRecDepth 100000 in
theorem kX6_copy (g : Glo) (S : PS) (q : Nat → Nat) (hq : Shp S.1 S.2.1 q) (s u : Nat) (hs : s < 8) (hu : u < 8) (hsu : s ≠ u) (z : ZZ) (hB : Bz z) (hc : Cs S q u z) : Ct g mX6_copy 0 0 [.ref (q (10 * s)), .ref (q (10 * u))] S (pV9 (fun S' => Fr S S' q [10 * s, 10 * s + 1, 10 * s + 2, 10 * s + 3, 10 * s + 4, 10 * s + 5, 10 * s + 6, 10 * s + 7, 10 * s + 8, 10 * s + 9] ∧ Cs S' q s z)) := by
  refine Ct.of (by decide) (Nat.le_of_ble_eq_true rfl) (fun Γ hg F T => ?_)
  subst hg
  show G Γ S 0 0 0 [(0, .ref (q (10 * s))), (1, .ref (q (10 * u)))] []
  refine g_aload_n (k := 0) F 0 rfl dX6_copy_0 ?_
  refine g_aload_n (k := 1) F 1 rfl dX6_copy_1 ?_
  refine gfX6_42e F (qs0 hq hu) rfl dX6_copy_2 ?_
  refine g_topi (fun x1 ex1 => ?_)
  refine pfX6_42 F (qs0 hq hs) dX6_copy_5 ?_
  refine g_aload_n (k := 0) F 0 rfl dX6_copy_8 ?_
  refine g_aload_n (k := 1) F 1 rfl dX6_copy_9 ?_
  refine gfX6_45e F (qs0 hq hu) ((up2_a (qne hq (by omega) (by omega) (by omega))).trans rfl) dX6_copy_10 ?_
  refine g_topi (fun x2 ex2 => ?_)
  refine pfX6_45 F (qs0 hq hs) dX6_copy_13 ?_
  refine g_aload_n (k := 0) F 0 rfl dX6_copy_16 ?_
  refine g_aload_n (k := 1) F 1 rfl dX6_copy_17 ?_
  refine gfX6_9e F (qs0 hq hu) ((up2_a (qne hq (by omega) (by omega) (by omega))).trans ((up2_a (qne hq (by omega) (by omega) (by omega))).trans rfl)) dX6_copy_18 ?_
  refine g_topi (fun x3 ex3 => ?_)
  refine pfX6_9 F (qs0 hq hs) dX6_copy_21 ?_
  refine g_aload_n (k := 1) F 1 rfl dX6_copy_24 ?_
  refine gfX6_15 F (qs0 hq hu) (qt0_3 hq hu) dX6_copy_25 ?_
  refine g_iconst (v := 0) F (by decide) dX6_copy_28 ?_
  refine g_aload_n (k := 0) F 0 rfl dX6_copy_29 ?_
  refine gfX6_15 F (qs0 hq hs) (qt0_3 hq hs) dX6_copy_30 ?_
  refine g_iconst (v := 0) F (by decide) dX6_copy_33 ?_
  refine g_iconst (v := 5) F (by decide) dX6_copy_34 ?_
  refine g_acp (N := 5) F mw48 mw49 mw50 mw51 (qs1 hq hu) (qs1 hq hs) rfl (Nat.le_of_ble_eq_true rfl) (by rw [(qm1 hq hu)]; decide) (by rw [(qm1 hq hs)]; decide) ⟨(Nat.le_of_ble_eq_true rfl), (Nat.le_of_ble_eq_true rfl)⟩ dX6_copy_35 ?_
  refine g_aload_n (k := 0) F 0 rfl dX6_copy_38 ?_
  refine gfX6_22 F (qs0 hq hs) (qt0_4 hq hs) dX6_copy_39 ?_
  refine g_aload_n (k := 1) F 1 rfl dX6_copy_42 ?_
  refine gfX6_22 F (qs0 hq hu) (qt0_4 hq hu) dX6_copy_43 ?_
  have hF1 : Fr S (wIr (wI (wI (wI S (q (10 * s)) 0 x1) (q (10 * s)) 1 x2) (q (10 * s)) 2 x3) (q (10 * s + 1)) (va_cpy (pI (wI (wI (wI S (q (10 * s)) 0 x1) (q (10 * s)) 1 x2) (q (10 * s)) 2 x3) (q (10 * u + 1))) (pI (wI (wI (wI S (q (10 * s)) 0 x1) (q (10 * s)) 1 x2) (q (10 * s)) 2 x3) (q (10 * s + 1))) 0 0 5)) q [10 * s, 10 * s + 1, 10 * s + 2, 10 * s + 3, 10 * s + 4, 10 * s + 5, 10 * s + 6, 10 * s + 7, 10 * s + 8, 10 * s + 9] := (Fr.wr hq (Fr.wI hq (Fr.wI hq (Fr.wI hq Fr.rf (by omega) (by simp)) (by omega) (by simp)) (by omega) (by simp)) (by omega) (by simp))
  have ha9 : (pI (wIr (wI (wI (wI S (q (10 * s)) 0 x1) (q (10 * s)) 1 x2) (q (10 * s)) 2 x3) (q (10 * s + 1)) (va_cpy (pI (wI (wI (wI S (q (10 * s)) 0 x1) (q (10 * s)) 1 x2) (q (10 * s)) 2 x3) (q (10 * u + 1))) (pI (wI (wI (wI S (q (10 * s)) 0 x1) (q (10 * s)) 1 x2) (q (10 * s)) 2 x3) (q (10 * s + 1))) 0 0 5)) (q (10 * s)) 0).toInt64 = z 0 ∧ (pI (wIr (wI (wI (wI S (q (10 * s)) 0 x1) (q (10 * s)) 1 x2) (q (10 * s)) 2 x3) (q (10 * s + 1)) (va_cpy (pI (wI (wI (wI S (q (10 * s)) 0 x1) (q (10 * s)) 1 x2) (q (10 * s)) 2 x3) (q (10 * u + 1))) (pI (wI (wI (wI S (q (10 * s)) 0 x1) (q (10 * s)) 1 x2) (q (10 * s)) 2 x3) (q (10 * s + 1))) 0 0 5)) (q (10 * s)) 1).toInt64 = z 1 ∧ (pI (wIr (wI (wI (wI S (q (10 * s)) 0 x1) (q (10 * s)) 1 x2) (q (10 * s)) 2 x3) (q (10 * s + 1)) (va_cpy (pI (wI (wI (wI S (q (10 * s)) 0 x1) (q (10 * s)) 1 x2) (q (10 * s)) 2 x3) (q (10 * u + 1))) (pI (wI (wI (wI S (q (10 * s)) 0 x1) (q (10 * s)) 1 x2) (q (10 * s)) 2 x3) (q (10 * s + 1))) 0 0 5)) (q (10 * s)) 2).toInt64 = z 7 := ⟨(congrArg Int32.toInt64 (((congrFun (upr_a (qne hq (by omega) (by omega) (by omega))) 0).trans ((up2_k (by decide)).trans ((up2_k (by decide)).trans up2_s))).trans ex1)).trans hc.1.1, (congrArg Int32.toInt64 (((congrFun (upr_a (qne hq (by omega) (by omega) (by omega))) 1).trans ((up2_k (by decide)).trans up2_s)).trans ex2)).trans hc.1.2.1, (congrArg Int32.toInt64 (((congrFun (upr_a (qne hq (by omega) (by omega) (by omega))) 2).trans up2_s).trans ex3)).trans hc.1.2.2⟩
  have hb9 : ∀ i, i < 5 → (pI (wIr (wI (wI (wI S (q (10 * s)) 0 x1) (q (10 * s)) 1 x2) (q (10 * s)) 2 x3) (q (10 * s + 1)) (va_cpy (pI (wI (wI (wI S (q (10 * s)) 0 x1) (q (10 * s)) 1 x2) (q (10 * s)) 2 x3) (q (10 * u + 1))) (pI (wI (wI (wI S (q (10 * s)) 0 x1) (q (10 * s)) 1 x2) (q (10 * s)) 2 x3) (q (10 * s + 1))) 0 0 5)) (q (10 * s + 1)) i).toInt64 = z (2 + i) := fun i hi => (congrArg Int32.toInt64 ((congrFun (upr_s.trans (acp_e ((up2_r (qne hq (by omega) (by omega) (by omega))).trans ((up2_r (qne hq (by omega) (by omega) (by omega))).trans ((up2_r (qne hq (by omega) (by omega) (by omega))).trans rfl))) ((up2_r (qne hq (by omega) (by omega) (by omega))).trans ((up2_r (qne hq (by omega) (by omega) (by omega))).trans ((up2_r (qne hq (by omega) (by omega) (by omega))).trans rfl))))) i).trans (cpA_v hi))).trans (hc.2.1 i hi)
  refine g_callVN (host := "PolarPlanimeter") F (kX4_copy Γ.1 (wIr (wI (wI (wI S (q (10 * s)) 0 x1) (q (10 * s)) 1 x2) (q (10 * s)) 2 x3) (q (10 * s + 1)) (va_cpy (pI (wI (wI (wI S (q (10 * s)) 0 x1) (q (10 * s)) 1 x2) (q (10 * s)) 2 x3) (q (10 * u + 1))) (pI (wI (wI (wI S (q (10 * s)) 0 x1) (q (10 * s)) 1 x2) (q (10 * s)) 2 x3) (q (10 * s + 1))) 0 0 5)) q hq s u hs hu hsu z hB (Cs.fr (l := [10 * s, 10 * s + 1, 10 * s + 2, 10 * s + 3, 10 * s + 4, 10 * s + 5, 10 * s + 6, 10 * s + 7, 10 * s + 8, 10 * s + 9]) hu (Fr.wr hq (Fr.wI hq (Fr.wI hq (Fr.wI hq Fr.rf (by omega) (by simp)) (by omega) (by simp)) (by omega) (by simp)) (by omega) (by simp)) (by intro i9 h8 h9; simp at h9; omega) hc)) okX4_copy (qs2 hq hs) nwM56 ⟨(Nat.le_of_ble_eq_true rfl), (Nat.le_of_ble_eq_true rfl)⟩ rfl rfl (Nat.le_of_ble_eq_true rfl) ⟨(Nat.le_of_ble_eq_true rfl), (Nat.le_of_ble_eq_true rfl)⟩ dX6_copy_46 (toV (fun S5 h6 => ?_))
  obtain ⟨fr4, n1, o1⟩ := h6
  have hq7 : Shp S5.1 S5.2.1 q := Fr.q fr4 hq
  refine g_aload_n (k := 0) F 0 rfl dX6_copy_49 ?_
  refine gfX6_29 F (qs0 hq7 hs) (qt0_5 hq7 hs) dX6_copy_50 ?_
  refine g_aload_n (k := 1) F 1 rfl dX6_copy_53 ?_
  refine gfX6_29 F (qs0 hq7 hu) (qt0_5 hq7 hu) dX6_copy_54 ?_
  refine g_callVN (host := "PolarPlanimeter") F (kX5_copy Γ.1 S5 q hq7 s u hs hu hsu z hB (Cs.fr (l := [10 * s, 10 * s + 1, 10 * s + 2, 10 * s + 3, 10 * s + 4, 10 * s + 5, 10 * s + 6, 10 * s + 7, 10 * s + 8, 10 * s + 9]) hu (Fr.tr (l := [10 * s, 10 * s + 1, 10 * s + 2, 10 * s + 3, 10 * s + 4, 10 * s + 5, 10 * s + 6, 10 * s + 7, 10 * s + 8, 10 * s + 9]) (Fr.wr hq (Fr.wI hq (Fr.wI hq (Fr.wI hq Fr.rf (by omega) (by simp)) (by omega) (by simp)) (by omega) (by simp)) (by omega) (by simp)) fr4 (fun i9 h9 => by simp at h9 ⊢; omega) (fun i9 h9 => by simp at h9 ⊢; omega)) (by intro i9 h8 h9; simp at h9; omega) hc)) okX5_copy (qs6 hq7 hs) nwM57 ⟨(Nat.le_of_ble_eq_true rfl), (Nat.le_of_ble_eq_true rfl)⟩ rfl rfl (Nat.le_of_ble_eq_true rfl) ⟨(Nat.le_of_ble_eq_true rfl), (Nat.le_of_ble_eq_true rfl)⟩ dX6_copy_57 (toV (fun S9 h10 => ?_))
  obtain ⟨fr8, n2, o2⟩ := h10
  have hq11 : Shp S9.1 S9.2.1 q := Fr.q fr8 hq7
  refine g_vret F T ⟨rfl, ?_⟩ (Nat.le_of_ble_eq_true rfl) (Nat.le_of_ble_eq_true rfl) dX6_copy_60
  exact ⟨(Fr.tr (l := [10 * s, 10 * s + 1, 10 * s + 2, 10 * s + 3, 10 * s + 4, 10 * s + 5, 10 * s + 6, 10 * s + 7, 10 * s + 8, 10 * s + 9]) (Fr.tr (l := [10 * s, 10 * s + 1, 10 * s + 2, 10 * s + 3, 10 * s + 4, 10 * s + 5, 10 * s + 6, 10 * s + 7, 10 * s + 8, 10 * s + 9]) (Fr.wr hq (Fr.wI hq (Fr.wI hq (Fr.wI hq Fr.rf (by omega) (by simp)) (by omega) (by simp)) (by omega) (by simp)) (by omega) (by simp)) fr4 (fun i9 h9 => by simp at h9 ⊢; omega) (fun i9 h9 => by simp at h9 ⊢; omega)) fr8 (fun i9 h9 => by simp at h9 ⊢; omega) (fun i9 h9 => by simp at h9 ⊢; omega)), Cs_cp hs hu hsu hB hc hF1 ha9 hb9 fr4 n1 o1 fr8 n2 o2⟩
