set_option maxHeartbeats 4000000 in
set_option maxRecDepth 100000 in
theorem kX9_leastArm (g : Glo) (S : PS) (q : Nat → Nat) (hq : Shp S.1 S.2.1 q) (z : ZZ) (hB : Bz z) (hc : Cs S q 0 z) : Ct g mX9_leastArm 0 0 [.ref (q 80)] S (pI9 (fun r S' => r = zLe z ∧ Fr S S' q [83, 84])) := by
  refine Ct.of (by decide) (Nat.le_of_ble_eq_true rfl) (fun Γ hg F T => ?_)
  subst hg
  show G Γ S 0 0 0 [(0, .ref (q 80))] []
  have hnc := (nc_e hB).2
  refine g_aload_n (k := 0) F 0 rfl dX9_leastArm_0 ?_
  refine gfX9_10 F (qi80 hq) (qr80_0 hq) dX9_leastArm_1 ?_
  refine gfX9_100 F (qs0 hq (s := 0) (by decide)) (qt0_4 hq (s := 0) (by decide)) dX9_leastArm_4 ?_
  refine gfX9_104e F (qs2 hq (s := 0) (by decide)) hc.n dX9_leastArm_7 ?_
  refine g_if_ne (t := 15) F dX9_leastArm_10 (by decide) (fun c1 => ?_) (fun c1 => ?_)
  · have h0 : ¬ nc z = 0 := fun h => c1 (by rw [h]; rfl)
    refine g_aload_n (k := 0) F 0 rfl dX9_leastArm_15 ?_
    refine gfX9_29 F (qi80 hq) (qr80_3 hq) dX9_leastArm_16 ?_
    refine g_aload_n (k := 0) F 0 rfl dX9_leastArm_19 ?_
    refine gfX9_10 F (qi80 hq) (qr80_0 hq) dX9_leastArm_20 ?_
    refine g_callVN (host := "PolarPlanimeter") F (kX1_measureAll Γ.1 S q hq 0 (by decide) z hB hc) okX1_measureAll (qi83 hq) nwM8 ⟨(Nat.le_of_ble_eq_true rfl), (Nat.le_of_ble_eq_true rfl)⟩ rfl rfl (Nat.le_of_ble_eq_true rfl) ⟨(Nat.le_of_ble_eq_true rfl), (Nat.le_of_ble_eq_true rfl)⟩ dX9_leastArm_23 (toV (fun S3 h4 => ?_))
    obtain ⟨fr2, ar2, mr2⟩ := h4
    have hq5 : Shp S3.1 S3.2.1 q := Fr.q fr2 hq
    refine g_stat (i := 1) (host := "PolarPlanimeter") (f := fun _ => 0) F F.e.2.2.2.2.1.1 (Or.inl (F.w _ mw499)) dX9_leastArm_26 ?_
    refine g_iconst (v := 1) F (by decide) dX9_leastArm_29 ?_
    refine g_sald (j := 1) F F.e.2.2.2.2.1.2.1 F.e.2.2.2.2.1.2.2 rfl (by omega) (by decide) dX9_leastArm_30 ?_
    refine g_rei (nI 200) (by decide) ?_
    refine g_istore_n (k := 1) (L' := [(1, .int (nI 200)), (0, .ref (q 80))]) F dX9_leastArm_31 (Nat.le_of_ble_eq_true rfl) rfl ?_
    have lp6 : ∀ (n9 : Nat) (a : Nat) (i : Nat) (y : ZZ) (S1 : PS), 4000 < a + n9 → (a = 200 + 100 * i) → (i ≤ 29) → (Fr S S1 q [83, 84]) → (Ar S1 q y) → (Ms S1 q (maF z (nc z))) → (∀ b, zAm y b = zAm z b) → (∀ j, j < i → ¬ zRa (zAm z (200 + 100 * j))) → G Γ S1 0 0 32 [(1, .int (nI a)), (0, .ref (q 80))] [] := by
      intro n9
      induction n9 with
      | zero =>
        intro a i y S1 hm9 ha hi hf hAy hMs hzy h1
        exact absurd hm9 (by omega)
      | succ n9 ihlp6 =>
        intro a i y S1 hm9 ha hi hf hAy hMs hzy h1
        have hq7 : Shp S1.1 S1.2.1 q := Fr.q hf hq
        refine g_iload_n (k := 1) F 0 rfl dX9_leastArm_32 ?_
        refine g_stat (i := 2) (host := "PolarPlanimeter") (f := fun _ => 0) F F.e.2.2.2.2.2.1.1 (Or.inl (F.w _ mw500)) dX9_leastArm_33 ?_
        refine g_iconst (v := 1) F (by decide) dX9_leastArm_36 ?_
        refine g_sald (j := 1) F F.e.2.2.2.2.2.1.2.1 F.e.2.2.2.2.2.1.2.2 rfl (by omega) (by decide) dX9_leastArm_37 ?_
        refine g_rei (nI 3000) (by decide) ?_
        refine g_icmp_gt (t := 60) F dX9_leastArm_38 (by decide) (fun c8 => ?_) (fun c8 => ?_)
        · have h38 : 3000 < a := (nI_ltI (by omega) (by omega)).mp c8
          refine g_iconst (v := (-1)) F (by decide) dX9_leastArm_60 ?_
          refine g_iret F T ⟨_, rfl, ?_⟩ (Nat.le_of_ble_eq_true rfl) (Nat.le_of_ble_eq_true rfl) dX9_leastArm_61
          exact ⟨(le_none h0 ha h38 h1), hf⟩
        · have h38 : ¬ 3000 < a := fun h => c8 ((nI_ltI (by omega) (by omega)).mpr h)
          refine g_aload_n (k := 0) F 1 rfl dX9_leastArm_41 ?_
          refine gfX9_29 F (qi80 hq7) (qr80_3 hq7) dX9_leastArm_42 ?_
          refine g_iload_n (k := 1) F 0 rfl dX9_leastArm_45 ?_
          refine g_callVN (host := "PolarPlanimeter") F (kX1_reachesMeasuredWith Γ.1 S1 q hq7 y hAy _ hMs (ma_b hB (by omega)) a) okX1_reachesMeasuredWith (qi83 hq7) nwM9 ⟨(Nat.le_of_ble_eq_true rfl), (Nat.le_of_ble_eq_true rfl)⟩ rfl rfl (Nat.le_of_ble_eq_true rfl) ⟨(Nat.le_of_ble_eq_true rfl), (Nat.le_of_ble_eq_true rfl)⟩ dX9_leastArm_46 (toI (fun r9 S10 h11 => ?_))
          obtain ⟨er9, fr9, ar9⟩ := h11
          have kr9 := am_Ra (a := a) hB (show 0 < nc z by omega)
          rw [hzy a] at er9
          have hq12 : Shp S10.1 S10.2.1 q := Fr.q fr9 hq7
          refine g_if_eq (t := 54) F dX9_leastArm_49 (by decide) (fun c13 => ?_) (fun c13 => ?_)
          · have g1 : ¬ zRa (zAm z a) := fun h => w0 er9 c13 (kr9.mpr h)
            obtain ⟨x14, ex14⟩ : ∃ y9 : Int32, y9 = (nI a) + 100 := ⟨_, rfl⟩
            refine g_iinc (k := 0) (v := x14) (L' := [(1, .int x14), (0, .ref (q 80))]) F dX9_leastArm_54 rfl (by rw [ex14]; rfl) (Nat.le_of_ble_eq_true rfl) rfl ?_
            refine g_goto (t := 32) F dX9_leastArm_57 (by decide) ?_
            obtain rfl : x14 = nI (a + 100) := (ex14.trans nI_p100)
            refine g_sub (L' := [(1, .int (nI (a + 100))), (0, .ref (q 80))]) [0, 1] rfl ?_
            exact ihlp6 (a + 100) (i + 1) ((zAm y a)) (S10) (by omega) (by omega) (by omega) (Fr.tr (l := [83, 84]) hf fr9 (by decide) (by decide)) ar9 (Ms.fr fr9 (by decide) hMs) (fun b => am_am.trans (hzy b)) (fun j hj => (by omega : j < i ∨ j = i).elim (h1 j) (fun e => by subst e; rw [← ha]; exact g1))
          · have g1 : zRa (zAm z a) := kr9.mp (w1 er9 c13)
            refine g_iload_n (k := 1) F 0 rfl dX9_leastArm_52 ?_
            refine g_iret F T ⟨_, rfl, ?_⟩ (Nat.le_of_ble_eq_true rfl) (Nat.le_of_ble_eq_true rfl) dX9_leastArm_53
            exact ⟨(le_hit h0 ha (by omega) h1 g1), (Fr.tr (l := [83, 84]) hf fr9 (by decide) (by decide))⟩
    exact lp6 4001 200 0 z S3 (by omega) (by omega) (by omega) (Fr.tr (l := [83, 84]) Fr.rf fr2 (by decide) (by decide)) ar2 mr2 (fun _ => rfl) (fun j hj => absurd hj (Nat.not_lt_zero j))
  · have h0 : nc z = 0 := by
      rw [show (0 : Int32) = nI 0 from rfl, nI_eq (by omega) (by omega)] at c1
      exact c1
    refine g_iconst (v := (-1)) F (by decide) dX9_leastArm_13 ?_
    refine g_iret F T ⟨_, rfl, ?_⟩ (Nat.le_of_ble_eq_true rfl) (Nat.le_of_ble_eq_true rfl) dX9_leastArm_14
    exact ⟨(show (-1 : Int32) = zLe z by unfold zLe; rw [if_pos h0]), Fr.rf⟩
set_option maxHeartbeats 4000000 in
set_option maxRecDepth 100000 in
theorem kX9_error (g : Glo) (S : PS) (q : Nat → Nat) (hq : Shp S.1 S.2.1 q) (z : ZZ) (hB : Bz z) (hc : Cs S q 0 z) : Ct g mX9_error 0 0 [.ref (q 80)] S (pD9 (fun r S' => r = zEr z ∧ Fr S S' q [86, 87, 88, 89])) := by
  refine Ct.of (by decide) (Nat.le_of_ble_eq_true rfl) (fun Γ hg F T => ?_)
  subst hg
  show G Γ S 0 0 0 [(0, .ref (q 80))] []
  have hnr := (nr_e hB).2
  refine g_aload_n (k := 0) F 0 rfl dX9_error_0 ?_
  refine gfX9_10 F (qi80 hq) (qr80_0 hq) dX9_error_1 ?_
  refine gfX9_100 F (qs0 hq (s := 0) (by decide)) (qt0_4 hq (s := 0) (by decide)) dX9_error_4 ?_
  refine g_callVN (host := "PolarPlanimeter") F (kX4_area Γ.1 S q hq 0 (by decide) z hB hc ) okX4_area (qs2 hq (s := 0) (by decide)) nwM10 ⟨(Nat.le_of_ble_eq_true rfl), (Nat.le_of_ble_eq_true rfl)⟩ rfl rfl (Nat.le_of_ble_eq_true rfl) ⟨(Nat.le_of_ble_eq_true rfl), (Nat.le_of_ble_eq_true rfl)⟩ dX9_error_7 (toJ (fun r1 S2 h3 => ?_))
  obtain ⟨er1, rfl⟩ := h3
  refine g_lstore_n (k := 1) (L' := [(1, .long r1), (0, .ref (q 80))]) F dX9_error_10 (Nat.le_of_ble_eq_true rfl) rfl ?_
  refine g_aload_n (k := 0) F 1 rfl dX9_error_11 ?_
  refine gfX9_10 F (qi80 hq) (qr80_0 hq) dX9_error_12 ?_
  refine gfX9_73 F (qs0 hq (s := 0) (by decide)) (qt0_5 hq (s := 0) (by decide)) dX9_error_15 ?_
  refine gfX9_160e F (qs6 hq (s := 0) (by decide)) hc.m dX9_error_18 ?_
  refine g_if_eq (t := 30) F dX9_error_21 (by decide) (fun c4 => ?_) (fun c4 => ?_)
  · have h69 : z 69 = 0 := (z69_0 hB).mpr (by
      rw [show (0 : Int32) = nI 0 from rfl, nI_eq (by omega) (by omega)] at c4
      exact c4)
    refine g_dconst0 F dX9_error_30 ?_
    refine g_dret F T ⟨_, rfl, ?_⟩ (Nat.le_of_ble_eq_true rfl) (Nat.le_of_ble_eq_true rfl) dX9_error_31
    exact ⟨(if_pos (.inl h69)).symm, Fr.rf⟩
  · have h69 : ¬ z 69 = 0 := fun h => c4 (by rw [(z69_0 hB).mp h]; rfl)
    refine g_lload_n (k := 1) F 0 rfl dX9_error_24 ?_
    refine g_lconst (v := 0) F (by decide) dX9_error_25 ?_
    refine g_lcmp F dX9_error_26 ?_
    refine g_if_ne (t := 32) F dX9_error_27 (by decide) (fun c5 => ?_) (fun c5 => ?_)
    · rw [lc_eq] at c5
      have hA9 : ¬ zTw z / 2 = 0 := by rw [← er1]; exact c5
      refine g_aload_n (k := 0) F 1 rfl dX9_error_32 ?_
      refine g_callV F (kX9_meanMinusArea Γ.1 S q hq z hB hc) okX9_meanMinusArea (qi80 hq) mw362 ⟨(Nat.le_of_ble_eq_true rfl), (Nat.le_of_ble_eq_true rfl)⟩ rfl rfl (Nat.le_of_ble_eq_true rfl) ⟨(Nat.le_of_ble_eq_true rfl), (Nat.le_of_ble_eq_true rfl)⟩ dX9_error_33 (toJ (fun r6 S7 h8 => ?_))
      obtain ⟨er6, fr6⟩ := h8
      have hq9 : Shp S7.1 S7.2.1 q := Fr.q fr6 hq
      refine g_l2d F dX9_error_36 ?_
      refine g_lload_n (k := 1) F 0 rfl dX9_error_37 ?_
      refine g_l2d F dX9_error_38 ?_
      refine g_ddiv F dX9_error_39 (vf_of (by rw [er6, er1]; exact dv_nn hA9 (tw_s hB))) ?_
      refine g_dret F T ⟨_, rfl, ?_⟩ (Nat.le_of_ble_eq_true rfl) (Nat.le_of_ble_eq_true rfl) dX9_error_40
      exact ⟨by unfold zEr; rw [if_neg (fun h => h.elim h69 hA9), er6, er1], (Fr.tr (l := [86, 87, 88, 89]) Fr.rf fr6 (by decide) (by decide))⟩
    · rw [lc_eq] at c5
      have hA9 : zTw z / 2 = 0 := by rw [← er1]; exact c5
      refine g_dconst0 F dX9_error_30 ?_
      refine g_dret F T ⟨_, rfl, ?_⟩ (Nat.le_of_ble_eq_true rfl) (Nat.le_of_ble_eq_true rfl) dX9_error_31
      exact ⟨(if_pos (.inr hA9)).symm, Fr.rf⟩
