set_option maxHeartbeats 4000000 in
set_option maxRecDepth 100000 in
theorem pX9_leastArm (g : Glo) (S : PS) (q : Nat → Nat) (hq : Shp S.1 S.2.1 q) (z : ZZ) (H : List ZZ) (l : Int32) (n : Nat) (tx : Nat → Int32) (hB : Bz z) (hw : Cl S q (z, H, l, n, tx)) : Ct g mX9_leastArm 0 0 [.ref (q 80)] S (pI9 (fun r S' => (oLea (z, H, l, n, tx)).1 = 0 ∧ r = (oLea (z, H, l, n, tx)).2 ∧ FrP S S' q P94 ∧ Cl S' q (z, H, l, n, tx))) := by
  refine Ct.of (by decide) (Nat.le_of_ble_eq_true rfl) (fun Γ hg F T => ?_)
  subst hg
  show G Γ S 0 0 0 [(0, .ref (q 80))] []
  have hc : Cs S q 0 z := hw.1
  obtain ⟨pm, hH9⟩ := hw.2.1
  have hH : Hs S q pm H := hH9
  have hn7 : pI S (q 80) 7 = nI n := hw.2.2.1
  have hl8 : pI S (q 80) 8 = l := hw.2.2.2.1
  have htx : ∀ j, j < n → pI S (q 93) j = tx j := hw.2.2.2.2
  have hnc := (nc_e hB).2
  have hnr := (nr_e hB).2
  have tn := nI_toInt (n := nc z) (by omega)
  have tr := nI_toInt (n := nr z) (by omega)
  refine g_aload_n (k := 0) F 0 rfl dX9_leastArm_0 ?_
  refine gfX9_10 F (qi80 hq) (qr80_0 hq) dX9_leastArm_1 ?_
  refine gfX9_100 F (qs0 hq (s := 0) (by decide)) (qt0_4 hq (s := 0) (by decide)) dX9_leastArm_4 ?_
  refine gfX9_104e F (qs2 hq (s := 0) (by decide)) hc.n dX9_leastArm_7 ?_
  refine g_if_ne (t := 15) F dX9_leastArm_10 (by decide) (fun c1 => ?_) (fun c1 => ?_)
  · have h0 : ¬ nc z = 0 := fun h => c1 (by rw [h]; rfl)
    refine g_aload_n (k := 0) F 0 rfl dX9_leastArm_15 ?_
    refine gfX9_29 F (qi80 hq) (qr80_3 hq) dX9_leastArm_16 ?_
    refine g_aload_n (k := 0) F 0 rfl dX9_leastArm_19 ?_
    refine gfX9_10 F (qi80 hq) (qr80_0 hq) dX9_leastArm_20 ?_
    refine g_callVN (host := "PolarPlanimeter") F (kX1_measureAll Γ.1 S q hq 0 (by decide) z hB hc) okX1_measureAll (qi83 hq) nwM12 ⟨(Nat.le_of_ble_eq_true rfl), (Nat.le_of_ble_eq_true rfl)⟩ rfl rfl (Nat.le_of_ble_eq_true rfl) ⟨(Nat.le_of_ble_eq_true rfl), (Nat.le_of_ble_eq_true rfl)⟩ dX9_leastArm_23 (toV (fun S3 h4 => ?_))
    obtain ⟨fr2, ar2, mr2⟩ := h4
    have hq5 : Shp S3.1 S3.2.1 q := Fr.q fr2 hq
    refine g_stat (i := 1) (host := "PolarPlanimeter") (f := fun _ => 0) F F.e.2.2.2.2.1.1 (Or.inl (F.w _ mw190)) dX9_leastArm_26 ?_
    refine g_iconst (v := 1) F (by decide) dX9_leastArm_29 ?_
    refine g_sald (j := 1) F F.e.2.2.2.2.1.2.1 F.e.2.2.2.2.1.2.2 rfl (by omega) (by decide) dX9_leastArm_30 ?_
    refine g_rei (nI 200) (by decide) ?_
    refine g_istore_n (k := 1) (L' := [(1, .int (nI 200)), (0, .ref (q 80))]) F dX9_leastArm_31 (Nat.le_of_ble_eq_true rfl) rfl ?_
    have lp6 : ∀ (n9 : Nat) (a : Nat) (i : Nat) (y : ZZ) (S1 : PS), 4000 < a + n9 → (a = 200 + 100 * i) → (i ≤ 29) → (Fr S S1 q [83, 84, 85, 86, 87, 88, 89]) → (Ar S1 q y) → (Ms S1 q (maF z (nc z))) → (∀ b, zAm y b = zAm z b) → (∀ j, j < i → ¬ zRa (zAm z (200 + 100 * j))) → G Γ S1 0 0 32 [(1, .int (nI a)), (0, .ref (q 80))] [] := by
      intro n9
      induction n9 with
      | zero =>
        intro a i y S1 hm9 ha hi hf hAy hMs hzy h1
        exact absurd hm9 (by omega)
      | succ n9 ihlp6 =>
        intro a i y S1 hm9 ha hi hf hAy hMs hzy h1
        have hq7 : Shp S1.1 S1.2.1 q := Fr.q hf hq
        refine g_iload_n (k := 1) F 0 rfl dX9_leastArm_32 ?_
        refine g_stat (i := 2) (host := "PolarPlanimeter") (f := fun _ => 0) F F.e.2.2.2.2.2.1.1 (Or.inl (F.w _ mw191)) dX9_leastArm_33 ?_
        refine g_iconst (v := 1) F (by decide) dX9_leastArm_36 ?_
        refine g_sald (j := 1) F F.e.2.2.2.2.2.1.2.1 F.e.2.2.2.2.2.1.2.2 rfl (by omega) (by decide) dX9_leastArm_37 ?_
        refine g_rei (nI 3000) (by decide) ?_
        refine g_icmp_gt (t := 60) F dX9_leastArm_38 (by decide) (fun c8 => ?_) (fun c8 => ?_)
        · have h38 : 3000 < a := (nI_ltI (by omega) (by omega)).mp c8
          refine g_iconst (v := (-1)) F (by decide) dX9_leastArm_60 ?_
          refine g_iret F T ⟨_, rfl, ?_⟩ (Nat.le_of_ble_eq_true rfl) (Nat.le_of_ble_eq_true rfl) dX9_leastArm_61
          rw [show oLea (z, H, l, n, tx) = (0, zLe z) from rfl]
          exact ⟨rfl, (le_none h0 ha h38 h1), P_fc (Fr.up hf (by decide)), Cl_up ⟨pm, hH⟩ (Fr.up hf (by decide)) (Cs.fr (s := 0) (l := [83, 84, 85, 86, 87, 88, 89]) (by decide) hf (by decide) hc) ((congrFun (hf.2.2 (80) (by decide) (by decide)).1 7).trans hn7) ((congrFun (hf.2.2 (80) (by decide) (by decide)).1 8).trans hl8) (fun j hj => (congrFun ((hf.2.2 (93) (by decide) (by decide)).1.trans rfl) j).trans (htx j hj))⟩
        · have h38 : ¬ 3000 < a := fun h => c8 ((nI_ltI (by omega) (by omega)).mpr h)
          refine g_aload_n (k := 0) F 1 rfl dX9_leastArm_41 ?_
          refine gfX9_29 F (qi80 hq7) (qr80_3 hq7) dX9_leastArm_42 ?_
          refine g_iload_n (k := 1) F 0 rfl dX9_leastArm_45 ?_
          refine g_callVN (host := "PolarPlanimeter") F (kX1_reachesMeasuredWith Γ.1 S1 q hq7 y hAy _ hMs (ma_b hB (by omega)) a) okX1_reachesMeasuredWith (qi83 hq7) nwM13 ⟨(Nat.le_of_ble_eq_true rfl), (Nat.le_of_ble_eq_true rfl)⟩ rfl rfl (Nat.le_of_ble_eq_true rfl) ⟨(Nat.le_of_ble_eq_true rfl), (Nat.le_of_ble_eq_true rfl)⟩ dX9_leastArm_46 (toI (fun r9 S10 h11 => ?_))
          obtain ⟨er9, fr9, ar9⟩ := h11
          have kr9 := am_Ra (a := a) hB (show 0 < nc z by omega)
          rw [hzy a] at er9
          have hq12 : Shp S10.1 S10.2.1 q := Fr.q fr9 hq7
          refine g_if_eq (t := 54) F dX9_leastArm_49 (by decide) (fun c13 => ?_) (fun c13 => ?_)
          · have g1 : ¬ zRa (zAm z a) := fun h => w0 er9 c13 (kr9.mpr h)
            obtain ⟨x14, ex14⟩ : ∃ y9 : Int32, y9 = (nI a) + 100 := ⟨_, rfl⟩
            refine g_iinc (k := 0) (v := x14) (L' := [(1, .int x14), (0, .ref (q 80))]) F dX9_leastArm_54 rfl (by rw [ex14]; rfl) (Nat.le_of_ble_eq_true rfl) rfl ?_
            refine g_goto (t := 32) F dX9_leastArm_57 (by decide) ?_
            obtain rfl : x14 = nI (a + 100) := (ex14.trans nI_p100)
            refine g_sub (L' := [(1, .int (nI (a + 100))), (0, .ref (q 80))]) [0, 1] rfl ?_
            exact ihlp6 (a + 100) (i + 1) ((zAm y a)) (S10) (by omega) (by omega) (by omega) (Fr.tr (l := [83, 84, 85, 86, 87, 88, 89]) hf fr9 (by decide) (by decide)) ar9 (Ms.fr fr9 (by decide) hMs) (fun b => am_am.trans (hzy b)) (fun j hj => (by omega : j < i ∨ j = i).elim (h1 j) (fun e => by subst e; rw [← ha]; exact g1))
          · have g1 : zRa (zAm z a) := kr9.mp (w1 er9 c13)
            refine g_iload_n (k := 1) F 0 rfl dX9_leastArm_52 ?_
            refine g_iret F T ⟨_, rfl, ?_⟩ (Nat.le_of_ble_eq_true rfl) (Nat.le_of_ble_eq_true rfl) dX9_leastArm_53
            rw [show oLea (z, H, l, n, tx) = (0, zLe z) from rfl]
            exact ⟨rfl, (le_hit h0 ha (by omega) h1 g1), P_fc (Fr.tr (l := [83, 84, 85, 86, 87, 88, 89]) hf fr9 (by decide) (by decide)), Cl_up ⟨pm, hH⟩ (Fr.tr (l := [83, 84, 85, 86, 87, 88, 89]) hf fr9 (by decide) (by decide)) (Cs.fr (s := 0) (l := [83, 84, 85, 86, 87, 88, 89]) (by decide) (Fr.tr (l := [83, 84, 85, 86, 87, 88, 89]) hf fr9 (by decide) (by decide)) (by decide) hc) ((congrFun (fr9.2.2 (80) (by decide) (by decide)).1 7).trans ((congrFun (hf.2.2 (80) (by decide) (by decide)).1 7).trans hn7)) ((congrFun (fr9.2.2 (80) (by decide) (by decide)).1 8).trans ((congrFun (hf.2.2 (80) (by decide) (by decide)).1 8).trans hl8)) (fun j hj => (congrFun ((fr9.2.2 (93) (by decide) (by decide)).1.trans ((hf.2.2 (93) (by decide) (by decide)).1.trans rfl)) j).trans (htx j hj))⟩
    exact lp6 4001 200 0 z S3 (by omega) (by omega) (by omega) (Fr.tr (l := [83, 84, 85, 86, 87, 88, 89]) Fr.rf fr2 (by decide) (by decide)) ar2 mr2 (fun _ => rfl) (fun j hj => absurd hj (Nat.not_lt_zero j))
  · have h0 : nc z = 0 := by
      rw [show (0 : Int32) = nI 0 from rfl, nI_eq (by omega) (by omega)] at c1
      exact c1
    refine g_iconst (v := (-1)) F (by decide) dX9_leastArm_13 ?_
    refine g_iret F T ⟨_, rfl, ?_⟩ (Nat.le_of_ble_eq_true rfl) (Nat.le_of_ble_eq_true rfl) dX9_leastArm_14
    rw [show oLea (z, H, l, n, tx) = (0, zLe z) from rfl]
    exact ⟨rfl, (show (-1 : Int32) = zLe z by unfold zLe; rw [if_pos h0]), P_fc Fr.rf, Cl_up ⟨pm, hH⟩ Fr.rf hc hn7 hl8 (fun j hj => (congrFun rfl j).trans (htx j hj))⟩
set_option maxHeartbeats 4000000 in
set_option maxRecDepth 100000 in
theorem pX9_error (g : Glo) (S : PS) (q : Nat → Nat) (hq : Shp S.1 S.2.1 q) (z : ZZ) (H : List ZZ) (l : Int32) (n : Nat) (tx : Nat → Int32) (hB : Bz z) (hw : Cl S q (z, H, l, n, tx)) : Ct g mX9_error 0 0 [.ref (q 80)] S (pD9 (fun r S' => (oErr (z, H, l, n, tx)).1 = 0 ∧ r = (oErr (z, H, l, n, tx)).2 ∧ FrP S S' q P94 ∧ Cl S' q (z, H, l, n, tx))) := by
  refine Ct.of (by decide) (Nat.le_of_ble_eq_true rfl) (fun Γ hg F T => ?_)
  subst hg
  show G Γ S 0 0 0 [(0, .ref (q 80))] []
  have hc : Cs S q 0 z := hw.1
  obtain ⟨pm, hH9⟩ := hw.2.1
  have hH : Hs S q pm H := hH9
  have hn7 : pI S (q 80) 7 = nI n := hw.2.2.1
  have hl8 : pI S (q 80) 8 = l := hw.2.2.2.1
  have htx : ∀ j, j < n → pI S (q 93) j = tx j := hw.2.2.2.2
  have hnc := (nc_e hB).2
  have hnr := (nr_e hB).2
  have tn := nI_toInt (n := nc z) (by omega)
  have tr := nI_toInt (n := nr z) (by omega)
  refine g_aload_n (k := 0) F 0 rfl dX9_error_0 ?_
  refine gfX9_10 F (qi80 hq) (qr80_0 hq) dX9_error_1 ?_
  refine gfX9_100 F (qs0 hq (s := 0) (by decide)) (qt0_4 hq (s := 0) (by decide)) dX9_error_4 ?_
  refine g_callVN (host := "PolarPlanimeter") F (kX4_area Γ.1 S q hq 0 (by decide) z hB hc ) okX4_area (qs2 hq (s := 0) (by decide)) nwM14 ⟨(Nat.le_of_ble_eq_true rfl), (Nat.le_of_ble_eq_true rfl)⟩ rfl rfl (Nat.le_of_ble_eq_true rfl) ⟨(Nat.le_of_ble_eq_true rfl), (Nat.le_of_ble_eq_true rfl)⟩ dX9_error_7 (toJ (fun r1 S2 h3 => ?_))
  obtain ⟨er1, rfl⟩ := h3
  refine g_lstore_n (k := 1) (L' := [(1, .long r1), (0, .ref (q 80))]) F dX9_error_10 (Nat.le_of_ble_eq_true rfl) rfl ?_
  refine g_aload_n (k := 0) F 1 rfl dX9_error_11 ?_
  refine gfX9_10 F (qi80 hq) (qr80_0 hq) dX9_error_12 ?_
  refine gfX9_73 F (qs0 hq (s := 0) (by decide)) (qt0_5 hq (s := 0) (by decide)) dX9_error_15 ?_
  refine gfX9_160e F (qs6 hq (s := 0) (by decide)) hc.m dX9_error_18 ?_
  refine g_if_eq (t := 30) F dX9_error_21 (by decide) (fun c4 => ?_) (fun c4 => ?_)
  · have h69 : z 69 = 0 := (z69_0 hB).mpr (by
      rw [show (0 : Int32) = nI 0 from rfl, nI_eq (by omega) (by omega)] at c4
      exact c4)
    refine g_dconst0 F dX9_error_30 ?_
    refine g_dret F T ⟨_, rfl, ?_⟩ (Nat.le_of_ble_eq_true rfl) (Nat.le_of_ble_eq_true rfl) dX9_error_31
    rw [show oErr (z, H, l, n, tx) = (0, zEr z) from rfl]
    exact ⟨rfl, (if_pos (.inl h69)).symm, P_fc Fr.rf, Cl_up ⟨pm, hH⟩ Fr.rf hc hn7 hl8 (fun j hj => (congrFun rfl j).trans (htx j hj))⟩
  · have h69 : ¬ z 69 = 0 := fun h => c4 (by rw [(z69_0 hB).mp h]; rfl)
    refine g_lload_n (k := 1) F 0 rfl dX9_error_24 ?_
    refine g_lconst (v := 0) F (by decide) dX9_error_25 ?_
    refine g_lcmp F dX9_error_26 ?_
    refine g_if_ne (t := 32) F dX9_error_27 (by decide) (fun c5 => ?_) (fun c5 => ?_)
    · rw [lc_eq] at c5
      have hA9 : ¬ zTw z / 2 = 0 := by rw [← er1]; exact c5
      refine g_aload_n (k := 0) F 1 rfl dX9_error_32 ?_
      refine g_callV F (kX9_meanMinusArea Γ.1 S q hq z hB hc) okX9_meanMinusArea (qi80 hq) mw863 ⟨(Nat.le_of_ble_eq_true rfl), (Nat.le_of_ble_eq_true rfl)⟩ rfl rfl (Nat.le_of_ble_eq_true rfl) ⟨(Nat.le_of_ble_eq_true rfl), (Nat.le_of_ble_eq_true rfl)⟩ dX9_error_33 (toJ (fun r6 S7 h8 => ?_))
      obtain ⟨er6, fr6⟩ := h8
      have hq9 : Shp S7.1 S7.2.1 q := Fr.q fr6 hq
      refine g_l2d F dX9_error_36 ?_
      refine g_lload_n (k := 1) F 0 rfl dX9_error_37 ?_
      refine g_l2d F dX9_error_38 ?_
      refine g_ddiv F dX9_error_39 (vf_of (by rw [er6, er1]; exact dv_nn hA9 (tw_s hB))) ?_
      refine g_dret F T ⟨_, rfl, ?_⟩ (Nat.le_of_ble_eq_true rfl) (Nat.le_of_ble_eq_true rfl) dX9_error_40
      rw [show oErr (z, H, l, n, tx) = (0, zEr z) from rfl]
      exact ⟨rfl, (by unfold zEr; rw [if_neg (fun h => h.elim h69 hA9), er6, er1]), P_fc (Fr.tr (l := [83, 84, 85, 86, 87, 88, 89]) Fr.rf fr6 (by decide) (by decide)), Cl_up ⟨pm, hH⟩ (Fr.tr (l := [83, 84, 85, 86, 87, 88, 89]) Fr.rf fr6 (by decide) (by decide)) (Cs.fr (s := 0) (l := [83, 84, 85, 86, 87, 88, 89]) (by decide) (Fr.tr (l := [83, 84, 85, 86, 87, 88, 89]) Fr.rf fr6 (by decide) (by decide)) (by decide) hc) ((congrFun (fr6.2.2 (80) (by decide) (by decide)).1 7).trans hn7) ((congrFun (fr6.2.2 (80) (by decide) (by decide)).1 8).trans hl8) (fun j hj => (congrFun ((fr6.2.2 (93) (by decide) (by decide)).1.trans rfl) j).trans (htx j hj))⟩
    · rw [lc_eq] at c5
      have hA9 : zTw z / 2 = 0 := by rw [← er1]; exact c5
      refine g_dconst0 F dX9_error_30 ?_
      refine g_dret F T ⟨_, rfl, ?_⟩ (Nat.le_of_ble_eq_true rfl) (Nat.le_of_ble_eq_true rfl) dX9_error_31
      rw [show oErr (z, H, l, n, tx) = (0, zEr z) from rfl]
      exact ⟨rfl, (if_pos (.inr hA9)).symm, P_fc Fr.rf, Cl_up ⟨pm, hH⟩ Fr.rf hc hn7 hl8 (fun j hj => (congrFun rfl j).trans (htx j hj))⟩
set_option maxHeartbeats 4000000 in
set_option maxRecDepth 100000 in
theorem kX9_digest (g : Glo) (S : PS) (q : Nat → Nat) (hq : Shp S.1 S.2.1 q) (z : ZZ) (H : List ZZ) (l : Int32) (n : Nat) (tx : Nat → Int32) (hB : Bz z) (hw : Cl S q (z, H, l, n, tx)) (hn60 : n ≤ 60) : Ct g mX9_digest 0 0 [.ref (q 80)] S (pJ9 (fun r S' => (oDig (z, H, l, n, tx)).1 = 0 ∧ r = (oDig (z, H, l, n, tx)).2 ∧ FrP S S' q P94 ∧ Cl S' q (z, H, l, n, tx))) := by
  refine Ct.of (by decide) (Nat.le_of_ble_eq_true rfl) (fun Γ hg F T => ?_)
  subst hg
  show G Γ S 0 0 0 [(0, .ref (q 80))] []
  have hc : Cs S q 0 z := hw.1
  obtain ⟨pm, hH9⟩ := hw.2.1
  have hH : Hs S q pm H := hH9
  have hn7 : pI S (q 80) 7 = nI n := hw.2.2.1
  have hl8 : pI S (q 80) 8 = l := hw.2.2.2.1
  have htx : ∀ j, j < n → pI S (q 93) j = tx j := hw.2.2.2.2
  have hnc := (nc_e hB).2
  have hnr := (nr_e hB).2
  have tn := nI_toInt (n := nc z) (by omega)
  have tr := nI_toInt (n := nr z) (by omega)
  have hH6 := hH.2.1
  refine g_ldc2 F mw968 dX9_digest_0 ?_
  refine g_lstore_n (k := 1) (L' := [(1, .long 2113), (0, .ref (q 80))]) F dX9_digest_3 (Nat.le_of_ble_eq_true rfl) rfl ?_
  refine g_iconst (v := 0) F (by decide) dX9_digest_4 ?_
  refine g_istore_n (k := 3) (L' := [(3, .int 0), (1, .long 2113), (0, .ref (q 80))]) F dX9_digest_5 (Nat.le_of_ble_eq_true rfl) rfl ?_
  have lp1 : ∀ (n9 : Nat) (i : Nat) (h : Int64) (S1 : PS), 15 < i + n9 → (i ≤ 15) → (h = mixF (fun i => zCt z H.length (nI i)) i 2113) → (Fr S S1 q [83, 84, 85, 86, 87, 88, 89]) → G Γ S1 0 0 6 [(3, .int (nI i)), (1, .long h), (0, .ref (q 80))] [] := by
    intro n9
    induction n9 with
    | zero =>
      intro i h S1 hm9 hi9 hh9 hf
      exact absurd hm9 (by omega)
    | succ n9 ihlp1 =>
      intro i h S1 hm9 hi9 hh9 hf
      have hq2 : Shp S1.1 S1.2.1 q := Fr.q hf hq
      refine g_iload_n (k := 3) F 0 rfl dX9_digest_6 ?_
      refine g_bipush (v := 15) F (by decide) dX9_digest_7 ?_
      refine g_icmp_ge (t := 28) F dX9_digest_9 (by decide) (fun c3 => ?_) (fun c3 => ?_)
      · obtain rfl : i = 15 := by
          rw [show (15 : Int32) = nI 15 from rfl, nI_leI (by omega) (by omega)] at c3
          omega
        refine g_iconst (v := 0) F (by decide) dX9_digest_28 ?_
        refine g_istore_n (k := 3) (L' := [(3, .int 0), (1, .long h), (0, .ref (q 80))]) F dX9_digest_29 (Nat.le_of_ble_eq_true rfl) rfl ?_
        have lp4 : ∀ (n9 : Nat) (i : Nat) (h : Int64) (S1 : PS), 5 < i + n9 → (i ≤ 5) → (h = mixF (fun i => z (2 + i)) i (zD1 (z, H, l, n, tx))) → (Fr S S1 q [83, 84, 85, 86, 87, 88, 89]) → G Γ S1 0 0 30 [(3, .int (nI i)), (1, .long h), (0, .ref (q 80))] [] := by
          intro n9
          induction n9 with
          | zero =>
            intro i h S1 hm9 hi9 hh9 hf
            exact absurd hm9 (by omega)
          | succ n9 ihlp4 =>
            intro i h S1 hm9 hi9 hh9 hf
            have hq5 : Shp S1.1 S1.2.1 q := Fr.q hf hq
            refine g_iload_n (k := 3) F 0 rfl dX9_digest_30 ?_
            refine g_iconst (v := 5) F (by decide) dX9_digest_31 ?_
            refine g_icmp_ge (t := 56) F dX9_digest_32 (by decide) (fun c6 => ?_) (fun c6 => ?_)
            · obtain rfl : i = 5 := by
                rw [show (5 : Int32) = nI 5 from rfl, nI_leI (by omega) (by omega)] at c6
                omega
              refine g_iconst (v := 0) F (by decide) dX9_digest_56 ?_
              refine g_istore_n (k := 3) (L' := [(3, .int 0), (1, .long h), (0, .ref (q 80))]) F dX9_digest_57 (Nat.le_of_ble_eq_true rfl) rfl ?_
              have lp7 : ∀ (n9 : Nat) (k : Nat) (h : Int64) (S1 : PS), nc z < k + n9 → (k ≤ nc z) → (h = mixF (fun i => zCn z (i / 6) (nI (i % 6))) (6 * k) (zD2 (z, H, l, n, tx))) → (Fr S S1 q [83, 84, 85, 86, 87, 88, 89]) → G Γ S1 0 0 58 [(3, .int (nI k)), (1, .long h), (0, .ref (q 80))] [] := by
                intro n9
                induction n9 with
                | zero =>
                  intro k h S1 hm9 hi9 hh9 hf
                  exact absurd hm9 (by omega)
                | succ n9 ihlp7 =>
                  intro k h S1 hm9 hi9 hh9 hf
                  have hq8 : Shp S1.1 S1.2.1 q := Fr.q hf hq
                  refine g_iload_n (k := 3) F 0 rfl dX9_digest_58 ?_
                  refine g_aload_n (k := 0) F 2 rfl dX9_digest_59 ?_
                  refine gfX9_10 F (qi80 hq8) (qr80_0 hq8) dX9_digest_60 ?_
                  refine gfX9_100 F (qs0 hq8 (s := 0) (by decide)) (qt0_4 hq8 (s := 0) (by decide)) dX9_digest_63 ?_
                  refine gfX9_104e F (qs2 hq8 (s := 0) (by decide)) ((congrFun (hf.2.2 (2) (by decide) (by decide)).1 0).trans hc.n) dX9_digest_66 ?_
                  refine g_icmp_ge (t := 106) F dX9_digest_69 (by decide) (fun c9 => ?_) (fun c9 => ?_)
                  · obtain rfl : k = nc z := by
                      rw [nI_leI (by omega) (by omega)] at c9
                      omega
                    refine g_iconst (v := 0) F (by decide) dX9_digest_106 ?_
                    refine g_istore_n (k := 3) (L' := [(3, .int 0), (1, .long h), (0, .ref (q 80))]) F dX9_digest_107 (Nat.le_of_ble_eq_true rfl) rfl ?_
                    have lp10 : ∀ (n9 : Nat) (r : Nat) (h : Int64) (S1 : PS), nr z < r + n9 → (r ≤ nr z) → (h = zD4 (z, H, l, n, tx) r) → (Fr S S1 q [83, 84, 85, 86, 87, 88, 89]) → G Γ S1 0 0 108 [(3, .int (nI r)), (1, .long h), (0, .ref (q 80))] [] := by
                      intro n9
                      induction n9 with
                      | zero =>
                        intro r h S1 hm9 hi9 hh9 hf
                        exact absurd hm9 (by omega)
                      | succ n9 ihlp10 =>
                        intro r h S1 hm9 hi9 hh9 hf
                        have hq11 : Shp S1.1 S1.2.1 q := Fr.q hf hq
                        refine g_iload_n (k := 3) F 0 rfl dX9_digest_108 ?_
                        refine g_aload_n (k := 0) F 2 rfl dX9_digest_109 ?_
                        refine gfX9_10 F (qi80 hq11) (qr80_0 hq11) dX9_digest_110 ?_
                        refine gfX9_73 F (qs0 hq11 (s := 0) (by decide)) (qt0_5 hq11 (s := 0) (by decide)) dX9_digest_113 ?_
                        refine gfX9_160e F (qs6 hq11 (s := 0) (by decide)) ((congrFun (hf.2.2 (6) (by decide) (by decide)).1 0).trans hc.m) dX9_digest_116 ?_
                        refine g_icmp_ge (t := 156) F dX9_digest_119 (by decide) (fun c12 => ?_) (fun c12 => ?_)
                        · obtain rfl : r = nr z := by
                            rw [nI_leI (by omega) (by omega)] at c12
                            omega
                          refine g_lload_n (k := 1) F 1 rfl dX9_digest_156 ?_
                          refine g_aload_n (k := 0) F 2 rfl dX9_digest_157 ?_
                          refine g_callV F (kX9_leastArm Γ.1 S1 q hq11 z hB (Cs.fr (s := 0) (l := [83, 84, 85, 86, 87, 88, 89]) (by first | decide | omega) hf (by first | decide | (intro i hi h; simp at h; omega)) hc)) okX9_leastArm (qi80 hq11) mw973 ⟨(Nat.le_of_ble_eq_true rfl), (Nat.le_of_ble_eq_true rfl)⟩ rfl rfl (Nat.le_of_ble_eq_true rfl) ⟨(Nat.le_of_ble_eq_true rfl), (Nat.le_of_ble_eq_true rfl)⟩ dX9_digest_158 (toI (fun r13 S14 h15 => ?_))
                          obtain ⟨er13, fr13⟩ := h15
                          have hq16 : Shp S14.1 S14.2.1 q := Fr.q fr13 hq11
                          refine g_i2l F dX9_digest_161 ?_
                          refine g_callS F (kX9_hashed Γ.1 _ _ _) okX9_hashed mw969 ⟨(Nat.le_of_ble_eq_true rfl), (Nat.le_of_ble_eq_true rfl)⟩ rfl rfl (Nat.le_of_ble_eq_true rfl) ⟨(Nat.le_of_ble_eq_true rfl), (Nat.le_of_ble_eq_true rfl)⟩ dX9_digest_162 (toJ (fun r17 S18 h19 => ?_))
                          obtain ⟨er17, rfl⟩ := h19
                          refine g_lstore_n (k := 1) (L' := [(1, .long r17), (3, .int (nI (nr z))), (0, .ref (q 80))]) F dX9_digest_165 (Nat.le_of_ble_eq_true rfl) rfl ?_
                          refine g_lload_n (k := 1) F 0 rfl dX9_digest_166 ?_
                          refine g_aload_n (k := 0) F 2 rfl dX9_digest_167 ?_
                          refine g_callV F (kX9_errorBits Γ.1 S14 q hq16 z hB (Cs.fr (s := 0) (l := [83, 84, 85, 86, 87, 88, 89]) (by first | decide | omega) (Fr.tr (l := [83, 84, 85, 86, 87, 88, 89]) hf fr13 (by decide) (by decide)) (by first | decide | (intro i hi h; simp at h; omega)) hc)) okX9_errorBits (qi80 hq16) mw974 ⟨(Nat.le_of_ble_eq_true rfl), (Nat.le_of_ble_eq_true rfl)⟩ rfl rfl (Nat.le_of_ble_eq_true rfl) ⟨(Nat.le_of_ble_eq_true rfl), (Nat.le_of_ble_eq_true rfl)⟩ dX9_digest_168 (toJ (fun r20 S21 h22 => ?_))
                          obtain ⟨er20, fr20⟩ := h22
                          have hq23 : Shp S21.1 S21.2.1 q := Fr.q fr20 hq16
                          refine g_callS F (kX9_hashed Γ.1 _ _ _) okX9_hashed mw969 ⟨(Nat.le_of_ble_eq_true rfl), (Nat.le_of_ble_eq_true rfl)⟩ rfl rfl (Nat.le_of_ble_eq_true rfl) ⟨(Nat.le_of_ble_eq_true rfl), (Nat.le_of_ble_eq_true rfl)⟩ dX9_digest_171 (toJ (fun r24 S25 h26 => ?_))
                          obtain ⟨er24, rfl⟩ := h26
                          refine g_lstore_n (k := 1) (L' := [(1, .long r24), (3, .int (nI (nr z))), (0, .ref (q 80))]) F dX9_digest_174 (Nat.le_of_ble_eq_true rfl) rfl ?_
                          refine g_lload_n (k := 1) F 0 rfl dX9_digest_175 ?_
                          refine g_aload_n (k := 0) F 2 rfl dX9_digest_176 ?_
                          refine gfX9_147e F (qi80 hq23) ((congrFun (fr20.2.2 (80) (by decide) (by decide)).1 8).trans ((congrFun (fr13.2.2 (80) (by decide) (by decide)).1 8).trans ((congrFun (hf.2.2 (80) (by decide) (by decide)).1 8).trans hl8))) dX9_digest_177 ?_
                          refine g_i2l F dX9_digest_180 ?_
                          refine g_callS F (kX9_hashed Γ.1 _ _ _) okX9_hashed mw969 ⟨(Nat.le_of_ble_eq_true rfl), (Nat.le_of_ble_eq_true rfl)⟩ rfl rfl (Nat.le_of_ble_eq_true rfl) ⟨(Nat.le_of_ble_eq_true rfl), (Nat.le_of_ble_eq_true rfl)⟩ dX9_digest_181 (toJ (fun r27 S28 h29 => ?_))
                          obtain ⟨er27, rfl⟩ := h29
                          refine g_lstore_n (k := 1) (L' := [(1, .long r27), (3, .int (nI (nr z))), (0, .ref (q 80))]) F dX9_digest_184 (Nat.le_of_ble_eq_true rfl) rfl ?_
                          refine g_lload_n (k := 1) F 0 rfl dX9_digest_185 ?_
                          refine g_aload_n (k := 0) F 2 rfl dX9_digest_186 ?_
                          refine gfX9_165e F (qi80 hq23) ((congrFun (fr20.2.2 (80) (by decide) (by decide)).1 7).trans ((congrFun (fr13.2.2 (80) (by decide) (by decide)).1 7).trans ((congrFun (hf.2.2 (80) (by decide) (by decide)).1 7).trans hn7))) dX9_digest_187 ?_
                          refine g_i2l F dX9_digest_190 ?_
                          refine g_callS F (kX9_hashed Γ.1 _ _ _) okX9_hashed mw969 ⟨(Nat.le_of_ble_eq_true rfl), (Nat.le_of_ble_eq_true rfl)⟩ rfl rfl (Nat.le_of_ble_eq_true rfl) ⟨(Nat.le_of_ble_eq_true rfl), (Nat.le_of_ble_eq_true rfl)⟩ dX9_digest_191 (toJ (fun r30 S31 h32 => ?_))
                          obtain ⟨er30, rfl⟩ := h32
                          refine g_lstore_n (k := 1) (L' := [(1, .long r30), (3, .int (nI (nr z))), (0, .ref (q 80))]) F dX9_digest_194 (Nat.le_of_ble_eq_true rfl) rfl ?_
                          refine g_iconst (v := 0) F (by decide) dX9_digest_195 ?_
                          refine g_istore_n (k := 3) (L' := [(3, .int 0), (1, .long r30), (0, .ref (q 80))]) F dX9_digest_196 (Nat.le_of_ble_eq_true rfl) rfl ?_
                          have lp33 : ∀ (n9 : Nat) (i : Nat) (h : Int64) (S1 : PS), n < i + n9 → (i ≤ n) → (h = mixF (fun i => (tx i).toInt64) i (zD5 (z, H, l, n, tx))) → (Fr S S1 q [83, 84, 85, 86, 87, 88, 89]) → G Γ S1 0 0 197 [(3, .int (nI i)), (1, .long h), (0, .ref (q 80))] [] := by
                            intro n9
                            induction n9 with
                            | zero =>
                              intro i h S1 hm9 hi9 hh9 hf
                              exact absurd hm9 (by omega)
                            | succ n9 ihlp33 =>
                              intro i h S1 hm9 hi9 hh9 hf
                              have hq34 : Shp S1.1 S1.2.1 q := Fr.q hf hq
                              refine g_iload_n (k := 3) F 0 rfl dX9_digest_197 ?_
                              refine g_aload_n (k := 0) F 2 rfl dX9_digest_198 ?_
                              refine gfX9_165e F (qi80 hq34) ((congrFun (hf.2.2 (80) (by decide) (by decide)).1 7).trans hn7) dX9_digest_199 ?_
                              refine g_icmp_ge (t := 223) F dX9_digest_202 (by decide) (fun c35 => ?_) (fun c35 => ?_)
                              · have he9 : i = n := by
                                  rw [nI_leI (by omega) (by omega)] at c35
                                  omega
                                refine g_lload_n (k := 1) F 1 rfl dX9_digest_223 ?_
                                refine g_lret F T ⟨_, rfl, ?_⟩ (Nat.le_of_ble_eq_true rfl) (Nat.le_of_ble_eq_true rfl) dX9_digest_224
                                rw [show oDig (z, H, l, n, tx) = (0, zDg (z, H, l, n, tx)) from rfl]
                                exact ⟨rfl, (by rw [hh9, he9]; rfl), P_fc (Fr.up hf (by decide)), Cl_up ⟨pm, hH⟩ (Fr.up hf (by decide)) (Cs.fr (s := 0) (l := [83, 84, 85, 86, 87, 88, 89]) (by decide) hf (by decide) hc) ((congrFun (hf.2.2 (80) (by decide) (by decide)).1 7).trans hn7) ((congrFun (hf.2.2 (80) (by decide) (by decide)).1 8).trans hl8) (fun j hj => (congrFun ((hf.2.2 (93) (by decide) (by decide)).1.trans rfl) j).trans (htx j hj))⟩
                              · have hlt9 : i < n := by
                                  rw [nI_leI (by omega) (by omega)] at c35
                                  omega
                                refine g_lload_n (k := 1) F 1 rfl dX9_digest_205 ?_
                                refine g_aload_n (k := 0) F 2 rfl dX9_digest_206 ?_
                                refine gfX9_47 F (qi80 hq34) (qr80_6 hq34) dX9_digest_207 ?_
                                refine g_iload_n (k := 3) F 0 rfl dX9_digest_210 ?_
                                refine g_ialde ((hf.2.2 (93) (by decide) (by decide)).1.trans rfl) (j := i) F (qi93 hq34) rfl (by rw [(qn93 hq34)]; omega) (by rw [(qn93 hq34)]; decide) dX9_digest_211 ?_
                                refine g_i2l F dX9_digest_212 ?_
                                refine g_callS F (kX9_hashed Γ.1 _ _ _) okX9_hashed mw969 ⟨(Nat.le_of_ble_eq_true rfl), (Nat.le_of_ble_eq_true rfl)⟩ rfl rfl (Nat.le_of_ble_eq_true rfl) ⟨(Nat.le_of_ble_eq_true rfl), (Nat.le_of_ble_eq_true rfl)⟩ dX9_digest_213 (toJ (fun r36 S37 h38 => ?_))
                                obtain ⟨er36, rfl⟩ := h38
                                refine g_lstore_n (k := 1) (L' := [(1, .long r36), (3, .int (nI i)), (0, .ref (q 80))]) F dX9_digest_216 (Nat.le_of_ble_eq_true rfl) rfl ?_
                                obtain ⟨x39, ex39⟩ : ∃ y9 : Int32, y9 = (nI i) + 1 := ⟨_, rfl⟩
                                refine g_iinc (k := 1) (v := x39) (L' := [(3, .int x39), (1, .long r36), (0, .ref (q 80))]) F dX9_digest_217 rfl (by rw [ex39]; rfl) (Nat.le_of_ble_eq_true rfl) rfl ?_
                                refine g_goto (t := 197) F dX9_digest_220 (by decide) ?_
                                obtain rfl : x39 = nI (i + 1) := (ex39.trans (nI_1 _))
                                refine g_sub (L' := [(3, .int (nI (i + 1))), (1, .long r36), (0, .ref (q 80))]) [0, 1, 2] rfl ?_
                                exact ihlp33 (i + 1) (r36) (S1) (by omega) (by omega) (er36.trans (by rw [hh9, htx i hlt9]; rfl)) hf
                          exact lp33 (n + 1) 0 r30 S21 (by omega) (by omega) (er30.trans (by rw [er27, er24, er17, hh9, er13, er20]; rfl)) (Fr.tr (l := [83, 84, 85, 86, 87, 88, 89]) (Fr.tr (l := [83, 84, 85, 86, 87, 88, 89]) hf fr13 (by decide) (by decide)) fr20 (by decide) (by decide))
                        · have hlt9 : r < nr z := by
                            rw [nI_leI (by omega) (by omega)] at c12
                            omega
                          refine g_iconst (v := 0) F (by decide) dX9_digest_122 ?_
                          refine g_istore (L' := [(4, .int 0), (3, .int (nI r)), (1, .long h), (0, .ref (q 80))]) F dX9_digest_123 (Nat.le_of_ble_eq_true rfl) rfl ?_
                          have lp40 : ∀ (n9 : Nat) (j : Nat) (h : Int64) (S1 : PS), 6 < j + n9 → (j ≤ 6) → (h = mixF (fun k => zMn z r (nI k)) j (zD4 (z, H, l, n, tx) r)) → (Fr S S1 q [83, 84, 85, 86, 87, 88, 89]) → G Γ S1 0 0 125 [(4, .int (nI j)), (3, .int (nI r)), (1, .long h), (0, .ref (q 80))] [] := by
                            intro n9
                            induction n9 with
                            | zero =>
                              intro j h S1 hm9 hi9 hh9 hf
                              exact absurd hm9 (by omega)
                            | succ n9 ihlp40 =>
                              intro j h S1 hm9 hi9 hh9 hf
                              have hq41 : Shp S1.1 S1.2.1 q := Fr.q hf hq
                              refine g_iload F 0 rfl dX9_digest_125 ?_
                              refine g_bipush (v := 6) F (by decide) dX9_digest_127 ?_
                              refine g_icmp_ge (t := 150) F dX9_digest_129 (by decide) (fun c42 => ?_) (fun c42 => ?_)
                              · obtain rfl : j = 6 := by
                                  rw [show (6 : Int32) = nI 6 from rfl, nI_leI (by omega) (by omega)] at c42
                                  omega
                                obtain ⟨x43, ex43⟩ : ∃ y9 : Int32, y9 = (nI r) + 1 := ⟨_, rfl⟩
                                refine g_iinc (k := 1) (v := x43) (L' := [(3, .int x43), (4, .int (nI 6)), (1, .long h), (0, .ref (q 80))]) F dX9_digest_150 rfl (by rw [ex43]; rfl) (Nat.le_of_ble_eq_true rfl) rfl ?_
                                refine g_goto (t := 108) F dX9_digest_153 (by decide) ?_
                                obtain rfl : x43 = nI (r + 1) := (ex43.trans (nI_1 _))
                                refine g_sub (L' := [(3, .int (nI (r + 1))), (1, .long h), (0, .ref (q 80))]) [0, 2, 3] rfl ?_
                                exact ihlp10 (r + 1) (h) (S1) (by omega) (by omega) hh9 hf
                              · have hlt9 : j < 6 := by
                                  rw [show (6 : Int32) = nI 6 from rfl, nI_leI (by omega) (by omega)] at c42
                                  omega
                                refine g_lload_n (k := 1) F 2 rfl dX9_digest_132 ?_
                                refine g_aload_n (k := 0) F 3 rfl dX9_digest_133 ?_
                                refine g_iload_n (k := 3) F 1 rfl dX9_digest_134 ?_
                                refine g_iload F 0 rfl dX9_digest_135 ?_
                                refine g_callV F (kX9_runProperty Γ.1 S1 q hq41 z hB (Cs.fr (s := 0) (l := [83, 84, 85, 86, 87, 88, 89]) (by first | decide | omega) hf (by first | decide | (intro i hi h; simp at h; omega)) hc) r (by omega) (nI j) (by rw [nI_toInt (by omega)]; omega)) okX9_runProperty (qi80 hq41) mw741 ⟨(Nat.le_of_ble_eq_true rfl), (Nat.le_of_ble_eq_true rfl)⟩ rfl rfl (Nat.le_of_ble_eq_true rfl) ⟨(Nat.le_of_ble_eq_true rfl), (Nat.le_of_ble_eq_true rfl)⟩ dX9_digest_137 (toJ (fun r44 S45 h46 => ?_))
                                obtain ⟨er44, fr44⟩ := h46
                                have hq47 : Shp S45.1 S45.2.1 q := Fr.q fr44 hq41
                                refine g_callS F (kX9_hashed Γ.1 _ _ _) okX9_hashed mw969 ⟨(Nat.le_of_ble_eq_true rfl), (Nat.le_of_ble_eq_true rfl)⟩ rfl rfl (Nat.le_of_ble_eq_true rfl) ⟨(Nat.le_of_ble_eq_true rfl), (Nat.le_of_ble_eq_true rfl)⟩ dX9_digest_140 (toJ (fun r48 S49 h50 => ?_))
                                obtain ⟨er48, rfl⟩ := h50
                                refine g_lstore_n (k := 1) (L' := [(1, .long r48), (4, .int (nI j)), (3, .int (nI r)), (0, .ref (q 80))]) F dX9_digest_143 (Nat.le_of_ble_eq_true rfl) rfl ?_
                                obtain ⟨x51, ex51⟩ : ∃ y9 : Int32, y9 = (nI j) + 1 := ⟨_, rfl⟩
                                refine g_iinc (k := 1) (v := x51) (L' := [(4, .int x51), (1, .long r48), (3, .int (nI r)), (0, .ref (q 80))]) F dX9_digest_144 rfl (by rw [ex51]; rfl) (Nat.le_of_ble_eq_true rfl) rfl ?_
                                refine g_goto (t := 125) F dX9_digest_147 (by decide) ?_
                                obtain rfl : x51 = nI (j + 1) := (ex51.trans (nI_1 _))
                                refine g_sub (L' := [(4, .int (nI (j + 1))), (3, .int (nI r)), (1, .long r48), (0, .ref (q 80))]) [0, 2, 1, 3] rfl ?_
                                exact ihlp40 (j + 1) (r48) (S45) (by omega) (by omega) (er48.trans (by rw [hh9, er44]; rfl)) (Fr.tr (l := [83, 84, 85, 86, 87, 88, 89]) hf fr44 (by decide) (by decide))
                          exact lp40 (6 + 1) 0 h S1 (by omega) (by omega) hh9 hf
                    exact lp10 (nr z + 1) 0 h S1 (by omega) (by omega) hh9 hf
                  · have hlt9 : k < nc z := by
                      rw [nI_leI (by omega) (by omega)] at c9
                      omega
                    refine g_iconst (v := 0) F (by decide) dX9_digest_72 ?_
                    refine g_istore (L' := [(4, .int 0), (3, .int (nI k)), (1, .long h), (0, .ref (q 80))]) F dX9_digest_73 (Nat.le_of_ble_eq_true rfl) rfl ?_
                    have lp52 : ∀ (n9 : Nat) (j : Nat) (h : Int64) (S1 : PS), 6 < j + n9 → (j ≤ 6) → (h = mixF (fun i => zCn z (i / 6) (nI (i % 6))) (6 * k + j) (zD2 (z, H, l, n, tx))) → (Fr S S1 q [83, 84, 85, 86, 87, 88, 89]) → G Γ S1 0 0 75 [(4, .int (nI j)), (3, .int (nI k)), (1, .long h), (0, .ref (q 80))] [] := by
                      intro n9
                      induction n9 with
                      | zero =>
                        intro j h S1 hm9 hi9 hh9 hf
                        exact absurd hm9 (by omega)
                      | succ n9 ihlp52 =>
                        intro j h S1 hm9 hi9 hh9 hf
                        have hq53 : Shp S1.1 S1.2.1 q := Fr.q hf hq
                        refine g_iload F 0 rfl dX9_digest_75 ?_
                        refine g_bipush (v := 6) F (by decide) dX9_digest_77 ?_
                        refine g_icmp_ge (t := 100) F dX9_digest_79 (by decide) (fun c54 => ?_) (fun c54 => ?_)
                        · obtain rfl : j = 6 := by
                            rw [show (6 : Int32) = nI 6 from rfl, nI_leI (by omega) (by omega)] at c54
                            omega
                          obtain ⟨x55, ex55⟩ : ∃ y9 : Int32, y9 = (nI k) + 1 := ⟨_, rfl⟩
                          refine g_iinc (k := 1) (v := x55) (L' := [(3, .int x55), (4, .int (nI 6)), (1, .long h), (0, .ref (q 80))]) F dX9_digest_100 rfl (by rw [ex55]; rfl) (Nat.le_of_ble_eq_true rfl) rfl ?_
                          refine g_goto (t := 58) F dX9_digest_103 (by decide) ?_
                          obtain rfl : x55 = nI (k + 1) := (ex55.trans (nI_1 _))
                          refine g_sub (L' := [(3, .int (nI (k + 1))), (1, .long h), (0, .ref (q 80))]) [0, 2, 3] rfl ?_
                          exact ihlp7 (k + 1) (h) (S1) (by omega) (by omega) hh9 hf
                        · have hlt9 : j < 6 := by
                            rw [show (6 : Int32) = nI 6 from rfl, nI_leI (by omega) (by omega)] at c54
                            omega
                          refine g_lload_n (k := 1) F 2 rfl dX9_digest_82 ?_
                          refine g_aload_n (k := 0) F 3 rfl dX9_digest_83 ?_
                          refine g_iload_n (k := 3) F 1 rfl dX9_digest_84 ?_
                          refine g_iload F 0 rfl dX9_digest_85 ?_
                          refine g_callV F (kX9_cornerProperty Γ.1 S1 q hq53 z hB (Cs.fr (s := 0) (l := [83, 84, 85, 86, 87, 88, 89]) (by first | decide | omega) hf (by first | decide | (intro i hi h; simp at h; omega)) hc) k (by omega) (nI j) (by rw [nI_toInt (by omega)]; omega)) okX9_cornerProperty (qi80 hq53) mw710 ⟨(Nat.le_of_ble_eq_true rfl), (Nat.le_of_ble_eq_true rfl)⟩ rfl rfl (Nat.le_of_ble_eq_true rfl) ⟨(Nat.le_of_ble_eq_true rfl), (Nat.le_of_ble_eq_true rfl)⟩ dX9_digest_87 (toJ (fun r56 S57 h58 => ?_))
                          obtain ⟨er56, fr56⟩ := h58
                          have hq59 : Shp S57.1 S57.2.1 q := Fr.q fr56 hq53
                          refine g_callS F (kX9_hashed Γ.1 _ _ _) okX9_hashed mw969 ⟨(Nat.le_of_ble_eq_true rfl), (Nat.le_of_ble_eq_true rfl)⟩ rfl rfl (Nat.le_of_ble_eq_true rfl) ⟨(Nat.le_of_ble_eq_true rfl), (Nat.le_of_ble_eq_true rfl)⟩ dX9_digest_90 (toJ (fun r60 S61 h62 => ?_))
                          obtain ⟨er60, rfl⟩ := h62
                          refine g_lstore_n (k := 1) (L' := [(1, .long r60), (4, .int (nI j)), (3, .int (nI k)), (0, .ref (q 80))]) F dX9_digest_93 (Nat.le_of_ble_eq_true rfl) rfl ?_
                          obtain ⟨x63, ex63⟩ : ∃ y9 : Int32, y9 = (nI j) + 1 := ⟨_, rfl⟩
                          refine g_iinc (k := 1) (v := x63) (L' := [(4, .int x63), (1, .long r60), (3, .int (nI k)), (0, .ref (q 80))]) F dX9_digest_94 rfl (by rw [ex63]; rfl) (Nat.le_of_ble_eq_true rfl) rfl ?_
                          refine g_goto (t := 75) F dX9_digest_97 (by decide) ?_
                          obtain rfl : x63 = nI (j + 1) := (ex63.trans (nI_1 _))
                          refine g_sub (L' := [(4, .int (nI (j + 1))), (3, .int (nI k)), (1, .long r60), (0, .ref (q 80))]) [0, 2, 1, 3] rfl ?_
                          exact ihlp52 (j + 1) (r60) (S57) (by omega) (by omega) (er60.trans (by rw [hh9, er56]; exact dg_s (by omega))) (Fr.tr (l := [83, 84, 85, 86, 87, 88, 89]) hf fr56 (by decide) (by decide))
                    exact lp52 (6 + 1) 0 h S1 (by omega) (by omega) hh9 hf
              exact lp7 (nc z + 1) 0 h S1 (by omega) (by omega) hh9 hf
            · have hlt9 : i < 5 := by
                rw [show (5 : Int32) = nI 5 from rfl, nI_leI (by omega) (by omega)] at c6
                omega
              refine g_lload_n (k := 1) F 1 rfl dX9_digest_35 ?_
              refine g_aload_n (k := 0) F 2 rfl dX9_digest_36 ?_
              refine gfX9_10 F (qi80 hq5) (qr80_0 hq5) dX9_digest_37 ?_
              refine gfX9_91 F (qs0 hq5 (s := 0) (by decide)) (qt0_3 hq5 (s := 0) (by decide)) dX9_digest_40 ?_
              refine g_iload_n (k := 3) F 0 rfl dX9_digest_43 ?_
              refine g_ialde ((hf.2.2 (1) (by decide) (by decide)).1.trans rfl) (j := i) F (qs1 hq5 (s := 0) (by decide)) rfl (by rw [(qm1 hq5 (s := 0) (by decide))]; omega) (by rw [(qm1 hq5 (s := 0) (by decide))]; decide) dX9_digest_44 ?_
              refine g_i2l F dX9_digest_45 ?_
              refine g_callS F (kX9_hashed Γ.1 _ _ _) okX9_hashed mw969 ⟨(Nat.le_of_ble_eq_true rfl), (Nat.le_of_ble_eq_true rfl)⟩ rfl rfl (Nat.le_of_ble_eq_true rfl) ⟨(Nat.le_of_ble_eq_true rfl), (Nat.le_of_ble_eq_true rfl)⟩ dX9_digest_46 (toJ (fun r64 S65 h66 => ?_))
              obtain ⟨er64, rfl⟩ := h66
              refine g_lstore_n (k := 1) (L' := [(1, .long r64), (3, .int (nI i)), (0, .ref (q 80))]) F dX9_digest_49 (Nat.le_of_ble_eq_true rfl) rfl ?_
              obtain ⟨x67, ex67⟩ : ∃ y9 : Int32, y9 = (nI i) + 1 := ⟨_, rfl⟩
              refine g_iinc (k := 1) (v := x67) (L' := [(3, .int x67), (1, .long r64), (0, .ref (q 80))]) F dX9_digest_50 rfl (by rw [ex67]; rfl) (Nat.le_of_ble_eq_true rfl) rfl ?_
              refine g_goto (t := 30) F dX9_digest_53 (by decide) ?_
              obtain rfl : x67 = nI (i + 1) := (ex67.trans (nI_1 _))
              refine g_sub (L' := [(3, .int (nI (i + 1))), (1, .long r64), (0, .ref (q 80))]) [0, 1, 2] rfl ?_
              exact ihlp4 (i + 1) (r64) (S1) (by omega) (by omega) (er64.trans (by rw [hh9, hc.2.1 i hlt9]; rfl)) hf
        exact lp4 (5 + 1) 0 h S1 (by omega) (by omega) hh9 hf
      · have hlt9 : i < 15 := by
          rw [show (15 : Int32) = nI 15 from rfl, nI_leI (by omega) (by omega)] at c3
          omega
        refine g_lload_n (k := 1) F 1 rfl dX9_digest_12 ?_
        refine g_aload_n (k := 0) F 2 rfl dX9_digest_13 ?_
        refine g_iload_n (k := 3) F 0 rfl dX9_digest_14 ?_
        refine g_callV F (kX9_number Γ.1 S1 q hq2 z hB (Cs.fr (s := 0) (l := [83, 84, 85, 86, 87, 88, 89]) (by first | decide | omega) hf (by first | decide | (intro i hi h; simp at h; omega)) hc) H.length ((congrFun (hf.2.2 (81) (by decide) (by decide)).1 0).trans hH.1) hH6 (nI i) (by rw [nI_toInt (by omega)]; omega)) okX9_number (qi80 hq2) mw851 ⟨(Nat.le_of_ble_eq_true rfl), (Nat.le_of_ble_eq_true rfl)⟩ rfl rfl (Nat.le_of_ble_eq_true rfl) ⟨(Nat.le_of_ble_eq_true rfl), (Nat.le_of_ble_eq_true rfl)⟩ dX9_digest_15 (toJ (fun r68 S69 h70 => ?_))
        obtain ⟨er68, fr68⟩ := h70
        have hq71 : Shp S69.1 S69.2.1 q := Fr.q fr68 hq2
        refine g_callS F (kX9_hashed Γ.1 _ _ _) okX9_hashed mw969 ⟨(Nat.le_of_ble_eq_true rfl), (Nat.le_of_ble_eq_true rfl)⟩ rfl rfl (Nat.le_of_ble_eq_true rfl) ⟨(Nat.le_of_ble_eq_true rfl), (Nat.le_of_ble_eq_true rfl)⟩ dX9_digest_18 (toJ (fun r72 S73 h74 => ?_))
        obtain ⟨er72, rfl⟩ := h74
        refine g_lstore_n (k := 1) (L' := [(1, .long r72), (3, .int (nI i)), (0, .ref (q 80))]) F dX9_digest_21 (Nat.le_of_ble_eq_true rfl) rfl ?_
        obtain ⟨x75, ex75⟩ : ∃ y9 : Int32, y9 = (nI i) + 1 := ⟨_, rfl⟩
        refine g_iinc (k := 1) (v := x75) (L' := [(3, .int x75), (1, .long r72), (0, .ref (q 80))]) F dX9_digest_22 rfl (by rw [ex75]; rfl) (Nat.le_of_ble_eq_true rfl) rfl ?_
        refine g_goto (t := 6) F dX9_digest_25 (by decide) ?_
        obtain rfl : x75 = nI (i + 1) := (ex75.trans (nI_1 _))
        refine g_sub (L' := [(3, .int (nI (i + 1))), (1, .long r72), (0, .ref (q 80))]) [0, 1, 2] rfl ?_
        exact ihlp1 (i + 1) (r72) (S69) (by omega) (by omega) (er72.trans (by rw [hh9, er68]; rfl)) (Fr.tr (l := [83, 84, 85, 86, 87, 88, 89]) hf fr68 (by decide) (by decide))
  exact lp1 (15 + 1) 0 2113 S (by omega) (by omega) rfl Fr.rf
