set_option maxHeartbeats 4000000 in
set_option maxRecDepth 100000 in
theorem kX5_area (g : Glo) (S : PS) (q : Nat → Nat) (hq : Shp S.1 S.2.1 q) (s : Nat) (hs : s < 8) (z : ZZ) (hB : Bz z) (hc : Cs S q s z) (r : Nat) (hr : r < nr z) (v : Int64) : Ct g mX5_area 0 0 [.ref (q (10 * s + 6)), .int (nI r), .long v] S (pJ9 (fun r9 S' => r9 = z (70 + 3 * r + 2) / 512 + v ∧ S = S')) := by
  refine Ct.of (by decide) (Nat.le_of_ble_eq_true rfl) (fun Γ hg F T => ?_)
  subst hg
  show G Γ S 0 0 0 [(0, .ref (q (10 * s + 6))), (1, .int (nI r)), (2, .long v)] []
  have hnr := (nr_e hB).2
  refine g_aload_n (k := 0) F 0 rfl dX5_area_0 ?_
  refine gfX5_19 F (qs6 hq hs) (qt6_3 hq hs) dX5_area_1 ?_
  refine g_iload_n (k := 1) F 1 rfl dX5_area_4 ?_
  refine g_lalde rfl (j := r) F (qs9 hq hs) rfl (by rw [(qm9 hq hs)]; omega) (by rw [(qm9 hq hs)]; decide) dX5_area_5 ?_
  refine g_ldc2 F mw338 dX5_area_6 ?_
  refine g_ldiv F dX5_area_9 (by decide) ?_
  refine g_lload_n (k := 2) F 2 rfl dX5_area_10 ?_
  refine g_ladd F dX5_area_11 ?_
  refine g_lret F T ⟨_, rfl, ?_⟩ (Nat.le_of_ble_eq_true rfl) (Nat.le_of_ble_eq_true rfl) dX5_area_12
  exact ⟨by rw [hc.r hr], rfl⟩
set_option maxHeartbeats 4000000 in
set_option maxRecDepth 100000 in
theorem kX6_constant (g : Glo) (S : PS) (q : Nat → Nat) (hq : Shp S.1 S.2.1 q) (s : Nat) (hs : s < 8) (z : ZZ) (hB : Bz z) (hc : Cs S q s z) : Ct g mX6_constant 0 0 [.ref (q (10 * s))] S (pJ9 (fun r S' => r = zCo z ∧ S = S')) := by
  refine Ct.of (by decide) (Nat.le_of_ble_eq_true rfl) (fun Γ hg F T => ?_)
  subst hg
  show G Γ S 0 0 0 [(0, .ref (q (10 * s)))] []
  refine g_aload_n (k := 0) F 0 rfl dX6_constant_0 ?_
  refine gfX6_15 F (qs0 hq hs) (qt0_3 hq hs) dX6_constant_1 ?_
  refine g_iconst (v := 0) F (by decide) dX6_constant_4 ?_
  refine g_ialde rfl (j := 0) F (qs1 hq hs) rfl (by rw [(qm1 hq hs)]; omega) (by rw [(qm1 hq hs)]; decide) dX6_constant_5 ?_
  refine g_i2l F dX6_constant_6 ?_
  refine g_topl (fun x1 ex1 => ?_)
  refine g_lstore_n (k := 1) (L' := [(1, .long x1), (0, .ref (q (10 * s)))]) F dX6_constant_7 (Nat.le_of_ble_eq_true rfl) rfl ?_
  have hz2 : x1 = z 2 := by rw [ex1]; exact hc.st (i := 0) (by decide)
  refine g_aload_n (k := 0) F 1 rfl dX6_constant_8 ?_
  refine gfX6_22 F (qs0 hq hs) (qt0_4 hq hs) dX6_constant_9 ?_
  refine g_aload_n (k := 0) F 1 rfl dX6_constant_12 ?_
  refine gfX6_42e F (qs0 hq hs) rfl dX6_constant_13 ?_
  refine g_aload_n (k := 0) F 1 rfl dX6_constant_16 ?_
  refine gfX6_45e F (qs0 hq hs) rfl dX6_constant_17 ?_
  refine g_callVN (host := "PolarPlanimeter") F (kX4_windingAround Γ.1 S q hq s hs z hB hc (pI S (q (10 * s)) 0) (pI S (q (10 * s)) 1) hc.1.1 hc.1.2.1) okX4_windingAround (qs2 hq hs) nwM58 ⟨(Nat.le_of_ble_eq_true rfl), (Nat.le_of_ble_eq_true rfl)⟩ rfl rfl (Nat.le_of_ble_eq_true rfl) ⟨(Nat.le_of_ble_eq_true rfl), (Nat.le_of_ble_eq_true rfl)⟩ dX6_constant_20 (toJ (fun r2 S3 h4 => ?_))
  obtain ⟨er2, rfl⟩ := h4
  refine g_ldc2 F mw327 dX6_constant_23 ?_
  refine g_lload_n (k := 1) F 0 rfl dX6_constant_26 ?_
  refine g_lmul F dX6_constant_27 ?_
  refine g_lload_n (k := 1) F 0 rfl dX6_constant_28 ?_
  refine g_lmul F dX6_constant_29 ?_
  refine g_ldc2 F mw328 dX6_constant_30 ?_
  refine g_ldiv F dX6_constant_33 (by decide) ?_
  refine g_lmul F dX6_constant_34 ?_
  refine g_lret F T ⟨_, rfl, ?_⟩ (Nat.le_of_ble_eq_true rfl) (Nat.le_of_ble_eq_true rfl) dX6_constant_35
  exact ⟨by rw [er2, hz2]; rfl, rfl⟩
set_option maxHeartbeats 4000000 in
set_option maxRecDepth 100000 in
theorem kX3_sortIn (g : Glo) (S : PS) (q : Nat → Nat) (hq : Shp S.1 S.2.1 q) (m : Nat) (hm : m < 12) (asc : Nat → Int64) (hA : pJ S (q 88) = asc) (a : Int64) (hso : Sorted asc m) : Ct g mX3_sortIn 0 0 [.ref (q 86), .long a, .int (nI m)] S (pV9 (fun S' => Fr S S' q [88] ∧ ∃ p, p ≤ m ∧ (∀ j, j < p → asc j ≤ a) ∧ (∀ j, p ≤ j → j < m → a < asc j) ∧ pJ S' (q 88) = inA asc m p a)) := by
  refine Ct.of (by decide) (Nat.le_of_ble_eq_true rfl) (fun Γ hg F T => ?_)
  subst hg
  show G Γ S 0 0 0 [(0, .ref (q 86)), (1, .long a), (3, .int (nI m))] []
  refine g_iload_n (k := 3) F 2 rfl dX3_sortIn_0 ?_
  refine g_istore (L' := [(4, .int (nI m)), (0, .ref (q 86)), (1, .long a), (3, .int (nI m))]) F dX3_sortIn_1 (Nat.le_of_ble_eq_true rfl) rfl ?_
  have lp1 : ∀ (n9 : Nat) (p : Nat) (S1 : PS), p < n9 → (p ≤ m) → (Fr S S1 q [88]) → (pJ S1 (q 88) = shA asc m p) → (∀ j, p ≤ j → j < m → a < asc j) → G Γ S1 0 0 3 [(4, .int (nI p)), (0, .ref (q 86)), (1, .long a), (3, .int (nI m))] [] := by
    intro n9
    induction n9 with
    | zero =>
      intro p S1 hm9 hp hf hz1 hgt
      exact absurd hm9 (by omega)
    | succ n9 ihlp1 =>
      intro p S1 hm9 hp hf hz1 hgt
      have hq2 : Shp S1.1 S1.2.1 q := Fr.q hf hq
      refine g_iload F 0 rfl dX3_sortIn_3 ?_
      refine g_if_le (t := 44) F dX3_sortIn_5 (by decide) (fun c3 => ?_) (fun c3 => ?_)
      · have h09 : p = 0 := by
          rw [show (0 : Int32) = nI 0 from rfl, nI_leI (by omega) (by omega)] at c3
          omega
        refine g_aload_n (k := 0) F 1 rfl dX3_sortIn_44 ?_
        refine gfX3_15 F (qi86 hq2) (qr86_1 hq2) dX3_sortIn_45 ?_
        refine g_iload F 0 rfl dX3_sortIn_48 ?_
        refine g_lload_n (k := 1) F 2 rfl dX3_sortIn_50 ?_
        refine g_last (j := p) F (qi88 hq2) rfl (by rw [(qn88 hq2)]; omega) (by rw [(qn88 hq2)]; decide) dX3_sortIn_51 ?_
        refine g_vret F T ⟨rfl, ?_⟩ (Nat.le_of_ble_eq_true rfl) (Nat.le_of_ble_eq_true rfl) dX3_sortIn_52
        exact ⟨(Fr.wJ hq hf (by decide) (by decide)), p, hp, (fun j h1 => absurd h1 (by omega)), hgt, (up2_updL.trans (congrArg (fun f9 => vp_updL f9 (p) a) hz1)).trans sh_e⟩
      · have h09 : 0 < p := by
          rw [show (0 : Int32) = nI 0 from rfl, nI_leI (by omega) (by omega)] at c3
          omega
        refine g_aload_n (k := 0) F 1 rfl dX3_sortIn_8 ?_
        refine gfX3_15 F (qi86 hq2) (qr86_1 hq2) dX3_sortIn_9 ?_
        refine g_iload F 0 rfl dX3_sortIn_12 ?_
        refine g_iconst (v := 1) F (by decide) dX3_sortIn_14 ?_
        refine g_isub F dX3_sortIn_15 ?_
        refine g_rei (nI (p - 1)) (nsub rfl rfl (by omega)) ?_
        refine g_lalde hz1 (j := (p - 1)) F (qi88 hq2) rfl (by rw [(qn88 hq2)]; omega) (by rw [(qn88 hq2)]; decide) dX3_sortIn_16 ?_
        refine g_lload_n (k := 1) F 2 rfl dX3_sortIn_17 ?_
        refine g_lcmp F dX3_sortIn_18 ?_
        refine g_if_le (t := 44) F dX3_sortIn_19 (by decide) (fun c4 => ?_) (fun c4 => ?_)
        · rw [lc_le] at c4
          have hg9 : asc (p - 1) ≤ a := by rw [sh_v h09] at c4; exact c4
          refine g_aload_n (k := 0) F 1 rfl dX3_sortIn_44 ?_
          refine gfX3_15 F (qi86 hq2) (qr86_1 hq2) dX3_sortIn_45 ?_
          refine g_iload F 0 rfl dX3_sortIn_48 ?_
          refine g_lload_n (k := 1) F 2 rfl dX3_sortIn_50 ?_
          refine g_last (j := p) F (qi88 hq2) rfl (by rw [(qn88 hq2)]; omega) (by rw [(qn88 hq2)]; decide) dX3_sortIn_51 ?_
          refine g_vret F T ⟨rfl, ?_⟩ (Nat.le_of_ble_eq_true rfl) (Nat.le_of_ble_eq_true rfl) dX3_sortIn_52
          exact ⟨(Fr.wJ hq hf (by decide) (by decide)), p, hp, (fun j h1 => by
                rcases Nat.lt_or_ge j (p - 1) with g | g
                · exact L_le_t (hso j (p - 1) g (by omega)) hg9
                · obtain rfl : j = p - 1 := by omega
                  exact hg9), hgt, (up2_updL.trans (congrArg (fun f9 => vp_updL f9 (p) a) hz1)).trans sh_e⟩
        · rw [lc_le] at c4
          have hg9 : a < asc (p - 1) := by rw [sh_v h09] at c4; exact L_nle.mp c4
          refine g_aload_n (k := 0) F 1 rfl dX3_sortIn_22 ?_
          refine gfX3_15 F (qi86 hq2) (qr86_1 hq2) dX3_sortIn_23 ?_
          refine g_iload F 0 rfl dX3_sortIn_26 ?_
          refine g_aload_n (k := 0) F 1 rfl dX3_sortIn_28 ?_
          refine gfX3_15 F (qi86 hq2) (qr86_1 hq2) dX3_sortIn_29 ?_
          refine g_iload F 0 rfl dX3_sortIn_32 ?_
          refine g_iconst (v := 1) F (by decide) dX3_sortIn_34 ?_
          refine g_isub F dX3_sortIn_35 ?_
          refine g_rei (nI (p - 1)) (nsub rfl rfl (by omega)) ?_
          refine g_lalde hz1 (j := (p - 1)) F (qi88 hq2) rfl (by rw [(qn88 hq2)]; omega) (by rw [(qn88 hq2)]; decide) dX3_sortIn_36 ?_
          refine g_last (j := p) F (qi88 hq2) rfl (by rw [(qn88 hq2)]; omega) (by rw [(qn88 hq2)]; decide) dX3_sortIn_37 ?_
          obtain ⟨x5, ex5⟩ : ∃ y9 : Int32, y9 = (nI p) + (-1) := ⟨_, rfl⟩
          refine g_iinc (k := 0) (v := x5) (L' := [(4, .int x5), (0, .ref (q 86)), (1, .long a), (3, .int (nI m))]) F dX3_sortIn_38 rfl (by rw [ex5]; rfl) (Nat.le_of_ble_eq_true rfl) rfl ?_
          refine g_goto (t := 3) F dX3_sortIn_41 (by decide) ?_
          obtain rfl : x5 = nI (p - 1) := (ex5.trans (nI_m1 (by omega)))
          refine g_sub (L' := [(4, .int (nI (p - 1))), (0, .ref (q 86)), (1, .long a), (3, .int (nI m))]) [0, 1, 2, 3] rfl ?_
          exact ihlp1 (p - 1) ((wJ S1 (q 88) (p) ((shA asc m p) ((p - 1))))) (by omega) (by omega) (Fr.wJ hq hf (by decide) (by decide)) ((up2_updL.trans (congrArg (fun f9 => vp_updL f9 (p) ((shA asc m p) ((p - 1)))) hz1)).trans (sh_s h09 hp)) (fun j h1 h2 => by
                      rcases Nat.lt_or_ge j p with g | g
                      · obtain rfl : j = p - 1 := by omega
                        exact hg9
                      · exact hgt j g h2)
  exact lp1 (m + 1) m S (by omega) (by omega) Fr.rf (hA.trans sh_0) (fun j h1 h2 => absurd h2 (by omega))
set_option maxHeartbeats 4000000 in
set_option maxRecDepth 100000 in
theorem kX3_middleOfKept (g : Glo) (S : PS) (q : Nat → Nat) (hq : Shp S.1 S.2.1 q) (z : ZZ) (hB : Bz z) (out : Nat → Bool) (hM : Mn S q z out) (hl : 0 < lfF out (nr z)) : Ct g mX3_middleOfKept 0 0 [.ref (q 86)] S (pJ9 (fun r S' => r = midF (zAr z) out (nr z) ∧ Fr S S' q [88])) := by
  refine Ct.of (by decide) (Nat.le_of_ble_eq_true rfl) (fun Γ hg F T => ?_)
  subst hg
  show G Γ S 0 0 0 [(0, .ref (q 86))] []
  have hnr := (nr_e hB).2
  refine g_iconst (v := 0) F (by decide) dX3_middleOfKept_0 ?_
  refine g_istore_n (k := 1) (L' := [(1, .int 0), (0, .ref (q 86))]) F dX3_middleOfKept_1 (Nat.le_of_ble_eq_true rfl) rfl ?_
  refine g_iconst (v := 0) F (by decide) dX3_middleOfKept_2 ?_
  refine g_istore_n (k := 2) (L' := [(2, .int 0), (1, .int 0), (0, .ref (q 86))]) F dX3_middleOfKept_3 (Nat.le_of_ble_eq_true rfl) rfl ?_
  have lp1 : ∀ (n9 : Nat) (i : Nat) (m : Nat) (S1 : PS), nr z < i + n9 → (i ≤ nr z) → (Fr S S1 q [88]) → (SoI (zAr z) out i m (pJ S1 (q 88))) → G Γ S1 0 0 4 [(2, .int (nI i)), (1, .int (nI m)), (0, .ref (q 86))] [] := by
    intro n9
    induction n9 with
    | zero =>
      intro i m S1 hm9 hi hf hSo
      exact absurd hm9 (by omega)
    | succ n9 ihlp1 =>
      intro i m S1 hm9 hi hf hSo
      have hq2 : Shp S1.1 S1.2.1 q := Fr.q hf hq
      have hm2 := hSo.2.1
      have hlf := lfF_le out i
      refine g_iload_n (k := 2) F 0 rfl dX3_middleOfKept_4 ?_
      refine g_aload_n (k := 0) F 2 rfl dX3_middleOfKept_5 ?_
      refine gfX3_34e F (qi86 hq2) ((congrFun (hf.2.2 86 (by decide) (by decide)).1 3).trans hM.1) dX3_middleOfKept_6 ?_
      refine g_icmp_ge (t := 41) F dX3_middleOfKept_9 (by decide) (fun c3 => ?_) (fun c3 => ?_)
      · obtain rfl : i = nr z := by
          rw [nI_leI (by omega) (by omega)] at c3
          omega
        refine g_aload_n (k := 0) F 2 rfl dX3_middleOfKept_41 ?_
        refine gfX3_15 F (qi86 hq2) (qr86_1 hq2) dX3_middleOfKept_42 ?_
        refine g_iconst (v := 0) F (by decide) dX3_middleOfKept_45 ?_
        refine g_iload_n (k := 1) F 1 rfl dX3_middleOfKept_46 ?_
        refine g_iconst (v := 1) F (by decide) dX3_middleOfKept_47 ?_
        refine g_isub F dX3_middleOfKept_48 ?_
        refine g_rei (nI (m - 1)) (nsub rfl rfl (by omega)) ?_
        refine g_mmax F mw348 ⟨(Nat.le_of_ble_eq_true rfl), (Nat.le_of_ble_eq_true rfl)⟩ ⟨(Nat.le_of_ble_eq_true rfl), (Nat.le_of_ble_eq_true rfl)⟩ dX3_middleOfKept_49 ?_
        refine g_rei (nI (m - 1)) (mx0 (by omega)) ?_
        refine g_iconst (v := 2) F (by decide) dX3_middleOfKept_52 ?_
        refine g_idiv F dX3_middleOfKept_53 (by decide) ?_
        refine g_rei (nI ((m - 1) / 2)) (ndiv rfl rfl (by omega) (by omega) (by omega)) ?_
        refine g_lalde rfl (j := ((m - 1) / 2)) F (qi88 hq2) rfl (by rw [(qn88 hq2)]; omega) (by rw [(qn88 hq2)]; decide) dX3_middleOfKept_54 ?_
        refine g_lret F T ⟨_, rfl, ?_⟩ (Nat.le_of_ble_eq_true rfl) (Nat.le_of_ble_eq_true rfl) dX3_middleOfKept_55
        exact ⟨So_mid hSo (by have := hSo.2.1; omega), hf⟩
      · have hi9 : i < nr z := by
          rw [nI_leI (by omega) (by omega)] at c3
          omega
        refine g_aload_n (k := 0) F 2 rfl dX3_middleOfKept_12 ?_
        refine gfX3_18 F (qi86 hq2) (qr86_2 hq2) dX3_middleOfKept_13 ?_
        refine g_iload_n (k := 2) F 0 rfl dX3_middleOfKept_16 ?_
        refine g_zalde (hf.2.2 89 (by decide) (by decide)).1 (j := i) F (qi89 hq2) rfl (by rw [(qn89 hq2)]; omega) (by rw [(qn89 hq2)]; decide) dX3_middleOfKept_17 ?_
        refine g_if_ne (t := 35) F dX3_middleOfKept_18 (by decide) (fun c4 => ?_) (fun c4 => ?_)
        · have ob := bI_t (hM.2.2 i hi9) c4
          obtain ⟨x5, ex5⟩ : ∃ y9 : Int32, y9 = (nI i) + 1 := ⟨_, rfl⟩
          refine g_iinc (k := 0) (v := x5) (L' := [(2, .int x5), (1, .int (nI m)), (0, .ref (q 86))]) F dX3_middleOfKept_35 rfl (by rw [ex5]; rfl) (Nat.le_of_ble_eq_true rfl) rfl ?_
          refine g_goto (t := 4) F dX3_middleOfKept_38 (by decide) ?_
          obtain rfl : x5 = nI (i + 1) := (ex5.trans (nI_1 _))
          refine g_sub (L' := [(2, .int (nI (i + 1))), (1, .int (nI m)), (0, .ref (q 86))]) [0, 1, 2] rfl ?_
          exact ihlp1 (i + 1) (m) (S1) (by omega) (by omega) hf (So_t hSo ob)
        · have ob := bI_f (hM.2.2 i hi9) c4
          refine g_aload_n (k := 0) F 2 rfl dX3_middleOfKept_21 ?_
          refine g_aload_n (k := 0) F 2 rfl dX3_middleOfKept_22 ?_
          refine gfX3_9 F (qi86 hq2) (qr86_0 hq2) dX3_middleOfKept_23 ?_
          refine g_iload_n (k := 2) F 0 rfl dX3_middleOfKept_26 ?_
          refine g_lalde (hf.2.2 87 (by decide) (by decide)).2 (j := i) F (qi87 hq2) rfl (by rw [(qn87 hq2)]; omega) (by rw [(qn87 hq2)]; decide) dX3_middleOfKept_27 ?_
          refine g_rel (zAr z i) ((hM.2.1 i hi9)) ?_
          refine g_iload_n (k := 1) F 1 rfl dX3_middleOfKept_28 ?_
          refine g_callV F (kX3_sortIn Γ.1 S1 q hq2 m (by have := lfF_le out i; have := hSo.2.1; omega) _ rfl (zAr z i) hSo.1) okX3_sortIn (qi86 hq2) mw349 ⟨(Nat.le_of_ble_eq_true rfl), (Nat.le_of_ble_eq_true rfl)⟩ rfl rfl (Nat.le_of_ble_eq_true rfl) ⟨(Nat.le_of_ble_eq_true rfl), (Nat.le_of_ble_eq_true rfl)⟩ dX3_middleOfKept_29 (toV (fun S7 h8 => ?_))
          obtain ⟨fr6, p9, hp1, hp2, hp3, hp4⟩ := h8
          have hq9 : Shp S7.1 S7.2.1 q := Fr.q fr6 hq2
          obtain ⟨x10, ex10⟩ : ∃ y9 : Int32, y9 = (nI m) + 1 := ⟨_, rfl⟩
          refine g_iinc (k := 1) (v := x10) (L' := [(1, .int x10), (2, .int (nI i)), (0, .ref (q 86))]) F dX3_middleOfKept_32 rfl (by rw [ex10]; rfl) (Nat.le_of_ble_eq_true rfl) rfl ?_
          obtain ⟨x11, ex11⟩ : ∃ y9 : Int32, y9 = (nI i) + 1 := ⟨_, rfl⟩
          refine g_iinc (k := 1) (v := x11) (L' := [(2, .int x11), (1, .int x10), (0, .ref (q 86))]) F dX3_middleOfKept_35 rfl (by rw [ex11]; rfl) (Nat.le_of_ble_eq_true rfl) rfl ?_
          refine g_goto (t := 4) F dX3_middleOfKept_38 (by decide) ?_
          obtain rfl : x10 = nI (m + 1) := (ex10.trans (nI_1 _))
          obtain rfl : x11 = nI (i + 1) := (ex11.trans (nI_1 _))
          refine g_sub (L' := [(2, .int (nI (i + 1))), (1, .int (nI (m + 1))), (0, .ref (q 86))]) [0, 1, 2] rfl ?_
          exact ihlp1 (i + 1) ((m + 1)) (S7) (by omega) (by omega) (Fr.tr (l := [88]) hf fr6 (by decide) (by decide)) (by rw [hp4]; exact So_f hSo ob hp1 hp2 hp3)
  exact lp1 (nr z + 1) 0 0 S (by omega) (by omega) Fr.rf So_0
set_option maxHeartbeats 4000000 in
set_option maxRecDepth 100000 in
theorem kX3_farthestFrom (g : Glo) (S : PS) (q : Nat → Nat) (hq : Shp S.1 S.2.1 q) (z : ZZ) (hB : Bz z) (out : Nat → Bool) (hM : Mn S q z out) (hl : 0 < lfF out (nr z)) (mid : Int64) (hmd : -72057594037927936 ≤ mid.toInt ∧ mid.toInt ≤ 72057594037927936) : Ct g mX3_farthestFrom 0 0 [.ref (q 86), .long mid] S (pI9 (fun r S' => (∃ r9, r9 < nr z ∧ r = nI r9 ∧ (wfF (zAr z) out mid (nr z)).1 = some r9) ∧ S = S')) := by
  refine Ct.of (by decide) (Nat.le_of_ble_eq_true rfl) (fun Γ hg F T => ?_)
  subst hg
  show G Γ S 0 0 0 [(0, .ref (q 86)), (1, .long mid)] []
  have hnr := (nr_e hB).2
  refine g_iconst (v := 0) F (by decide) dX3_farthestFrom_0 ?_
  refine g_istore_n (k := 3) (L' := [(3, .int 0), (0, .ref (q 86)), (1, .long mid)]) F dX3_farthestFrom_1 (Nat.le_of_ble_eq_true rfl) rfl ?_
  refine g_ldc2 F mw357 dX3_farthestFrom_2 ?_
  refine g_lstore (L' := [(4, .long (-1)), (3, .int 0), (0, .ref (q 86)), (1, .long mid)]) F dX3_farthestFrom_5 (Nat.le_of_ble_eq_true rfl) rfl ?_
  refine g_iconst (v := 0) F (by decide) dX3_farthestFrom_7 ?_
  refine g_istore (L' := [(6, .int 0), (4, .long (-1)), (3, .int 0), (0, .ref (q 86)), (1, .long mid)]) F dX3_farthestFrom_8 (Nat.le_of_ble_eq_true rfl) rfl ?_
  have lp1 : ∀ (n9 : Nat) (i : Nat) (f3 : Int32) (g4 : Int64), nr z < i + n9 → (i ≤ nr z) → (WfI (zAr z) out mid i f3 g4) → G Γ S 0 0 10 [(6, .int (nI i)), (4, .long g4), (3, .int f3), (0, .ref (q 86)), (1, .long mid)] [] := by
    intro n9
    induction n9 with
    | zero =>
      intro i f3 g4 hm9 hi hwf
      exact absurd hm9 (by omega)
    | succ n9 ihlp1 =>
      intro i f3 g4 hm9 hi hwf
      refine g_iload F 0 rfl dX3_farthestFrom_10 ?_
      refine g_aload_n (k := 0) F 3 rfl dX3_farthestFrom_12 ?_
      refine gfX3_34e F (qi86 hq) hM.1 dX3_farthestFrom_13 ?_
      refine g_icmp_ge (t := 64) F dX3_farthestFrom_16 (by decide) (fun c2 => ?_) (fun c2 => ?_)
      · obtain rfl : i = nr z := by
          rw [nI_leI (by omega) (by omega)] at c2
          omega
        refine g_iload_n (k := 3) F 2 rfl dX3_farthestFrom_64 ?_
        refine g_iret F T ⟨_, rfl, ?_⟩ (Nat.le_of_ble_eq_true rfl) (Nat.le_of_ble_eq_true rfl) dX3_farthestFrom_65
        exact ⟨wfI_e hwf hl, rfl⟩
      · have hi9 : i < nr z := by
          rw [nI_leI (by omega) (by omega)] at c2
          omega
        refine g_aload_n (k := 0) F 3 rfl dX3_farthestFrom_19 ?_
        refine gfX3_9 F (qi86 hq) (qr86_0 hq) dX3_farthestFrom_20 ?_
        refine g_iload F 0 rfl dX3_farthestFrom_23 ?_
        refine g_lalde rfl (j := i) F (qi87 hq) rfl (by rw [(qn87 hq)]; omega) (by rw [(qn87 hq)]; decide) dX3_farthestFrom_25 ?_
        refine g_rel (zAr z i) ((hM.2.1 i hi9)) ?_
        refine g_lload_n (k := 1) F 4 rfl dX3_farthestFrom_26 ?_
        refine g_lsub F dX3_farthestFrom_27 ?_
        refine g_mabsL F mw343 ⟨(Nat.le_of_ble_eq_true rfl), (Nat.le_of_ble_eq_true rfl)⟩ ⟨(Nat.le_of_ble_eq_true rfl), (Nat.le_of_ble_eq_true rfl)⟩ dX3_farthestFrom_28 ?_
        refine g_topl (fun x3 ex3 => ?_)
        refine g_lstore (L' := [(7, .long x3), (6, .int (nI i)), (4, .long g4), (3, .int f3), (0, .ref (q 86)), (1, .long mid)]) F dX3_farthestFrom_31 (Nat.le_of_ble_eq_true rfl) rfl ?_
        have hsz : x3 = sz (zAr z i - mid) := by rw [ex3]; exact absL_e _
        refine g_aload_n (k := 0) F 4 rfl dX3_farthestFrom_33 ?_
        refine gfX3_18 F (qi86 hq) (qr86_2 hq) dX3_farthestFrom_34 ?_
        refine g_iload F 1 rfl dX3_farthestFrom_37 ?_
        refine g_zalde rfl (j := i) F (qi89 hq) rfl (by rw [(qn89 hq)]; omega) (by rw [(qn89 hq)]; decide) dX3_farthestFrom_39 ?_
        refine g_if_ne (t := 58) F dX3_farthestFrom_40 (by decide) (fun c4 => ?_) (fun c4 => ?_)
        · have ob := bI_t (hM.2.2 i hi9) c4
          obtain ⟨x5, ex5⟩ : ∃ y9 : Int32, y9 = (nI i) + 1 := ⟨_, rfl⟩
          refine g_iinc (k := 1) (v := x5) (L' := [(6, .int x5), (7, .long x3), (4, .long g4), (3, .int f3), (0, .ref (q 86)), (1, .long mid)]) F dX3_farthestFrom_58 rfl (by rw [ex5]; rfl) (Nat.le_of_ble_eq_true rfl) rfl ?_
          refine g_goto (t := 10) F dX3_farthestFrom_61 (by decide) ?_
          obtain rfl : x5 = nI (i + 1) := (ex5.trans (nI_1 _))
          refine g_sub (L' := [(6, .int (nI (i + 1))), (4, .long g4), (3, .int f3), (0, .ref (q 86)), (1, .long mid)]) [0, 2, 3, 4, 5] rfl ?_
          exact ihlp1 (i + 1) (f3) (g4) (by omega) (by omega) (wfI_t hwf ob)
        · have ob := bI_f (hM.2.2 i hi9) c4
          refine g_lload F 0 rfl dX3_farthestFrom_43 ?_
          refine g_lload F 2 rfl dX3_farthestFrom_45 ?_
          refine g_lcmp F dX3_farthestFrom_47 ?_
          refine g_if_le (t := 58) F dX3_farthestFrom_48 (by decide) (fun c6 => ?_) (fun c6 => ?_)
          · rw [lc_le] at c6
            have hg9 : ¬ g4 < sz (zAr z i - mid) := by rw [← hsz]; exact L_nlt.mpr c6
            obtain ⟨x7, ex7⟩ : ∃ y9 : Int32, y9 = (nI i) + 1 := ⟨_, rfl⟩
            refine g_iinc (k := 1) (v := x7) (L' := [(6, .int x7), (7, .long x3), (4, .long g4), (3, .int f3), (0, .ref (q 86)), (1, .long mid)]) F dX3_farthestFrom_58 rfl (by rw [ex7]; rfl) (Nat.le_of_ble_eq_true rfl) rfl ?_
            refine g_goto (t := 10) F dX3_farthestFrom_61 (by decide) ?_
            obtain rfl : x7 = nI (i + 1) := (ex7.trans (nI_1 _))
            refine g_sub (L' := [(6, .int (nI (i + 1))), (4, .long g4), (3, .int f3), (0, .ref (q 86)), (1, .long mid)]) [0, 2, 3, 4, 5] rfl ?_
            exact ihlp1 (i + 1) (f3) (g4) (by omega) (by omega) (wfI_k hwf hg9 (sz_0 (zAr_b hB i) hmd))
          · rw [lc_le] at c6
            have hg9 : g4 < sz (zAr z i - mid) := by rw [← hsz]; exact L_nle.mp c6
            refine g_lload F 0 rfl dX3_farthestFrom_51 ?_
            refine g_lstore (L' := [(4, .long x3), (7, .long x3), (6, .int (nI i)), (3, .int f3), (0, .ref (q 86)), (1, .long mid)]) F dX3_farthestFrom_53 (Nat.le_of_ble_eq_true rfl) rfl ?_
            refine g_iload F 2 rfl dX3_farthestFrom_55 ?_
            refine g_istore_n (k := 3) (L' := [(3, .int (nI i)), (4, .long x3), (7, .long x3), (6, .int (nI i)), (0, .ref (q 86)), (1, .long mid)]) F dX3_farthestFrom_57 (Nat.le_of_ble_eq_true rfl) rfl ?_
            obtain ⟨x8, ex8⟩ : ∃ y9 : Int32, y9 = (nI i) + 1 := ⟨_, rfl⟩
            refine g_iinc (k := 3) (v := x8) (L' := [(6, .int x8), (3, .int (nI i)), (4, .long x3), (7, .long x3), (0, .ref (q 86)), (1, .long mid)]) F dX3_farthestFrom_58 rfl (by rw [ex8]; rfl) (Nat.le_of_ble_eq_true rfl) rfl ?_
            refine g_goto (t := 10) F dX3_farthestFrom_61 (by decide) ?_
            obtain rfl : x8 = nI (i + 1) := (ex8.trans (nI_1 _))
            refine g_sub (L' := [(6, .int (nI (i + 1))), (4, .long x3), (3, .int (nI i)), (0, .ref (q 86)), (1, .long mid)]) [0, 2, 1, 4, 5] rfl ?_
            exact ihlp1 (i + 1) ((nI i)) (x3) (by omega) (by omega) (by rw [hsz]; exact wfI_n hwf ob hg9)
  exact lp1 (nr z + 1) 0 0 (-1) (by omega) (by omega) wfI_0
set_option maxHeartbeats 4000000 in
set_option maxRecDepth 100000 in
theorem kX3_sumOfKept (g : Glo) (S : PS) (q : Nat → Nat) (hq : Shp S.1 S.2.1 q) (z : ZZ) (hB : Bz z) (out : Nat → Bool) (hM : Mn S q z out) : Ct g mX3_sumOfKept 0 0 [.ref (q 86)] S (pJ9 (fun r S' => r = zMs z out (nr z) ∧ S = S')) := by
  refine Ct.of (by decide) (Nat.le_of_ble_eq_true rfl) (fun Γ hg F T => ?_)
  subst hg
  show G Γ S 0 0 0 [(0, .ref (q 86))] []
  have hnr := (nr_e hB).2
  refine g_lconst (v := 0) F (by decide) dX3_sumOfKept_0 ?_
  refine g_lstore_n (k := 1) (L' := [(1, .long 0), (0, .ref (q 86))]) F dX3_sumOfKept_1 (Nat.le_of_ble_eq_true rfl) rfl ?_
  refine g_iconst (v := 0) F (by decide) dX3_sumOfKept_2 ?_
  refine g_istore_n (k := 3) (L' := [(3, .int 0), (1, .long 0), (0, .ref (q 86))]) F dX3_sumOfKept_3 (Nat.le_of_ble_eq_true rfl) rfl ?_
  have lp1 : ∀ (n9 : Nat) (i : Nat) (a : Int64), nr z < i + n9 → (i ≤ nr z) → (a = zMs z out i) → G Γ S 0 0 4 [(3, .int (nI i)), (1, .long a), (0, .ref (q 86))] [] := by
    intro n9
    induction n9 with
    | zero =>
      intro i a hm9 hi ha
      exact absurd hm9 (by omega)
    | succ n9 ihlp1 =>
      intro i a hm9 hi ha
      refine g_iload_n (k := 3) F 0 rfl dX3_sumOfKept_4 ?_
      refine g_aload_n (k := 0) F 2 rfl dX3_sumOfKept_5 ?_
      refine gfX3_34e F (qi86 hq) hM.1 dX3_sumOfKept_6 ?_
      refine g_icmp_ge (t := 36) F dX3_sumOfKept_9 (by decide) (fun c2 => ?_) (fun c2 => ?_)
      · obtain rfl : i = nr z := by
          rw [nI_leI (by omega) (by omega)] at c2
          omega
        refine g_lload_n (k := 1) F 1 rfl dX3_sumOfKept_36 ?_
        refine g_lret F T ⟨_, rfl, ?_⟩ (Nat.le_of_ble_eq_true rfl) (Nat.le_of_ble_eq_true rfl) dX3_sumOfKept_37
        exact ⟨ha, rfl⟩
      · have hi9 : i < nr z := by
          rw [nI_leI (by omega) (by omega)] at c2
          omega
        refine g_aload_n (k := 0) F 2 rfl dX3_sumOfKept_12 ?_
        refine gfX3_18 F (qi86 hq) (qr86_2 hq) dX3_sumOfKept_13 ?_
        refine g_iload_n (k := 3) F 0 rfl dX3_sumOfKept_16 ?_
        refine g_zalde rfl (j := i) F (qi89 hq) rfl (by rw [(qn89 hq)]; omega) (by rw [(qn89 hq)]; decide) dX3_sumOfKept_17 ?_
        refine g_if_ne (t := 30) F dX3_sumOfKept_18 (by decide) (fun c3 => ?_) (fun c3 => ?_)
        · have ob := bI_t (hM.2.2 i hi9) c3
          obtain ⟨x4, ex4⟩ : ∃ y9 : Int32, y9 = (nI i) + 1 := ⟨_, rfl⟩
          refine g_iinc (k := 0) (v := x4) (L' := [(3, .int x4), (1, .long a), (0, .ref (q 86))]) F dX3_sumOfKept_30 rfl (by rw [ex4]; rfl) (Nat.le_of_ble_eq_true rfl) rfl ?_
          refine g_goto (t := 4) F dX3_sumOfKept_33 (by decide) ?_
          obtain rfl : x4 = nI (i + 1) := (ex4.trans (nI_1 _))
          refine g_sub (L' := [(3, .int (nI (i + 1))), (1, .long a), (0, .ref (q 86))]) [0, 1, 2] rfl ?_
          exact ihlp1 (i + 1) (a) (by omega) (by omega) (by rw [ms_t ob, ha, Int64.add_zero])
        · have ob := bI_f (hM.2.2 i hi9) c3
          refine g_lload_n (k := 1) F 1 rfl dX3_sumOfKept_21 ?_
          refine g_aload_n (k := 0) F 2 rfl dX3_sumOfKept_22 ?_
          refine gfX3_9 F (qi86 hq) (qr86_0 hq) dX3_sumOfKept_23 ?_
          refine g_iload_n (k := 3) F 0 rfl dX3_sumOfKept_26 ?_
          refine g_lalde rfl (j := i) F (qi87 hq) rfl (by rw [(qn87 hq)]; omega) (by rw [(qn87 hq)]; decide) dX3_sumOfKept_27 ?_
          refine g_rel (zAr z i) ((hM.2.1 i hi9)) ?_
          refine g_ladd F dX3_sumOfKept_28 ?_
          refine g_topl (fun x5 ex5 => ?_)
          refine g_lstore_n (k := 1) (L' := [(1, .long x5), (3, .int (nI i)), (0, .ref (q 86))]) F dX3_sumOfKept_29 (Nat.le_of_ble_eq_true rfl) rfl ?_
          obtain ⟨x6, ex6⟩ : ∃ y9 : Int32, y9 = (nI i) + 1 := ⟨_, rfl⟩
          refine g_iinc (k := 1) (v := x6) (L' := [(3, .int x6), (1, .long x5), (0, .ref (q 86))]) F dX3_sumOfKept_30 rfl (by rw [ex6]; rfl) (Nat.le_of_ble_eq_true rfl) rfl ?_
          refine g_goto (t := 4) F dX3_sumOfKept_33 (by decide) ?_
          obtain rfl : x6 = nI (i + 1) := (ex6.trans (nI_1 _))
          refine g_sub (L' := [(3, .int (nI (i + 1))), (1, .long x5), (0, .ref (q 86))]) [0, 1, 2] rfl ?_
          exact ihlp1 (i + 1) (x5) (by omega) (by omega) (by rw [ex5, ha, ms_f ob])
  exact lp1 (nr z + 1) 0 0 (by omega) (by omega) rfl
set_option maxHeartbeats 4000000 in
set_option maxRecDepth 100000 in
theorem kX3_leaveOut (g : Glo) (S : PS) (q : Nat → Nat) (hq : Shp S.1 S.2.1 q) (z : ZZ) (hB : Bz z) (hM : Mn S q z (fun _ => false)) (hk0 : pI S (q 86) 4 = nI (nr z)) (v : Int32) (hv : v.toInt64 = z 7) : Ct g mX3_leaveOut 0 0 [.ref (q 86), .int v] S (pV9 (fun S' => Fr S S' q [86, 88, 89] ∧ Mn S' q z (zOut z) ∧ pI S' (q 86) 4 = nI (lfF (zOut z) (nr z)))) := by
  refine Ct.of (by decide) (Nat.le_of_ble_eq_true rfl) (fun Γ hg F T => ?_)
  subst hg
  show G Γ S 0 0 0 [(0, .ref (q 86)), (1, .int v)] []
  have hnr := (nr_e hB).2
  refine g_iconst (v := 0) F (by decide) dX3_leaveOut_0 ?_
  refine g_istore_n (k := 2) (L' := [(2, .int 0), (0, .ref (q 86)), (1, .int v)]) F dX3_leaveOut_1 (Nat.le_of_ble_eq_true rfl) rfl ?_
  have lp1 : ∀ (n9 : Nat) (i : Nat) (o9 : Nat → Bool) (S1 : PS), 12 < i + n9 → (i ≤ 12) → (Fr S S1 q [86, 88, 89]) → (Mn S1 q z o9) → (pI S1 (q 86) 4 = nI (lfF o9 (nr z))) → (zOut z = lmF (zAr z) (z 7) (nr z) (13 - i) o9) → (lfF o9 (nr z) + i ≤ 12) → G Γ S1 0 0 2 [(2, .int (nI i)), (0, .ref (q 86)), (1, .int v)] [] := by
    intro n9
    induction n9 with
    | zero =>
      intro i o9 S1 hm9 hi hf hM1 hk9 hz9 hl9
      exact absurd hm9 (by omega)
    | succ n9 ihlp1 =>
      intro i o9 S1 hm9 hi hf hM1 hk9 hz9 hl9
      have hq2 : Shp S1.1 S1.2.1 q := Fr.q hf hq
      have hlf := lfF_le o9 (nr z)
      refine g_iload_n (k := 2) F 0 rfl dX3_leaveOut_2 ?_
      refine g_bipush (v := 12) F (by decide) dX3_leaveOut_3 ?_
      refine g_icmp_ge (t := 73) F dX3_leaveOut_5 (by decide) (fun c3 => ?_) (fun c3 => ?_)
      · have hE : zOut z = o9 := le_stop hz9 (by rw [show (12 : Int32) = nI 12 from rfl, nI_leI (by omega) (by omega)] at c3; omega)
        refine g_vret F T ⟨rfl, ?_⟩ (Nat.le_of_ble_eq_true rfl) (Nat.le_of_ble_eq_true rfl) dX3_leaveOut_73
        exact ⟨hf, by rw [hE]; exact hM1, by rw [hE]; exact hk9⟩
      · have hi9 : i < 12 := by
          rw [show (12 : Int32) = nI 12 from rfl, nI_leI (by omega) (by omega)] at c3
          omega
        refine g_aload_n (k := 0) F 1 rfl dX3_leaveOut_8 ?_
        refine gfX3_36e F (qi86 hq2) hk9 dX3_leaveOut_9 ?_
        refine g_iconst (v := 2) F (by decide) dX3_leaveOut_12 ?_
        refine g_icmp_le (t := 73) F dX3_leaveOut_13 (by decide) (fun c4 => ?_) (fun c4 => ?_)
        · have hE : zOut z = o9 := le_stop hz9 (by rw [show (2 : Int32) = nI 2 from rfl, nI_leI (by omega) (by omega)] at c4; omega)
          refine g_vret F T ⟨rfl, ?_⟩ (Nat.le_of_ble_eq_true rfl) (Nat.le_of_ble_eq_true rfl) dX3_leaveOut_73
          exact ⟨hf, by rw [hE]; exact hM1, by rw [hE]; exact hk9⟩
        · have h29 : 2 < lfF o9 (nr z) := by
            rw [show (2 : Int32) = nI 2 from rfl, nI_leI (by omega) (by omega)] at c4
            omega
          refine g_aload_n (k := 0) F 1 rfl dX3_leaveOut_16 ?_
          refine g_callV F (kX3_middleOfKept Γ.1 S1 q hq2 z hB o9 hM1 (by omega)) okX3_middleOfKept (qi86 hq2) mw344 ⟨(Nat.le_of_ble_eq_true rfl), (Nat.le_of_ble_eq_true rfl)⟩ rfl rfl (Nat.le_of_ble_eq_true rfl) ⟨(Nat.le_of_ble_eq_true rfl), (Nat.le_of_ble_eq_true rfl)⟩ dX3_leaveOut_17 (toJ (fun r5 S6 h7 => ?_))
          obtain ⟨er5, fr5⟩ := h7
          have hM2 := Mn.fr fr5 (by decide) (by decide) (by decide) hM1
          have hq8 : Shp S6.1 S6.2.1 q := Fr.q fr5 hq2
          refine g_lstore_n (k := 3) (L' := [(3, .long r5), (2, .int (nI i)), (0, .ref (q 86)), (1, .int v)]) F dX3_leaveOut_20 (Nat.le_of_ble_eq_true rfl) rfl ?_
          refine g_aload_n (k := 0) F 2 rfl dX3_leaveOut_21 ?_
          refine g_lload_n (k := 3) F 0 rfl dX3_leaveOut_22 ?_
          refine g_callV F (kX3_farthestFrom Γ.1 S6 q hq8 z hB o9 hM2 (by omega) r5 (by rw [er5]; exact midF_b hB)) okX3_farthestFrom (qi86 hq8) mw353 ⟨(Nat.le_of_ble_eq_true rfl), (Nat.le_of_ble_eq_true rfl)⟩ rfl rfl (Nat.le_of_ble_eq_true rfl) ⟨(Nat.le_of_ble_eq_true rfl), (Nat.le_of_ble_eq_true rfl)⟩ dX3_leaveOut_23 (toI (fun r9 S10 h11 => ?_))
          obtain ⟨⟨r9, hr9, rfl, hw9⟩, rfl⟩ := h11
          rw [er5] at hw9
          refine g_istore (L' := [(5, .int (nI r9)), (3, .long r5), (2, .int (nI i)), (0, .ref (q 86)), (1, .int v)]) F dX3_leaveOut_26 (Nat.le_of_ble_eq_true rfl) rfl ?_
          refine g_aload_n (k := 0) F 3 rfl dX3_leaveOut_28 ?_
          refine gfX3_9 F (qi86 hq8) (qr86_0 hq8) dX3_leaveOut_29 ?_
          refine g_iload F 0 rfl dX3_leaveOut_32 ?_
          refine g_lalde ((fr5.2.2 (87) (by decide) (by decide)).2.trans rfl) (j := r9) F (qi87 hq8) rfl (by rw [(qn87 hq8)]; omega) (by rw [(qn87 hq8)]; decide) dX3_leaveOut_34 ?_
          refine g_rel (zAr z r9) (hM1.2.1 r9 hr9) ?_
          refine g_lload_n (k := 3) F 1 rfl dX3_leaveOut_35 ?_
          refine g_lsub F dX3_leaveOut_36 ?_
          refine g_mabsL F mw343 ⟨(Nat.le_of_ble_eq_true rfl), (Nat.le_of_ble_eq_true rfl)⟩ ⟨(Nat.le_of_ble_eq_true rfl), (Nat.le_of_ble_eq_true rfl)⟩ dX3_leaveOut_37 ?_
          refine g_iload_n (k := 1) F 4 rfl dX3_leaveOut_40 ?_
          refine g_i2l F dX3_leaveOut_41 ?_
          refine g_lcmp F dX3_leaveOut_42 ?_
          refine g_if_gt (t := 49) F dX3_leaveOut_43 (by decide) (fun c12 => ?_) (fun c12 => ?_)
          · rw [lc_gt] at c12
            have hg9 : z 7 < sz (zAr z r9 - midF (zAr z) o9 (nr z)) := by rw [← er5, ← absL_e, ← hv]; exact c12
            refine g_aload_n (k := 0) F 3 rfl dX3_leaveOut_49 ?_
            refine gfX3_18 F (qi86 hq8) (qr86_2 hq8) dX3_leaveOut_50 ?_
            refine g_iload F 0 rfl dX3_leaveOut_53 ?_
            refine g_iconst (v := 1) F (by decide) dX3_leaveOut_55 ?_
            refine g_zast (j := r9) F (qi89 hq8) rfl (by rw [(qn89 hq8)]; omega) (by rw [(qn89 hq8)]; decide) rfl dX3_leaveOut_56 ?_
            refine g_aload_n (k := 0) F 3 rfl dX3_leaveOut_57 ?_
            refine g_dup F dX3_leaveOut_58 rfl ?_
            refine gfX3_36e F (qi86 hq8) ((up2_a (qne hq8 (by decide) (by decide) (by decide))).trans ((congrFun (fr5.2.2 (86) (by decide) (by decide)).1 4).trans hk9)) dX3_leaveOut_59 ?_
            refine g_iconst (v := 1) F (by decide) dX3_leaveOut_62 ?_
            refine g_isub F dX3_leaveOut_63 ?_
            refine g_rei (nI ((lfF o9 (nr z)) - 1)) (nsub rfl rfl (by omega)) ?_
            refine pfX3_36 F (qi86 hq8) dX3_leaveOut_64 ?_
            obtain ⟨x13, ex13⟩ : ∃ y9 : Int32, y9 = (nI i) + 1 := ⟨_, rfl⟩
            refine g_iinc (k := 2) (v := x13) (L' := [(2, .int x13), (5, .int (nI r9)), (3, .long r5), (0, .ref (q 86)), (1, .int v)]) F dX3_leaveOut_67 rfl (by rw [ex13]; rfl) (Nat.le_of_ble_eq_true rfl) rfl ?_
            refine g_goto (t := 2) F dX3_leaveOut_70 (by decide) ?_
            obtain rfl : x13 = nI (i + 1) := (ex13.trans (nI_1 _))
            refine g_sub (L' := [(2, .int (nI (i + 1))), (0, .ref (q 86)), (1, .int v)]) [0, 3, 4] rfl ?_
            exact ihlp1 (i + 1) (setB o9 (some r9)) ((wI (wI S6 (q 89) (r9) 1) (q 86) 4 (nI ((lfF o9 (nr z)) - 1)))) (by omega) (by omega) (Fr.wI hq (Fr.wI hq (Fr.tr (l := [86, 88, 89]) hf fr5 (by decide) (by decide)) (by decide) (by decide)) (by decide) (by decide)) (Mn_k hq8 (Mn_set hq8 hM2)) (up2_s.trans (congrArg nI (by have := lfF_set (wf_val hw9).2 hr9; omega))) (le_lm hz9 hi9 h29 hw9 hg9) (by have := lfF_set (wf_val hw9).2 hr9; omega)
          · rw [lc_gt] at c12
            have hE : zOut z = o9 := le_stay hz9 hw9 (by rw [← er5, ← absL_e, ← hv]; exact c12)
            refine g_goto (t := 73) F dX3_leaveOut_46 (by decide) ?_
            refine g_vret F T ⟨rfl, ?_⟩ (Nat.le_of_ble_eq_true rfl) (Nat.le_of_ble_eq_true rfl) dX3_leaveOut_73
            exact ⟨(Fr.tr (l := [86, 88, 89]) hf fr5 (by decide) (by decide)), by rw [hE]; exact hM2, by rw [hE]; exact ((congrFun (fr5.2.2 (86) (by decide) (by decide)).1 4).trans hk9)⟩
  exact lp1 13 0 (fun _ => false) S (by omega) (by omega) Fr.rf hM (hk0.trans (by rw [lf_all])) rfl (by rw [lf_all]; omega)
set_option maxHeartbeats 4000000 in
set_option maxRecDepth 100000 in
theorem kX3_take (g : Glo) (S : PS) (q : Nat → Nat) (hq : Shp S.1 S.2.1 q) (s : Nat) (hs : s < 8) (z : ZZ) (hB : Bz z) (hc : Cs S q s z) : Ct g mX3_take 0 0 [.ref (q 86), .ref (q (10 * s))] S (pV9 (fun S' => Fr S S' q [86, 87, 88, 89] ∧ (∀ j, j < nr z → pI S' (q 89) j = bI (zOut z j)) ∧ pI S' (q 86) 4 = nI (lfF (zOut z) (nr z)) ∧ pJ S' (q 86) 5 = zMe z)) := by
  refine Ct.of (by decide) (Nat.le_of_ble_eq_true rfl) (fun Γ hg F T => ?_)
  subst hg
  show G Γ S 0 0 0 [(0, .ref (q 86)), (1, .ref (q (10 * s)))] []
  have hnr := (nr_e hB).2
  refine g_aload_n (k := 0) F 0 rfl dX3_take_0 ?_
  refine g_aload_n (k := 1) F 1 rfl dX3_take_1 ?_
  refine gfX3_22 F (qs0 hq hs) (qt0_5 hq hs) dX3_take_2 ?_
  refine gfX3_28e F (qs6 hq hs) hc.m dX3_take_5 ?_
  refine pfX3_34 F (qi86 hq) dX3_take_8 ?_
  refine g_aload_n (k := 0) F 0 rfl dX3_take_11 ?_
  refine g_aload_n (k := 0) F 0 rfl dX3_take_12 ?_
  refine gfX3_34e F (qi86 hq) up2_s dX3_take_13 ?_
  refine pfX3_36 F (qi86 hq) dX3_take_16 ?_
  refine g_aload_n (k := 1) F 1 rfl dX3_take_19 ?_
  refine g_callVN (host := "PolarPlanimeter") F (kX6_constant Γ.1 (wI (wI S (q 86) 3 (nI (nr z))) (q 86) 4 (nI (nr z))) q hq s hs z hB (Cs.fr (s := s) (l := [86, 87, 88, 89]) (by first | decide | omega) (Fr.wI hq (Fr.wI hq Fr.rf (by decide) (by decide)) (by decide) (by decide)) (by first | decide | (intro i hi h; simp at h; omega)) hc) ) okX6_constant (qs0 hq hs) nwM48 ⟨(Nat.le_of_ble_eq_true rfl), (Nat.le_of_ble_eq_true rfl)⟩ rfl rfl (Nat.le_of_ble_eq_true rfl) ⟨(Nat.le_of_ble_eq_true rfl), (Nat.le_of_ble_eq_true rfl)⟩ dX3_take_20 (toJ (fun r1 S2 h3 => ?_))
  obtain ⟨er1, rfl⟩ := h3
  refine g_lstore_n (k := 2) (L' := [(2, .long r1), (0, .ref (q 86)), (1, .ref (q (10 * s)))]) F dX3_take_23 (Nat.le_of_ble_eq_true rfl) rfl ?_
  refine g_iconst (v := 0) F (by decide) dX3_take_24 ?_
  refine g_istore (L' := [(4, .int 0), (2, .long r1), (0, .ref (q 86)), (1, .ref (q (10 * s)))]) F dX3_take_25 (Nat.le_of_ble_eq_true rfl) rfl ?_
  have lp4 : ∀ (n9 : Nat) (i : Nat) (S1 : PS), nr z < i + n9 → (i ≤ nr z) → (Fr S S1 q [86, 87, 88, 89]) → (∀ j, j < i → pJ S1 (q 87) j = zAr z j) → (∀ j, j < i → pI S1 (q 89) j = 0) → (pI S1 (q 86) 3 = nI (nr z)) → (pI S1 (q 86) 4 = nI (nr z)) → G Γ S1 0 0 27 [(4, .int (nI i)), (2, .long r1), (0, .ref (q 86)), (1, .ref (q (10 * s)))] [] := by
    intro n9
    induction n9 with
    | zero =>
      intro i S1 hm9 hi hf hA hO hR hK
      exact absurd hm9 (by omega)
    | succ n9 ihlp4 =>
      intro i S1 hm9 hi hf hA hO hR hK
      have hq5 : Shp S1.1 S1.2.1 q := Fr.q hf hq
      refine g_iload F 0 rfl dX3_take_27 ?_
      refine g_aload_n (k := 0) F 2 rfl dX3_take_29 ?_
      refine gfX3_34e F (qi86 hq5) hR dX3_take_30 ?_
      refine g_icmp_ge (t := 67) F dX3_take_33 (by decide) (fun c6 => ?_) (fun c6 => ?_)
      · obtain rfl : i = nr z := by
          rw [nI_leI (by omega) (by omega)] at c6
          omega
        refine g_aload_n (k := 0) F 2 rfl dX3_take_67 ?_
        refine g_aload_n (k := 1) F 3 rfl dX3_take_68 ?_
        refine gfX3_47e F (qs0 hq5 hs) (congrFun (hf.2.2 (10 * s) (by omega) (by simp; omega)).1 2) dX3_take_69 ?_
        refine g_callV F (kX3_leaveOut Γ.1 S1 q hq5 z hB ⟨hR, hA, fun j hj => hO j hj⟩ hK _ hc.1.2.2) okX3_leaveOut (qi86 hq5) mw339 ⟨(Nat.le_of_ble_eq_true rfl), (Nat.le_of_ble_eq_true rfl)⟩ rfl rfl (Nat.le_of_ble_eq_true rfl) ⟨(Nat.le_of_ble_eq_true rfl), (Nat.le_of_ble_eq_true rfl)⟩ dX3_take_72 (toV (fun S8 h9 => ?_))
        obtain ⟨fr7, hM2, hk2⟩ := h9
        have hq10 : Shp S8.1 S8.2.1 q := Fr.q fr7 hq5
        refine g_aload_n (k := 0) F 2 rfl dX3_take_75 ?_
        refine g_aload_n (k := 0) F 2 rfl dX3_take_76 ?_
        refine g_callV F (kX3_sumOfKept Γ.1 S8 q hq10 z hB (zOut z) hM2) okX3_sumOfKept (qi86 hq10) mw358 ⟨(Nat.le_of_ble_eq_true rfl), (Nat.le_of_ble_eq_true rfl)⟩ rfl rfl (Nat.le_of_ble_eq_true rfl) ⟨(Nat.le_of_ble_eq_true rfl), (Nat.le_of_ble_eq_true rfl)⟩ dX3_take_77 (toJ (fun r11 S12 h13 => ?_))
        obtain ⟨er11, rfl⟩ := h13
        refine g_aload_n (k := 0) F 2 rfl dX3_take_80 ?_
        refine gfX3_36e F (qi86 hq10) hk2 dX3_take_81 ?_
        refine g_i2l F dX3_take_84 ?_
        refine g_callSN (host := "PolarPlanimeter") F (kX9_quotient Γ.1 _ _ _) okX9_quotient nwM50 ⟨(Nat.le_of_ble_eq_true rfl), (Nat.le_of_ble_eq_true rfl)⟩ rfl rfl (Nat.le_of_ble_eq_true rfl) ⟨(Nat.le_of_ble_eq_true rfl), (Nat.le_of_ble_eq_true rfl)⟩ dX3_take_85 (toJ (fun r14 S15 h16 => ?_))
        obtain ⟨er14, rfl⟩ := h16
        refine pfX3_61 F (qi86 hq10) dX3_take_88 ?_
        refine g_vret F T ⟨rfl, ?_⟩ (Nat.le_of_ble_eq_true rfl) (Nat.le_of_ble_eq_true rfl) dX3_take_91
        exact ⟨(Fr.wJ hq (Fr.tr (l := [86, 87, 88, 89]) hf fr7 (by decide) (by decide)) (by decide) (by decide)), hM2.2.2, hk2, up2_s.trans (me_q hnr er11 er14)⟩
      · have hi9 : i < nr z := by
          rw [nI_leI (by omega) (by omega)] at c6
          omega
        refine g_aload_n (k := 0) F 2 rfl dX3_take_36 ?_
        refine gfX3_9 F (qi86 hq5) (qr86_0 hq5) dX3_take_37 ?_
        refine g_iload F 0 rfl dX3_take_40 ?_
        refine g_aload_n (k := 1) F 3 rfl dX3_take_42 ?_
        refine gfX3_22 F (qs0 hq5 hs) (qt0_5 hq5 hs) dX3_take_43 ?_
        refine g_iload F 0 rfl dX3_take_46 ?_
        refine g_lload_n (k := 2) F 1 rfl dX3_take_48 ?_
        refine g_callVN (host := "PolarPlanimeter") F (kX5_area Γ.1 S1 q hq5 s hs z hB (Cs.fr (s := s) (l := [86, 87, 88, 89]) (by first | decide | omega) hf (by first | decide | (intro i hi h; simp at h; omega)) hc) i (by omega) r1) okX5_area (qs6 hq5 hs) nwM49 ⟨(Nat.le_of_ble_eq_true rfl), (Nat.le_of_ble_eq_true rfl)⟩ rfl rfl (Nat.le_of_ble_eq_true rfl) ⟨(Nat.le_of_ble_eq_true rfl), (Nat.le_of_ble_eq_true rfl)⟩ dX3_take_49 (toJ (fun r17 S18 h19 => ?_))
        obtain ⟨er17, rfl⟩ := h19
        refine g_last (j := i) F (qi87 hq5) rfl (by rw [(qn87 hq5)]; omega) (by rw [(qn87 hq5)]; decide) dX3_take_52 ?_
        refine g_aload_n (k := 0) F 2 rfl dX3_take_53 ?_
        refine gfX3_18 F (qi86 hq5) (qr86_2 hq5) dX3_take_54 ?_
        refine g_iload F 0 rfl dX3_take_57 ?_
        refine g_iconst (v := 0) F (by decide) dX3_take_59 ?_
        refine g_zast (j := i) F (qi89 hq5) rfl (by rw [(qn89 hq5)]; omega) (by rw [(qn89 hq5)]; decide) rfl dX3_take_60 ?_
        obtain ⟨x20, ex20⟩ : ∃ y9 : Int32, y9 = (nI i) + 1 := ⟨_, rfl⟩
        refine g_iinc (k := 0) (v := x20) (L' := [(4, .int x20), (2, .long r1), (0, .ref (q 86)), (1, .ref (q (10 * s)))]) F dX3_take_61 rfl (by rw [ex20]; rfl) (Nat.le_of_ble_eq_true rfl) rfl ?_
        refine g_goto (t := 27) F dX3_take_64 (by decide) ?_
        obtain rfl : x20 = nI (i + 1) := (ex20.trans (nI_1 _))
        refine g_sub (L' := [(4, .int (nI (i + 1))), (2, .long r1), (0, .ref (q 86)), (1, .ref (q (10 * s)))]) [0, 1, 2, 3] rfl ?_
        exact ihlp4 (i + 1) ((wI (wJ S1 (q 87) (i) r17) (q 89) (i) 0)) (by omega) (by omega) (Fr.wI hq (Fr.wJ hq hf (by decide) (by decide)) (by decide) (by decide)) (zJ_set hA (by rw [er17, er1]; rfl)) (z0_set hO) ((up2_a (qne hq5 (by decide) (by decide) (by decide))).trans hR) ((up2_a (qne hq5 (by decide) (by decide) (by decide))).trans hK)
  exact lp4 (nr z + 1) 0 (wI (wI S (q 86) 3 (nI (nr z))) (q 86) 4 (nI (nr z))) (by omega) (by omega) (Fr.wI hq (Fr.wI hq Fr.rf (by decide) (by decide)) (by decide) (by decide)) (fun j h => absurd h (by omega)) (fun j h => absurd h (by omega)) ((up2_k (by decide)).trans up2_s) up2_s
