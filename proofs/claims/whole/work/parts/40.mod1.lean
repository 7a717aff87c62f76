set_option maxHeartbeats 4000000 in
set_option maxRecDepth 100000 in
theorem kX10_within (g : Glo) (S : PS) (v a b : Int64) : Ct g mX10_within 0 0 [.long v, .long a, .long b] S (pI9 (fun r S' => r = (if a ≤ v ∧ v ≤ b then 1 else 0) ∧ S = S')) := by
  refine Ct.of (by decide) (Nat.le_of_ble_eq_true rfl) (fun Γ hg F T => ?_)
  subst hg
  show G Γ S 0 0 0 [(0, .long v), (2, .long a), (4, .long b)] []
  refine g_lload_n (k := 0) F 0 rfl dX10_within_0 ?_
  refine g_lload_n (k := 2) F 1 rfl dX10_within_1 ?_
  refine g_lcmp F dX10_within_2 ?_
  refine g_if_lt (t := 17) F dX10_within_3 (by decide) (fun c1 => ?_) (fun c1 => ?_)
  · rw [lc_lt] at c1
    refine g_iconst (v := 0) F (by decide) dX10_within_17 ?_
    refine g_zret F T rfl ⟨_, rfl, ?_⟩ (Nat.le_of_ble_eq_true rfl) (Nat.le_of_ble_eq_true rfl) dX10_within_18
    exact ⟨if01_f (fun h => absurd c1 (L_nlt.mpr h.1)), rfl⟩
  · rw [lc_lt] at c1
    refine g_lload_n (k := 0) F 0 rfl dX10_within_6 ?_
    refine g_lload F 2 rfl dX10_within_7 ?_
    refine g_lcmp F dX10_within_9 ?_
    refine g_if_gt (t := 17) F dX10_within_10 (by decide) (fun c2 => ?_) (fun c2 => ?_)
    · rw [lc_gt] at c2
      refine g_iconst (v := 0) F (by decide) dX10_within_17 ?_
      refine g_zret F T rfl ⟨_, rfl, ?_⟩ (Nat.le_of_ble_eq_true rfl) (Nat.le_of_ble_eq_true rfl) dX10_within_18
      exact ⟨if01_f (fun h => absurd c2 (L_nlt.mpr h.2)), rfl⟩
    · rw [lc_gt] at c2
      refine g_iconst (v := 1) F (by decide) dX10_within_13 ?_
      refine g_goto (t := 18) F dX10_within_14 (by decide) ?_
      refine g_zret F T rfl ⟨_, rfl, ?_⟩ (Nat.le_of_ble_eq_true rfl) (Nat.le_of_ble_eq_true rfl) dX10_within_18
      exact ⟨if01_t ⟨L_nlt.mp c1, L_nlt.mp c2⟩, rfl⟩
set_option maxHeartbeats 4000000 in
set_option maxRecDepth 100000 in
theorem kX10_of (g : Glo) (S : PS) (q : Nat → Nat) (hq : Shp S.1 S.2.1 q) (z : ZZ) (hz : pJ S (q 95) = z) (hB : Bz z) (i : Nat) (hi : i < 5) : Ct g mX10_of 0 0 [.ref (q 94), .int (nI i)] S (pJ9 (fun r S' => r = z (2 + i) ∧ S = S')) := by
  refine Ct.of (by decide) (Nat.le_of_ble_eq_true rfl) (fun Γ hg F T => ?_)
  subst hg
  show G Γ S 0 0 0 [(0, .ref (q 94)), (1, .int (nI i))] []
  refine g_aload_n (k := 0) F 0 rfl dX10_of_0 ?_
  refine gfX10_7 F (qi94 hq) (qr94_1 hq) dX10_of_1 ?_
  refine g_iconst (v := 2) F (by decide) dX10_of_4 ?_
  refine g_iload_n (k := 1) F 1 rfl dX10_of_5 ?_
  refine g_iadd F dX10_of_6 ?_
  refine g_rei (nI (2 + i)) (nadd rfl rfl) ?_
  refine g_lalde hz (j := (2 + i)) F (qi95 hq) rfl (by rw [(qn95 hq)]; omega) (by rw [(qn95 hq)]; decide) dX10_of_7 ?_
  refine g_lret F T ⟨_, rfl, ?_⟩ (Nat.le_of_ble_eq_true rfl) (Nat.le_of_ble_eq_true rfl) dX10_of_8
  exact ⟨rfl, rfl⟩
set_option maxHeartbeats 4000000 in
set_option maxRecDepth 100000 in
theorem kX10_corners (g : Glo) (S : PS) (q : Nat → Nat) (hq : Shp S.1 S.2.1 q) (z : ZZ) (hz : pJ S (q 95) = z) (hB : Bz z) : Ct g mX10_corners 0 0 [.ref (q 94)] S (pI9 (fun r S' => r = nI (nc z) ∧ S = S')) := by
  refine Ct.of (by decide) (Nat.le_of_ble_eq_true rfl) (fun Γ hg F T => ?_)
  subst hg
  show G Γ S 0 0 0 [(0, .ref (q 94))] []
  refine g_aload_n (k := 0) F 0 rfl dX10_corners_0 ?_
  refine gfX10_7 F (qi94 hq) (qr94_1 hq) dX10_corners_1 ?_
  refine g_bipush (v := 8) F (by decide) dX10_corners_4 ?_
  refine g_lalde hz (j := 8) F (qi95 hq) rfl (by rw [(qn95 hq)]; omega) (by rw [(qn95 hq)]; decide) dX10_corners_6 ?_
  refine g_l2i F dX10_corners_7 ?_
  refine g_iret F T ⟨_, rfl, ?_⟩ (Nat.le_of_ble_eq_true rfl) (Nat.le_of_ble_eq_true rfl) dX10_corners_8
  exact ⟨nc_I hB, rfl⟩
set_option maxHeartbeats 4000000 in
set_option maxRecDepth 100000 in
theorem kX10_x (g : Glo) (S : PS) (q : Nat → Nat) (hq : Shp S.1 S.2.1 q) (z : ZZ) (hz : pJ S (q 95) = z) (hB : Bz z) (h0 : 0 < nc z) (k : Nat) (hk : k < 100000) : Ct g mX10_x 0 0 [.ref (q 94), .int (nI k)] S (pJ9 (fun r S' => r = zX z k ∧ S = S')) := by
  refine Ct.of (by decide) (Nat.le_of_ble_eq_true rfl) (fun Γ hg F T => ?_)
  subst hg
  show G Γ S 0 0 0 [(0, .ref (q 94)), (1, .int (nI k))] []
  have hnc := (nc_e hB).2
  have hmd := Nat.mod_lt k h0
  refine g_aload_n (k := 0) F 0 rfl dX10_x_0 ?_
  refine gfX10_7 F (qi94 hq) (qr94_1 hq) dX10_x_1 ?_
  refine g_bipush (v := 9) F (by decide) dX10_x_4 ?_
  refine g_iconst (v := 3) F (by decide) dX10_x_6 ?_
  refine g_iload_n (k := 1) F 1 rfl dX10_x_7 ?_
  refine g_aload_n (k := 0) F 0 rfl dX10_x_8 ?_
  refine g_callV F (kX10_corners Γ.1 _ q hq z hz hB ) okX10_corners (qi94 hq) mw247 ⟨(Nat.le_of_ble_eq_true rfl), (Nat.le_of_ble_eq_true rfl)⟩ rfl rfl (Nat.le_of_ble_eq_true rfl) ⟨(Nat.le_of_ble_eq_true rfl), (Nat.le_of_ble_eq_true rfl)⟩ dX10_x_9 (toI (fun r1 S2 h3 => ?_))
  obtain ⟨rfl, rfl⟩ := h3
  refine g_irem F dX10_x_12 (nI_ne0 h0 (by omega)) ?_
  refine g_rei (nI (k % (nc z))) (nrem rfl rfl (by omega) (by omega) (by omega)) ?_
  refine g_imul F dX10_x_13 ?_
  refine g_rei (nI (3 * (k % (nc z)))) (nmul rfl rfl) ?_
  refine g_iadd F dX10_x_14 ?_
  refine g_rei (nI (9 + (3 * (k % (nc z))))) (nadd rfl rfl) ?_
  refine g_lalde hz (j := (9 + (3 * (k % (nc z))))) F (qi95 hq) rfl (by rw [(qn95 hq)]; omega) (by rw [(qn95 hq)]; decide) dX10_x_15 ?_
  refine g_lret F T ⟨_, rfl, ?_⟩ (Nat.le_of_ble_eq_true rfl) (Nat.le_of_ble_eq_true rfl) dX10_x_16
  exact ⟨rfl, rfl⟩
set_option maxHeartbeats 4000000 in
set_option maxRecDepth 100000 in
theorem kX10_y (g : Glo) (S : PS) (q : Nat → Nat) (hq : Shp S.1 S.2.1 q) (z : ZZ) (hz : pJ S (q 95) = z) (hB : Bz z) (h0 : 0 < nc z) (k : Nat) (hk : k < 100000) : Ct g mX10_y 0 0 [.ref (q 94), .int (nI k)] S (pJ9 (fun r S' => r = zY z k ∧ S = S')) := by
  refine Ct.of (by decide) (Nat.le_of_ble_eq_true rfl) (fun Γ hg F T => ?_)
  subst hg
  show G Γ S 0 0 0 [(0, .ref (q 94)), (1, .int (nI k))] []
  have hnc := (nc_e hB).2
  have hmd := Nat.mod_lt k h0
  refine g_aload_n (k := 0) F 0 rfl dX10_y_0 ?_
  refine gfX10_7 F (qi94 hq) (qr94_1 hq) dX10_y_1 ?_
  refine g_bipush (v := 9) F (by decide) dX10_y_4 ?_
  refine g_iconst (v := 3) F (by decide) dX10_y_6 ?_
  refine g_iload_n (k := 1) F 1 rfl dX10_y_7 ?_
  refine g_aload_n (k := 0) F 0 rfl dX10_y_8 ?_
  refine g_callV F (kX10_corners Γ.1 _ q hq z hz hB ) okX10_corners (qi94 hq) mw247 ⟨(Nat.le_of_ble_eq_true rfl), (Nat.le_of_ble_eq_true rfl)⟩ rfl rfl (Nat.le_of_ble_eq_true rfl) ⟨(Nat.le_of_ble_eq_true rfl), (Nat.le_of_ble_eq_true rfl)⟩ dX10_y_9 (toI (fun r1 S2 h3 => ?_))
  obtain ⟨rfl, rfl⟩ := h3
  refine g_irem F dX10_y_12 (nI_ne0 h0 (by omega)) ?_
  refine g_rei (nI (k % (nc z))) (nrem rfl rfl (by omega) (by omega) (by omega)) ?_
  refine g_imul F dX10_y_13 ?_
  refine g_rei (nI (3 * (k % (nc z)))) (nmul rfl rfl) ?_
  refine g_iadd F dX10_y_14 ?_
  refine g_rei (nI (9 + (3 * (k % (nc z))))) (nadd rfl rfl) ?_
  refine g_iconst (v := 1) F (by decide) dX10_y_15 ?_
  refine g_iadd F dX10_y_16 ?_
  refine g_rei (nI ((9 + (3 * (k % (nc z)))) + 1)) (nadd rfl rfl) ?_
  refine g_lalde hz (j := ((9 + (3 * (k % (nc z)))) + 1)) F (qi95 hq) rfl (by rw [(qn95 hq)]; omega) (by rw [(qn95 hq)]; decide) dX10_y_17 ?_
  refine g_lret F T ⟨_, rfl, ?_⟩ (Nat.le_of_ble_eq_true rfl) (Nat.le_of_ble_eq_true rfl) dX10_y_18
  exact ⟨rfl, rfl⟩
set_option maxHeartbeats 4000000 in
set_option maxRecDepth 100000 in
theorem kX10_slip (g : Glo) (S : PS) (q : Nat → Nat) (hq : Shp S.1 S.2.1 q) (z : ZZ) (hz : pJ S (q 95) = z) (hB : Bz z) (k : Nat) (hk : k < 20) : Ct g mX10_slip 0 0 [.ref (q 94), .int (nI k)] S (pJ9 (fun r S' => r = zS z k ∧ S = S')) := by
  refine Ct.of (by decide) (Nat.le_of_ble_eq_true rfl) (fun Γ hg F T => ?_)
  subst hg
  show G Γ S 0 0 0 [(0, .ref (q 94)), (1, .int (nI k))] []
  refine g_aload_n (k := 0) F 0 rfl dX10_slip_0 ?_
  refine gfX10_7 F (qi94 hq) (qr94_1 hq) dX10_slip_1 ?_
  refine g_bipush (v := 9) F (by decide) dX10_slip_4 ?_
  refine g_iconst (v := 3) F (by decide) dX10_slip_6 ?_
  refine g_iload_n (k := 1) F 1 rfl dX10_slip_7 ?_
  refine g_imul F dX10_slip_8 ?_
  refine g_rei (nI (3 * k)) (nmul rfl rfl) ?_
  refine g_iadd F dX10_slip_9 ?_
  refine g_rei (nI (9 + (3 * k))) (nadd rfl rfl) ?_
  refine g_iconst (v := 2) F (by decide) dX10_slip_10 ?_
  refine g_iadd F dX10_slip_11 ?_
  refine g_rei (nI ((9 + (3 * k)) + 2)) (nadd rfl rfl) ?_
  refine g_lalde hz (j := ((9 + (3 * k)) + 2)) F (qi95 hq) rfl (by rw [(qn95 hq)]; omega) (by rw [(qn95 hq)]; decide) dX10_slip_12 ?_
  refine g_lret F T ⟨_, rfl, ?_⟩ (Nat.le_of_ble_eq_true rfl) (Nat.le_of_ble_eq_true rfl) dX10_slip_13
  exact ⟨rfl, rfl⟩
set_option maxHeartbeats 4000000 in
set_option maxRecDepth 100000 in
theorem kX10_size (g : Glo) (S : PS) (v : Int64) : Ct g mX10_size 0 0 [.long v] S (pJ9 (fun r S' => r = sz v ∧ S = S')) := by
  refine Ct.of (by decide) (Nat.le_of_ble_eq_true rfl) (fun Γ hg F T => ?_)
  subst hg
  show G Γ S 0 0 0 [(0, .long v)] []
  refine g_lload_n (k := 0) F 0 rfl dX10_size_0 ?_
  refine g_lconst (v := 0) F (by decide) dX10_size_1 ?_
  refine g_lcmp F dX10_size_2 ?_
  refine g_if_ge (t := 11) F dX10_size_3 (by decide) (fun c1 => ?_) (fun c1 => ?_)
  · rw [lc_ge] at c1
    refine g_lload_n (k := 0) F 0 rfl dX10_size_11 ?_
    refine g_lret F T ⟨_, rfl, ?_⟩ (Nat.le_of_ble_eq_true rfl) (Nat.le_of_ble_eq_true rfl) dX10_size_12
    exact ⟨by unfold sz; rw [if_neg (L_nlt.mpr c1)], rfl⟩
  · rw [lc_ge] at c1
    refine g_lload_n (k := 0) F 0 rfl dX10_size_6 ?_
    refine g_lneg F dX10_size_7 ?_
    refine g_goto (t := 12) F dX10_size_8 (by decide) ?_
    refine g_lret F T ⟨_, rfl, ?_⟩ (Nat.le_of_ble_eq_true rfl) (Nat.le_of_ble_eq_true rfl) dX10_size_12
    exact ⟨by unfold sz; rw [if_pos (L_nle.mp c1)], rfl⟩
set_option maxHeartbeats 4000000 in
set_option maxRecDepth 100000 in
theorem kX10_root (g : Glo) (S : PS) (v : Int64) (hv : v.toInt < 16000000000000) : Ct g mX10_root 0 0 [.long v] S (pJ9 (fun r S' => r = rt v ∧ S = S')) := by
  refine Ct.of (by decide) (Nat.le_of_ble_eq_true rfl) (fun Γ hg F T => ?_)
  subst hg
  show G Γ S 0 0 0 [(0, .long v)] []
  refine g_lconst (v := 0) F (by decide) dX10_root_0 ?_
  refine g_lstore_n (k := 2) (L' := [(2, .long 0), (0, .long v)]) F dX10_root_1 (Nat.le_of_ble_eq_true rfl) rfl ?_
  refine g_ldc2 F mw516 dX10_root_2 ?_
  refine g_lstore (L' := [(4, .long 4000000), (2, .long 0), (0, .long v)]) F dX10_root_5 (Nat.le_of_ble_eq_true rfl) rfl ?_
  have lp1 : ∀ (n9 : Nat) (a : Nat) (b : Nat), b < a + n9 + 1 → (a < b) → (b ≤ 4000000) → (a = 0 ∨ ((a * a : Nat) : Int) ≤ v.toInt) → (v.toInt < ((b * b : Nat) : Int)) → G Γ S 0 0 7 [(4, .long (lN b)), (2, .long (lN a)), (0, .long v)] [] := by
    intro n9
    induction n9 with
    | zero =>
      intro a b hm9 hab hb ha hv2
      exact absurd hm9 (by omega)
    | succ n9 ihlp1 =>
      intro a b hm9 hab hb ha hv2
      refine g_lload F 0 rfl dX10_root_7 ?_
      refine g_lload_n (k := 2) F 1 rfl dX10_root_9 ?_
      refine g_lsub F dX10_root_10 ?_
      refine g_lconst (v := 1) F (by decide) dX10_root_11 ?_
      refine g_lcmp F dX10_root_12 ?_
      refine g_if_le (t := 49) F dX10_root_13 (by decide) (fun c2 => ?_) (fun c2 => ?_)
      · rw [lc_le] at c2
        rw [lN_sub (by omega), show (1 : Int64) = lN 1 from rfl, lN_le (by omega) (by omega)] at c2
        refine g_lload_n (k := 2) F 1 rfl dX10_root_49 ?_
        refine g_lret F T ⟨_, rfl, ?_⟩ (Nat.le_of_ble_eq_true rfl) (Nat.le_of_ble_eq_true rfl) dX10_root_50
        refine ⟨?_, rfl⟩; unfold rt; obtain rfl : b = a + 1 := by omega
        have h1 := sq_le (show 1 ≤ a + 1 by omega)
        rw [isq_uniq (a := a) (by rcases ha with rfl | ha <;> omega) (by omega)]
      · rw [lc_le] at c2
        rw [lN_sub (by omega), show (1 : Int64) = lN 1 from rfl, lN_le (by omega) (by omega)] at c2
        refine g_lload_n (k := 2) F 1 rfl dX10_root_16 ?_
        refine g_lload F 0 rfl dX10_root_17 ?_
        refine g_ladd F dX10_root_19 ?_
        refine g_ldc2 F mw517 dX10_root_20 ?_
        refine g_ldiv F dX10_root_23 (by decide) ?_
        refine g_topl (fun x3 ex3 => ?_)
        refine g_lstore (L' := [(6, .long x3), (4, .long (lN b)), (2, .long (lN a)), (0, .long v)]) F dX10_root_24 (Nat.le_of_ble_eq_true rfl) rfl ?_
        obtain rfl : x3 = lN ((a + b) / 2) := by rw [ex3, lN_add]; exact pk_lDiv (by omega) (by decide) (by decide)
        have hmm : (lN ((a + b) / 2) * lN ((a + b) / 2)).toInt = (((a + b) / 2 * ((a + b) / 2) : Nat) : Int) := by rw [lN_mul, pk_lT (by have := sq_le (show (a + b) / 2 ≤ 4000000 by omega); omega)]
        refine g_lload F 0 rfl dX10_root_26 ?_
        refine g_lload F 0 rfl dX10_root_28 ?_
        refine g_lmul F dX10_root_30 ?_
        refine g_lload_n (k := 0) F 3 rfl dX10_root_31 ?_
        refine g_lcmp F dX10_root_32 ?_
        refine g_if_gt (t := 42) F dX10_root_33 (by decide) (fun c4 => ?_) (fun c4 => ?_)
        · rw [lc_gt] at c4
          refine g_lload F 0 rfl dX10_root_42 ?_
          refine g_lstore (L' := [(4, .long (lN ((a + b) / 2))), (6, .long (lN ((a + b) / 2))), (2, .long (lN a)), (0, .long v)]) F dX10_root_44 (Nat.le_of_ble_eq_true rfl) rfl ?_
          refine g_goto (t := 7) F dX10_root_46 (by decide) ?_
          refine g_sub (L' := [(4, .long (lN ((a + b) / 2))), (2, .long (lN a)), (0, .long v)]) [0, 2, 3] rfl ?_
          exact ihlp1 (a) (((a + b) / 2)) (by omega) (by omega) (by omega) (by omega) (by rw [Int64.lt_iff_toInt_lt] at c4; omega)
        · rw [lc_gt] at c4
          refine g_lload F 0 rfl dX10_root_36 ?_
          refine g_lstore_n (k := 2) (L' := [(2, .long (lN ((a + b) / 2))), (6, .long (lN ((a + b) / 2))), (4, .long (lN b)), (0, .long v)]) F dX10_root_38 (Nat.le_of_ble_eq_true rfl) rfl ?_
          refine g_goto (t := 46) F dX10_root_39 (by decide) ?_
          refine g_goto (t := 7) F dX10_root_46 (by decide) ?_
          refine g_sub (L' := [(4, .long (lN b)), (2, .long (lN ((a + b) / 2))), (0, .long v)]) [2, 0, 3] rfl ?_
          exact ihlp1 (((a + b) / 2)) (b) (by omega) (by omega) (by omega) (Or.inr (by rw [Int64.lt_iff_toInt_lt] at c4; omega)) (by omega)
  exact lp1 4000001 0 4000000 (by omega) (by omega) (by omega) (Or.inl rfl) (by omega)
set_option maxHeartbeats 4000000 in
set_option maxRecDepth 100000 in
theorem kX10_turn (g : Glo) (S : PS) (a b c d e f : Int64) : Ct g mX10_turn 0 0 [.long a, .long b, .long c, .long d, .long e, .long f] S (pJ9 (fun r S' => r = tn a b c d e f ∧ S = S')) := by
  refine Ct.of (by decide) (Nat.le_of_ble_eq_true rfl) (fun Γ hg F T => ?_)
  subst hg
  show G Γ S 0 0 0 [(0, .long a), (2, .long b), (4, .long c), (6, .long d), (8, .long e), (10, .long f)] []
  refine g_lload F 2 rfl dX10_turn_0 ?_
  refine g_lload_n (k := 0) F 0 rfl dX10_turn_2 ?_
  refine g_lsub F dX10_turn_3 ?_
  refine g_lload F 5 rfl dX10_turn_4 ?_
  refine g_lload_n (k := 2) F 1 rfl dX10_turn_6 ?_
  refine g_lsub F dX10_turn_7 ?_
  refine g_lmul F dX10_turn_8 ?_
  refine g_lload F 3 rfl dX10_turn_9 ?_
  refine g_lload_n (k := 2) F 1 rfl dX10_turn_11 ?_
  refine g_lsub F dX10_turn_12 ?_
  refine g_lload F 4 rfl dX10_turn_13 ?_
  refine g_lload_n (k := 0) F 0 rfl dX10_turn_15 ?_
  refine g_lsub F dX10_turn_16 ?_
  refine g_lmul F dX10_turn_17 ?_
  refine g_lsub F dX10_turn_18 ?_
  refine g_lret F T ⟨_, rfl, ?_⟩ (Nat.le_of_ble_eq_true rfl) (Nat.le_of_ble_eq_true rfl) dX10_turn_19
  exact ⟨rfl, rfl⟩
