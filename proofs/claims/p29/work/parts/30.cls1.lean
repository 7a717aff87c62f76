set_option maxHeartbeats 4000000 in
set_option maxRecDepth 100000 in
theorem kX9_isWithin (g : Glo) (S : PS) (v w : Int32) : Ct g mX9_isWithin 0 0 [.int v, .int w] S (pI9 (fun r S' => r = (if -w ≤ v ∧ v ≤ w then 1 else 0) ∧ S = S')) := by
  refine Ct.of (by decide) (Nat.le_of_ble_eq_true rfl) (fun Γ hg F T => ?_)
  subst hg
  show G Γ S 0 0 0 [(0, .int v), (1, .int w)] []
  refine g_iload_n (k := 0) F 0 rfl dX9_isWithin_0 ?_
  refine g_iload_n (k := 1) F 1 rfl dX9_isWithin_1 ?_
  refine g_ineg F dX9_isWithin_2 ?_
  refine g_icmp_lt (t := 15) F dX9_isWithin_3 (by decide) (fun c1 => ?_) (fun c1 => ?_)
  · refine g_iconst (v := 0) F (by decide) dX9_isWithin_15 ?_
    refine g_zret F T rfl ⟨_, rfl, ?_⟩ (Nat.le_of_ble_eq_true rfl) (Nat.le_of_ble_eq_true rfl) dX9_isWithin_16
    exact ⟨if01_f (fun h => absurd c1 (I_nlt.mpr h.1)), rfl⟩
  · refine g_iload_n (k := 0) F 0 rfl dX9_isWithin_6 ?_
    refine g_iload_n (k := 1) F 1 rfl dX9_isWithin_7 ?_
    refine g_icmp_gt (t := 15) F dX9_isWithin_8 (by decide) (fun c2 => ?_) (fun c2 => ?_)
    · refine g_iconst (v := 0) F (by decide) dX9_isWithin_15 ?_
      refine g_zret F T rfl ⟨_, rfl, ?_⟩ (Nat.le_of_ble_eq_true rfl) (Nat.le_of_ble_eq_true rfl) dX9_isWithin_16
      exact ⟨if01_f (fun h => absurd c2 (I_nlt.mpr h.2)), rfl⟩
    · refine g_iconst (v := 1) F (by decide) dX9_isWithin_11 ?_
      refine g_goto (t := 16) F dX9_isWithin_12 (by decide) ?_
      refine g_zret F T rfl ⟨_, rfl, ?_⟩ (Nat.le_of_ble_eq_true rfl) (Nat.le_of_ble_eq_true rfl) dX9_isWithin_16
      exact ⟨if01_t ⟨I_nlt.mp c1, I_nlt.mp c2⟩, rfl⟩
set_option maxHeartbeats 4000000 in
set_option maxRecDepth 100000 in
theorem kX9_quotient (g : Glo) (S : PS) (v w : Int64) : Ct g mX9_quotient 0 0 [.long v, .long w] S (pJ9 (fun r S' => r = (if w = 0 then 0 else v / w) ∧ S = S')) := by
  refine Ct.of (by decide) (Nat.le_of_ble_eq_true rfl) (fun Γ hg F T => ?_)
  subst hg
  show G Γ S 0 0 0 [(0, .long v), (2, .long w)] []
  refine g_lload_n (k := 2) F 1 rfl dX9_quotient_0 ?_
  refine g_lconst (v := 0) F (by decide) dX9_quotient_1 ?_
  refine g_lcmp F dX9_quotient_2 ?_
  refine g_if_ne (t := 10) F dX9_quotient_3 (by decide) (fun c1 => ?_) (fun c1 => ?_)
  · rw [lc_eq] at c1
    refine g_lload_n (k := 0) F 0 rfl dX9_quotient_10 ?_
    refine g_lload_n (k := 2) F 1 rfl dX9_quotient_11 ?_
    refine g_ldiv F dX9_quotient_12 c1 ?_
    refine g_lret F T ⟨_, rfl, ?_⟩ (Nat.le_of_ble_eq_true rfl) (Nat.le_of_ble_eq_true rfl) dX9_quotient_13
    exact ⟨by rw [if_neg c1], rfl⟩
  · rw [lc_eq] at c1
    refine g_lconst (v := 0) F (by decide) dX9_quotient_6 ?_
    refine g_goto (t := 13) F dX9_quotient_7 (by decide) ?_
    refine g_lret F T ⟨_, rfl, ?_⟩ (Nat.le_of_ble_eq_true rfl) (Nat.le_of_ble_eq_true rfl) dX9_quotient_13
    exact ⟨by rw [if_pos c1], rfl⟩
set_option maxHeartbeats 4000000 in
set_option maxRecDepth 100000 in
theorem kX9_cross (g : Glo) (S : PS) (a b c d e f : Int64) : Ct g mX9_cross 0 0 [.long a, .long b, .long c, .long d, .long e, .long f] S (pJ9 (fun r S' => r = (c - a) * (f - b) - (d - b) * (e - a) ∧ S = S')) := by
  refine Ct.of (by decide) (Nat.le_of_ble_eq_true rfl) (fun Γ hg F T => ?_)
  subst hg
  show G Γ S 0 0 0 [(0, .long a), (2, .long b), (4, .long c), (6, .long d), (8, .long e), (10, .long f)] []
  refine g_lload F 2 rfl dX9_cross_0 ?_
  refine g_lload_n (k := 0) F 0 rfl dX9_cross_2 ?_
  refine g_lsub F dX9_cross_3 ?_
  refine g_lload F 5 rfl dX9_cross_4 ?_
  refine g_lload_n (k := 2) F 1 rfl dX9_cross_6 ?_
  refine g_lsub F dX9_cross_7 ?_
  refine g_lmul F dX9_cross_8 ?_
  refine g_lload F 3 rfl dX9_cross_9 ?_
  refine g_lload_n (k := 2) F 1 rfl dX9_cross_11 ?_
  refine g_lsub F dX9_cross_12 ?_
  refine g_lload F 4 rfl dX9_cross_13 ?_
  refine g_lload_n (k := 0) F 0 rfl dX9_cross_15 ?_
  refine g_lsub F dX9_cross_16 ?_
  refine g_lmul F dX9_cross_17 ?_
  refine g_lsub F dX9_cross_18 ?_
  refine g_lret F T ⟨_, rfl, ?_⟩ (Nat.le_of_ble_eq_true rfl) (Nat.le_of_ble_eq_true rfl) dX9_cross_19
  exact ⟨rfl, rfl⟩
set_option maxHeartbeats 4000000 in
set_option maxRecDepth 100000 in
theorem kX9_isBetween (g : Glo) (S : PS) (v a b : Int32) : Ct g mX9_isBetween 0 0 [.int v, .int a, .int b] S (pI9 (fun r S' => r = (if (if b < a then b else a) ≤ v ∧ v ≤ (if a < b then b else a) then 1 else 0) ∧ S = S')) := by
  refine Ct.of (by decide) (Nat.le_of_ble_eq_true rfl) (fun Γ hg F T => ?_)
  subst hg
  show G Γ S 0 0 0 [(0, .int v), (1, .int a), (2, .int b)] []
  refine g_iload_n (k := 0) F 0 rfl dX9_isBetween_0 ?_
  refine g_iload_n (k := 1) F 1 rfl dX9_isBetween_1 ?_
  refine g_iload_n (k := 2) F 2 rfl dX9_isBetween_2 ?_
  refine g_mmin F mw292 ⟨(Nat.le_of_ble_eq_true rfl), (Nat.le_of_ble_eq_true rfl)⟩ ⟨(Nat.le_of_ble_eq_true rfl), (Nat.le_of_ble_eq_true rfl)⟩ dX9_isBetween_3 ?_
  refine g_icmp_lt (t := 22) F dX9_isBetween_6 (by decide) (fun c1 => ?_) (fun c1 => ?_)
  · refine g_iconst (v := 0) F (by decide) dX9_isBetween_22 ?_
    refine g_zret F T rfl ⟨_, rfl, ?_⟩ (Nat.le_of_ble_eq_true rfl) (Nat.le_of_ble_eq_true rfl) dX9_isBetween_23
    exact ⟨if01_f (fun h => absurd c1 (I_nlt.mpr h.1)), rfl⟩
  · refine g_iload_n (k := 0) F 0 rfl dX9_isBetween_9 ?_
    refine g_iload_n (k := 1) F 1 rfl dX9_isBetween_10 ?_
    refine g_iload_n (k := 2) F 2 rfl dX9_isBetween_11 ?_
    refine g_mmax F mw295 ⟨(Nat.le_of_ble_eq_true rfl), (Nat.le_of_ble_eq_true rfl)⟩ ⟨(Nat.le_of_ble_eq_true rfl), (Nat.le_of_ble_eq_true rfl)⟩ dX9_isBetween_12 ?_
    refine g_icmp_gt (t := 22) F dX9_isBetween_15 (by decide) (fun c2 => ?_) (fun c2 => ?_)
    · refine g_iconst (v := 0) F (by decide) dX9_isBetween_22 ?_
      refine g_zret F T rfl ⟨_, rfl, ?_⟩ (Nat.le_of_ble_eq_true rfl) (Nat.le_of_ble_eq_true rfl) dX9_isBetween_23
      exact ⟨if01_f (fun h => absurd c2 (I_nlt.mpr h.2)), rfl⟩
    · refine g_iconst (v := 1) F (by decide) dX9_isBetween_18 ?_
      refine g_goto (t := 23) F dX9_isBetween_19 (by decide) ?_
      refine g_zret F T rfl ⟨_, rfl, ?_⟩ (Nat.le_of_ble_eq_true rfl) (Nat.le_of_ble_eq_true rfl) dX9_isBetween_23
      exact ⟨if01_t ⟨I_nlt.mp c1, I_nlt.mp c2⟩, rfl⟩
set_option maxHeartbeats 4000000 in
set_option maxRecDepth 100000 in
theorem kX4_next (g : Glo) (S : PS) (q : Nat → Nat) (hq : Shp S.1 S.2.1 q) (s : Nat) (hs : s < 8) (n k : Nat) (hn : n ≤ 20) (hk : k < n) (hc : pI S (q (10 * s + 2)) 0 = nI n) : Ct g mX4_next 0 0 [.ref (q (10 * s + 2)), .int (nI k)] S (pI9 (fun r S' => r = nI (nx n k) ∧ S = S')) := by
  refine Ct.of (by decide) (Nat.le_of_ble_eq_true rfl) (fun Γ hg F T => ?_)
  subst hg
  show G Γ S 0 0 0 [(0, .ref (q (10 * s + 2))), (1, .int (nI k))] []
  refine g_iload_n (k := 1) F 1 rfl dX4_next_0 ?_
  refine g_iconst (v := 1) F (by decide) dX4_next_1 ?_
  refine g_iadd F dX4_next_2 ?_
  refine g_rei (nI (k + 1)) (nadd rfl rfl) ?_
  refine g_aload_n (k := 0) F 0 rfl dX4_next_3 ?_
  refine gfX4_21 F (qs2 hq hs) dX4_next_4 ?_
  refine g_icmp_ge (t := 16) F dX4_next_7 (by decide) (fun c1 => ?_) (fun c1 => ?_)
  · refine g_iconst (v := 0) F (by decide) dX4_next_16 ?_
    refine g_iret F T ⟨_, rfl, ?_⟩ (Nat.le_of_ble_eq_true rfl) (Nat.le_of_ble_eq_true rfl) dX4_next_17
    exact ⟨by rw [hc, nI_leI (by omega) (by omega)] at c1; rw [nx_t c1]; rfl, rfl⟩
  · refine g_iload_n (k := 1) F 1 rfl dX4_next_10 ?_
    refine g_iconst (v := 1) F (by decide) dX4_next_11 ?_
    refine g_iadd F dX4_next_12 ?_
    refine g_rei (nI (k + 1)) (nadd rfl rfl) ?_
    refine g_goto (t := 17) F dX4_next_13 (by decide) ?_
    refine g_iret F T ⟨_, rfl, ?_⟩ (Nat.le_of_ble_eq_true rfl) (Nat.le_of_ble_eq_true rfl) dX4_next_17
    exact ⟨by rw [hc, nI_leI (by omega) (by omega)] at c1; rw [nx_f c1], rfl⟩
