set_option maxHeartbeats 4000000 in
set_option maxRecDepth 100000 in
theorem kX5_clear (g : Glo) (S : PS) (q : Nat → Nat) (hq : Shp S.1 S.2.1 q) (s : Nat) (hs : s < 8) (z : ZZ) (hB : Bz z) (hc : Cs S q s z) : Ct g mX5_clear 0 0 [.ref (q (10 * s + 6))] S (pI9 (fun r S' => r = nI (nr z) ∧ Fr S S' q [10 * s + 6] ∧ Cs S' q s (vp_updL z 69 0))) := by
  refine Ct.of (by decide) (Nat.le_of_ble_eq_true rfl) (fun Γ hg F T => ?_)
  subst hg
  show G Γ S 0 0 0 [(0, .ref (q (10 * s + 6)))] []
  refine g_aload_n (k := 0) F 0 rfl dX5_clear_0 ?_
  refine gfX5_23e F (qs6 hq hs) hc.m dX5_clear_1 ?_
  refine g_istore_n (k := 1) (L' := [(1, .int (nI (nr z))), (0, .ref (q (10 * s + 6)))]) F dX5_clear_4 (Nat.le_of_ble_eq_true rfl) rfl ?_
  refine g_aload_n (k := 0) F 1 rfl dX5_clear_5 ?_
  refine g_iconst (v := 0) F (by decide) dX5_clear_6 ?_
  refine pfX5_23 F (qs6 hq hs) dX5_clear_7 ?_
  refine g_iload_n (k := 1) F 0 rfl dX5_clear_10 ?_
  refine g_iret F T ⟨_, rfl, ?_⟩ (Nat.le_of_ble_eq_true rfl) (Nat.le_of_ble_eq_true rfl) dX5_clear_11
  exact ⟨rfl, (Fr.wI hq Fr.rf (by omega) (by simp)), Cs_clear hs hB hc (Fr.wI hq Fr.rf (by omega) (by simp)) up2_s⟩
set_option maxHeartbeats 4000000 in
set_option maxRecDepth 100000 in
theorem kX5_add (g : Glo) (S : PS) (q : Nat → Nat) (hq : Shp S.1 S.2.1 q) (s : Nat) (hs : s < 8) (z : ZZ) (hB : Bz z) (hc : Cs S q s z) (c : Nat) (b : Bool) (v : Int64) (hv : v = zSum z c b) (h12 : nr z < 12) : Ct g mX5_add 0 0 [.ref (q (10 * s + 6)), .int (nI c), .int (bI b), .long v] S (pV9 (fun S' => Fr S S' q [10 * s + 6, 10 * s + 7, 10 * s + 8, 10 * s + 9] ∧ Cs S' q s (zMk z c b))) := by
  refine Ct.of (by decide) (Nat.le_of_ble_eq_true rfl) (fun Γ hg F T => ?_)
  subst hg
  show G Γ S 0 0 0 [(0, .ref (q (10 * s + 6))), (1, .int (nI c)), (2, .int (bI b)), (3, .long v)] []
  refine g_aload_n (k := 0) F 0 rfl dX5_add_0 ?_
  refine gfX5_23e F (qs6 hq hs) hc.m dX5_add_1 ?_
  refine g_bipush (v := 12) F (by decide) dX5_add_4 ?_
  refine g_icmp_ge (t := 49) F dX5_add_6 (by decide) (fun c1 => ?_) (fun c1 => ?_)
  · exact absurd ((nI_leI (a := 12) (by omega) (by omega)).mp c1) (by omega)
  · refine g_aload_n (k := 0) F 0 rfl dX5_add_9 ?_
    refine gfX5_9 F (qs6 hq hs) (qt6_1 hq hs) dX5_add_10 ?_
    refine g_aload_n (k := 0) F 0 rfl dX5_add_13 ?_
    refine gfX5_23e F (qs6 hq hs) hc.m dX5_add_14 ?_
    refine g_iload_n (k := 1) F 1 rfl dX5_add_17 ?_
    refine g_iast (j := (nr z)) F (qs7 hq hs) rfl (by rw [(qm7 hq hs)]; omega) (by rw [(qm7 hq hs)]; decide) dX5_add_18 ?_
    refine g_aload_n (k := 0) F 0 rfl dX5_add_19 ?_
    refine gfX5_15 F (qs6 hq hs) (qt6_2 hq hs) dX5_add_20 ?_
    refine g_aload_n (k := 0) F 0 rfl dX5_add_23 ?_
    refine gfX5_23e F (qs6 hq hs) ((up2_a (qne hq (by omega) (by omega) (by omega))).trans hc.m) dX5_add_24 ?_
    refine g_iload_n (k := 2) F 2 rfl dX5_add_27 ?_
    refine g_zast (j := (nr z)) F (qs8 hq hs) rfl (by rw [(qm8 hq hs)]; omega) (by rw [(qm8 hq hs)]; decide) (by cases b <;> rfl) dX5_add_28 ?_
    refine g_aload_n (k := 0) F 0 rfl dX5_add_29 ?_
    refine gfX5_19 F (qs6 hq hs) (qt6_3 hq hs) dX5_add_30 ?_
    refine g_aload_n (k := 0) F 0 rfl dX5_add_33 ?_
    refine gfX5_23e F (qs6 hq hs) ((up2_a (qne hq (by omega) (by omega) (by omega))).trans ((up2_a (qne hq (by omega) (by omega) (by omega))).trans hc.m)) dX5_add_34 ?_
    refine g_lload_n (k := 3) F 3 rfl dX5_add_37 ?_
    refine g_last (j := (nr z)) F (qs9 hq hs) rfl (by rw [(qm9 hq hs)]; omega) (by rw [(qm9 hq hs)]; decide) dX5_add_38 ?_
    refine g_aload_n (k := 0) F 0 rfl dX5_add_39 ?_
    refine g_dup F dX5_add_40 rfl ?_
    refine gfX5_23e F (qs6 hq hs) ((up2_a (qne hq (by omega) (by omega) (by omega))).trans ((up2_a (qne hq (by omega) (by omega) (by omega))).trans hc.m)) dX5_add_41 ?_
    refine g_iconst (v := 1) F (by decide) dX5_add_44 ?_
    refine g_iadd F dX5_add_45 ?_
    refine g_rei (nI ((nr z) + 1)) (nadd rfl rfl) ?_
    refine pfX5_23 F (qs6 hq hs) dX5_add_46 ?_
    refine g_vret F T ⟨rfl, ?_⟩ (Nat.le_of_ble_eq_true rfl) (Nat.le_of_ble_eq_true rfl) dX5_add_49
    exact ⟨(Fr.wI hq (Fr.wJ hq (Fr.wI hq (Fr.wI hq Fr.rf (by omega) (by simp)) (by omega) (by simp)) (by omega) (by simp)) (by omega) (by simp)), Cs_add hs hB h12 hc (Fr.wI hq (Fr.wJ hq (Fr.wI hq (Fr.wI hq Fr.rf (by omega) (by simp)) (by omega) (by simp)) (by omega) (by simp)) (by omega) (by simp)) up2_s ((up2_r (qne hq (by omega) (by omega) (by omega))).trans ((up2_r (qne hq (by omega) (by omega) (by omega))).trans (up2_upd.trans (congrArg (fun f9 => upd f9 ((nr z)) (nI c)) rfl)))) ((up2_r (qne hq (by omega) (by omega) (by omega))).trans (up2_upd.trans (congrArg (fun f9 => upd f9 ((nr z)) (bI b)) ((up2_r (qne hq (by omega) (by omega) (by omega))).trans rfl)))) ((up2_updL.trans (congrArg (fun f9 => vp_updL f9 ((nr z)) v) rfl)).trans (by rw [hv]))⟩
set_option maxHeartbeats 4000000 in
set_option maxRecDepth 100000 in
theorem kX4_put (g : Glo) (S : PS) (q : Nat → Nat) (hq : Shp S.1 S.2.1 q) (s : Nat) (hs : s < 8) (k : Nat) (hk : k < 20) (x y w : Int32) : Ct g mX4_put 0 0 [.ref (q (10 * s + 2)), .int (nI k), .int x, .int y, .int w] S (pV9 (fun S' => Fr S S' q [10 * s + 3, 10 * s + 4, 10 * s + 5] ∧ pI S' (q (10 * s + 3)) = upd (pI S (q (10 * s + 3))) k x ∧ pI S' (q (10 * s + 4)) = upd (pI S (q (10 * s + 4))) k y ∧ pI S' (q (10 * s + 5)) = upd (pI S (q (10 * s + 5))) k w)) := by
  refine Ct.of (by decide) (Nat.le_of_ble_eq_true rfl) (fun Γ hg F T => ?_)
  subst hg
  show G Γ S 0 0 0 [(0, .ref (q (10 * s + 2))), (1, .int (nI k)), (2, .int x), (3, .int y), (4, .int w)] []
  refine g_aload_n (k := 0) F 0 rfl dX4_put_0 ?_
  refine gfX4_9 F (qs2 hq hs) (qt2_1 hq hs) dX4_put_1 ?_
  refine g_iload_n (k := 1) F 1 rfl dX4_put_4 ?_
  refine g_iload_n (k := 2) F 2 rfl dX4_put_5 ?_
  refine g_iast (j := k) F (qs3 hq hs) rfl (by rw [(qm3 hq hs)]; omega) (by rw [(qm3 hq hs)]; decide) dX4_put_6 ?_
  refine g_aload_n (k := 0) F 0 rfl dX4_put_7 ?_
  refine gfX4_15 F (qs2 hq hs) (qt2_2 hq hs) dX4_put_8 ?_
  refine g_iload_n (k := 1) F 1 rfl dX4_put_11 ?_
  refine g_iload_n (k := 3) F 3 rfl dX4_put_12 ?_
  refine g_iast (j := k) F (qs4 hq hs) rfl (by rw [(qm4 hq hs)]; omega) (by rw [(qm4 hq hs)]; decide) dX4_put_13 ?_
  refine g_aload_n (k := 0) F 0 rfl dX4_put_14 ?_
  refine gfX4_18 F (qs2 hq hs) (qt2_3 hq hs) dX4_put_15 ?_
  refine g_iload_n (k := 1) F 1 rfl dX4_put_18 ?_
  refine g_iload F 4 rfl dX4_put_19 ?_
  refine g_iast (j := k) F (qs5 hq hs) rfl (by rw [(qm5 hq hs)]; omega) (by rw [(qm5 hq hs)]; decide) dX4_put_21 ?_
  refine g_vret F T ⟨rfl, ?_⟩ (Nat.le_of_ble_eq_true rfl) (Nat.le_of_ble_eq_true rfl) dX4_put_22
  exact ⟨(Fr.wI hq (Fr.wI hq (Fr.wI hq Fr.rf (by omega) (by simp)) (by omega) (by simp)) (by omega) (by simp)), ((up2_r (qne hq (by omega) (by omega) (by omega))).trans ((up2_r (qne hq (by omega) (by omega) (by omega))).trans (up2_upd.trans (congrArg (fun f9 => upd f9 (k) x) rfl)))), ((up2_r (qne hq (by omega) (by omega) (by omega))).trans (up2_upd.trans (congrArg (fun f9 => upd f9 (k) y) ((up2_r (qne hq (by omega) (by omega) (by omega))).trans rfl)))), (up2_upd.trans (congrArg (fun f9 => upd f9 (k) w) ((up2_r (qne hq (by omega) (by omega) (by omega))).trans ((up2_r (qne hq (by omega) (by omega) (by omega))).trans rfl))))⟩
set_option maxHeartbeats 4000000 in
set_option maxRecDepth 100000 in
theorem kX4_open (g : Glo) (S : PS) (q : Nat → Nat) (hq : Shp S.1 S.2.1 q) (s : Nat) (hs : s < 8) (z : ZZ) (hB : Bz z) (hc : Cs S q s z) (k : Nat) (hk : k ≤ nc z) (h20 : nc z < 20) (x y : Int32) : Ct g mX4_open 0 0 [.ref (q (10 * s + 2)), .int (nI k), .int x, .int y] S (pV9 (fun S' => Fr S S' q [10 * s + 2, 10 * s + 3, 10 * s + 4, 10 * s + 5] ∧ Cs S' q s (zInP z k x y))) := by
  refine Ct.of (by decide) (Nat.le_of_ble_eq_true rfl) (fun Γ hg F T => ?_)
  subst hg
  show G Γ S 0 0 0 [(0, .ref (q (10 * s + 2))), (1, .int (nI k)), (2, .int x), (3, .int y)] []
  refine g_aload_n (k := 0) F 0 rfl dX4_open_0 ?_
  refine gfX4_21e F (qs2 hq hs) hc.n dX4_open_1 ?_
  refine g_istore (L' := [(4, .int (nI (nc z))), (0, .ref (q (10 * s + 2))), (1, .int (nI k)), (2, .int x), (3, .int y)]) F dX4_open_4 (Nat.le_of_ble_eq_true rfl) rfl ?_
  have lp1 : ∀ (n9 : Nat) (i : Nat) (S1 : PS), i < n9 → (k ≤ i) → (i ≤ nc z) → (Fr S S1 q [10 * s + 3, 10 * s + 4, 10 * s + 5]) → (pI S1 (q (10 * s + 3)) = shI (pI S (q (10 * s + 3))) (nc z) i) → (pI S1 (q (10 * s + 4)) = shI (pI S (q (10 * s + 4))) (nc z) i) → (pI S1 (q (10 * s + 5)) = shI (pI S (q (10 * s + 5))) (nc z) i) → G Γ S1 0 0 6 [(4, .int (nI i)), (0, .ref (q (10 * s + 2))), (1, .int (nI k)), (2, .int x), (3, .int y)] [] := by
    intro n9
    induction n9 with
    | zero =>
      intro i S1 hm9 hi hi2 hf h3 h4 h5
      exact absurd hm9 (by omega)
    | succ n9 ihlp1 =>
      intro i S1 hm9 hi hi2 hf h3 h4 h5
      have hq2 : Shp S1.1 S1.2.1 q := Fr.q hf hq
      refine g_iload F 0 rfl dX4_open_6 ?_
      refine g_iload_n (k := 1) F 2 rfl dX4_open_8 ?_
      refine g_icmp_le (t := 51) F dX4_open_9 (by decide) (fun c3 => ?_) (fun c3 => ?_)
      · have hik : i = k := by
          rw [nI_leI (by omega) (by omega)] at c3
          omega
        refine g_aload_n (k := 0) F 1 rfl dX4_open_51 ?_
        refine g_iload_n (k := 1) F 2 rfl dX4_open_52 ?_
        refine g_iload_n (k := 2) F 3 rfl dX4_open_53 ?_
        refine g_iload_n (k := 3) F 4 rfl dX4_open_54 ?_
        refine g_iconst (v := 0) F (by decide) dX4_open_55 ?_
        refine g_callV F (kX4_put Γ.1 S1 q hq2 s hs k (by omega) x y 0) okX4_put (qs2 hq2 hs) mw416 ⟨(Nat.le_of_ble_eq_true rfl), (Nat.le_of_ble_eq_true rfl)⟩ rfl rfl (Nat.le_of_ble_eq_true rfl) ⟨(Nat.le_of_ble_eq_true rfl), (Nat.le_of_ble_eq_true rfl)⟩ dX4_open_56 (toV (fun S5 h6 => ?_))
        obtain ⟨fr4, p3r4, p4r4, p5r4⟩ := h6
        have hq7 : Shp S5.1 S5.2.1 q := Fr.q fr4 hq2
        refine g_aload_n (k := 0) F 1 rfl dX4_open_59 ?_
        refine g_dup F dX4_open_60 rfl ?_
        refine gfX4_21e F (qs2 hq7 hs) ((congrFun (fr4.2.2 (10 * s + 2) (by omega) (by first | decide | (simp [-List.length_tail]; done) | (simp [-List.length_tail]; omega))).1 0).trans ((congrFun (hf.2.2 (10 * s + 2) (by omega) (by first | (simp; done) | (simp; omega))).1 0).trans hc.n)) dX4_open_61 ?_
        refine g_iconst (v := 1) F (by decide) dX4_open_64 ?_
        refine g_iadd F dX4_open_65 ?_
        refine g_rei (nI ((nc z) + 1)) (nadd rfl rfl) ?_
        refine pfX4_21 F (qs2 hq7 hs) dX4_open_66 ?_
        refine g_vret F T ⟨rfl, ?_⟩ (Nat.le_of_ble_eq_true rfl) (Nat.le_of_ble_eq_true rfl) dX4_open_69
        exact ⟨(Fr.wI hq (Fr.tr (l := [10 * s + 2, 10 * s + 3, 10 * s + 4, 10 * s + 5]) (Fr.up hf (fun i9 h9 => by simp at h9 ⊢; omega)) fr4 (fun i9 h9 => by simp at h9 ⊢; omega) (fun i9 h9 => by simp at h9 ⊢; omega)) (by omega) (by simp)), Cs_open hs hB hk h20 hc (Fr.wI hq (Fr.tr (l := [10 * s + 2, 10 * s + 3, 10 * s + 4, 10 * s + 5]) (Fr.up hf (fun i9 h9 => by simp at h9 ⊢; omega)) fr4 (fun i9 h9 => by simp at h9 ⊢; omega) (fun i9 h9 => by simp at h9 ⊢; omega)) (by omega) (by simp)) up2_s (((up2_r (qne hq7 (by omega) (by omega) (by omega))).trans (p3r4.trans (congrArg (fun f9 => upd f9 k x) h3))).trans (by rw [hik]; exact shI_e)) (((up2_r (qne hq7 (by omega) (by omega) (by omega))).trans (p4r4.trans (congrArg (fun f9 => upd f9 k y) h4))).trans (by rw [hik]; exact shI_e)) (((up2_r (qne hq7 (by omega) (by omega) (by omega))).trans (p5r4.trans (congrArg (fun f9 => upd f9 k 0) h5))).trans (by rw [hik]; exact shI_e))⟩
      · have h99 : k < i := by
          rw [nI_leI (by omega) (by omega)] at c3
          omega
        have h09 : 0 < i := by omega
        refine g_aload_n (k := 0) F 1 rfl dX4_open_12 ?_
        refine g_iload F 0 rfl dX4_open_13 ?_
        refine g_aload_n (k := 0) F 1 rfl dX4_open_15 ?_
        refine gfX4_9 F (qs2 hq2 hs) (qt2_1 hq2 hs) dX4_open_16 ?_
        refine g_iload F 0 rfl dX4_open_19 ?_
        refine g_iconst (v := 1) F (by decide) dX4_open_21 ?_
        refine g_isub F dX4_open_22 ?_
        refine g_rei (nI (i - 1)) (nsub rfl rfl (by omega)) ?_
        refine g_ialde h3 (j := (i - 1)) F (qs3 hq2 hs) rfl (by rw [(qm3 hq2 hs)]; omega) (by rw [(qm3 hq2 hs)]; decide) dX4_open_23 ?_
        refine g_aload_n (k := 0) F 1 rfl dX4_open_24 ?_
        refine gfX4_15 F (qs2 hq2 hs) (qt2_2 hq2 hs) dX4_open_25 ?_
        refine g_iload F 0 rfl dX4_open_28 ?_
        refine g_iconst (v := 1) F (by decide) dX4_open_30 ?_
        refine g_isub F dX4_open_31 ?_
        refine g_rei (nI (i - 1)) (nsub rfl rfl (by omega)) ?_
        refine g_ialde h4 (j := (i - 1)) F (qs4 hq2 hs) rfl (by rw [(qm4 hq2 hs)]; omega) (by rw [(qm4 hq2 hs)]; decide) dX4_open_32 ?_
        refine g_aload_n (k := 0) F 1 rfl dX4_open_33 ?_
        refine gfX4_18 F (qs2 hq2 hs) (qt2_3 hq2 hs) dX4_open_34 ?_
        refine g_iload F 0 rfl dX4_open_37 ?_
        refine g_iconst (v := 1) F (by decide) dX4_open_39 ?_
        refine g_isub F dX4_open_40 ?_
        refine g_rei (nI (i - 1)) (nsub rfl rfl (by omega)) ?_
        refine g_ialde h5 (j := (i - 1)) F (qs5 hq2 hs) rfl (by rw [(qm5 hq2 hs)]; omega) (by rw [(qm5 hq2 hs)]; decide) dX4_open_41 ?_
        refine g_callV F (kX4_put Γ.1 S1 q hq2 s hs i (by omega) ((shI (pI S (q (10 * s + 3))) (nc z) i) ((i - 1))) ((shI (pI S (q (10 * s + 4))) (nc z) i) ((i - 1))) ((shI (pI S (q (10 * s + 5))) (nc z) i) ((i - 1)))) okX4_put (qs2 hq2 hs) mw416 ⟨(Nat.le_of_ble_eq_true rfl), (Nat.le_of_ble_eq_true rfl)⟩ rfl rfl (Nat.le_of_ble_eq_true rfl) ⟨(Nat.le_of_ble_eq_true rfl), (Nat.le_of_ble_eq_true rfl)⟩ dX4_open_42 (toV (fun S9 h10 => ?_))
        obtain ⟨fr8, p3r8, p4r8, p5r8⟩ := h10
        have hq11 : Shp S9.1 S9.2.1 q := Fr.q fr8 hq2
        obtain ⟨x12, ex12⟩ : ∃ y9 : Int32, y9 = (nI i) + (-1) := ⟨_, rfl⟩
        refine g_iinc (k := 0) (v := x12) (L' := [(4, .int x12), (0, .ref (q (10 * s + 2))), (1, .int (nI k)), (2, .int x), (3, .int y)]) F dX4_open_45 rfl (by rw [ex12]; rfl) (Nat.le_of_ble_eq_true rfl) rfl ?_
        refine g_goto (t := 6) F dX4_open_48 (by decide) ?_
        obtain rfl : x12 = nI (i - 1) := (ex12.trans (nI_m1 (by omega)))
        refine g_sub (L' := [(4, .int (nI (i - 1))), (0, .ref (q (10 * s + 2))), (1, .int (nI k)), (2, .int x), (3, .int y)]) [0, 1, 2, 3, 4] rfl ?_
        exact ihlp1 (i - 1) (S9) (by omega) (by omega) (by omega) (Fr.tr (l := [10 * s + 3, 10 * s + 4, 10 * s + 5]) hf fr8 (fun _ h => h) (fun _ h => h)) ((p3r8.trans (congrArg (fun f9 => upd f9 i ((shI (pI S (q (10 * s + 3))) (nc z) i) ((i - 1)))) h3)).trans (shI_s h09 hi2)) ((p4r8.trans (congrArg (fun f9 => upd f9 i ((shI (pI S (q (10 * s + 4))) (nc z) i) ((i - 1)))) h4)).trans (shI_s h09 hi2)) ((p5r8.trans (congrArg (fun f9 => upd f9 i ((shI (pI S (q (10 * s + 5))) (nc z) i) ((i - 1)))) h5)).trans (shI_s h09 hi2))
  exact lp1 (nc z + 1) (nc z) S (by omega) (by omega) (by omega) Fr.rf shI_0 shI_0 shI_0
set_option maxHeartbeats 4000000 in
set_option maxRecDepth 100000 in
theorem kX4_close (g : Glo) (S : PS) (q : Nat → Nat) (hq : Shp S.1 S.2.1 q) (s : Nat) (hs : s < 8) (z : ZZ) (hB : Bz z) (hc : Cs S q s z) (k : Nat) (hk : k < nc z) : Ct g mX4_close 0 0 [.ref (q (10 * s + 2)), .int (nI k)] S (pV9 (fun S' => Fr S S' q [10 * s + 2, 10 * s + 3, 10 * s + 4, 10 * s + 5] ∧ Cs S' q s (remR z k (9 + 3 * (nc z - 1))))) := by
  refine Ct.of (by decide) (Nat.le_of_ble_eq_true rfl) (fun Γ hg F T => ?_)
  subst hg
  show G Γ S 0 0 0 [(0, .ref (q (10 * s + 2))), (1, .int (nI k))] []
  have hnc := (nc_e hB).2
  refine g_aload_n (k := 0) F 0 rfl dX4_close_0 ?_
  refine g_dup F dX4_close_1 rfl ?_
  refine gfX4_21e F (qs2 hq hs) hc.n dX4_close_2 ?_
  refine g_iconst (v := 1) F (by decide) dX4_close_5 ?_
  refine g_isub F dX4_close_6 ?_
  refine g_rei (nI ((nc z) - 1)) (nsub rfl rfl (by omega)) ?_
  refine pfX4_21 F (qs2 hq hs) dX4_close_7 ?_
  refine g_iload_n (k := 1) F 1 rfl dX4_close_10 ?_
  refine g_istore_n (k := 2) (L' := [(2, .int (nI k)), (0, .ref (q (10 * s + 2))), (1, .int (nI k))]) F dX4_close_11 (Nat.le_of_ble_eq_true rfl) rfl ?_
  have lp1 : ∀ (n9 : Nat) (i : Nat) (S1 : PS), nc z < i + n9 → (k ≤ i) → (i ≤ nc z - 1) → (Fr (wI S (q (10 * s + 2)) 0 (nI ((nc z) - 1))) S1 q [10 * s + 3, 10 * s + 4, 10 * s + 5]) → (pI S1 (q (10 * s + 3)) = clI (pI S (q (10 * s + 3))) k i) → (pI S1 (q (10 * s + 4)) = clI (pI S (q (10 * s + 4))) k i) → (pI S1 (q (10 * s + 5)) = clI (pI S (q (10 * s + 5))) k i) → G Γ S1 0 0 12 [(2, .int (nI i)), (0, .ref (q (10 * s + 2))), (1, .int (nI k))] [] := by
    intro n9
    induction n9 with
    | zero =>
      intro i S1 hm9 hi hi2 hf h3 h4 h5
      exact absurd hm9 (by omega)
    | succ n9 ihlp1 =>
      intro i S1 hm9 hi hi2 hf h3 h4 h5
      have hq2 : Shp S1.1 S1.2.1 q := Fr.q hf hq
      refine g_iload_n (k := 2) F 0 rfl dX4_close_12 ?_
      refine g_aload_n (k := 0) F 1 rfl dX4_close_13 ?_
      refine gfX4_21e F (qs2 hq2 hs) ((congrFun (hf.2.2 (10 * s + 2) (by omega) (by first | (simp; done) | (simp; omega))).1 0).trans up2_s) dX4_close_14 ?_
      refine g_icmp_ge (t := 55) F dX4_close_17 (by decide) (fun c3 => ?_) (fun c3 => ?_)
      · obtain rfl : i = nc z - 1 := by
          rw [nI_leI (by omega) (by omega)] at c3
          omega
        refine g_vret F T ⟨rfl, ?_⟩ (Nat.le_of_ble_eq_true rfl) (Nat.le_of_ble_eq_true rfl) dX4_close_55
        exact ⟨(Fr.tr (l := [10 * s + 2, 10 * s + 3, 10 * s + 4, 10 * s + 5]) (Fr.wI hq Fr.rf (by omega) (by simp)) hf (fun i9 h9 => by simp at h9 ⊢; omega) (fun i9 h9 => by simp at h9 ⊢; omega)), Cs_close hs hB hk hc (Fr.tr (l := [10 * s + 2, 10 * s + 3, 10 * s + 4, 10 * s + 5]) (Fr.wI hq Fr.rf (by omega) (by simp)) hf (fun i9 h9 => by simp at h9 ⊢; omega) (fun i9 h9 => by simp at h9 ⊢; omega)) ((congrFun (hf.2.2 (10 * s + 2) (by omega) (by first | (simp; done) | (simp; omega))).1 0).trans up2_s) h3 h4 h5⟩
      · have h99 : i < nc z - 1 := by
          rw [nI_leI (by omega) (by omega)] at c3
          omega
        refine g_aload_n (k := 0) F 1 rfl dX4_close_20 ?_
        refine g_iload_n (k := 2) F 0 rfl dX4_close_21 ?_
        refine g_aload_n (k := 0) F 1 rfl dX4_close_22 ?_
        refine gfX4_9 F (qs2 hq2 hs) (qt2_1 hq2 hs) dX4_close_23 ?_
        refine g_iload_n (k := 2) F 0 rfl dX4_close_26 ?_
        refine g_iconst (v := 1) F (by decide) dX4_close_27 ?_
        refine g_iadd F dX4_close_28 ?_
        refine g_rei (nI (i + 1)) (nadd rfl rfl) ?_
        refine g_ialde h3 (j := (i + 1)) F (qs3 hq2 hs) rfl (by rw [(qm3 hq2 hs)]; omega) (by rw [(qm3 hq2 hs)]; decide) dX4_close_29 ?_
        refine g_aload_n (k := 0) F 1 rfl dX4_close_30 ?_
        refine gfX4_15 F (qs2 hq2 hs) (qt2_2 hq2 hs) dX4_close_31 ?_
        refine g_iload_n (k := 2) F 0 rfl dX4_close_34 ?_
        refine g_iconst (v := 1) F (by decide) dX4_close_35 ?_
        refine g_iadd F dX4_close_36 ?_
        refine g_rei (nI (i + 1)) (nadd rfl rfl) ?_
        refine g_ialde h4 (j := (i + 1)) F (qs4 hq2 hs) rfl (by rw [(qm4 hq2 hs)]; omega) (by rw [(qm4 hq2 hs)]; decide) dX4_close_37 ?_
        refine g_aload_n (k := 0) F 1 rfl dX4_close_38 ?_
        refine gfX4_18 F (qs2 hq2 hs) (qt2_3 hq2 hs) dX4_close_39 ?_
        refine g_iload_n (k := 2) F 0 rfl dX4_close_42 ?_
        refine g_iconst (v := 1) F (by decide) dX4_close_43 ?_
        refine g_iadd F dX4_close_44 ?_
        refine g_rei (nI (i + 1)) (nadd rfl rfl) ?_
        refine g_ialde h5 (j := (i + 1)) F (qs5 hq2 hs) rfl (by rw [(qm5 hq2 hs)]; omega) (by rw [(qm5 hq2 hs)]; decide) dX4_close_45 ?_
        refine g_callV F (kX4_put Γ.1 S1 q hq2 s hs i (by omega) ((clI (pI S (q (10 * s + 3))) k i) ((i + 1))) ((clI (pI S (q (10 * s + 4))) k i) ((i + 1))) ((clI (pI S (q (10 * s + 5))) k i) ((i + 1)))) okX4_put (qs2 hq2 hs) mw416 ⟨(Nat.le_of_ble_eq_true rfl), (Nat.le_of_ble_eq_true rfl)⟩ rfl rfl (Nat.le_of_ble_eq_true rfl) ⟨(Nat.le_of_ble_eq_true rfl), (Nat.le_of_ble_eq_true rfl)⟩ dX4_close_46 (toV (fun S5 h6 => ?_))
        obtain ⟨fr4, p3r4, p4r4, p5r4⟩ := h6
        have hq7 : Shp S5.1 S5.2.1 q := Fr.q fr4 hq2
        obtain ⟨x8, ex8⟩ : ∃ y9 : Int32, y9 = (nI i) + 1 := ⟨_, rfl⟩
        refine g_iinc (k := 0) (v := x8) (L' := [(2, .int x8), (0, .ref (q (10 * s + 2))), (1, .int (nI k))]) F dX4_close_49 rfl (by rw [ex8]; rfl) (Nat.le_of_ble_eq_true rfl) rfl ?_
        refine g_goto (t := 12) F dX4_close_52 (by decide) ?_
        obtain rfl : x8 = nI (i + 1) := (ex8.trans (nI_1 _))
        refine g_sub (L' := [(2, .int (nI (i + 1))), (0, .ref (q (10 * s + 2))), (1, .int (nI k))]) [0, 1, 2] rfl ?_
        exact ihlp1 (i + 1) (S5) (by omega) (by omega) (by omega) (Fr.tr (l := [10 * s + 3, 10 * s + 4, 10 * s + 5]) hf fr4 (fun _ h => h) (fun _ h => h)) ((p3r4.trans (congrArg (fun f9 => upd f9 i ((clI (pI S (q (10 * s + 3))) k i) ((i + 1)))) h3)).trans (clI_s hi)) ((p4r4.trans (congrArg (fun f9 => upd f9 i ((clI (pI S (q (10 * s + 4))) k i) ((i + 1)))) h4)).trans (clI_s hi)) ((p5r4.trans (congrArg (fun f9 => upd f9 i ((clI (pI S (q (10 * s + 5))) k i) ((i + 1)))) h5)).trans (clI_s hi))
  exact lp1 (nc z + 1) k (wI S (q (10 * s + 2)) 0 (nI ((nc z) - 1))) (by omega) (by omega) (by omega) Fr.rf (((up2_r (qne hq (by omega) (by omega) (by omega))).trans rfl).trans clI_0) (((up2_r (qne hq (by omega) (by omega) (by omega))).trans rfl).trans clI_0) (((up2_r (qne hq (by omega) (by omega) (by omega))).trans rfl).trans clI_0)
