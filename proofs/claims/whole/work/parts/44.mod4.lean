set_option maxHeartbeats 4000000 in
set_option maxRecDepth 100000 in
theorem kX10_allReached (g : Glo) (S : PS) (q : Nat → Nat) (hq : Shp S.1 S.2.1 q) (z : ZZ) (hz : pJ S (q 95) = z) (hB : Bz z) (h0 : 0 < nc z) : Ct g mX10_allReached 0 0 [.ref (q 94)] S (pI9 (fun r S' => (r = 1 ∧ zRa z ∨ r = 0 ∧ ¬ zRa z) ∧ S = S')) := by
  refine Ct.of (by decide) (Nat.le_of_ble_eq_true rfl) (fun Γ hg F T => ?_)
  subst hg
  show G Γ S 0 0 0 [(0, .ref (q 94))] []
  have hnc := (nc_e hB).2
  refine g_iconst (v := 1) F (by decide) dX10_allReached_0 ?_
  refine g_istore_n (k := 1) (L' := [(1, .int 1), (0, .ref (q 94))]) F dX10_allReached_1 (Nat.le_of_ble_eq_true rfl) rfl ?_
  refine g_iconst (v := 0) F (by decide) dX10_allReached_2 ?_
  refine g_istore_n (k := 2) (L' := [(2, .int 0), (1, .int 1), (0, .ref (q 94))]) F dX10_allReached_3 (Nat.le_of_ble_eq_true rfl) rfl ?_
  have lp1 : ∀ (n9 : Nat) (i : Nat) (b : Int32), nc z < i + n9 → (i ≤ nc z) → ((b = 1 ∧ ∀ j, j < i → zRk z j) ∨ (b = 0 ∧ ¬ zRa z)) → G Γ S 0 0 4 [(2, .int (nI i)), (1, .int b), (0, .ref (q 94))] [] := by
    intro n9
    induction n9 with
    | zero =>
      intro i b hm9 hi hb
      exact absurd hm9 (by omega)
    | succ n9 ihlp1 =>
      intro i b hm9 hi hb
      refine g_iload_n (k := 2) F 0 rfl dX10_allReached_4 ?_
      refine g_aload_n (k := 0) F 2 rfl dX10_allReached_5 ?_
      refine g_callV F (kX10_corners Γ.1 _ q hq z hz hB ) okX10_corners (qi94 hq) mw247 ⟨(Nat.le_of_ble_eq_true rfl), (Nat.le_of_ble_eq_true rfl)⟩ rfl rfl (Nat.le_of_ble_eq_true rfl) ⟨(Nat.le_of_ble_eq_true rfl), (Nat.le_of_ble_eq_true rfl)⟩ dX10_allReached_6 (toI (fun r2 S3 h4 => ?_))
      obtain ⟨rfl, rfl⟩ := h4
      refine g_icmp_ge (t := 28) F dX10_allReached_9 (by decide) (fun c5 => ?_) (fun c5 => ?_)
      · have hi9 : nc z ≤ i := by rw [nI_leI (by omega) (by omega)] at c5; exact c5
        refine g_iload_n (k := 1) F 1 rfl dX10_allReached_28 ?_
        refine g_zret F T (by rcases hb with ⟨rfl, _⟩ | ⟨rfl, _⟩ <;> rfl) ⟨_, rfl, ?_⟩ (Nat.le_of_ble_eq_true rfl) (Nat.le_of_ble_eq_true rfl) dX10_allReached_29
        exact ⟨ra_end hb (Or.inl hi9), rfl⟩
      · have hi9 : i < nc z := by rw [nI_leI (by omega) (by omega)] at c5; omega
        refine g_iload_n (k := 1) F 1 rfl dX10_allReached_12 ?_
        refine g_if_eq (t := 28) F dX10_allReached_13 (by decide) (fun c6 => ?_) (fun c6 => ?_)
        · refine g_iload_n (k := 1) F 1 rfl dX10_allReached_28 ?_
          refine g_zret F T (by rcases hb with ⟨rfl, _⟩ | ⟨rfl, _⟩ <;> rfl) ⟨_, rfl, ?_⟩ (Nat.le_of_ble_eq_true rfl) (Nat.le_of_ble_eq_true rfl) dX10_allReached_29
          exact ⟨ra_end hb (Or.inr c6), rfl⟩
        · refine g_aload_n (k := 0) F 2 rfl dX10_allReached_16 ?_
          refine g_iload_n (k := 2) F 0 rfl dX10_allReached_17 ?_
          refine g_callV F (kX10_isReached Γ.1 _ q hq z hz hB h0 i (by omega)) okX10_isReached (qi94 hq) mw485 ⟨(Nat.le_of_ble_eq_true rfl), (Nat.le_of_ble_eq_true rfl)⟩ rfl rfl (Nat.le_of_ble_eq_true rfl) ⟨(Nat.le_of_ble_eq_true rfl), (Nat.le_of_ble_eq_true rfl)⟩ dX10_allReached_18 (toI (fun r7 S8 h9 => ?_))
          obtain ⟨er7, rfl⟩ := h9
          refine g_istore_n (k := 1) (L' := [(1, .int r7), (2, .int (nI i)), (0, .ref (q 94))]) F dX10_allReached_21 (Nat.le_of_ble_eq_true rfl) rfl ?_
          obtain ⟨x10, ex10⟩ : ∃ y9 : Int32, y9 = (nI i) + 1 := ⟨_, rfl⟩
          refine g_iinc (k := 1) (v := x10) (L' := [(2, .int x10), (1, .int r7), (0, .ref (q 94))]) F dX10_allReached_22 rfl (by rw [ex10]; rfl) (Nat.le_of_ble_eq_true rfl) rfl ?_
          refine g_goto (t := 4) F dX10_allReached_25 (by decide) ?_
          obtain rfl : x10 = nI (i + 1) := (ex10.trans (nI_1 _))
          refine g_sub (L' := [(2, .int (nI (i + 1))), (1, .int r7), (0, .ref (q 94))]) [0, 1, 2] rfl ?_
          exact ihlp1 (i + 1) (r7) (by omega) (by omega) (ra_step hb hi9 c6 er7)
  exact lp1 (nc z + 1) 0 1 (by omega) (by omega) (Or.inl ⟨rfl, fun j hj => absurd hj (Nat.not_lt_zero j)⟩)
set_option maxHeartbeats 4000000 in
set_option maxRecDepth 100000 in
theorem kX10_sweptIn (g : Glo) (S : PS) (q : Nat → Nat) (hq : Shp S.1 S.2.1 q) (z : ZZ) (hz : pJ S (q 95) = z) (hB : Bz z) (h0 : 0 < nc z) (k : Nat) (hk : k < 1000) (i j : Nat) (hi : i ≤ zN z k) (hj : j ≤ zN z k) (hr : zRk z k) : Ct g mX10_sweptIn 0 0 [.ref (q 94), .int (nI k), .int (nI i), .int (nI j)] S (pJ9 (fun r S' => r = zSi z k i j ∧ Fm S S' q [7, 8])) := by
  refine Ct.of (by decide) (Nat.le_of_ble_eq_true rfl) (fun Γ hg F T => ?_)
  subst hg
  show G Γ S 0 0 0 [(0, .ref (q 94)), (1, .int (nI k)), (2, .int (nI i)), (3, .int (nI j))] []
  have hnc := (nc_e hB).2
  have hmd := Nat.mod_lt k h0
  have hzn := zN_b hB h0 k
  have hpi := zP_b hB h0 hi
  have hpj := zP_b hB h0 hj
  refine g_aload_n (k := 0) F 0 rfl dX10_sweptIn_0 ?_
  refine g_aload_n (k := 0) F 0 rfl dX10_sweptIn_1 ?_
  refine g_iload_n (k := 1) F 1 rfl dX10_sweptIn_2 ?_
  refine g_iload_n (k := 2) F 2 rfl dX10_sweptIn_3 ?_
  refine g_callV F (kX10_pointX Γ.1 _ q hq z hz hB h0 k (by omega) i (by omega)) okX10_pointX (qi94 hq) mw500 ⟨(Nat.le_of_ble_eq_true rfl), (Nat.le_of_ble_eq_true rfl)⟩ rfl rfl (Nat.le_of_ble_eq_true rfl) ⟨(Nat.le_of_ble_eq_true rfl), (Nat.le_of_ble_eq_true rfl)⟩ dX10_sweptIn_4 (toJ (fun r1 S2 h3 => ?_))
  obtain ⟨er1, rfl⟩ := h3
  refine g_aload_n (k := 0) F 0 rfl dX10_sweptIn_7 ?_
  refine g_iload_n (k := 1) F 1 rfl dX10_sweptIn_8 ?_
  refine g_iload_n (k := 2) F 2 rfl dX10_sweptIn_9 ?_
  refine g_callV F (kX10_pointY Γ.1 _ q hq z hz hB h0 k (by omega) i (by omega)) okX10_pointY (qi94 hq) mw505 ⟨(Nat.le_of_ble_eq_true rfl), (Nat.le_of_ble_eq_true rfl)⟩ rfl rfl (Nat.le_of_ble_eq_true rfl) ⟨(Nat.le_of_ble_eq_true rfl), (Nat.le_of_ble_eq_true rfl)⟩ dX10_sweptIn_10 (toJ (fun r4 S5 h6 => ?_))
  obtain ⟨er4, rfl⟩ := h6
  refine g_aload_n (k := 0) F 0 rfl dX10_sweptIn_13 ?_
  refine g_iload_n (k := 1) F 1 rfl dX10_sweptIn_14 ?_
  refine g_iload_n (k := 3) F 3 rfl dX10_sweptIn_15 ?_
  refine g_callV F (kX10_pointX Γ.1 _ q hq z hz hB h0 k (by omega) j (by omega)) okX10_pointX (qi94 hq) mw500 ⟨(Nat.le_of_ble_eq_true rfl), (Nat.le_of_ble_eq_true rfl)⟩ rfl rfl (Nat.le_of_ble_eq_true rfl) ⟨(Nat.le_of_ble_eq_true rfl), (Nat.le_of_ble_eq_true rfl)⟩ dX10_sweptIn_16 (toJ (fun r7 S8 h9 => ?_))
  obtain ⟨er7, rfl⟩ := h9
  refine g_aload_n (k := 0) F 0 rfl dX10_sweptIn_19 ?_
  refine g_iload_n (k := 1) F 1 rfl dX10_sweptIn_20 ?_
  refine g_iload_n (k := 3) F 3 rfl dX10_sweptIn_21 ?_
  refine g_callV F (kX10_pointY Γ.1 _ q hq z hz hB h0 k (by omega) j (by omega)) okX10_pointY (qi94 hq) mw505 ⟨(Nat.le_of_ble_eq_true rfl), (Nat.le_of_ble_eq_true rfl)⟩ rfl rfl (Nat.le_of_ble_eq_true rfl) ⟨(Nat.le_of_ble_eq_true rfl), (Nat.le_of_ble_eq_true rfl)⟩ dX10_sweptIn_22 (toJ (fun r10 S11 h12 => ?_))
  obtain ⟨er10, rfl⟩ := h12
  refine g_callV F (kX10_swept Γ.1 S q hq z hz hB _ _ _ _ (by rw [er1, er4]; exact ⟨hpi.1, hpi.2, hr i hi⟩) (by rw [er7, er10]; exact ⟨hpj.1, hpj.2, hr j hj⟩)) okX10_swept (qi94 hq) mw536 ⟨(Nat.le_of_ble_eq_true rfl), (Nat.le_of_ble_eq_true rfl)⟩ rfl rfl (Nat.le_of_ble_eq_true rfl) ⟨(Nat.le_of_ble_eq_true rfl), (Nat.le_of_ble_eq_true rfl)⟩ dX10_sweptIn_25 (toJ (fun r13 S14 h15 => ?_))
  obtain ⟨er13, gh15⟩ := h15
  have hq16 : Shp S14.1 S14.2.1 q := Fm.q gh15 hq
  refine g_lret F T ⟨_, rfl, ?_⟩ (Nat.le_of_ble_eq_true rfl) (Nat.le_of_ble_eq_true rfl) dX10_sweptIn_28
  exact ⟨by rw [er13, er1, er4, er7, er10]; rfl, (Fm.tr Fm.rf gh15 (by decide))⟩
set_option maxHeartbeats 4000000 in
set_option maxRecDepth 100000 in
theorem kX10_roll (g : Glo) (S : PS) (q : Nat → Nat) (hq : Shp S.1 S.2.1 q) (z : ZZ) (hz : pJ S (q 95) = z) (hB : Bz z) (h0 : 0 < nc z) (k : Nat) (hk : k < 1000) (hr : zRk z k) : Ct g mX10_roll 0 0 [.ref (q 94), .int (nI k)] S (pJ9 (fun r S' => r = zRoll z k ∧ Fm S S' q [7, 8])) := by
  refine Ct.of (by decide) (Nat.le_of_ble_eq_true rfl) (fun Γ hg F T => ?_)
  subst hg
  show G Γ S 0 0 0 [(0, .ref (q 94)), (1, .int (nI k))] []
  have hnc := (nc_e hB).2
  have hmd := Nat.mod_lt k h0
  have hzn := zN_b hB h0 k
  refine g_lconst (v := 0) F (by decide) dX10_roll_0 ?_
  refine g_lstore_n (k := 2) (L' := [(2, .long 0), (0, .ref (q 94)), (1, .int (nI k))]) F dX10_roll_1 (Nat.le_of_ble_eq_true rfl) rfl ?_
  refine g_aload_n (k := 0) F 1 rfl dX10_roll_2 ?_
  refine g_iload_n (k := 1) F 2 rfl dX10_roll_3 ?_
  refine g_callV F (kX10_steps Γ.1 _ q hq z hz hB h0 k (by omega)) okX10_steps (qi94 hq) mw489 ⟨(Nat.le_of_ble_eq_true rfl), (Nat.le_of_ble_eq_true rfl)⟩ rfl rfl (Nat.le_of_ble_eq_true rfl) ⟨(Nat.le_of_ble_eq_true rfl), (Nat.le_of_ble_eq_true rfl)⟩ dX10_roll_4 (toI (fun r1 S2 h3 => ?_))
  obtain ⟨rfl, rfl⟩ := h3
  refine g_istore (L' := [(4, .int (nI (zN z k))), (2, .long 0), (0, .ref (q 94)), (1, .int (nI k))]) F dX10_roll_7 (Nat.le_of_ble_eq_true rfl) rfl ?_
  refine g_iconst (v := 0) F (by decide) dX10_roll_9 ?_
  refine g_istore (L' := [(5, .int 0), (4, .int (nI (zN z k))), (2, .long 0), (0, .ref (q 94)), (1, .int (nI k))]) F dX10_roll_10 (Nat.le_of_ble_eq_true rfl) rfl ?_
  have lp4 : ∀ (n9 : Nat) (i : Nat) (a : Int64) (S1 : PS), zN z k < i + n9 → (i ≤ zN z k) → (a = sumF (fun i => zSi z k i (i + 1)) i) → (Fm S S1 q [7, 8]) → G Γ S1 0 0 12 [(5, .int (nI i)), (4, .int (nI (zN z k))), (2, .long a), (0, .ref (q 94)), (1, .int (nI k))] [] := by
    intro n9
    induction n9 with
    | zero =>
      intro i a S1 hm9 hi ha hf
      exact absurd hm9 (by omega)
    | succ n9 ihlp4 =>
      intro i a S1 hm9 hi ha hf
      have hq5 : Shp S1.1 S1.2.1 q := Fm.q hf hq
      refine g_iload F 0 rfl dX10_roll_12 ?_
      refine g_iload F 1 rfl dX10_roll_14 ?_
      refine g_icmp_ge (t := 39) F dX10_roll_16 (by decide) (fun c6 => ?_) (fun c6 => ?_)
      · obtain rfl : i = zN z k := by rw [nI_leI (by omega) (by omega)] at c6; omega
        refine g_lload_n (k := 2) F 2 rfl dX10_roll_39 ?_
        refine g_lret F T ⟨_, rfl, ?_⟩ (Nat.le_of_ble_eq_true rfl) (Nat.le_of_ble_eq_true rfl) dX10_roll_40
        exact ⟨ha, hf⟩
      · have hi9 : i < zN z k := by rw [nI_leI (by omega) (by omega)] at c6; omega
        refine g_lload_n (k := 2) F 2 rfl dX10_roll_19 ?_
        refine g_aload_n (k := 0) F 3 rfl dX10_roll_20 ?_
        refine g_iload_n (k := 1) F 4 rfl dX10_roll_21 ?_
        refine g_iload F 0 rfl dX10_roll_22 ?_
        refine g_iload F 0 rfl dX10_roll_24 ?_
        refine g_iconst (v := 1) F (by decide) dX10_roll_26 ?_
        refine g_iadd F dX10_roll_27 ?_
        refine g_rei (nI (i + 1)) (nadd rfl rfl) ?_
        refine g_callV F (kX10_sweptIn Γ.1 S1 q hq5 z ((hf.1.2.2 (95) (by decide) (by decide)).2.trans hz) hB h0 k (by omega) i ((i + 1)) (by omega) (by omega) hr) okX10_sweptIn (qi94 hq5) mw532 ⟨(Nat.le_of_ble_eq_true rfl), (Nat.le_of_ble_eq_true rfl)⟩ rfl rfl (Nat.le_of_ble_eq_true rfl) ⟨(Nat.le_of_ble_eq_true rfl), (Nat.le_of_ble_eq_true rfl)⟩ dX10_roll_28 (toJ (fun r7 S8 h9 => ?_))
        obtain ⟨er7, gh9⟩ := h9
        have hq10 : Shp S8.1 S8.2.1 q := Fm.q gh9 hq5
        refine g_ladd F dX10_roll_31 ?_
        refine g_topl (fun x11 ex11 => ?_)
        refine g_lstore_n (k := 2) (L' := [(2, .long x11), (5, .int (nI i)), (4, .int (nI (zN z k))), (0, .ref (q 94)), (1, .int (nI k))]) F dX10_roll_32 (Nat.le_of_ble_eq_true rfl) rfl ?_
        obtain ⟨x12, ex12⟩ : ∃ y9 : Int32, y9 = (nI i) + 1 := ⟨_, rfl⟩
        refine g_iinc (k := 1) (v := x12) (L' := [(5, .int x12), (2, .long x11), (4, .int (nI (zN z k))), (0, .ref (q 94)), (1, .int (nI k))]) F dX10_roll_33 rfl (by rw [ex12]; rfl) (Nat.le_of_ble_eq_true rfl) rfl ?_
        refine g_goto (t := 12) F dX10_roll_36 (by decide) ?_
        obtain rfl : x12 = nI (i + 1) := (ex12.trans (nI_1 _))
        refine g_sub (L' := [(5, .int (nI (i + 1))), (4, .int (nI (zN z k))), (2, .long x11), (0, .ref (q 94)), (1, .int (nI k))]) [0, 2, 1, 3, 4] rfl ?_
        exact ihlp4 (i + 1) (x11) (S8) (by omega) (by omega) (by rw [ex11, ha, er7]; rfl) (Fm.tr hf gh9 (by decide))
  exact lp4 (zN z k + 1) 0 0 S (by omega) (by omega) rfl Fm.rf
set_option maxHeartbeats 4000000 in
set_option maxRecDepth 100000 in
theorem kX10_rollOn (g : Glo) (S : PS) (q : Nat → Nat) (hq : Shp S.1 S.2.1 q) (z : ZZ) (hz : pJ S (q 95) = z) (hB : Bz z) (k : Nat) (hk : k < 20) (qq p w : Int64) (hp : pJ S (q 94) 9 = p) (hw : pJ S (q 94) 10 = w) : Ct g mX10_rollOn 0 0 [.ref (q 94), .int (nI k), .long qq] S (pV9 (fun S' => Fm S S' q [9, 10] ∧ pJ S' (q 94) 9 = roP (512 * z 6) (p + qq * (100 - zS z k) / 100) ∧ pJ S' (q 94) 10 = roW (512 * z 6) (p + qq * (100 - zS z k) / 100) w)) := by
  refine Ct.of (by decide) (Nat.le_of_ble_eq_true rfl) (fun Γ hg F T => ?_)
  subst hg
  show G Γ S 0 0 0 [(0, .ref (q 94)), (1, .int (nI k)), (2, .long qq)] []
  refine g_ldc2 F mw550 dX10_rollOn_0 ?_
  refine g_aload_n (k := 0) F 0 rfl dX10_rollOn_3 ?_
  refine g_iconst (v := 4) F (by decide) dX10_rollOn_4 ?_
  refine g_callV F (kX10_of Γ.1 _ q hq z hz hB 4 (by decide)) okX10_of (qi94 hq) mw496 ⟨(Nat.le_of_ble_eq_true rfl), (Nat.le_of_ble_eq_true rfl)⟩ rfl rfl (Nat.le_of_ble_eq_true rfl) ⟨(Nat.le_of_ble_eq_true rfl), (Nat.le_of_ble_eq_true rfl)⟩ dX10_rollOn_5 (toJ (fun r1 S2 h3 => ?_))
  obtain ⟨er1, rfl⟩ := h3
  refine g_lmul F dX10_rollOn_8 ?_
  refine g_topl (fun x4 ex4 => ?_)
  refine g_lstore (L' := [(4, .long x4), (0, .ref (q 94)), (1, .int (nI k)), (2, .long qq)]) F dX10_rollOn_9 (Nat.le_of_ble_eq_true rfl) rfl ?_
  refine g_aload_n (k := 0) F 1 rfl dX10_rollOn_11 ?_
  refine g_dup F dX10_rollOn_12 rfl ?_
  refine gfX10_114e F (qi94 hq) hp dX10_rollOn_13 ?_
  refine g_lload_n (k := 2) F 3 rfl dX10_rollOn_16 ?_
  refine g_ldc2 F mw303 dX10_rollOn_17 ?_
  refine g_aload_n (k := 0) F 1 rfl dX10_rollOn_20 ?_
  refine g_iload_n (k := 1) F 2 rfl dX10_rollOn_21 ?_
  refine g_callV F (kX10_slip Γ.1 _ q hq z hz hB k (by omega)) okX10_slip (qi94 hq) mw551 ⟨(Nat.le_of_ble_eq_true rfl), (Nat.le_of_ble_eq_true rfl)⟩ rfl rfl (Nat.le_of_ble_eq_true rfl) ⟨(Nat.le_of_ble_eq_true rfl), (Nat.le_of_ble_eq_true rfl)⟩ dX10_rollOn_22 (toJ (fun r5 S6 h7 => ?_))
  obtain ⟨er5, rfl⟩ := h7
  refine g_lsub F dX10_rollOn_25 ?_
  refine g_lmul F dX10_rollOn_26 ?_
  refine g_ldc2 F mw303 dX10_rollOn_27 ?_
  refine g_ldiv F dX10_rollOn_30 (by decide) ?_
  refine g_ladd F dX10_rollOn_31 ?_
  refine g_topl (fun x8 ex8 => ?_)
  refine pfX10_114 F (qi94 hq) dX10_rollOn_32 ?_
  have hE : x8 = (p + qq * (100 - zS z k) / 100) := by rw [ex8, er5]
  have hG : x4 = 512 * z 6 := by rw [ex4, er1]
  refine g_aload_n (k := 0) F 1 rfl dX10_rollOn_35 ?_
  refine gfX10_114e F (qi94 hq) up2_s dX10_rollOn_36 ?_
  refine g_lload F 0 rfl dX10_rollOn_39 ?_
  refine g_lcmp F dX10_rollOn_41 ?_
  refine g_if_le (t := 70) F dX10_rollOn_42 (by decide) (fun c9 => ?_) (fun c9 => ?_)
  · rw [lc_le] at c9
    refine g_aload_n (k := 0) F 1 rfl dX10_rollOn_70 ?_
    refine gfX10_114e F (qi94 hq) up2_s dX10_rollOn_71 ?_
    refine g_lconst (v := 0) F (by decide) dX10_rollOn_74 ?_
    refine g_lcmp F dX10_rollOn_75 ?_
    refine g_if_ge (t := 97) F dX10_rollOn_76 (by decide) (fun c10 => ?_) (fun c10 => ?_)
    · rw [lc_ge] at c10
      refine g_vret F T ⟨rfl, ?_⟩ (Nat.le_of_ble_eq_true rfl) (Nat.le_of_ble_eq_true rfl) dX10_rollOn_97
      exact ⟨(Fm.wJ hq Fm.rf (by decide)), up2_s.trans (by rw [← hE, ← hG]; unfold roP; rw [if_neg (L_nlt.mpr c9), if_neg (L_nlt.mpr c10)]), ((up2_k (by decide)).trans hw).trans (by rw [← hE, ← hG]; unfold roW; rw [if_neg (L_nlt.mpr c9), if_neg (L_nlt.mpr c10)])⟩
    · rw [lc_ge] at c10
      refine g_aload_n (k := 0) F 1 rfl dX10_rollOn_79 ?_
      refine g_dup F dX10_rollOn_80 rfl ?_
      refine gfX10_122e F (qi94 hq) ((up2_k (by decide)).trans hw) dX10_rollOn_81 ?_
      refine g_aload_n (k := 0) F 1 rfl dX10_rollOn_84 ?_
      refine gfX10_114e F (qi94 hq) up2_s dX10_rollOn_85 ?_
      refine g_ladd F dX10_rollOn_88 ?_
      refine g_topl (fun x11 ex11 => ?_)
      refine pfX10_122 F (qi94 hq) dX10_rollOn_89 ?_
      refine g_aload_n (k := 0) F 1 rfl dX10_rollOn_92 ?_
      refine g_lconst (v := 0) F (by decide) dX10_rollOn_93 ?_
      refine pfX10_114 F (qi94 hq) dX10_rollOn_94 ?_
      refine g_vret F T ⟨rfl, ?_⟩ (Nat.le_of_ble_eq_true rfl) (Nat.le_of_ble_eq_true rfl) dX10_rollOn_97
      exact ⟨(Fm.wJ hq (Fm.wJ hq (Fm.wJ hq Fm.rf (by decide)) (by decide)) (by decide)), up2_s.trans (by rw [← hE, ← hG]; unfold roP; rw [if_neg (L_nlt.mpr c9), if_pos (L_nle.mp c10)]), ((up2_k (by decide)).trans up2_s).trans (by rw [ex11, ← hE, ← hG]; unfold roW; rw [if_neg (L_nlt.mpr c9), if_pos (L_nle.mp c10)])⟩
  · rw [lc_le] at c9
    refine g_aload_n (k := 0) F 1 rfl dX10_rollOn_45 ?_
    refine g_dup F dX10_rollOn_46 rfl ?_
    refine gfX10_122e F (qi94 hq) ((up2_k (by decide)).trans hw) dX10_rollOn_47 ?_
    refine g_aload_n (k := 0) F 1 rfl dX10_rollOn_50 ?_
    refine gfX10_114e F (qi94 hq) up2_s dX10_rollOn_51 ?_
    refine g_lload F 0 rfl dX10_rollOn_54 ?_
    refine g_lsub F dX10_rollOn_56 ?_
    refine g_ladd F dX10_rollOn_57 ?_
    refine g_topl (fun x12 ex12 => ?_)
    refine pfX10_122 F (qi94 hq) dX10_rollOn_58 ?_
    refine g_aload_n (k := 0) F 1 rfl dX10_rollOn_61 ?_
    refine g_lload F 0 rfl dX10_rollOn_62 ?_
    refine pfX10_114 F (qi94 hq) dX10_rollOn_64 ?_
    refine g_goto (t := 97) F dX10_rollOn_67 (by decide) ?_
    refine g_vret F T ⟨rfl, ?_⟩ (Nat.le_of_ble_eq_true rfl) (Nat.le_of_ble_eq_true rfl) dX10_rollOn_97
    exact ⟨(Fm.wJ hq (Fm.wJ hq (Fm.wJ hq Fm.rf (by decide)) (by decide)) (by decide)), up2_s.trans (by rw [← hE, ← hG]; unfold roP; rw [if_pos (L_nle.mp c9)]), ((up2_k (by decide)).trans up2_s).trans (by rw [ex12, ← hE, ← hG]; unfold roW; rw [if_pos (L_nle.mp c9)])⟩
set_option maxHeartbeats 4000000 in
set_option maxRecDepth 100000 in
theorem kX10_follow (g : Glo) (S : PS) (q : Nat → Nat) (hq : Shp S.1 S.2.1 q) (z : ZZ) (hz : pJ S (q 95) = z) (hB : Bz z) (h0 : 0 < nc z) (k : Nat) (hk : k < 20) (hr : zRk z k) (b : Bool) (a : Int64 × Int64) (hp : pJ S (q 94) 9 = a.1) (hw : pJ S (q 94) 10 = a.2) : Ct g mX10_follow 0 0 [.ref (q 94), .int (nI k), .int (bI b)] S (pV9 (fun S' => Fm S S' q [7, 8, 9, 10] ∧ pJ S' (q 94) 9 = (zFo z b k (zN z k) a).1 ∧ pJ S' (q 94) 10 = (zFo z b k (zN z k) a).2)) := by
  refine Ct.of (by decide) (Nat.le_of_ble_eq_true rfl) (fun Γ hg F T => ?_)
  subst hg
  show G Γ S 0 0 0 [(0, .ref (q 94)), (1, .int (nI k)), (2, .int (bI b))] []
  have hnc := (nc_e hB).2
  have hmd := Nat.mod_lt k h0
  have hzn := zN_b hB h0 k
  refine g_aload_n (k := 0) F 0 rfl dX10_follow_0 ?_
  refine g_iload_n (k := 1) F 1 rfl dX10_follow_1 ?_
  refine g_callV F (kX10_steps Γ.1 _ q hq z hz hB h0 k (by omega)) okX10_steps (qi94 hq) mw489 ⟨(Nat.le_of_ble_eq_true rfl), (Nat.le_of_ble_eq_true rfl)⟩ rfl rfl (Nat.le_of_ble_eq_true rfl) ⟨(Nat.le_of_ble_eq_true rfl), (Nat.le_of_ble_eq_true rfl)⟩ dX10_follow_2 (toI (fun r1 S2 h3 => ?_))
  obtain ⟨rfl, rfl⟩ := h3
  refine g_istore_n (k := 3) (L' := [(3, .int (nI (zN z k))), (0, .ref (q 94)), (1, .int (nI k)), (2, .int (bI b))]) F dX10_follow_5 (Nat.le_of_ble_eq_true rfl) rfl ?_
  refine g_iconst (v := 0) F (by decide) dX10_follow_6 ?_
  refine g_istore (L' := [(4, .int 0), (3, .int (nI (zN z k))), (0, .ref (q 94)), (1, .int (nI k)), (2, .int (bI b))]) F dX10_follow_7 (Nat.le_of_ble_eq_true rfl) rfl ?_
  have lp4 : ∀ (n9 : Nat) (i : Nat) (S1 : PS), zN z k < i + n9 → (i ≤ zN z k) → (Fm S S1 q [7, 8, 9, 10]) → (pJ S1 (q 94) 9 = (zFo z b k i a).1) → (pJ S1 (q 94) 10 = (zFo z b k i a).2) → G Γ S1 0 0 9 [(4, .int (nI i)), (3, .int (nI (zN z k))), (0, .ref (q 94)), (1, .int (nI k)), (2, .int (bI b))] [] := by
    intro n9
    induction n9 with
    | zero =>
      intro i S1 hm9 hi hf hp1 hw1
      exact absurd hm9 (by omega)
    | succ n9 ihlp4 =>
      intro i S1 hm9 hi hf hp1 hw1
      have hq5 : Shp S1.1 S1.2.1 q := Fm.q hf hq
      refine g_iload F 0 rfl dX10_follow_9 ?_
      refine g_iload_n (k := 3) F 1 rfl dX10_follow_11 ?_
      refine g_icmp_ge (t := 59) F dX10_follow_12 (by decide) (fun c6 => ?_) (fun c6 => ?_)
      · obtain rfl : i = zN z k := by rw [nI_leI (by omega) (by omega)] at c6; omega
        refine g_vret F T ⟨rfl, ?_⟩ (Nat.le_of_ble_eq_true rfl) (Nat.le_of_ble_eq_true rfl) dX10_follow_59
        exact ⟨hf, hp1, hw1⟩
      · have hi9 : i < zN z k := by rw [nI_leI (by omega) (by omega)] at c6; omega
        refine g_aload_n (k := 0) F 2 rfl dX10_follow_15 ?_
        refine g_iload_n (k := 1) F 3 rfl dX10_follow_16 ?_
        refine g_iload_n (k := 2) F 4 rfl dX10_follow_17 ?_
        refine g_if_eq (t := 39) F dX10_follow_18 (by decide) (fun c7 => ?_) (fun c7 => ?_)
        · have hb := bI_0 c7
          have hFs : zFs z b k i = zSi z k i (i + 1) := by rw [hb]; rfl
          refine g_aload_n (k := 0) F 2 rfl dX10_follow_39 ?_
          refine g_iload_n (k := 1) F 3 rfl dX10_follow_40 ?_
          refine g_iload F 0 rfl dX10_follow_41 ?_
          refine g_iload F 0 rfl dX10_follow_43 ?_
          refine g_iconst (v := 1) F (by decide) dX10_follow_45 ?_
          refine g_iadd F dX10_follow_46 ?_
          refine g_rei (nI (i + 1)) (nadd rfl rfl) ?_
          refine g_callV F (kX10_sweptIn Γ.1 S1 q hq5 z ((hf.1.2.2 (95) (by decide) (by decide)).2.trans hz) hB h0 k (by omega) i ((i + 1)) (by omega) (by omega) hr) okX10_sweptIn (qi94 hq5) mw532 ⟨(Nat.le_of_ble_eq_true rfl), (Nat.le_of_ble_eq_true rfl)⟩ rfl rfl (Nat.le_of_ble_eq_true rfl) ⟨(Nat.le_of_ble_eq_true rfl), (Nat.le_of_ble_eq_true rfl)⟩ dX10_follow_47 (toJ (fun r8 S9 h10 => ?_))
          obtain ⟨er8, gh10⟩ := h10
          have hq11 : Shp S9.1 S9.2.1 q := Fm.q gh10 hq5
          refine g_callV F (kX10_rollOn Γ.1 S9 q hq11 z ((gh10.1.2.2 (95) (by decide) (by decide)).2.trans ((hf.1.2.2 (95) (by decide) (by decide)).2.trans hz)) hB k (by omega) r8 _ _ ((gh10.2.2 9 (by decide)).trans hp1) ((gh10.2.2 10 (by decide)).trans hw1)) okX10_rollOn (qi94 hq11) mw546 ⟨(Nat.le_of_ble_eq_true rfl), (Nat.le_of_ble_eq_true rfl)⟩ rfl rfl (Nat.le_of_ble_eq_true rfl) ⟨(Nat.le_of_ble_eq_true rfl), (Nat.le_of_ble_eq_true rfl)⟩ dX10_follow_50 (toV (fun S13 h14 => ?_))
          have hq15 : Shp S13.1 S13.2.1 q := Fm.q h14.1 hq11
          obtain ⟨x16, ex16⟩ : ∃ y9 : Int32, y9 = (nI i) + 1 := ⟨_, rfl⟩
          refine g_iinc (k := 0) (v := x16) (L' := [(4, .int x16), (3, .int (nI (zN z k))), (0, .ref (q 94)), (1, .int (nI k)), (2, .int (bI b))]) F dX10_follow_53 rfl (by rw [ex16]; rfl) (Nat.le_of_ble_eq_true rfl) rfl ?_
          refine g_goto (t := 9) F dX10_follow_56 (by decide) ?_
          obtain rfl : x16 = nI (i + 1) := (ex16.trans (nI_1 _))
          refine g_sub (L' := [(4, .int (nI (i + 1))), (3, .int (nI (zN z k))), (0, .ref (q 94)), (1, .int (nI k)), (2, .int (bI b))]) [0, 1, 2, 3, 4] rfl ?_
          exact ihlp4 (i + 1) (S13) (by omega) (by omega) (Fm.tr (Fm.tr hf gh10 (by decide)) h14.1 (by decide)) (h14.2.1.trans (by rw [er8, ← hFs]; rfl)) (h14.2.2.trans (by rw [er8, ← hFs]; rfl))
        · have hb := bI_1 c7
          have hFs : zFs z b k i = zSi z k (zN z k - i) (zN z k - i - 1) := by rw [hb]; rfl
          refine g_aload_n (k := 0) F 2 rfl dX10_follow_21 ?_
          refine g_iload_n (k := 1) F 3 rfl dX10_follow_22 ?_
          refine g_iload_n (k := 3) F 1 rfl dX10_follow_23 ?_
          refine g_iload F 0 rfl dX10_follow_24 ?_
          refine g_isub F dX10_follow_26 ?_
          refine g_rei (nI ((zN z k) - i)) (nsub rfl rfl (by omega)) ?_
          refine g_iload_n (k := 3) F 1 rfl dX10_follow_27 ?_
          refine g_iload F 0 rfl dX10_follow_28 ?_
          refine g_isub F dX10_follow_30 ?_
          refine g_rei (nI ((zN z k) - i)) (nsub rfl rfl (by omega)) ?_
          refine g_iconst (v := 1) F (by decide) dX10_follow_31 ?_
          refine g_isub F dX10_follow_32 ?_
          refine g_rei (nI (((zN z k) - i) - 1)) (nsub rfl rfl (by omega)) ?_
          refine g_callV F (kX10_sweptIn Γ.1 S1 q hq5 z ((hf.1.2.2 (95) (by decide) (by decide)).2.trans hz) hB h0 k (by omega) (((zN z k) - i)) ((((zN z k) - i) - 1)) (by omega) (by omega) hr) okX10_sweptIn (qi94 hq5) mw532 ⟨(Nat.le_of_ble_eq_true rfl), (Nat.le_of_ble_eq_true rfl)⟩ rfl rfl (Nat.le_of_ble_eq_true rfl) ⟨(Nat.le_of_ble_eq_true rfl), (Nat.le_of_ble_eq_true rfl)⟩ dX10_follow_33 (toJ (fun r17 S18 h19 => ?_))
          obtain ⟨er17, gh19⟩ := h19
          have hq20 : Shp S18.1 S18.2.1 q := Fm.q gh19 hq5
          refine g_goto (t := 50) F dX10_follow_36 (by decide) ?_
          refine g_callV F (kX10_rollOn Γ.1 S18 q hq20 z ((gh19.1.2.2 (95) (by decide) (by decide)).2.trans ((hf.1.2.2 (95) (by decide) (by decide)).2.trans hz)) hB k (by omega) r17 _ _ ((gh19.2.2 9 (by decide)).trans hp1) ((gh19.2.2 10 (by decide)).trans hw1)) okX10_rollOn (qi94 hq20) mw546 ⟨(Nat.le_of_ble_eq_true rfl), (Nat.le_of_ble_eq_true rfl)⟩ rfl rfl (Nat.le_of_ble_eq_true rfl) ⟨(Nat.le_of_ble_eq_true rfl), (Nat.le_of_ble_eq_true rfl)⟩ dX10_follow_50 (toV (fun S22 h23 => ?_))
          have hq24 : Shp S22.1 S22.2.1 q := Fm.q h23.1 hq20
          obtain ⟨x25, ex25⟩ : ∃ y9 : Int32, y9 = (nI i) + 1 := ⟨_, rfl⟩
          refine g_iinc (k := 0) (v := x25) (L' := [(4, .int x25), (3, .int (nI (zN z k))), (0, .ref (q 94)), (1, .int (nI k)), (2, .int (bI b))]) F dX10_follow_53 rfl (by rw [ex25]; rfl) (Nat.le_of_ble_eq_true rfl) rfl ?_
          refine g_goto (t := 9) F dX10_follow_56 (by decide) ?_
          obtain rfl : x25 = nI (i + 1) := (ex25.trans (nI_1 _))
          refine g_sub (L' := [(4, .int (nI (i + 1))), (3, .int (nI (zN z k))), (0, .ref (q 94)), (1, .int (nI k)), (2, .int (bI b))]) [0, 1, 2, 3, 4] rfl ?_
          exact ihlp4 (i + 1) (S22) (by omega) (by omega) (Fm.tr (Fm.tr hf gh19 (by decide)) h23.1 (by decide)) (h23.2.1.trans (by rw [er17, ← hFs]; rfl)) (h23.2.2.trans (by rw [er17, ← hFs]; rfl))
  exact lp4 (zN z k + 1) 0 S (by omega) (by omega) Fm.rf hp hw
set_option maxHeartbeats 4000000 in
set_option maxRecDepth 100000 in
theorem kX10_sumOf (g : Glo) (S : PS) (q : Nat → Nat) (hq : Shp S.1 S.2.1 q) (z : ZZ) (hz : pJ S (q 95) = z) (hB : Bz z) (h0 : 0 < nc z) (c : Nat) (hc : c < nc z) (b : Bool) (hr : zRa z) : Ct g mX10_sumOf 0 0 [.ref (q 94), .int (nI c), .int (bI b)] S (pJ9 (fun r S' => r = zSum z c b ∧ Fm S S' q [7, 8, 9, 10])) := by
  refine Ct.of (by decide) (Nat.le_of_ble_eq_true rfl) (fun Γ hg F T => ?_)
  subst hg
  show G Γ S 0 0 0 [(0, .ref (q 94)), (1, .int (nI c)), (2, .int (bI b))] []
  have hnc := (nc_e hB).2
  refine g_aload_n (k := 0) F 0 rfl dX10_sumOf_0 ?_
  refine g_callV F (kX10_corners Γ.1 _ q hq z hz hB ) okX10_corners (qi94 hq) mw247 ⟨(Nat.le_of_ble_eq_true rfl), (Nat.le_of_ble_eq_true rfl)⟩ rfl rfl (Nat.le_of_ble_eq_true rfl) ⟨(Nat.le_of_ble_eq_true rfl), (Nat.le_of_ble_eq_true rfl)⟩ dX10_sumOf_1 (toI (fun r1 S2 h3 => ?_))
  obtain ⟨rfl, rfl⟩ := h3
  refine g_istore_n (k := 3) (L' := [(3, .int (nI (nc z))), (0, .ref (q 94)), (1, .int (nI c)), (2, .int (bI b))]) F dX10_sumOf_4 (Nat.le_of_ble_eq_true rfl) rfl ?_
  refine g_aload_n (k := 0) F 1 rfl dX10_sumOf_5 ?_
  refine g_lconst (v := 0) F (by decide) dX10_sumOf_6 ?_
  refine pfX10_114 F (qi94 hq) dX10_sumOf_7 ?_
  refine g_aload_n (k := 0) F 1 rfl dX10_sumOf_10 ?_
  refine g_lconst (v := 0) F (by decide) dX10_sumOf_11 ?_
  refine pfX10_122 F (qi94 hq) dX10_sumOf_12 ?_
  refine g_iconst (v := 0) F (by decide) dX10_sumOf_15 ?_
  refine g_istore (L' := [(4, .int 0), (3, .int (nI (nc z))), (0, .ref (q 94)), (1, .int (nI c)), (2, .int (bI b))]) F dX10_sumOf_16 (Nat.le_of_ble_eq_true rfl) rfl ?_
  have lp4 : ∀ (n9 : Nat) (i : Nat) (S1 : PS), nc z < i + n9 → (i ≤ nc z) → (Fm S S1 q [7, 8, 9, 10]) → (pJ S1 (q 94) 9 = (zSu z c b i).1) → (pJ S1 (q 94) 10 = (zSu z c b i).2) → G Γ S1 0 0 18 [(4, .int (nI i)), (3, .int (nI (nc z))), (0, .ref (q 94)), (1, .int (nI c)), (2, .int (bI b))] [] := by
    intro n9
    induction n9 with
    | zero =>
      intro i S1 hm9 hi hf hp1 hw1
      exact absurd hm9 (by omega)
    | succ n9 ihlp4 =>
      intro i S1 hm9 hi hf hp1 hw1
      have hq5 : Shp S1.1 S1.2.1 q := Fm.q hf hq
      refine g_iload F 0 rfl dX10_sumOf_18 ?_
      refine g_iload_n (k := 3) F 1 rfl dX10_sumOf_20 ?_
      refine g_icmp_ge (t := 60) F dX10_sumOf_21 (by decide) (fun c6 => ?_) (fun c6 => ?_)
      · obtain rfl : i = nc z := by rw [nI_leI (by omega) (by omega)] at c6; omega
        refine g_iload_n (k := 2) F 4 rfl dX10_sumOf_60 ?_
        refine g_if_eq (t := 72) F dX10_sumOf_61 (by decide) (fun c7 => ?_) (fun c7 => ?_)
        · have hb := bI_0 c7
          refine g_aload_n (k := 0) F 2 rfl dX10_sumOf_72 ?_
          refine gfX10_122e F (qi94 hq5) hw1 dX10_sumOf_73 ?_
          refine g_lret F T ⟨_, rfl, ?_⟩ (Nat.le_of_ble_eq_true rfl) (Nat.le_of_ble_eq_true rfl) dX10_sumOf_76
          exact ⟨by unfold zSum; rw [hb]; rfl, hf⟩
        · have hb := bI_1 c7
          refine g_aload_n (k := 0) F 2 rfl dX10_sumOf_64 ?_
          refine gfX10_122e F (qi94 hq5) hw1 dX10_sumOf_65 ?_
          refine g_lneg F dX10_sumOf_68 ?_
          refine g_goto (t := 76) F dX10_sumOf_69 (by decide) ?_
          refine g_lret F T ⟨_, rfl, ?_⟩ (Nat.le_of_ble_eq_true rfl) (Nat.le_of_ble_eq_true rfl) dX10_sumOf_76
          exact ⟨by unfold zSum; rw [hb]; rfl, hf⟩
      · have hi9 : i < nc z := by rw [nI_leI (by omega) (by omega)] at c6; omega
        refine g_aload_n (k := 0) F 2 rfl dX10_sumOf_24 ?_
        refine g_iload_n (k := 2) F 4 rfl dX10_sumOf_25 ?_
        refine g_if_eq (t := 44) F dX10_sumOf_26 (by decide) (fun c8 => ?_) (fun c8 => ?_)
        · have hb := bI_0 c8
          have hk9 : zSk (nc z) c b i = (c + i) % nc z := by rw [hb]; rfl
          refine g_iload_n (k := 1) F 3 rfl dX10_sumOf_44 ?_
          refine g_iload F 0 rfl dX10_sumOf_45 ?_
          refine g_iadd F dX10_sumOf_47 ?_
          refine g_rei (nI (c + i)) (nadd rfl rfl) ?_
          refine g_iload_n (k := 3) F 1 rfl dX10_sumOf_48 ?_
          refine g_irem F dX10_sumOf_49 (nI_ne0 h0 (by omega)) ?_
          refine g_rei (nI ((c + i) % (nc z))) (nrem rfl rfl (by omega) (by omega) (by omega)) ?_
          refine g_iload_n (k := 2) F 4 rfl dX10_sumOf_50 ?_
          refine g_callV F (kX10_follow Γ.1 S1 q hq5 z ((hf.1.2.2 (95) (by decide) (by decide)).2.trans hz) hB h0 (((c + i) % (nc z))) (by have := Nat.mod_lt (c + 2 * nc z - 1 - i) h0; have := Nat.mod_lt (c + i) h0; omega) (hr _ (Nat.mod_lt _ h0)) b (zSu z c b i) hp1 hw1) okX10_follow (qi94 hq5) mw528 ⟨(Nat.le_of_ble_eq_true rfl), (Nat.le_of_ble_eq_true rfl)⟩ rfl rfl (Nat.le_of_ble_eq_true rfl) ⟨(Nat.le_of_ble_eq_true rfl), (Nat.le_of_ble_eq_true rfl)⟩ dX10_sumOf_51 (toV (fun S10 h11 => ?_))
          have hq12 : Shp S10.1 S10.2.1 q := Fm.q h11.1 hq5
          obtain ⟨x13, ex13⟩ : ∃ y9 : Int32, y9 = (nI i) + 1 := ⟨_, rfl⟩
          refine g_iinc (k := 0) (v := x13) (L' := [(4, .int x13), (3, .int (nI (nc z))), (0, .ref (q 94)), (1, .int (nI c)), (2, .int (bI b))]) F dX10_sumOf_54 rfl (by rw [ex13]; rfl) (Nat.le_of_ble_eq_true rfl) rfl ?_
          refine g_goto (t := 18) F dX10_sumOf_57 (by decide) ?_
          obtain rfl : x13 = nI (i + 1) := (ex13.trans (nI_1 _))
          refine g_sub (L' := [(4, .int (nI (i + 1))), (3, .int (nI (nc z))), (0, .ref (q 94)), (1, .int (nI c)), (2, .int (bI b))]) [0, 1, 2, 3, 4] rfl ?_
          exact ihlp4 (i + 1) (S10) (by omega) (by omega) (Fm.tr hf h11.1 (by decide)) (h11.2.1.trans (by rw [← hk9]; rfl)) (h11.2.2.trans (by rw [← hk9]; rfl))
        · have hb := bI_1 c8
          have hk9 : zSk (nc z) c b i = (c + 2 * nc z - 1 - i) % nc z := by rw [hb]; rfl
          refine g_iload_n (k := 1) F 3 rfl dX10_sumOf_29 ?_
          refine g_iconst (v := 1) F (by decide) dX10_sumOf_30 ?_
          refine g_isub F dX10_sumOf_31 ?_
          refine g_iload F 0 rfl dX10_sumOf_32 ?_
          refine g_isub F dX10_sumOf_34 ?_
          refine g_iconst (v := 2) F (by decide) dX10_sumOf_35 ?_
          refine g_iload_n (k := 3) F 1 rfl dX10_sumOf_36 ?_
          refine g_imul F dX10_sumOf_37 ?_
          refine g_rei (nI (2 * (nc z))) (nmul rfl rfl) ?_
          refine g_iadd F dX10_sumOf_38 ?_
          refine g_rei (nI (c + 2 * nc z - 1 - i)) (sk_back (by omega)) ?_
          refine g_iload_n (k := 3) F 1 rfl dX10_sumOf_39 ?_
          refine g_irem F dX10_sumOf_40 (nI_ne0 h0 (by omega)) ?_
          refine g_rei (nI ((c + 2 * nc z - 1 - i) % (nc z))) (nrem rfl rfl (by omega) (by omega) (by omega)) ?_
          refine g_goto (t := 50) F dX10_sumOf_41 (by decide) ?_
          refine g_iload_n (k := 2) F 4 rfl dX10_sumOf_50 ?_
          refine g_callV F (kX10_follow Γ.1 S1 q hq5 z ((hf.1.2.2 (95) (by decide) (by decide)).2.trans hz) hB h0 (((c + 2 * nc z - 1 - i) % (nc z))) (by have := Nat.mod_lt (c + 2 * nc z - 1 - i) h0; have := Nat.mod_lt (c + i) h0; omega) (hr _ (Nat.mod_lt _ h0)) b (zSu z c b i) hp1 hw1) okX10_follow (qi94 hq5) mw528 ⟨(Nat.le_of_ble_eq_true rfl), (Nat.le_of_ble_eq_true rfl)⟩ rfl rfl (Nat.le_of_ble_eq_true rfl) ⟨(Nat.le_of_ble_eq_true rfl), (Nat.le_of_ble_eq_true rfl)⟩ dX10_sumOf_51 (toV (fun S15 h16 => ?_))
          have hq17 : Shp S15.1 S15.2.1 q := Fm.q h16.1 hq5
          obtain ⟨x18, ex18⟩ : ∃ y9 : Int32, y9 = (nI i) + 1 := ⟨_, rfl⟩
          refine g_iinc (k := 0) (v := x18) (L' := [(4, .int x18), (3, .int (nI (nc z))), (0, .ref (q 94)), (1, .int (nI c)), (2, .int (bI b))]) F dX10_sumOf_54 rfl (by rw [ex18]; rfl) (Nat.le_of_ble_eq_true rfl) rfl ?_
          refine g_goto (t := 18) F dX10_sumOf_57 (by decide) ?_
          obtain rfl : x18 = nI (i + 1) := (ex18.trans (nI_1 _))
          refine g_sub (L' := [(4, .int (nI (i + 1))), (3, .int (nI (nc z))), (0, .ref (q 94)), (1, .int (nI c)), (2, .int (bI b))]) [0, 1, 2, 3, 4] rfl ?_
          exact ihlp4 (i + 1) (S15) (by omega) (by omega) (Fm.tr hf h16.1 (by decide)) (h16.2.1.trans (by rw [← hk9]; rfl)) (h16.2.2.trans (by rw [← hk9]; rfl))
  exact lp4 (nc z + 1) 0 (wJ (wJ S (q 94) 9 0) (q 94) 10 0) (by omega) (by omega) (Fm.wJ hq (Fm.wJ hq Fm.rf (by decide)) (by decide)) ((up2_k (by decide)).trans up2_s) up2_s
