set_option maxHeartbeats 4000000 in
set_option maxRecDepth 100000 in
theorem kX1_roll (g : Glo) (S : PS) (q : Nat → Nat) (hq : Shp S.1 S.2.1 q) (s : Nat) (hs : s < 8) (z : ZZ) (hB : Bz z) (hc : Cs S q s z) (k : Nat) (hk : k < nc z) (hr : zRk z k) : Ct g mX1_roll 0 0 [.ref (q 83), .ref (q (10 * s)), .int (nI k)] S (pJ9 (fun r S' => r = zRoll z k ∧ Fr S S' q [84])) := by
  refine Ct.of (by decide) (Nat.le_of_ble_eq_true rfl) (fun Γ hg F T => ?_)
  subst hg
  show G Γ S 0 0 0 [(0, .ref (q 83)), (1, .ref (q (10 * s))), (2, .int (nI k))] []
  have hnc := (nc_e hB).2
  have h0 : 0 < nc z := by omega
  have bx0 := zX_b hB h0 k
  have bx1 := zX_b hB h0 (k + 1)
  have by0 := zY_b hB h0 k
  have by1 := zY_b hB h0 (k + 1)
  have hnx := nx_lt hk
  have hzn := zN_b hB h0 k
  refine g_aload_n (k := 1) F 1 rfl dX1_roll_0 ?_
  refine gfX1_29 F (qs0 hq hs) (qt0_4 hq hs) dX1_roll_1 ?_
  refine g_astore_n (k := 3) (L' := [(3, .ref (q (10 * s + 2))), (0, .ref (q 83)), (1, .ref (q (10 * s))), (2, .int (nI k))]) F dX1_roll_4 (Nat.le_of_ble_eq_true rfl) rfl ?_
  refine g_aload_n (k := 3) F 0 rfl dX1_roll_5 ?_
  refine g_iload_n (k := 2) F 3 rfl dX1_roll_6 ?_
  refine g_aload_n (k := 1) F 2 rfl dX1_roll_7 ?_
  refine gfX1_61 F (qs0 hq hs) (qt0_3 hq hs) dX1_roll_8 ?_
  refine g_iconst (v := 2) F (by decide) dX1_roll_11 ?_
  refine g_ialde rfl (j := 2) F (qs1 hq hs) rfl (by rw [(qm1 hq hs)]; omega) (by rw [(qm1 hq hs)]; decide) dX1_roll_12 ?_
  refine g_callVN (host := "PolarPlanimeter") F (kX4_steps Γ.1 S q hq s hs z hB hc k (by omega) ((pI S (q (10 * s + 1))) 2) (hc.st (i := 2) (by decide))) okX4_steps (qs2 hq hs) nwM40 ⟨(Nat.le_of_ble_eq_true rfl), (Nat.le_of_ble_eq_true rfl)⟩ rfl rfl (Nat.le_of_ble_eq_true rfl) ⟨(Nat.le_of_ble_eq_true rfl), (Nat.le_of_ble_eq_true rfl)⟩ dX1_roll_13 (toI (fun r1 S2 h3 => ?_))
  obtain ⟨rfl, rfl⟩ := h3
  refine g_istore (L' := [(4, .int (nI (zN z k))), (3, .ref (q (10 * s + 2))), (0, .ref (q 83)), (1, .ref (q (10 * s))), (2, .int (nI k))]) F dX1_roll_16 (Nat.le_of_ble_eq_true rfl) rfl ?_
  refine g_aload_n (k := 0) F 2 rfl dX1_roll_18 ?_
  refine gfX1_12 F (qi83 hq) (qr83_0 hq) dX1_roll_19 ?_
  refine g_aload_n (k := 1) F 3 rfl dX1_roll_22 ?_
  refine g_callVN (host := "PolarPlanimeter") F (kX0_fit Γ.1 S q hq s hs z hB hc) okX0_fit (qi84 hq) nwM39 ⟨(Nat.le_of_ble_eq_true rfl), (Nat.le_of_ble_eq_true rfl)⟩ rfl rfl (Nat.le_of_ble_eq_true rfl) ⟨(Nat.le_of_ble_eq_true rfl), (Nat.le_of_ble_eq_true rfl)⟩ dX1_roll_23 (toV (fun S5 h6 => ?_))
  obtain ⟨fr4, haf⟩ := h6
  have hq7 : Shp S5.1 S5.2.1 q := Fr.q fr4 hq
  refine g_aload_n (k := 0) F 2 rfl dX1_roll_26 ?_
  refine gfX1_12 F (qi83 hq7) (qr83_0 hq7) dX1_roll_27 ?_
  refine g_aload_n (k := 3) F 1 rfl dX1_roll_30 ?_
  refine g_iload_n (k := 2) F 4 rfl dX1_roll_31 ?_
  refine g_iconst (v := 0) F (by decide) dX1_roll_32 ?_
  refine g_iload F 0 rfl dX1_roll_33 ?_
  refine g_callVN (host := "PolarPlanimeter") F (kX4_fineX Γ.1 S5 q hq7 s hs z hB (Cs.fr (s := s) (l := [84]) (by first | decide | omega) (Fr.tr (l := [84]) Fr.rf fr4 (by decide) (by decide)) (by first | decide | (intro i hi h; simp at h; omega)) hc) k (by omega) 0 (by omega)) okX4_fineX (qs2 hq7 hs) nwM41 ⟨(Nat.le_of_ble_eq_true rfl), (Nat.le_of_ble_eq_true rfl)⟩ rfl rfl (Nat.le_of_ble_eq_true rfl) ⟨(Nat.le_of_ble_eq_true rfl), (Nat.le_of_ble_eq_true rfl)⟩ dX1_roll_35 (toJ (fun r8 S9 h10 => ?_))
  obtain ⟨er8, rfl⟩ := h10
  refine g_aload_n (k := 3) F 1 rfl dX1_roll_38 ?_
  refine g_iload_n (k := 2) F 4 rfl dX1_roll_39 ?_
  refine g_iconst (v := 0) F (by decide) dX1_roll_40 ?_
  refine g_iload F 0 rfl dX1_roll_41 ?_
  refine g_callVN (host := "PolarPlanimeter") F (kX4_fineY Γ.1 S5 q hq7 s hs z hB (Cs.fr (s := s) (l := [84]) (by first | decide | omega) (Fr.tr (l := [84]) Fr.rf fr4 (by decide) (by decide)) (by first | decide | (intro i hi h; simp at h; omega)) hc) k (by omega) 0 (by omega)) okX4_fineY (qs2 hq7 hs) nwM42 ⟨(Nat.le_of_ble_eq_true rfl), (Nat.le_of_ble_eq_true rfl)⟩ rfl rfl (Nat.le_of_ble_eq_true rfl) ⟨(Nat.le_of_ble_eq_true rfl), (Nat.le_of_ble_eq_true rfl)⟩ dX1_roll_43 (toJ (fun r11 S12 h13 => ?_))
  obtain ⟨er11, rfl⟩ := h13
  refine g_callVN (host := "PolarPlanimeter") F (kX0_place Γ.1 S5 q hq7 z haf hB r8 r11 (by rw [er8]; exact (zP_b hB h0 (Nat.zero_le _)).1) (by rw [er11]; exact (zP_b hB h0 (Nat.zero_le _)).2)) okX0_place (qi84 hq7) nwM31 ⟨(Nat.le_of_ble_eq_true rfl), (Nat.le_of_ble_eq_true rfl)⟩ rfl rfl (Nat.le_of_ble_eq_true rfl) ⟨(Nat.le_of_ble_eq_true rfl), (Nat.le_of_ble_eq_true rfl)⟩ dX1_roll_46 (toI (fun r14 S15 h16 => ?_))
  obtain ⟨fr14, hah, pr14⟩ := h16
  have hap := w1p pr14 (by rw [er8, er11]; exact hr 0 (Nat.zero_le _))
  rw [er8, er11] at hap
  have hq17 : Shp S15.1 S15.2.1 q := Fr.q fr14 hq7
  refine g_pop F dX1_roll_49 rfl ?_
  refine g_lconst (v := 0) F (by decide) dX1_roll_50 ?_
  refine g_lstore (L' := [(5, .long 0), (4, .int (nI (zN z k))), (3, .ref (q (10 * s + 2))), (0, .ref (q 83)), (1, .ref (q (10 * s))), (2, .int (nI k))]) F dX1_roll_51 (Nat.le_of_ble_eq_true rfl) rfl ?_
  refine g_iconst (v := 1) F (by decide) dX1_roll_53 ?_
  refine g_istore (L' := [(7, .int 1), (5, .long 0), (4, .int (nI (zN z k))), (3, .ref (q (10 * s + 2))), (0, .ref (q 83)), (1, .ref (q (10 * s))), (2, .int (nI k))]) F dX1_roll_54 (Nat.le_of_ble_eq_true rfl) rfl ?_
  have lp18 : ∀ (n9 : Nat) (j : Nat) (a : Int64) (S1 : PS), zN z k < j + n9 → (j ≤ zN z k) → (a = sumF (fun i => zSi z k i (i + 1)) j) → (Fr S S1 q [84]) → (Ar S1 q z) → (Ap S1 q z (zPx z k j) (zPy z k j)) → G Γ S1 0 0 56 [(7, .int (nI (j + 1))), (5, .long a), (4, .int (nI (zN z k))), (3, .ref (q (10 * s + 2))), (0, .ref (q 83)), (1, .ref (q (10 * s))), (2, .int (nI k))] [] := by
    intro n9
    induction n9 with
    | zero =>
      intro j a S1 hm9 hj ha hf haf hap
      exact absurd hm9 (by omega)
    | succ n9 ihlp18 =>
      intro j a S1 hm9 hj ha hf haf hap
      have hq19 : Shp S1.1 S1.2.1 q := Fr.q hf hq
      refine g_iload F 0 rfl dX1_roll_56 ?_
      refine g_iload F 2 rfl dX1_roll_58 ?_
      refine g_icmp_gt (t := 99) F dX1_roll_60 (by decide) (fun c20 => ?_) (fun c20 => ?_)
      · obtain rfl : j = zN z k := by
          rw [nI_ltI (by omega) (by omega)] at c20
          omega
        refine g_lload F 1 rfl dX1_roll_99 ?_
        refine g_lret F T ⟨_, rfl, ?_⟩ (Nat.le_of_ble_eq_true rfl) (Nat.le_of_ble_eq_true rfl) dX1_roll_101
        exact ⟨ha, hf⟩
      · have hj1 : j + 1 ≤ zN z k := by
          rw [nI_ltI (by omega) (by omega)] at c20
          omega
        refine g_lload F 1 rfl dX1_roll_63 ?_
        refine g_aload_n (k := 0) F 4 rfl dX1_roll_65 ?_
        refine gfX1_12 F (qi83 hq19) (qr83_0 hq19) dX1_roll_66 ?_
        refine g_aload_n (k := 3) F 3 rfl dX1_roll_69 ?_
        refine g_iload_n (k := 2) F 6 rfl dX1_roll_70 ?_
        refine g_iload F 0 rfl dX1_roll_71 ?_
        refine g_iload F 2 rfl dX1_roll_73 ?_
        refine g_callVN (host := "PolarPlanimeter") F (kX4_fineX Γ.1 S1 q hq19 s hs z hB (Cs.fr (s := s) (l := [84]) (by first | decide | omega) hf (by first | decide | (intro i hi h; simp at h; omega)) hc) k (by omega) ((j + 1)) (by omega)) okX4_fineX (qs2 hq19 hs) nwM41 ⟨(Nat.le_of_ble_eq_true rfl), (Nat.le_of_ble_eq_true rfl)⟩ rfl rfl (Nat.le_of_ble_eq_true rfl) ⟨(Nat.le_of_ble_eq_true rfl), (Nat.le_of_ble_eq_true rfl)⟩ dX1_roll_75 (toJ (fun r21 S22 h23 => ?_))
        obtain ⟨er21, rfl⟩ := h23
        refine g_aload_n (k := 3) F 3 rfl dX1_roll_78 ?_
        refine g_iload_n (k := 2) F 6 rfl dX1_roll_79 ?_
        refine g_iload F 0 rfl dX1_roll_80 ?_
        refine g_iload F 2 rfl dX1_roll_82 ?_
        refine g_callVN (host := "PolarPlanimeter") F (kX4_fineY Γ.1 S1 q hq19 s hs z hB (Cs.fr (s := s) (l := [84]) (by first | decide | omega) hf (by first | decide | (intro i hi h; simp at h; omega)) hc) k (by omega) ((j + 1)) (by omega)) okX4_fineY (qs2 hq19 hs) nwM42 ⟨(Nat.le_of_ble_eq_true rfl), (Nat.le_of_ble_eq_true rfl)⟩ rfl rfl (Nat.le_of_ble_eq_true rfl) ⟨(Nat.le_of_ble_eq_true rfl), (Nat.le_of_ble_eq_true rfl)⟩ dX1_roll_84 (toJ (fun r24 S25 h26 => ?_))
        obtain ⟨er24, rfl⟩ := h26
        refine g_callVN (host := "PolarPlanimeter") F (kX0_sweepTo Γ.1 S1 q hq19 z haf hB _ _ hap r21 r24 (by rw [er21]; exact (zP_b hB h0 hj1).1) (by rw [er24]; exact (zP_b hB h0 hj1).2) (by rw [er21, er24]; exact hr _ hj1)) okX0_sweepTo (qi84 hq19) nwM32 ⟨(Nat.le_of_ble_eq_true rfl), (Nat.le_of_ble_eq_true rfl)⟩ rfl rfl (Nat.le_of_ble_eq_true rfl) ⟨(Nat.le_of_ble_eq_true rfl), (Nat.le_of_ble_eq_true rfl)⟩ dX1_roll_87 (toJ (fun r27 S28 h29 => ?_))
        obtain ⟨er27, fr27, ha2, hp2⟩ := h29
        rw [er21, er24] at hp2
        rw [er21, er24] at er27
        have hq30 : Shp S28.1 S28.2.1 q := Fr.q fr27 hq19
        refine g_ladd F dX1_roll_90 ?_
        refine g_topl (fun x31 ex31 => ?_)
        refine g_lstore (L' := [(5, .long x31), (7, .int (nI (j + 1))), (4, .int (nI (zN z k))), (3, .ref (q (10 * s + 2))), (0, .ref (q 83)), (1, .ref (q (10 * s))), (2, .int (nI k))]) F dX1_roll_91 (Nat.le_of_ble_eq_true rfl) rfl ?_
        obtain ⟨x32, ex32⟩ : ∃ y9 : Int32, y9 = (nI (j + 1)) + 1 := ⟨_, rfl⟩
        refine g_iinc (k := 1) (v := x32) (L' := [(7, .int x32), (5, .long x31), (4, .int (nI (zN z k))), (3, .ref (q (10 * s + 2))), (0, .ref (q 83)), (1, .ref (q (10 * s))), (2, .int (nI k))]) F dX1_roll_93 rfl (by rw [ex32]; rfl) (Nat.le_of_ble_eq_true rfl) rfl ?_
        refine g_goto (t := 56) F dX1_roll_96 (by decide) ?_
        obtain rfl : x32 = nI ((j + 1) + 1) := (ex32.trans (nI_1 _))
        refine g_sub (L' := [(7, .int (nI ((j + 1) + 1))), (5, .long x31), (4, .int (nI (zN z k))), (3, .ref (q (10 * s + 2))), (0, .ref (q 83)), (1, .ref (q (10 * s))), (2, .int (nI k))]) [0, 1, 2, 3, 4, 5, 6] rfl ?_
        exact ihlp18 (j + 1) (x31) (S28) (by omega) (by omega) (by rw [ex31, ha, er27]; rfl) (Fr.tr (l := [84]) hf fr27 (by decide) (by decide)) ha2 hp2
  exact lp18 (zN z k + 1) 0 0 S15 (by omega) (by omega) rfl (Fr.tr (l := [84]) (Fr.tr (l := [84]) Fr.rf fr4 (by decide) (by decide)) fr14 (by decide) (by decide)) hah hap
set_option maxHeartbeats 4000000 in
set_option maxRecDepth 100000 in
theorem kX1_follow (g : Glo) (S : PS) (q : Nat → Nat) (hq : Shp S.1 S.2.1 q) (s : Nat) (hs : s < 8) (z : ZZ) (hB : Bz z) (hc : Cs S q s z) (k : Nat) (hk : k < nc z) (hr : zRk z k) (b : Bool) (a : Int64 × Int64) (hah : Ar S q z) (hap0 : Ap S q z (zPx z k (zPi z b k 0)) (zPy z k (zPi z b k 0))) (hw0 : Wh S q (512 * z 6) a.1 a.2) : Ct g mX1_follow 0 0 [.ref (q 83), .ref (q (10 * s + 2)), .int (nI k), .int (nI (zN z k)), .int (bI b)] S (pV9 (fun S' => Fr S S' q [84, 85] ∧ Ar S' q z ∧ Ap S' q z (zPx z k (zPi z b k (zN z k))) (zPy z k (zPi z b k (zN z k))) ∧ Wh S' q (512 * z 6) (zFo z b k (zN z k) a).1 (zFo z b k (zN z k) a).2)) := by
  refine Ct.of (by decide) (Nat.le_of_ble_eq_true rfl) (fun Γ hg F T => ?_)
  subst hg
  show G Γ S 0 0 0 [(0, .ref (q 83)), (1, .ref (q (10 * s + 2))), (2, .int (nI k)), (3, .int (nI (zN z k))), (4, .int (bI b))] []
  have hnc := (nc_e hB).2
  have h0 : 0 < nc z := by omega
  have bx0 := zX_b hB h0 k
  have bx1 := zX_b hB h0 (k + 1)
  have by0 := zY_b hB h0 k
  have by1 := zY_b hB h0 (k + 1)
  have hnx := nx_lt hk
  have hzn := zN_b hB h0 k
  refine g_iconst (v := 1) F (by decide) dX1_follow_0 ?_
  refine g_istore (L' := [(5, .int 1), (0, .ref (q 83)), (1, .ref (q (10 * s + 2))), (2, .int (nI k)), (3, .int (nI (zN z k))), (4, .int (bI b))]) F dX1_follow_1 (Nat.le_of_ble_eq_true rfl) rfl ?_
  have lp1 : ∀ (n9 : Nat) (j : Nat) (S1 : PS), zN z k < j + n9 → (j ≤ zN z k) → (Fr S S1 q [84, 85]) → (Ar S1 q z) → (Ap S1 q z (zPx z k (zPi z b k j)) (zPy z k (zPi z b k j))) → (Wh S1 q (512 * z 6) (zFo z b k j a).1 (zFo z b k j a).2) → G Γ S1 0 0 3 [(5, .int (nI (j + 1))), (0, .ref (q 83)), (1, .ref (q (10 * s + 2))), (2, .int (nI k)), (3, .int (nI (zN z k))), (4, .int (bI b))] [] := by
    intro n9
    induction n9 with
    | zero =>
      intro j S1 hm9 hj hf haf hap hw1
      exact absurd hm9 (by omega)
    | succ n9 ihlp1 =>
      intro j S1 hm9 hj hf haf hap hw1
      have hq2 : Shp S1.1 S1.2.1 q := Fr.q hf hq
      refine g_iload F 0 rfl dX1_follow_3 ?_
      refine g_iload_n (k := 3) F 4 rfl dX1_follow_5 ?_
      refine g_icmp_gt (t := 71) F dX1_follow_6 (by decide) (fun c3 => ?_) (fun c3 => ?_)
      · obtain rfl : j = zN z k := by
          rw [nI_ltI (by omega) (by omega)] at c3
          omega
        refine g_vret F T ⟨rfl, ?_⟩ (Nat.le_of_ble_eq_true rfl) (Nat.le_of_ble_eq_true rfl) dX1_follow_71
        exact ⟨hf, haf, hap, hw1⟩
      · have hj1 : j + 1 ≤ zN z k := by
          rw [nI_ltI (by omega) (by omega)] at c3
          omega
        have hpi := zPi_le (b := b) hj1
        refine g_iload F 5 rfl dX1_follow_9 ?_
        have jn5 : ∀ (w23 : Int32), w23 = nI (zPi z b k (j + 1)) → G Γ S1 0 0 23 [(5, .int (nI (j + 1))), (0, .ref (q 83)), (1, .ref (q (10 * s + 2))), (2, .int (nI k)), (3, .int (nI (zN z k))), (4, .int (bI b))] [.int w23] := by
          intro w23 hx
          refine g_rei (nI (zPi z b k (j + 1))) hx ?_
          refine g_istore (L' := [(6, .int (nI (zPi z b k (j + 1)))), (5, .int (nI (j + 1))), (0, .ref (q 83)), (1, .ref (q (10 * s + 2))), (2, .int (nI k)), (3, .int (nI (zN z k))), (4, .int (bI b))]) F dX1_follow_23 (Nat.le_of_ble_eq_true rfl) rfl ?_
          refine g_aload_n (k := 0) F 2 rfl dX1_follow_25 ?_
          refine gfX1_12 F (qi83 hq2) (qr83_0 hq2) dX1_follow_26 ?_
          refine g_aload_n (k := 1) F 3 rfl dX1_follow_29 ?_
          refine g_iload_n (k := 2) F 4 rfl dX1_follow_30 ?_
          refine g_iload F 0 rfl dX1_follow_31 ?_
          refine g_iload_n (k := 3) F 5 rfl dX1_follow_33 ?_
          refine g_callVN (host := "PolarPlanimeter") F (kX4_fineX Γ.1 S1 q hq2 s hs z hB (Cs.fr (s := s) (l := [84, 85]) (by first | decide | omega) hf (by first | decide | (intro i hi h; simp at h; omega)) hc) k (by omega) ((zPi z b k (j + 1))) (by omega)) okX4_fineX (qs2 hq2 hs) nwM41 ⟨(Nat.le_of_ble_eq_true rfl), (Nat.le_of_ble_eq_true rfl)⟩ rfl rfl (Nat.le_of_ble_eq_true rfl) ⟨(Nat.le_of_ble_eq_true rfl), (Nat.le_of_ble_eq_true rfl)⟩ dX1_follow_34 (toJ (fun r6 S7 h8 => ?_))
          obtain ⟨er6, rfl⟩ := h8
          refine g_aload_n (k := 1) F 3 rfl dX1_follow_37 ?_
          refine g_iload_n (k := 2) F 4 rfl dX1_follow_38 ?_
          refine g_iload F 0 rfl dX1_follow_39 ?_
          refine g_iload_n (k := 3) F 5 rfl dX1_follow_41 ?_
          refine g_callVN (host := "PolarPlanimeter") F (kX4_fineY Γ.1 S1 q hq2 s hs z hB (Cs.fr (s := s) (l := [84, 85]) (by first | decide | omega) hf (by first | decide | (intro i hi h; simp at h; omega)) hc) k (by omega) ((zPi z b k (j + 1))) (by omega)) okX4_fineY (qs2 hq2 hs) nwM42 ⟨(Nat.le_of_ble_eq_true rfl), (Nat.le_of_ble_eq_true rfl)⟩ rfl rfl (Nat.le_of_ble_eq_true rfl) ⟨(Nat.le_of_ble_eq_true rfl), (Nat.le_of_ble_eq_true rfl)⟩ dX1_follow_42 (toJ (fun r9 S10 h11 => ?_))
          obtain ⟨er9, rfl⟩ := h11
          refine g_callVN (host := "PolarPlanimeter") F (kX0_sweepTo Γ.1 S1 q hq2 z haf hB _ _ hap r6 r9 (by rw [er6]; exact (zP_b hB h0 hpi).1) (by rw [er9]; exact (zP_b hB h0 hpi).2) (by rw [er6, er9]; exact hr _ hpi)) okX0_sweepTo (qi84 hq2) nwM32 ⟨(Nat.le_of_ble_eq_true rfl), (Nat.le_of_ble_eq_true rfl)⟩ rfl rfl (Nat.le_of_ble_eq_true rfl) ⟨(Nat.le_of_ble_eq_true rfl), (Nat.le_of_ble_eq_true rfl)⟩ dX1_follow_45 (toJ (fun r12 S13 h14 => ?_))
          obtain ⟨er12, fr12, ha2, hp2⟩ := h14
          rw [er6, er9] at hp2
          rw [er6, er9] at er12
          have hq15 : Shp S13.1 S13.2.1 q := Fr.q fr12 hq2
          refine g_lstore (L' := [(7, .long r12), (6, .int (nI (zPi z b k (j + 1)))), (5, .int (nI (j + 1))), (0, .ref (q 83)), (1, .ref (q (10 * s + 2))), (2, .int (nI k)), (3, .int (nI (zN z k))), (4, .int (bI b))]) F dX1_follow_48 (Nat.le_of_ble_eq_true rfl) rfl ?_
          refine g_aload_n (k := 0) F 3 rfl dX1_follow_50 ?_
          refine gfX1_21 F (qi83 hq15) (qr83_1 hq15) dX1_follow_51 ?_
          refine g_lload F 0 rfl dX1_follow_54 ?_
          refine g_aload_n (k := 1) F 4 rfl dX1_follow_56 ?_
          refine gfX1_132 F (qs2 hq15 hs) (qt2_3 hq15 hs) dX1_follow_57 ?_
          refine g_iload_n (k := 2) F 5 rfl dX1_follow_60 ?_
          refine g_ialde ((fr12.2.2 (10 * s + 5) (by omega) (by first | decide | (simp [-List.length_tail]; done) | (simp [-List.length_tail]; omega))).1.trans (hf.2.2 (10 * s + 5) (by omega) (by simp; omega)).1) (j := k) F (qs5 hq15 hs) rfl (by rw [(qm5 hq15 hs)]; omega) (by rw [(qm5 hq15 hs)]; decide) dX1_follow_61 ?_
          refine g_callVN (host := "PolarPlanimeter") F (kX8_turn Γ.1 S13 q hq15 _ _ _ (Wh.fr fr12 (by decide) hw1) r12 ((pI S (q (10 * s + 5))) k) _ (hc.W hk) (hB.2.2.2.2.2.1 k hk).2.2) okX8_turn (qi85 hq15) nwM37 ⟨(Nat.le_of_ble_eq_true rfl), (Nat.le_of_ble_eq_true rfl)⟩ rfl rfl (Nat.le_of_ble_eq_true rfl) ⟨(Nat.le_of_ble_eq_true rfl), (Nat.le_of_ble_eq_true rfl)⟩ dX1_follow_62 (toV (fun S17 h18 => ?_))
          obtain ⟨fr16, hw2⟩ := h18
          have ha3 := Ar.fr fr16 (by decide) ha2
          have hp3 := Ap.fr fr16 (by decide) hp2
          have hq19 : Shp S17.1 S17.2.1 q := Fr.q fr16 hq15
          obtain ⟨x20, ex20⟩ : ∃ y9 : Int32, y9 = (nI (j + 1)) + 1 := ⟨_, rfl⟩
          refine g_iinc (k := 2) (v := x20) (L' := [(5, .int x20), (7, .long r12), (6, .int (nI (zPi z b k (j + 1)))), (0, .ref (q 83)), (1, .ref (q (10 * s + 2))), (2, .int (nI k)), (3, .int (nI (zN z k))), (4, .int (bI b))]) F dX1_follow_65 rfl (by rw [ex20]; rfl) (Nat.le_of_ble_eq_true rfl) rfl ?_
          refine g_goto (t := 3) F dX1_follow_68 (by decide) ?_
          obtain rfl : x20 = nI ((j + 1) + 1) := (ex20.trans (nI_1 _))
          refine g_sub (L' := [(5, .int (nI ((j + 1) + 1))), (0, .ref (q 83)), (1, .ref (q (10 * s + 2))), (2, .int (nI k)), (3, .int (nI (zN z k))), (4, .int (bI b))]) [0, 3, 4, 5, 6, 7] rfl ?_
          exact ihlp1 (j + 1) (S17) (by omega) (by omega) (Fr.tr (l := [84, 85]) (Fr.tr (l := [84, 85]) hf fr12 (by decide) (by decide)) fr16 (by decide) (by decide)) ha3 hp3 (by rw [er12, zSi_d, zFs_e] at hw2; exact hw2)
        refine g_if_eq (t := 21) F dX1_follow_11 (by decide) (fun c4 => ?_) (fun c4 => ?_)
        · have hb9 := c4
          refine g_iload F 0 rfl dX1_follow_21 ?_
          exact jn5 ((nI (j + 1))) (congrArg nI (pi_f (bI_0 hb9)).symm)
        · have hb9 := c4
          refine g_iload_n (k := 3) F 4 rfl dX1_follow_14 ?_
          refine g_iload F 0 rfl dX1_follow_15 ?_
          refine g_isub F dX1_follow_17 ?_
          refine g_rei (nI ((zN z k) - (j + 1))) (nsub rfl rfl (by omega)) ?_
          refine g_goto (t := 23) F dX1_follow_18 (by decide) ?_
          exact jn5 ((nI ((zN z k) - (j + 1)))) (congrArg nI (pi_t (bI_1 hb9)).symm)
  exact lp1 (zN z k + 1) 0 S (by omega) (by omega) Fr.rf hah hap0 hw0
set_option maxHeartbeats 4000000 in
set_option maxRecDepth 100000 in
theorem kX1_sum (g : Glo) (S : PS) (q : Nat → Nat) (hq : Shp S.1 S.2.1 q) (s : Nat) (hs : s < 8) (z : ZZ) (hB : Bz z) (hc : Cs S q s z) (c : Nat) (hcn : c < nc z) (b : Bool) (hra : zRa z) : Ct g mX1_sum 0 0 [.ref (q 83), .ref (q (10 * s)), .int (nI c), .int (bI b)] S (pJ9 (fun r S' => r = zSum z c b ∧ Fr S S' q [84, 85])) := by
  refine Ct.of (by decide) (Nat.le_of_ble_eq_true rfl) (fun Γ hg F T => ?_)
  subst hg
  show G Γ S 0 0 0 [(0, .ref (q 83)), (1, .ref (q (10 * s))), (2, .int (nI c)), (3, .int (bI b))] []
  have hnc := (nc_e hB).2
  have h0 : 0 < nc z := by omega
  refine g_aload_n (k := 1) F 1 rfl dX1_sum_0 ?_
  refine gfX1_29 F (qs0 hq hs) (qt0_4 hq hs) dX1_sum_1 ?_
  refine g_astore (L' := [(4, .ref (q (10 * s + 2))), (0, .ref (q 83)), (1, .ref (q (10 * s))), (2, .int (nI c)), (3, .int (bI b))]) F dX1_sum_4 (Nat.le_of_ble_eq_true rfl) rfl ?_
  refine g_aload_n (k := 0) F 1 rfl dX1_sum_6 ?_
  refine gfX1_12 F (qi83 hq) (qr83_0 hq) dX1_sum_7 ?_
  refine g_aload_n (k := 1) F 2 rfl dX1_sum_10 ?_
  refine g_callVN (host := "PolarPlanimeter") F (kX0_fit Γ.1 S q hq s hs z hB hc) okX0_fit (qi84 hq) nwM39 ⟨(Nat.le_of_ble_eq_true rfl), (Nat.le_of_ble_eq_true rfl)⟩ rfl rfl (Nat.le_of_ble_eq_true rfl) ⟨(Nat.le_of_ble_eq_true rfl), (Nat.le_of_ble_eq_true rfl)⟩ dX1_sum_11 (toV (fun S2 h3 => ?_))
  obtain ⟨fr1, haf⟩ := h3
  have hq4 : Shp S2.1 S2.2.1 q := Fr.q fr1 hq
  refine g_aload_n (k := 0) F 1 rfl dX1_sum_14 ?_
  refine gfX1_12 F (qi83 hq4) (qr83_0 hq4) dX1_sum_15 ?_
  refine g_ldc2 F mw435 dX1_sum_18 ?_
  refine g_aload F 0 rfl dX1_sum_21 ?_
  refine gfX1_108 F (qs2 hq4 hs) (qt2_1 hq4 hs) dX1_sum_23 ?_
  refine g_iload_n (k := 2) F 3 rfl dX1_sum_26 ?_
  refine g_ialde ((fr1.2.2 (10 * s + 3) (by omega) (by first | decide | (simp [-List.length_tail]; done) | (simp [-List.length_tail]; omega))).1.trans rfl) (j := c) F (qs3 hq4 hs) rfl (by rw [(qm3 hq4 hs)]; omega) (by rw [(qm3 hq4 hs)]; decide) dX1_sum_27 ?_
  refine g_i2l F dX1_sum_28 ?_
  refine g_lmul F dX1_sum_29 ?_
  refine g_ldc2 F mw435 dX1_sum_30 ?_
  refine g_aload F 0 rfl dX1_sum_33 ?_
  refine gfX1_111 F (qs2 hq4 hs) (qt2_2 hq4 hs) dX1_sum_35 ?_
  refine g_iload_n (k := 2) F 3 rfl dX1_sum_38 ?_
  refine g_ialde ((fr1.2.2 (10 * s + 4) (by omega) (by first | decide | (simp [-List.length_tail]; done) | (simp [-List.length_tail]; omega))).1.trans rfl) (j := c) F (qs4 hq4 hs) rfl (by rw [(qm4 hq4 hs)]; omega) (by rw [(qm4 hq4 hs)]; decide) dX1_sum_39 ?_
  refine g_i2l F dX1_sum_40 ?_
  refine g_lmul F dX1_sum_41 ?_
  refine g_callVN (host := "PolarPlanimeter") F (kX0_place Γ.1 S2 q hq4 z haf hB (16 * (((pI S (q (10 * s + 3))) c)).toInt64) (16 * (((pI S (q (10 * s + 4))) c)).toInt64) (by rw [hc.X hcn, ← p0_e.1]; exact (zP_b hB h0 (Nat.zero_le _)).1) (by rw [hc.Y hcn, ← (p0_e (k := c)).2]; exact (zP_b hB h0 (Nat.zero_le _)).2)) okX0_place (qi84 hq4) nwM31 ⟨(Nat.le_of_ble_eq_true rfl), (Nat.le_of_ble_eq_true rfl)⟩ rfl rfl (Nat.le_of_ble_eq_true rfl) ⟨(Nat.le_of_ble_eq_true rfl), (Nat.le_of_ble_eq_true rfl)⟩ dX1_sum_42 (toI (fun r5 S6 h7 => ?_))
  obtain ⟨fr5, hah, pr5⟩ := h7
  have hap := w1p pr5 (by rw [hc.X hcn, hc.Y hcn, ← (p0_e (k := c)).1, ← (p0_e (k := c)).2]; exact hra c hcn 0 (Nat.zero_le _))
  rw [hc.X hcn, hc.Y hcn, ← (mc_0 (b := b) hcn).1, ← (mc_0 (b := b) hcn).2] at hap
  have hq8 : Shp S6.1 S6.2.1 q := Fr.q fr5 hq4
  refine g_pop F dX1_sum_45 rfl ?_
  refine g_aload_n (k := 0) F 1 rfl dX1_sum_46 ?_
  refine gfX1_21 F (qi83 hq8) (qr83_1 hq8) dX1_sum_47 ?_
  refine g_aload_n (k := 1) F 2 rfl dX1_sum_50 ?_
  refine gfX1_61 F (qs0 hq8 hs) (qt0_3 hq8 hs) dX1_sum_51 ?_
  refine g_iconst (v := 4) F (by decide) dX1_sum_54 ?_
  refine g_ialde ((fr5.2.2 (10 * s + 1) (by omega) (by first | decide | (simp [-List.length_tail]; done) | (simp [-List.length_tail]; omega))).1.trans ((fr1.2.2 (10 * s + 1) (by omega) (by first | decide | (simp [-List.length_tail]; done) | (simp [-List.length_tail]; omega))).1.trans rfl)) (j := 4) F (qs1 hq8 hs) rfl (by rw [(qm1 hq8 hs)]; omega) (by rw [(qm1 hq8 hs)]; decide) dX1_sum_55 ?_
  refine g_callVN (host := "PolarPlanimeter") F (kX8_start Γ.1 S6 q hq8 ((pI S (q (10 * s + 1))) 4)) okX8_start (qi85 hq8) nwM34 ⟨(Nat.le_of_ble_eq_true rfl), (Nat.le_of_ble_eq_true rfl)⟩ rfl rfl (Nat.le_of_ble_eq_true rfl) ⟨(Nat.le_of_ble_eq_true rfl), (Nat.le_of_ble_eq_true rfl)⟩ dX1_sum_56 (toV (fun S10 h11 => ?_))
  obtain ⟨fr9, hw0⟩ := h11
  have ha3 := Ar.fr fr9 (by decide) hah
  have hp3 := Ap.fr fr9 (by decide) hap
  rw [show _ = z 6 from hc.st (i := 4) (by decide)] at hw0
  have hq12 : Shp S10.1 S10.2.1 q := Fr.q fr9 hq8
  refine g_iload_n (k := 3) F 4 rfl dX1_sum_59 ?_
  have jn14 : ∀ (w73 : Int32), w73 = nI (zSk (nc z) c b 0) → G Γ S10 0 0 73 [(4, .ref (q (10 * s + 2))), (0, .ref (q 83)), (1, .ref (q (10 * s))), (2, .int (nI c)), (3, .int (bI b))] [.int w73] := by
    intro w73 hx
    refine g_rei (nI (zSk (nc z) c b 0)) hx ?_
    refine g_istore (L' := [(5, .int (nI (zSk (nc z) c b 0))), (4, .ref (q (10 * s + 2))), (0, .ref (q 83)), (1, .ref (q (10 * s))), (2, .int (nI c)), (3, .int (bI b))]) F dX1_sum_73 (Nat.le_of_ble_eq_true rfl) rfl ?_
    refine g_iconst (v := 0) F (by decide) dX1_sum_75 ?_
    refine g_istore (L' := [(6, .int 0), (5, .int (nI (zSk (nc z) c b 0))), (4, .ref (q (10 * s + 2))), (0, .ref (q 83)), (1, .ref (q (10 * s))), (2, .int (nI c)), (3, .int (bI b))]) F dX1_sum_76 (Nat.le_of_ble_eq_true rfl) rfl ?_
    have lp15 : ∀ (n9 : Nat) (i : Nat) (S1 : PS), nc z < i + n9 → (i ≤ nc z) → (Fr S S1 q [84, 85]) → (Ar S1 q z) → (Ap S1 q z (16 * zX z (zMc z c b i)) (16 * zY z (zMc z c b i))) → (Wh S1 q (512 * z 6) (zSu z c b i).1 (zSu z c b i).2) → G Γ S1 0 0 78 [(6, .int (nI i)), (5, .int (nI (zSk (nc z) c b i))), (4, .ref (q (10 * s + 2))), (0, .ref (q 83)), (1, .ref (q (10 * s))), (2, .int (nI c)), (3, .int (bI b))] [] := by
      intro n9
      induction n9 with
      | zero =>
        intro i S1 hm9 hi hf haf hap hw1
        exact absurd hm9 (by omega)
      | succ n9 ihlp15 =>
        intro i S1 hm9 hi hf haf hap hw1
        have hq16 : Shp S1.1 S1.2.1 q := Fr.q hf hq
        refine g_iload F 0 rfl dX1_sum_78 ?_
        refine g_aload F 2 rfl dX1_sum_80 ?_
        refine gfX1_35e F (qs2 hq16 hs) (Cs.fr (s := s) (l := [84, 85]) hs hf (by intro i hi h; simp at h; omega) hc).n dX1_sum_82 ?_
        refine g_icmp_ge (t := 139) F dX1_sum_85 (by decide) (fun c17 => ?_) (fun c17 => ?_)
        · obtain rfl : i = nc z := by
            rw [nI_leI (by omega) (by omega)] at c17
            omega
          refine g_iload_n (k := 3) F 6 rfl dX1_sum_139 ?_
          refine g_if_eq (t := 154) F dX1_sum_140 (by decide) (fun c18 => ?_) (fun c18 => ?_)
          · have hb9 := bI_0 c18
            refine g_aload_n (k := 0) F 3 rfl dX1_sum_154 ?_
            refine gfX1_21 F (qi83 hq16) (qr83_1 hq16) dX1_sum_155 ?_
            refine gfX1_129 F (qi85 hq16) dX1_sum_158 ?_
            refine g_lret F T ⟨_, rfl, ?_⟩ (Nat.le_of_ble_eq_true rfl) (Nat.le_of_ble_eq_true rfl) dX1_sum_161
            exact ⟨by rw [hw1.2.2]; subst hb9; rfl, hf⟩
          · have hb9 := bI_1 c18
            refine g_aload_n (k := 0) F 3 rfl dX1_sum_143 ?_
            refine gfX1_21 F (qi83 hq16) (qr83_1 hq16) dX1_sum_144 ?_
            refine gfX1_129 F (qi85 hq16) dX1_sum_147 ?_
            refine g_lneg F dX1_sum_150 ?_
            refine g_goto (t := 161) F dX1_sum_151 (by decide) ?_
            refine g_lret F T ⟨_, rfl, ?_⟩ (Nat.le_of_ble_eq_true rfl) (Nat.le_of_ble_eq_true rfl) dX1_sum_161
            exact ⟨by rw [hw1.2.2]; subst hb9; rfl, hf⟩
        · have hi9 : i < nc z := by
            rw [nI_leI (by omega) (by omega)] at c17
            omega
          have hk9 := sk_lt (c := c) (b := b) h0 i
          refine g_aload_n (k := 0) F 3 rfl dX1_sum_88 ?_
          refine g_aload F 2 rfl dX1_sum_89 ?_
          refine g_iload F 1 rfl dX1_sum_91 ?_
          refine g_aload F 2 rfl dX1_sum_93 ?_
          refine g_iload F 1 rfl dX1_sum_95 ?_
          refine g_aload_n (k := 1) F 4 rfl dX1_sum_97 ?_
          refine gfX1_61 F (qs0 hq16 hs) (qt0_3 hq16 hs) dX1_sum_98 ?_
          refine g_iconst (v := 2) F (by decide) dX1_sum_101 ?_
          refine g_ialde (hf.2.2 (10 * s + 1) (by omega) (by simp; omega)).1 (j := 2) F (qs1 hq16 hs) rfl (by rw [(qm1 hq16 hs)]; omega) (by rw [(qm1 hq16 hs)]; decide) dX1_sum_102 ?_
          refine g_callVN (host := "PolarPlanimeter") F (kX4_steps Γ.1 S1 q hq16 s hs z hB (Cs.fr (s := s) (l := [84, 85]) (by first | decide | omega) hf (by first | decide | (intro i hi h; simp at h; omega)) hc) ((zSk (nc z) c b i)) (by omega) ((pI S (q (10 * s + 1))) 2) (hc.st (i := 2) (by decide))) okX4_steps (qs2 hq16 hs) nwM40 ⟨(Nat.le_of_ble_eq_true rfl), (Nat.le_of_ble_eq_true rfl)⟩ rfl rfl (Nat.le_of_ble_eq_true rfl) ⟨(Nat.le_of_ble_eq_true rfl), (Nat.le_of_ble_eq_true rfl)⟩ dX1_sum_103 (toI (fun r19 S20 h21 => ?_))
          obtain ⟨rfl, rfl⟩ := h21
          refine g_iload_n (k := 3) F 6 rfl dX1_sum_106 ?_
          refine g_callV F (kX1_follow Γ.1 S1 q hq16 s hs z hB (Cs.fr (s := s) (l := [84, 85]) (by first | decide | omega) hf (by first | decide | (intro i hi h; simp at h; omega)) hc) (zSk (nc z) c b i) hk9 (hra _ hk9) b (zSu z c b i) haf (ap_start hB h0 hap) hw1) okX1_follow (qi83 hq16) mw446 ⟨(Nat.le_of_ble_eq_true rfl), (Nat.le_of_ble_eq_true rfl)⟩ rfl rfl (Nat.le_of_ble_eq_true rfl) ⟨(Nat.le_of_ble_eq_true rfl), (Nat.le_of_ble_eq_true rfl)⟩ dX1_sum_107 (toV (fun S23 h24 => ?_))
          obtain ⟨fr22, ha4, hp4, hw4⟩ := h24
          have hq25 : Shp S23.1 S23.2.1 q := Fr.q fr22 hq16
          refine g_iload_n (k := 3) F 6 rfl dX1_sum_110 ?_
          have jn27 : ∀ (w131 : Int32), w131 = nI (zSk (nc z) c b (i + 1)) → G Γ S23 0 0 131 [(6, .int (nI i)), (5, .int (nI (zSk (nc z) c b i))), (4, .ref (q (10 * s + 2))), (0, .ref (q 83)), (1, .ref (q (10 * s))), (2, .int (nI c)), (3, .int (bI b))] [.int w131] := by
            intro w131 hx
            refine g_rei (nI (zSk (nc z) c b (i + 1))) hx ?_
            refine g_istore (L' := [(5, .int (nI (zSk (nc z) c b (i + 1)))), (6, .int (nI i)), (4, .ref (q (10 * s + 2))), (0, .ref (q 83)), (1, .ref (q (10 * s))), (2, .int (nI c)), (3, .int (bI b))]) F dX1_sum_131 (Nat.le_of_ble_eq_true rfl) rfl ?_
            obtain ⟨x28, ex28⟩ : ∃ y9 : Int32, y9 = (nI i) + 1 := ⟨_, rfl⟩
            refine g_iinc (k := 1) (v := x28) (L' := [(6, .int x28), (5, .int (nI (zSk (nc z) c b (i + 1)))), (4, .ref (q (10 * s + 2))), (0, .ref (q 83)), (1, .ref (q (10 * s))), (2, .int (nI c)), (3, .int (bI b))]) F dX1_sum_133 rfl (by rw [ex28]; rfl) (Nat.le_of_ble_eq_true rfl) rfl ?_
            refine g_goto (t := 78) F dX1_sum_136 (by decide) ?_
            obtain rfl : x28 = nI (i + 1) := (ex28.trans (nI_1 _))
            refine g_sub (L' := [(6, .int (nI (i + 1))), (5, .int (nI (zSk (nc z) c b (i + 1)))), (4, .ref (q (10 * s + 2))), (0, .ref (q 83)), (1, .ref (q (10 * s))), (2, .int (nI c)), (3, .int (bI b))]) [0, 1, 2, 3, 4, 5, 6] rfl ?_
            exact ihlp15 (i + 1) (S23) (by omega) (by omega) (Fr.tr (l := [84, 85]) hf fr22 (by decide) (by decide)) ha4 (ap_end hB h0 hcn hi9 hp4) hw4
          refine g_if_eq (t := 124) F dX1_sum_111 (by decide) (fun c26 => ?_) (fun c26 => ?_)
          · have hb9 := c26
            refine g_aload F 2 rfl dX1_sum_124 ?_
            refine g_iload F 1 rfl dX1_sum_126 ?_
            refine g_callVN (host := "PolarPlanimeter") F (kX4_next Γ.1 S23 q hq25 s hs (nc z) ((zSk (nc z) c b i)) (nc_e hB).2 (by omega) (Cs.fr (s := s) (l := [84, 85]) (by first | decide | omega) (Fr.tr (l := [84, 85]) hf fr22 (by decide) (by decide)) (by first | decide | (intro i hi h; simp at h; omega)) hc).n) okX4_next (qs2 hq25 hs) nwM36 ⟨(Nat.le_of_ble_eq_true rfl), (Nat.le_of_ble_eq_true rfl)⟩ rfl rfl (Nat.le_of_ble_eq_true rfl) ⟨(Nat.le_of_ble_eq_true rfl), (Nat.le_of_ble_eq_true rfl)⟩ dX1_sum_128 (toI (fun r29 S30 h31 => ?_))
            obtain ⟨rfl, rfl⟩ := h31
            exact jn27 ((nI (nx (nc z) ((zSk (nc z) c b i))))) (by rw [sk_s hcn hi9, bI_0 hb9]; rfl)
          · have hb9 := c26
            refine g_aload F 2 rfl dX1_sum_114 ?_
            refine g_iload F 1 rfl dX1_sum_116 ?_
            refine g_callVN (host := "PolarPlanimeter") F (kX4_previous Γ.1 S23 q hq25 s hs z hB (Cs.fr (s := s) (l := [84, 85]) (by first | decide | omega) (Fr.tr (l := [84, 85]) hf fr22 (by decide) (by decide)) (by first | decide | (intro i hi h; simp at h; omega)) hc) ((zSk (nc z) c b i)) (by omega)) okX4_previous (qs2 hq25 hs) nwM35 ⟨(Nat.le_of_ble_eq_true rfl), (Nat.le_of_ble_eq_true rfl)⟩ rfl rfl (Nat.le_of_ble_eq_true rfl) ⟨(Nat.le_of_ble_eq_true rfl), (Nat.le_of_ble_eq_true rfl)⟩ dX1_sum_118 (toI (fun r32 S33 h34 => ?_))
            obtain ⟨rfl, rfl⟩ := h34
            refine g_goto (t := 131) F dX1_sum_121 (by decide) ?_
            exact jn27 ((nI (pv (nc z) ((zSk (nc z) c b i))))) (by rw [sk_s hcn hi9, bI_1 hb9]; rfl)
    exact lp15 (nc z + 1) 0 S10 (by omega) (by omega) (Fr.tr (l := [84, 85]) (Fr.tr (l := [84, 85]) (Fr.tr (l := [84, 85]) Fr.rf fr1 (by decide) (by decide)) fr5 (by decide) (by decide)) fr9 (by decide) (by decide)) ha3 hp3 hw0
  refine g_if_eq (t := 72) F dX1_sum_60 (by decide) (fun c13 => ?_) (fun c13 => ?_)
  · have hb9 := c13
    refine g_iload_n (k := 2) F 3 rfl dX1_sum_72 ?_
    exact jn14 ((nI c)) (by rw [sk_0 hcn, bI_0 hb9]; rfl)
  · have hb9 := c13
    refine g_aload F 0 rfl dX1_sum_63 ?_
    refine g_iload_n (k := 2) F 3 rfl dX1_sum_65 ?_
    refine g_callVN (host := "PolarPlanimeter") F (kX4_previous Γ.1 S10 q hq12 s hs z hB (Cs.fr (s := s) (l := [84, 85]) (by first | decide | omega) (Fr.tr (l := [84, 85]) (Fr.tr (l := [84, 85]) (Fr.tr (l := [84, 85]) Fr.rf fr1 (by decide) (by decide)) fr5 (by decide) (by decide)) fr9 (by decide) (by decide)) (by first | decide | (intro i hi h; simp at h; omega)) hc) c (by omega)) okX4_previous (qs2 hq12 hs) nwM35 ⟨(Nat.le_of_ble_eq_true rfl), (Nat.le_of_ble_eq_true rfl)⟩ rfl rfl (Nat.le_of_ble_eq_true rfl) ⟨(Nat.le_of_ble_eq_true rfl), (Nat.le_of_ble_eq_true rfl)⟩ dX1_sum_66 (toI (fun r35 S36 h37 => ?_))
    obtain ⟨rfl, rfl⟩ := h37
    refine g_goto (t := 73) F dX1_sum_69 (by decide) ?_
    exact jn14 ((nI (pv (nc z) c))) (by rw [sk_0 hcn, bI_1 hb9]; rfl)
