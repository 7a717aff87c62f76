set_option maxHeartbeats 4000000 in
set_option maxRecDepth 100000 in
theorem kX10_layMean (g : Glo) (S : PS) (q : Nat → Nat) (hq : Shp S.1 S.2.1 q) (z : ZZ) (hz : pJ S (q 95) = z) (hB : Bz z) : Ct g mX10_layMean 0 0 [.ref (q 94)] S (pV9 (fun S' => Fm S S' q [] ∧ ∀ j, j < 12 → pI S' (q 98) j = bI (zOut z j))) := by
  refine Ct.of (by decide) (Nat.le_of_ble_eq_true rfl) (fun Γ hg F T => ?_)
  subst hg
  show G Γ S 0 0 0 [(0, .ref (q 94))] []
  have hnr := (nr_e hB).2
  refine g_iconst (v := 0) F (by decide) dX10_layMean_0 ?_
  refine g_istore_n (k := 1) (L' := [(1, .int 0), (0, .ref (q 94))]) F dX10_layMean_1 (Nat.le_of_ble_eq_true rfl) rfl ?_
  have lp1 : ∀ (n9 : Nat) (i : Nat) (S1 : PS), 12 < i + n9 → (i ≤ 12) → (∀ j, j < i → pI S1 (q 98) j = 0) → (Fm S S1 q []) → G Γ S1 0 0 2 [(1, .int (nI i)), (0, .ref (q 94))] [] := by
    intro n9
    induction n9 with
    | zero =>
      intro i S1 hm9 hi h0 hf
      exact absurd hm9 (by omega)
    | succ n9 ihlp1 =>
      intro i S1 hm9 hi h0 hf
      have hq2 : Shp S1.1 S1.2.1 q := Fm.q hf hq
      refine g_iload_n (k := 1) F 0 rfl dX10_layMean_2 ?_
      refine g_bipush (v := 12) F (by decide) dX10_layMean_3 ?_
      refine g_icmp_ge (t := 21) F dX10_layMean_5 (by decide) (fun c3 => ?_) (fun c3 => ?_)
      · have hi9 : 12 ≤ i := by rw [show (12 : Int32) = nI 12 from rfl, nI_leI (by omega) (by omega)] at c3; exact c3
        refine g_iconst (v := 1) F (by decide) dX10_layMean_21 ?_
        refine g_istore_n (k := 1) (L' := [(1, .int 1), (0, .ref (q 94))]) F dX10_layMean_22 (Nat.le_of_ble_eq_true rfl) rfl ?_
        have lp4 : ∀ (n9 : Nat) (f : Nat) (e : Nat) (g1 : Int32) (T1 : PS) (out : Nat → Bool), f + e < n9 → (g1 = nI e) → (∀ j, j < 12 → pI T1 (q 98) j = bI (out j)) → ((e = 1 ∧ zOut z = lmF (zAr z) (z 7) (nr z) f out ∧ lfF out (nr z) ≤ f) ∨ (e = 0 ∧ zOut z = out)) → (Fm S T1 q []) → G Γ T1 0 0 23 [(1, .int g1), (0, .ref (q 94))] [] := by
          intro n9
          induction n9 with
          | zero =>
            intro f e g1 T1 out hm9 hg0 ho1 hg hf1
            exact absurd hm9 (by omega)
          | succ n9 ihlp4 =>
            intro f e g1 T1 out hm9 hg0 ho1 hg hf1
            have hq5 : Shp T1.1 T1.2.1 q := Fm.q hf1 hq
            refine g_iload_n (k := 1) F 0 rfl dX10_layMean_23 ?_
            refine g_if_eq (t := 148) F dX10_layMean_24 (by decide) (fun c6 => ?_) (fun c6 => ?_)
            · have hE : zOut z = out := by rcases hg with ⟨e1, _⟩ | ⟨_, e1⟩; rw [hg0, e1] at c6; exact absurd c6 (by decide); exact e1
              refine g_vret F T ⟨rfl, ?_⟩ (Nat.le_of_ble_eq_true rfl) (Nat.le_of_ble_eq_true rfl) dX10_layMean_148
              exact ⟨hf1, by rw [hE]; exact ho1⟩
            · obtain ⟨he1, hE, hlf⟩ : e = 1 ∧ zOut z = lmF (zAr z) (z 7) (nr z) f out ∧ lfF out (nr z) ≤ f := by rcases hg with h | ⟨h, _⟩; exact h; rw [hg0, h] at c6; exact absurd rfl c6
              refine g_aload_n (k := 0) F 1 rfl dX10_layMean_27 ?_
              refine g_callV F (kX10_left Γ.1 _ q hq5 z ((hf1.1.2.2 (95) (by decide) (by decide)).2.trans hz) hB out ho1) okX10_left (qi94 hq5) mw818 ⟨(Nat.le_of_ble_eq_true rfl), (Nat.le_of_ble_eq_true rfl)⟩ rfl rfl (Nat.le_of_ble_eq_true rfl) ⟨(Nat.le_of_ble_eq_true rfl), (Nat.le_of_ble_eq_true rfl)⟩ dX10_layMean_28 (toI (fun r7 S8 h9 => ?_))
              obtain ⟨rfl, rfl⟩ := h9
              refine g_iconst (v := 2) F (by decide) dX10_layMean_31 ?_
              refine g_icmp_le (t := 148) F dX10_layMean_32 (by decide) (fun c10 => ?_) (fun c10 => ?_)
              · have hlf2 : ¬ 2 < lfF out (nr z) := by have := lfF_le out (nr z); rw [show (2 : Int32) = nI 2 from rfl, nI_leI (by omega) (by omega)] at c10; omega
                refine g_vret F T ⟨rfl, ?_⟩ (Nat.le_of_ble_eq_true rfl) (Nat.le_of_ble_eq_true rfl) dX10_layMean_148
                exact ⟨hf1, by rw [hE, lm_stop hlf2]; exact ho1⟩
              · have hlf2 : 2 < lfF out (nr z) := by have := lfF_le out (nr z); rw [show (2 : Int32) = nI 2 from rfl, nI_leI (by omega) (by omega)] at c10; omega
                refine g_aload_n (k := 0) F 1 rfl dX10_layMean_35 ?_
                refine g_callV F (kX10_middle Γ.1 _ q hq5 z ((hf1.1.2.2 (95) (by decide) (by decide)).2.trans hz) hB out ho1 (by omega)) okX10_middle (qi94 hq5) mw822 ⟨(Nat.le_of_ble_eq_true rfl), (Nat.le_of_ble_eq_true rfl)⟩ rfl rfl (Nat.le_of_ble_eq_true rfl) ⟨(Nat.le_of_ble_eq_true rfl), (Nat.le_of_ble_eq_true rfl)⟩ dX10_layMean_36 (toJ (fun r11 S12 h13 => ?_))
                obtain ⟨er11, rfl⟩ := h13
                refine g_lstore_n (k := 2) (L' := [(2, .long r11), (1, .int g1), (0, .ref (q 94))]) F dX10_layMean_39 (Nat.le_of_ble_eq_true rfl) rfl ?_
                have hmid9 : r11 = midF (zAr z) out (nr z) := er11
                refine g_iconst (v := (-1)) F (by decide) dX10_layMean_40 ?_
                refine g_istore (L' := [(4, .int (-1)), (2, .long r11), (1, .int g1), (0, .ref (q 94))]) F dX10_layMean_41 (Nat.le_of_ble_eq_true rfl) rfl ?_
                refine g_lconst (v := 0) F (by decide) dX10_layMean_43 ?_
                refine g_lstore (L' := [(5, .long 0), (4, .int (-1)), (2, .long r11), (1, .int g1), (0, .ref (q 94))]) F dX10_layMean_44 (Nat.le_of_ble_eq_true rfl) rfl ?_
                refine g_iconst (v := 0) F (by decide) dX10_layMean_46 ?_
                refine g_istore (L' := [(7, .int 0), (5, .long 0), (4, .int (-1)), (2, .long r11), (1, .int g1), (0, .ref (q 94))]) F dX10_layMean_47 (Nat.le_of_ble_eq_true rfl) rfl ?_
                have lp14 : ∀ (n9 : Nat) (i : Nat) (w4 : Int32) (f5 : Int64), nr z < i + n9 → (i ≤ nr z) → (w4 = wE (wfF (zAr z) out (midF (zAr z) out (nr z)) i).1) → (f5 = (wfF (zAr z) out (midF (zAr z) out (nr z)) i).2) → G Γ T1 0 0 49 [(7, .int (nI i)), (5, .long f5), (4, .int w4), (2, .long r11), (1, .int g1), (0, .ref (q 94))] [] := by
                  intro n9
                  induction n9 with
                  | zero =>
                    intro i w4 f5 hm9 hi hw4 hf5
                    exact absurd hm9 (by omega)
                  | succ n9 ihlp14 =>
                    intro i w4 f5 hm9 hi hw4 hf5
                    refine g_iload F 0 rfl dX10_layMean_49 ?_
                    refine g_i2l F dX10_layMean_51 ?_
                    refine g_aload_n (k := 0) F 5 rfl dX10_layMean_52 ?_
                    refine gfX10_7 F (qi94 hq5) (qr94_1 hq5) dX10_layMean_53 ?_
                    refine g_bipush (v := 69) F (by decide) dX10_layMean_56 ?_
                    refine g_lalde ((hf1.1.2.2 (95) (by decide) (by decide)).2.trans hz) (j := 69) F (qi95 hq5) rfl (by rw [(qn95 hq5)]; omega) (by rw [(qn95 hq5)]; decide) dX10_layMean_58 ?_
                    refine g_lcmp F dX10_layMean_59 ?_
                    refine g_if_ge (t := 114) F dX10_layMean_60 (by decide) (fun c15 => ?_) (fun c15 => ?_)
                    · rw [lc_ge] at c15
                      rw [nI_L (by omega), z69 hB, lN_le (by omega) (by omega)] at c15
                      have hi9 : i = nr z := by omega
                      have hf6 : f5 = (wfF (zAr z) out (midF (zAr z) out (nr z)) (nr z)).2 := by rw [hf5, hi9]
                      refine g_lload F 1 rfl dX10_layMean_114 ?_
                      refine g_aload_n (k := 0) F 5 rfl dX10_layMean_116 ?_
                      refine gfX10_7 F (qi94 hq5) (qr94_1 hq5) dX10_layMean_117 ?_
                      refine g_bipush (v := 7) F (by decide) dX10_layMean_120 ?_
                      refine g_lalde ((hf1.1.2.2 (95) (by decide) (by decide)).2.trans hz) (j := 7) F (qi95 hq5) rfl (by rw [(qn95 hq5)]; omega) (by rw [(qn95 hq5)]; decide) dX10_layMean_122 ?_
                      refine g_lcmp F dX10_layMean_123 ?_
                      have jn17 : ∀ (w132 : Int32), (w132 = 1 ∧ z 7 < f5) ∨ (w132 = 0 ∧ ¬ z 7 < f5) → G Γ T1 0 0 132 [(7, .int (nI i)), (5, .long f5), (4, .int w4), (2, .long r11), (1, .int g1), (0, .ref (q 94))] [.int w132] := by
                        intro w132 h132
                        refine g_istore_n (k := 1) (L' := [(1, .int w132), (7, .int (nI i)), (5, .long f5), (4, .int w4), (2, .long r11), (0, .ref (q 94))]) F dX10_layMean_132 (Nat.le_of_ble_eq_true rfl) rfl ?_
                        refine g_iload_n (k := 1) F 0 rfl dX10_layMean_133 ?_
                        refine g_if_eq (t := 145) F dX10_layMean_134 (by decide) (fun c18 => ?_) (fun c18 => ?_)
                        · refine g_goto (t := 23) F dX10_layMean_145 (by decide) ?_
                          refine g_sub (L' := [(1, .int w132), (0, .ref (q 94))]) [0, 5] rfl ?_
                          exact ihlp4 (f) (0) (w132) (T1) (out) (by omega) c18 ho1 (Or.inr ⟨rfl, by rw [hE, lm_stay (by rw [← hf6]; exact w0 h132 c18)]⟩) hf1
                        · obtain ⟨r9, hr9, hor, hwr⟩ := wf_some (A := zAr z) (out := out) (m := midF (zAr z) out (nr z)) (n := nr z) (by omega)
                          refine g_aload_n (k := 0) F 5 rfl dX10_layMean_137 ?_
                          refine gfX10_20 F (qi94 hq5) (qr94_11 hq5) dX10_layMean_138 ?_
                          refine g_iload F 3 rfl dX10_layMean_141 ?_
                          refine g_iconst (v := 1) F (by decide) dX10_layMean_143 ?_
                          refine g_zast (j := r9) F (qi98 hq5) (by rw [hw4, hi9, hwr]; rfl) (by rw [(qn98 hq5)]; omega) (by rw [(qn98 hq5)]; decide) rfl dX10_layMean_144 ?_
                          refine g_goto (t := 23) F dX10_layMean_145 (by decide) ?_
                          refine g_sub (L' := [(1, .int w132), (0, .ref (q 94))]) [0, 5] rfl ?_
                          exact ihlp4 (f - 1) (1) (w132) ((wI T1 (q 98) (r9) 1)) (setB out (some r9)) (by omega) (by rcases h132 with h | h; exact h.1; exact absurd h.1 c18) (ho_set ho1) (Or.inl ⟨rfl, by rw [hE, lm_go (by omega) (by omega) (by rw [← hf6]; exact w1 h132 c18) hwr], by have := lfF_set hor hr9; omega⟩) (Fm.out hq hf1)
                      refine g_if_le (t := 131) F dX10_layMean_124 (by decide) (fun c16 => ?_) (fun c16 => ?_)
                      · rw [lc_le] at c16
                        refine g_iconst (v := 0) F (by decide) dX10_layMean_131 ?_
                        exact jn17 (0) (Or.inr ⟨rfl, L_nlt.mpr c16⟩)
                      · rw [lc_le] at c16
                        refine g_iconst (v := 1) F (by decide) dX10_layMean_127 ?_
                        refine g_goto (t := 132) F dX10_layMean_128 (by decide) ?_
                        exact jn17 (1) (Or.inl ⟨rfl, L_nle.mp c16⟩)
                    · rw [lc_ge] at c15
                      rw [nI_L (by omega), z69 hB, lN_le (by omega) (by omega)] at c15
                      have hi9 : i < nr z := by omega
                      refine g_aload_n (k := 0) F 5 rfl dX10_layMean_63 ?_
                      refine g_iload F 0 rfl dX10_layMean_64 ?_
                      refine g_callV F (kX10_areaOf Γ.1 _ q hq5 z ((hf1.1.2.2 (95) (by decide) (by decide)).2.trans hz) hB i (by omega)) okX10_areaOf (qi94 hq5) mw799 ⟨(Nat.le_of_ble_eq_true rfl), (Nat.le_of_ble_eq_true rfl)⟩ rfl rfl (Nat.le_of_ble_eq_true rfl) ⟨(Nat.le_of_ble_eq_true rfl), (Nat.le_of_ble_eq_true rfl)⟩ dX10_layMean_66 (toJ (fun r19 S20 h21 => ?_))
                      obtain ⟨er19, rfl⟩ := h21
                      refine g_lload_n (k := 2) F 3 rfl dX10_layMean_69 ?_
                      refine g_lsub F dX10_layMean_70 ?_
                      refine g_callS F (kX10_size Γ.1 _ _) okX10_size mw493 ⟨(Nat.le_of_ble_eq_true rfl), (Nat.le_of_ble_eq_true rfl)⟩ rfl rfl (Nat.le_of_ble_eq_true rfl) ⟨(Nat.le_of_ble_eq_true rfl), (Nat.le_of_ble_eq_true rfl)⟩ dX10_layMean_71 (toJ (fun r22 S23 h24 => ?_))
                      obtain ⟨er22, rfl⟩ := h24
                      refine g_lstore (L' := [(8, .long r22), (7, .int (nI i)), (5, .long f5), (4, .int w4), (2, .long r11), (1, .int g1), (0, .ref (q 94))]) F dX10_layMean_74 (Nat.le_of_ble_eq_true rfl) rfl ?_
                      have hsz : r22 = sz (zAr z i - r11) := by rw [er22, er19]
                      refine g_aload_n (k := 0) F 6 rfl dX10_layMean_76 ?_
                      refine gfX10_20 F (qi94 hq5) (qr94_11 hq5) dX10_layMean_77 ?_
                      refine g_iload F 1 rfl dX10_layMean_80 ?_
                      refine g_zald (j := i) F (qi98 hq5) rfl (by rw [(qn98 hq5)]; omega) (by rw [(qn98 hq5)]; decide) dX10_layMean_82 ?_
                      refine g_if_ne (t := 108) F dX10_layMean_83 (by decide) (fun c25 => ?_) (fun c25 => ?_)
                      · have ob := bI_t (ho1 i (by omega)) c25
                        obtain ⟨x26, ex26⟩ : ∃ y9 : Int32, y9 = (nI i) + 1 := ⟨_, rfl⟩
                        refine g_iinc (k := 1) (v := x26) (L' := [(7, .int x26), (8, .long r22), (5, .long f5), (4, .int w4), (2, .long r11), (1, .int g1), (0, .ref (q 94))]) F dX10_layMean_108 rfl (by rw [ex26]; rfl) (Nat.le_of_ble_eq_true rfl) rfl ?_
                        refine g_goto (t := 49) F dX10_layMean_111 (by decide) ?_
                        obtain rfl : x26 = nI (i + 1) := (ex26.trans (nI_1 _))
                        refine g_sub (L' := [(7, .int (nI (i + 1))), (5, .long f5), (4, .int w4), (2, .long r11), (1, .int g1), (0, .ref (q 94))]) [0, 2, 3, 4, 5, 6] rfl ?_
                        exact ihlp14 (i + 1) (w4) (f5) (by omega) (by omega) (by rw [(wf_keep1 ob)]; exact hw4) (by rw [(wf_keep1 ob)]; exact hf5)
                      · have ob := bI_f (ho1 i (by omega)) c25
                        refine g_iload F 3 rfl dX10_layMean_86 ?_
                        refine g_iconst (v := (-1)) F (by decide) dX10_layMean_88 ?_
                        refine g_icmp_eq (t := 100) F dX10_layMean_89 (by decide) (fun c27 => ?_) (fun c27 => ?_)
                        · refine g_iload F 1 rfl dX10_layMean_100 ?_
                          refine g_istore (L' := [(4, .int (nI i)), (8, .long r22), (7, .int (nI i)), (5, .long f5), (2, .long r11), (1, .int g1), (0, .ref (q 94))]) F dX10_layMean_102 (Nat.le_of_ble_eq_true rfl) rfl ?_
                          refine g_lload F 1 rfl dX10_layMean_104 ?_
                          refine g_lstore (L' := [(5, .long r22), (4, .int (nI i)), (8, .long r22), (7, .int (nI i)), (2, .long r11), (1, .int g1), (0, .ref (q 94))]) F dX10_layMean_106 (Nat.le_of_ble_eq_true rfl) rfl ?_
                          obtain ⟨x28, ex28⟩ : ∃ y9 : Int32, y9 = (nI i) + 1 := ⟨_, rfl⟩
                          refine g_iinc (k := 3) (v := x28) (L' := [(7, .int x28), (5, .long r22), (4, .int (nI i)), (8, .long r22), (2, .long r11), (1, .int g1), (0, .ref (q 94))]) F dX10_layMean_108 rfl (by rw [ex28]; rfl) (Nat.le_of_ble_eq_true rfl) rfl ?_
                          refine g_goto (t := 49) F dX10_layMean_111 (by decide) ?_
                          obtain rfl : x28 = nI (i + 1) := (ex28.trans (nI_1 _))
                          refine g_sub (L' := [(7, .int (nI (i + 1))), (5, .long r22), (4, .int (nI i)), (2, .long r11), (1, .int g1), (0, .ref (q 94))]) [0, 1, 2, 4, 5, 6] rfl ?_
                          exact ihlp14 (i + 1) ((nI i)) (r22) (by omega) (by omega) (by rw [wf_new ob (Or.inl ((wE_0 (by omega) hw4).mp c27))]; rfl) (by rw [wf_new ob (Or.inl ((wE_0 (by omega) hw4).mp c27)), hsz, hmid9])
                        · refine g_lload F 0 rfl dX10_layMean_92 ?_
                          refine g_lload F 2 rfl dX10_layMean_94 ?_
                          refine g_lcmp F dX10_layMean_96 ?_
                          refine g_if_le (t := 108) F dX10_layMean_97 (by decide) (fun c29 => ?_) (fun c29 => ?_)
                          · rw [lc_le] at c29
                            obtain ⟨x30, ex30⟩ : ∃ y9 : Int32, y9 = (nI i) + 1 := ⟨_, rfl⟩
                            refine g_iinc (k := 1) (v := x30) (L' := [(7, .int x30), (8, .long r22), (5, .long f5), (4, .int w4), (2, .long r11), (1, .int g1), (0, .ref (q 94))]) F dX10_layMean_108 rfl (by rw [ex30]; rfl) (Nat.le_of_ble_eq_true rfl) rfl ?_
                            refine g_goto (t := 49) F dX10_layMean_111 (by decide) ?_
                            obtain rfl : x30 = nI (i + 1) := (ex30.trans (nI_1 _))
                            refine g_sub (L' := [(7, .int (nI (i + 1))), (5, .long f5), (4, .int w4), (2, .long r11), (1, .int g1), (0, .ref (q 94))]) [0, 2, 3, 4, 5, 6] rfl ?_
                            exact ihlp14 (i + 1) (w4) (f5) (by omega) (by omega) (by rw [(wf_keep2 (fun z9 => c27 ((wE_0 (by omega) hw4).mpr z9)) (by rw [← hf5, ← hmid9, ← hsz]; exact L_nlt.mpr c29))]; exact hw4) (by rw [(wf_keep2 (fun z9 => c27 ((wE_0 (by omega) hw4).mpr z9)) (by rw [← hf5, ← hmid9, ← hsz]; exact L_nlt.mpr c29))]; exact hf5)
                          · rw [lc_le] at c29
                            refine g_iload F 1 rfl dX10_layMean_100 ?_
                            refine g_istore (L' := [(4, .int (nI i)), (8, .long r22), (7, .int (nI i)), (5, .long f5), (2, .long r11), (1, .int g1), (0, .ref (q 94))]) F dX10_layMean_102 (Nat.le_of_ble_eq_true rfl) rfl ?_
                            refine g_lload F 1 rfl dX10_layMean_104 ?_
                            refine g_lstore (L' := [(5, .long r22), (4, .int (nI i)), (8, .long r22), (7, .int (nI i)), (2, .long r11), (1, .int g1), (0, .ref (q 94))]) F dX10_layMean_106 (Nat.le_of_ble_eq_true rfl) rfl ?_
                            obtain ⟨x31, ex31⟩ : ∃ y9 : Int32, y9 = (nI i) + 1 := ⟨_, rfl⟩
                            refine g_iinc (k := 3) (v := x31) (L' := [(7, .int x31), (5, .long r22), (4, .int (nI i)), (8, .long r22), (2, .long r11), (1, .int g1), (0, .ref (q 94))]) F dX10_layMean_108 rfl (by rw [ex31]; rfl) (Nat.le_of_ble_eq_true rfl) rfl ?_
                            refine g_goto (t := 49) F dX10_layMean_111 (by decide) ?_
                            obtain rfl : x31 = nI (i + 1) := (ex31.trans (nI_1 _))
                            refine g_sub (L' := [(7, .int (nI (i + 1))), (5, .long r22), (4, .int (nI i)), (2, .long r11), (1, .int g1), (0, .ref (q 94))]) [0, 1, 2, 4, 5, 6] rfl ?_
                            exact ihlp14 (i + 1) ((nI i)) (r22) (by omega) (by omega) (by rw [wf_new ob (Or.inr (by rw [← hf5, ← hmid9, ← hsz]; exact L_nle.mp c29))]; rfl) (by rw [wf_new ob (Or.inr (by rw [← hf5, ← hmid9, ← hsz]; exact L_nle.mp c29)), hsz, hmid9])
                exact lp14 (nr z + 1) 0 (-1) 0 (by omega) (by omega) rfl rfl
        exact lp4 15 13 1 1 S1 (fun _ => false) (by omega) rfl (fun j hj => h0 j (by omega)) (Or.inl ⟨rfl, rfl, by have := lfF_le (fun _ => false) (nr z); omega⟩) hf
      · have hi9 : i < 12 := by rw [show (12 : Int32) = nI 12 from rfl, nI_leI (by omega) (by omega)] at c3; omega
        refine g_aload_n (k := 0) F 1 rfl dX10_layMean_8 ?_
        refine gfX10_20 F (qi94 hq2) (qr94_11 hq2) dX10_layMean_9 ?_
        refine g_iload_n (k := 1) F 0 rfl dX10_layMean_12 ?_
        refine g_iconst (v := 0) F (by decide) dX10_layMean_13 ?_
        refine g_zast (j := i) F (qi98 hq2) rfl (by rw [(qn98 hq2)]; omega) (by rw [(qn98 hq2)]; decide) rfl dX10_layMean_14 ?_
        obtain ⟨x32, ex32⟩ : ∃ y9 : Int32, y9 = (nI i) + 1 := ⟨_, rfl⟩
        refine g_iinc (k := 0) (v := x32) (L' := [(1, .int x32), (0, .ref (q 94))]) F dX10_layMean_15 rfl (by rw [ex32]; rfl) (Nat.le_of_ble_eq_true rfl) rfl ?_
        refine g_goto (t := 2) F dX10_layMean_18 (by decide) ?_
        obtain rfl : x32 = nI (i + 1) := (ex32.trans (nI_1 _))
        refine g_sub (L' := [(1, .int (nI (i + 1))), (0, .ref (q 94))]) [0, 1] rfl ?_
        exact ihlp1 (i + 1) ((wI S1 (q 98) (i) 0)) (by omega) (by omega) (z0_set h0) (Fm.out hq hf)
  exact lp1 13 0 S (by omega) (by omega) (fun j hj => absurd hj (Nat.not_lt_zero j)) Fm.rf
