set_option maxHeartbeats 4000000 in
set_option maxRecDepth 100000 in
theorem kX10_dropRuns (g : Glo) (S : PS) (q : Nat → Nat) (hq : Shp S.1 S.2.1 q) (z : ZZ) (hz : pJ S (q 95) = z) (hB : Bz z) : Ct g mX10_dropRuns 0 0 [.ref (q 94)] S (pI9 (fun r S' => r = nI (nr z) ∧ Fr S S' q [95] ∧ pJ S' (q 95) = vp_updL z 69 0)) := by
  refine Ct.of (by decide) (Nat.le_of_ble_eq_true rfl) (fun Γ hg F T => ?_)
  subst hg
  show G Γ S 0 0 0 [(0, .ref (q 94))] []
  refine g_aload_n (k := 0) F 0 rfl dX10_dropRuns_0 ?_
  refine gfX10_7 F (qi94 hq) (qr94_1 hq) dX10_dropRuns_1 ?_
  refine g_bipush (v := 69) F (by decide) dX10_dropRuns_4 ?_
  refine g_lalde hz (j := 69) F (qi95 hq) rfl (by rw [(qn95 hq)]; omega) (by rw [(qn95 hq)]; decide) dX10_dropRuns_6 ?_
  refine g_l2i F dX10_dropRuns_7 ?_
  refine g_topi (fun x1 ex1 => ?_)
  refine g_istore_n (k := 1) (L' := [(1, .int x1), (0, .ref (q 94))]) F dX10_dropRuns_8 (Nat.le_of_ble_eq_true rfl) rfl ?_
  refine g_aload_n (k := 0) F 1 rfl dX10_dropRuns_9 ?_
  refine gfX10_7 F (qi94 hq) (qr94_1 hq) dX10_dropRuns_10 ?_
  refine g_bipush (v := 69) F (by decide) dX10_dropRuns_13 ?_
  refine g_lconst (v := 0) F (by decide) dX10_dropRuns_15 ?_
  refine g_last (j := 69) F (qi95 hq) rfl (by rw [(qn95 hq)]; omega) (by rw [(qn95 hq)]; decide) dX10_dropRuns_16 ?_
  refine g_iload_n (k := 1) F 0 rfl dX10_dropRuns_17 ?_
  refine g_iret F T ⟨_, rfl, ?_⟩ (Nat.le_of_ble_eq_true rfl) (Nat.le_of_ble_eq_true rfl) dX10_dropRuns_18
  exact ⟨by first | (rw [nr_I hB]; done) | (rw [ex1, nr_I hB]), (Fr.wJ hq Fr.rf (by decide) (by decide)), by rw [← hz]; exact up2_updL⟩
set_option maxHeartbeats 4000000 in
set_option maxRecDepth 100000 in
theorem kX10_save (g : Glo) (S : PS) (q : Nat → Nat) (hq : Shp S.1 S.2.1 q) (z : ZZ) (hz : pJ S (q 95) = z) (hB : Bz z) (H : List ZZ) (hH : Sv S q H) : Ct g mX10_save 0 0 [.ref (q 94)] S (pV9 (fun S' => Fr S S' q [94, 96] ∧ (∀ j, j ≠ 2 → pI S' (q 94) j = pI S (q 94) j) ∧ pJ S' (q 94) = pJ S (q 94) ∧ Sv S' q (psh H z))) := by
  refine Ct.of (by decide) (Nat.le_of_ble_eq_true rfl) (fun Γ hg F T => ?_)
  subst hg
  show G Γ S 0 0 0 [(0, .ref (q 94))] []
  refine g_aload_n (k := 0) F 0 rfl dX10_save_0 ?_
  refine gfX10_173e F (qi94 hq) hH.1 dX10_save_1 ?_
  refine g_bipush (v := 6) F (by decide) dX10_save_4 ?_
  refine g_icmp_ne (t := 50) F dX10_save_6 (by decide) (fun c1 => ?_) (fun c1 => ?_)
  · have h6 : H.length < 6 := by
      have g9 := hH.2.1
      rw [show (6 : Int32) = nI 6 from rfl, nI_eq (by omega) (by omega)] at c1
      omega
    refine g_iconst (v := 0) F (by decide) dX10_save_50 ?_
    refine g_istore_n (k := 1) (L' := [(1, .int 0), (0, .ref (q 94))]) F dX10_save_51 (Nat.le_of_ble_eq_true rfl) rfl ?_
    have lp2 : ∀ (n9 : Nat) (k : Nat) (T1 : PS), 106 < k + n9 → (k ≤ 106) → (Fr S T1 q [96]) → (∀ j, pJ T1 (q 96) j = if 106 * H.length ≤ j ∧ j < 106 * H.length + k then z (j - 106 * H.length) else pJ S (q 96) j) → G Γ T1 0 0 52 [(1, .int (nI k)), (0, .ref (q 94))] [] := by
      intro n9
      induction n9 with
      | zero =>
        intro k T1 hm9 hk hf2 hc2
        exact absurd hm9 (by omega)
      | succ n9 ihlp2 =>
        intro k T1 hm9 hk hf2 hc2
        have hq3 : Shp T1.1 T1.2.1 q := Fr.q hf2 hq
        refine g_iload_n (k := 1) F 0 rfl dX10_save_52 ?_
        refine g_bipush (v := 106) F (by decide) dX10_save_53 ?_
        refine g_icmp_ge (t := 84) F dX10_save_55 (by decide) (fun c4 => ?_) (fun c4 => ?_)
        · have hk9 : k = 106 := by
            rw [show (106 : Int32) = nI 106 from rfl, nI_leI (by omega) (by omega)] at c4
            omega
          refine g_aload_n (k := 0) F 1 rfl dX10_save_84 ?_
          refine g_dup F dX10_save_85 rfl ?_
          refine gfX10_173e F (qi94 hq3) ((congrFun (hf2.2.2 (94) (by decide) (by decide)).1 2).trans hH.1) dX10_save_86 ?_
          refine g_iconst (v := 1) F (by decide) dX10_save_89 ?_
          refine g_iadd F dX10_save_90 ?_
          refine g_rei (nI (H.length + 1)) (nadd rfl rfl) ?_
          refine pfX10_173 F (qi94 hq3) dX10_save_91 ?_
          refine g_vret F T ⟨rfl, ?_⟩ (Nat.le_of_ble_eq_true rfl) (Nat.le_of_ble_eq_true rfl) dX10_save_94
          subst hk9
          exact ⟨(Fr.wI hq (Fr.tr (l := [94, 96]) Fr.rf hf2 (by decide) (by decide)) (by decide) (by decide)), fun j hj => (up2_k hj).trans (congrFun (hf2.2.2 94 (by decide) (by decide)).1 j), (hf2.2.2 94 (by decide) (by decide)).2, by rw [psh, if_neg (by omega)]; exact Sv_copy rfl h6 hH.2.2 up2_s hc2⟩
        · have hk9 : k < 106 := by
            rw [show (106 : Int32) = nI 106 from rfl, nI_leI (by omega) (by omega)] at c4
            omega
          refine g_aload_n (k := 0) F 1 rfl dX10_save_58 ?_
          refine gfX10_13 F (qi94 hq3) (qr94_3 hq3) dX10_save_59 ?_
          refine g_bipush (v := 106) F (by decide) dX10_save_62 ?_
          refine g_aload_n (k := 0) F 1 rfl dX10_save_64 ?_
          refine gfX10_173e F (qi94 hq3) ((congrFun (hf2.2.2 (94) (by decide) (by decide)).1 2).trans hH.1) dX10_save_65 ?_
          refine g_imul F dX10_save_68 ?_
          refine g_rei (nI (106 * H.length)) (nmul rfl rfl) ?_
          refine g_iload_n (k := 1) F 0 rfl dX10_save_69 ?_
          refine g_iadd F dX10_save_70 ?_
          refine g_rei (nI ((106 * H.length) + k)) (nadd rfl rfl) ?_
          refine g_aload_n (k := 0) F 1 rfl dX10_save_71 ?_
          refine gfX10_7 F (qi94 hq3) (qr94_1 hq3) dX10_save_72 ?_
          refine g_iload_n (k := 1) F 0 rfl dX10_save_75 ?_
          refine g_lalde ((hf2.2.2 (95) (by decide) (by decide)).2.trans hz) (j := k) F (qi95 hq3) rfl (by rw [(qn95 hq3)]; omega) (by rw [(qn95 hq3)]; decide) dX10_save_76 ?_
          refine g_last (j := ((106 * H.length) + k)) F (qi96 hq3) rfl (by rw [(qn96 hq3)]; omega) (by rw [(qn96 hq3)]; decide) dX10_save_77 ?_
          obtain ⟨x5, ex5⟩ : ∃ y9 : Int32, y9 = (nI k) + 1 := ⟨_, rfl⟩
          refine g_iinc (k := 0) (v := x5) (L' := [(1, .int x5), (0, .ref (q 94))]) F dX10_save_78 rfl (by rw [ex5]; rfl) (Nat.le_of_ble_eq_true rfl) rfl ?_
          refine g_goto (t := 52) F dX10_save_81 (by decide) ?_
          obtain rfl : x5 = nI (k + 1) := (ex5.trans (nI_1 _))
          refine g_sub (L' := [(1, .int (nI (k + 1))), (0, .ref (q 94))]) [0, 1] rfl ?_
          exact ihlp2 (k + 1) ((wJ T1 (q 96) (((106 * H.length) + k)) (z k))) (by omega) (by omega) (Fr.wJ hq hf2 (by decide) (by decide)) (copy_step hc2)
    exact lp2 107 0 S (by omega) (by omega) Fr.rf (fun j => by rw [if_neg (by omega)])
  · have h6 : H.length = 6 := by
      have g9 := hH.2.1
      rw [show (6 : Int32) = nI 6 from rfl, nI_eq (by omega) (by omega)] at c1
      exact c1
    refine g_bipush (v := 106) F (by decide) dX10_save_9 ?_
    refine g_istore_n (k := 1) (L' := [(1, .int 106), (0, .ref (q 94))]) F dX10_save_11 (Nat.le_of_ble_eq_true rfl) rfl ?_
    have lp6 : ∀ (n9 : Nat) (k : Nat) (S1 : PS), 636 < k + n9 → (106 ≤ k) → (k ≤ 636) → (Fr S S1 q [96]) → (∀ j, pJ S1 (q 96) j = if j + 106 < k then pJ S (q 96) (j + 106) else pJ S (q 96) j) → G Γ S1 0 0 12 [(1, .int (nI k)), (0, .ref (q 94))] [] := by
      intro n9
      induction n9 with
      | zero =>
        intro k S1 hm9 hk1 hk2 hf hc
        exact absurd hm9 (by omega)
      | succ n9 ihlp6 =>
        intro k S1 hm9 hk1 hk2 hf hc
        have hq7 : Shp S1.1 S1.2.1 q := Fr.q hf hq
        refine g_iload_n (k := 1) F 0 rfl dX10_save_12 ?_
        refine g_sipush (v := 636) F (by decide) dX10_save_13 ?_
        refine g_icmp_ge (t := 40) F dX10_save_16 (by decide) (fun c8 => ?_) (fun c8 => ?_)
        · have hk9 : k = 636 := by
            rw [show (636 : Int32) = nI 636 from rfl, nI_leI (by omega) (by omega)] at c8
            omega
          have hc8 : ∀ j, pJ S1 (q 96) j = if j + 106 < 636 then pJ S (q 96) (j + 106) else pJ S (q 96) j := by rw [← hk9]; exact hc
          refine g_aload_n (k := 0) F 1 rfl dX10_save_40 ?_
          refine g_dup F dX10_save_41 rfl ?_
          refine gfX10_173e F (qi94 hq7) ((congrFun (hf.2.2 (94) (by decide) (by decide)).1 2).trans hH.1) dX10_save_42 ?_
          refine g_iconst (v := 1) F (by decide) dX10_save_45 ?_
          refine g_isub F dX10_save_46 ?_
          refine g_rei (nI (H.length - 1)) (nsub rfl rfl (by omega)) ?_
          refine pfX10_173 F (qi94 hq7) dX10_save_47 ?_
          refine g_iconst (v := 0) F (by decide) dX10_save_50 ?_
          refine g_istore_n (k := 1) (L' := [(1, .int 0), (0, .ref (q 94))]) F dX10_save_51 (Nat.le_of_ble_eq_true rfl) rfl ?_
          have lp9 : ∀ (n9 : Nat) (k : Nat) (T1 : PS), 106 < k + n9 → (k ≤ 106) → (Fr (wI S1 (q 94) 2 (nI (H.length - 1))) T1 q [96]) → (∀ j, pJ T1 (q 96) j = if 106 * (H.length - 1) ≤ j ∧ j < 106 * (H.length - 1) + k then z (j - 106 * (H.length - 1)) else pJ (wI S1 (q 94) 2 (nI (H.length - 1))) (q 96) j) → G Γ T1 0 0 52 [(1, .int (nI k)), (0, .ref (q 94))] [] := by
            intro n9
            induction n9 with
            | zero =>
              intro k T1 hm9 hk hf2 hc2
              exact absurd hm9 (by omega)
            | succ n9 ihlp9 =>
              intro k T1 hm9 hk hf2 hc2
              have hq10 : Shp T1.1 T1.2.1 q := Fr.q hf2 hq7
              refine g_iload_n (k := 1) F 0 rfl dX10_save_52 ?_
              refine g_bipush (v := 106) F (by decide) dX10_save_53 ?_
              refine g_icmp_ge (t := 84) F dX10_save_55 (by decide) (fun c11 => ?_) (fun c11 => ?_)
              · have hk9 : k = 106 := by
                  rw [show (106 : Int32) = nI 106 from rfl, nI_leI (by omega) (by omega)] at c11
                  omega
                refine g_aload_n (k := 0) F 1 rfl dX10_save_84 ?_
                refine g_dup F dX10_save_85 rfl ?_
                refine gfX10_173e F (qi94 hq10) ((congrFun (hf2.2.2 (94) (by decide) (by decide)).1 2).trans up2_s) dX10_save_86 ?_
                refine g_iconst (v := 1) F (by decide) dX10_save_89 ?_
                refine g_iadd F dX10_save_90 ?_
                refine g_rei (nI ((H.length - 1) + 1)) (nadd rfl rfl) ?_
                refine pfX10_173 F (qi94 hq10) dX10_save_91 ?_
                refine g_vret F T ⟨rfl, ?_⟩ (Nat.le_of_ble_eq_true rfl) (Nat.le_of_ble_eq_true rfl) dX10_save_94
                subst hk9
                exact ⟨(Fr.wI hq (Fr.tr (l := [94, 96]) (Fr.wI hq (Fr.tr (l := [94, 96]) Fr.rf hf (by decide) (by decide)) (by decide) (by decide)) hf2 (by decide) (by decide)) (by decide) (by decide)), fun j hj => (up2_k hj).trans ((congrFun (hf2.2.2 94 (by decide) (by decide)).1 j).trans ((up2_k hj).trans (congrFun (hf.2.2 94 (by decide) (by decide)).1 j))), (hf2.2.2 94 (by decide) (by decide)).2.trans (hf.2.2 94 (by decide) (by decide)).2, by rw [psh, if_pos h6]; exact Sv_copy (by rw [List.length_tail]) (by omega) (Sv_shift hH h6 hc8) up2_s hc2⟩
              · have hk9 : k < 106 := by
                  rw [show (106 : Int32) = nI 106 from rfl, nI_leI (by omega) (by omega)] at c11
                  omega
                refine g_aload_n (k := 0) F 1 rfl dX10_save_58 ?_
                refine gfX10_13 F (qi94 hq10) (qr94_3 hq10) dX10_save_59 ?_
                refine g_bipush (v := 106) F (by decide) dX10_save_62 ?_
                refine g_aload_n (k := 0) F 1 rfl dX10_save_64 ?_
                refine gfX10_173e F (qi94 hq10) ((congrFun (hf2.2.2 (94) (by decide) (by decide)).1 2).trans up2_s) dX10_save_65 ?_
                refine g_imul F dX10_save_68 ?_
                refine g_rei (nI (106 * (H.length - 1))) (nmul rfl rfl) ?_
                refine g_iload_n (k := 1) F 0 rfl dX10_save_69 ?_
                refine g_iadd F dX10_save_70 ?_
                refine g_rei (nI ((106 * (H.length - 1)) + k)) (nadd rfl rfl) ?_
                refine g_aload_n (k := 0) F 1 rfl dX10_save_71 ?_
                refine gfX10_7 F (qi94 hq10) (qr94_1 hq10) dX10_save_72 ?_
                refine g_iload_n (k := 1) F 0 rfl dX10_save_75 ?_
                refine g_lalde ((hf2.2.2 (95) (by decide) (by decide)).2.trans ((hf.2.2 (95) (by decide) (by decide)).2.trans hz)) (j := k) F (qi95 hq10) rfl (by rw [(qn95 hq10)]; omega) (by rw [(qn95 hq10)]; decide) dX10_save_76 ?_
                refine g_last (j := ((106 * (H.length - 1)) + k)) F (qi96 hq10) rfl (by rw [(qn96 hq10)]; omega) (by rw [(qn96 hq10)]; decide) dX10_save_77 ?_
                obtain ⟨x12, ex12⟩ : ∃ y9 : Int32, y9 = (nI k) + 1 := ⟨_, rfl⟩
                refine g_iinc (k := 0) (v := x12) (L' := [(1, .int x12), (0, .ref (q 94))]) F dX10_save_78 rfl (by rw [ex12]; rfl) (Nat.le_of_ble_eq_true rfl) rfl ?_
                refine g_goto (t := 52) F dX10_save_81 (by decide) ?_
                obtain rfl : x12 = nI (k + 1) := (ex12.trans (nI_1 _))
                refine g_sub (L' := [(1, .int (nI (k + 1))), (0, .ref (q 94))]) [0, 1] rfl ?_
                exact ihlp9 (k + 1) ((wJ T1 (q 96) (((106 * (H.length - 1)) + k)) (z k))) (by omega) (by omega) (Fr.wJ hq7 hf2 (by decide) (by decide)) (copy_step hc2)
          exact lp9 107 0 (wI S1 (q 94) 2 (nI (H.length - 1))) (by omega) (by omega) Fr.rf (fun j => by rw [if_neg (by omega)])
        · have hk9 : k < 636 := by
            rw [show (636 : Int32) = nI 636 from rfl, nI_leI (by omega) (by omega)] at c8
            omega
          refine g_aload_n (k := 0) F 1 rfl dX10_save_19 ?_
          refine gfX10_13 F (qi94 hq7) (qr94_3 hq7) dX10_save_20 ?_
          refine g_iload_n (k := 1) F 0 rfl dX10_save_23 ?_
          refine g_bipush (v := 106) F (by decide) dX10_save_24 ?_
          refine g_isub F dX10_save_26 ?_
          refine g_rei (nI (k - 106)) (nsub rfl rfl (by omega)) ?_
          refine g_aload_n (k := 0) F 1 rfl dX10_save_27 ?_
          refine gfX10_13 F (qi94 hq7) (qr94_3 hq7) dX10_save_28 ?_
          refine g_iload_n (k := 1) F 0 rfl dX10_save_31 ?_
          refine g_lalde rfl (j := k) F (qi96 hq7) rfl (by rw [(qn96 hq7)]; omega) (by rw [(qn96 hq7)]; decide) dX10_save_32 ?_
          refine g_last (j := (k - 106)) F (qi96 hq7) rfl (by rw [(qn96 hq7)]; omega) (by rw [(qn96 hq7)]; decide) dX10_save_33 ?_
          obtain ⟨x13, ex13⟩ : ∃ y9 : Int32, y9 = (nI k) + 1 := ⟨_, rfl⟩
          refine g_iinc (k := 0) (v := x13) (L' := [(1, .int x13), (0, .ref (q 94))]) F dX10_save_34 rfl (by rw [ex13]; rfl) (Nat.le_of_ble_eq_true rfl) rfl ?_
          refine g_goto (t := 12) F dX10_save_37 (by decide) ?_
          obtain rfl : x13 = nI (k + 1) := (ex13.trans (nI_1 _))
          refine g_sub (L' := [(1, .int (nI (k + 1))), (0, .ref (q 94))]) [0, 1] rfl ?_
          exact ihlp6 (k + 1) ((wJ S1 (q 96) ((k - 106)) ((pJ S1 (q 96)) k))) (by omega) (by omega) (by omega) (Fr.wJ hq hf (by decide) (by decide)) (shift_step hk1 hc)
    exact lp6 531 106 S (by omega) (by omega) (by omega) Fr.rf (fun j => by rw [if_neg (by omega)])
