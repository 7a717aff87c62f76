set_option maxHeartbeats 4000000 in
set_option maxRecDepth 100000 in
theorem kL_act (g : Glo) (S : PS) (q : Nat → Nat) (z : ZZ) (H : List ZZ) (l : Int32) (n : Nat) (tx : Nat → Int32) (hI : Iw (z, H, l, n, tx)) (hL : Lw S q (z, H, l, n, tx)) (ac x y : Int32) : Cx g mL_act 40 240 [.ref (q 80), .int ac, .int x, .int y, .ref (q 94), .ref (q 95), .ref (q 96), .ref (q 97)] S (pI9 (fun r S' => r = 1 ∧ ∃ w', Iw w' ∧ Lw S' q w' ∧ ((0 < H.length ∨ nc z < 3) → 0 < w'.2.1.length))) (fun _ _ => False) := by
  refine Cx.of (by decide) (Nat.le_of_ble_eq_true rfl) (fun Γ hg F T => ?_)
  subst hg
  show G Γ S 0 0 0 [(0, .ref (q 80)), (1, .int ac), (2, .int x), (3, .int y), (4, .ref (q 94)), (5, .ref (q 95)), (6, .ref (q 96)), (7, .ref (q 97))] []
  have hq := hL.1
  have hB : Bz z := hI.1.1
  have h8 : nc z ≤ 8 := hL.2.2.2.1.2.2
  have hnr := (nr_e hB).2
  refine g_iload_n (k := 2) F 2 rfl dL_act_0 ?_
  refine g_iload_n (k := 3) F 3 rfl dL_act_1 ?_
  refine g_iconst (v := 3) F (by decide) dL_act_2 ?_
  refine g_ishr F dL_act_3 ?_
  refine g_iconst (v := 3) F (by decide) dL_act_4 ?_
  refine g_callS F (kL_at Γ.1 _ _ 3 (by omega) (by omega)) okL_at mw252 ⟨(Nat.le_of_ble_eq_true rfl), (Nat.le_of_ble_eq_true rfl)⟩ rfl rfl (Nat.le_of_ble_eq_true rfl) ⟨(Nat.le_of_ble_eq_true rfl), (Nat.le_of_ble_eq_true rfl)⟩ dL_act_5 (toI (fun r1 S2 h3 => ?_))
  obtain ⟨⟨jr1, lr1, rfl⟩, rfl⟩ := h3
  have jn5 : ∀ (w20 : Int32), (∃ m : Nat, (0 < m ∧ m ≤ 3000) ∧ w20 = nI m) → G Γ S 0 0 20 [(0, .ref (q 80)), (1, .int ac), (2, .int x), (3, .int y), (4, .ref (q 94)), (5, .ref (q 95)), (6, .ref (q 96)), (7, .ref (q 97))] [.int w20, .int x] := by
    intro w20 hj0
    obtain ⟨m0, hm0, rfl⟩ := hj0
    refine g_callS F (kL_at Γ.1 _ _ m0 (by omega) (by omega)) okL_at mw252 ⟨(Nat.le_of_ble_eq_true rfl), (Nat.le_of_ble_eq_true rfl)⟩ rfl rfl (Nat.le_of_ble_eq_true rfl) ⟨(Nat.le_of_ble_eq_true rfl), (Nat.le_of_ble_eq_true rfl)⟩ dL_act_20 (toI (fun r6 S7 h8 => ?_))
    obtain ⟨⟨jr6, lr6, rfl⟩, rfl⟩ := h8
    refine g_sipush (v := 400) F (by decide) dL_act_23 ?_
    refine g_isub F dL_act_26 ?_
    refine g_topi (fun x9 ex9 => ?_)
    refine g_istore (L' := [(8, .int x9), (0, .ref (q 80)), (1, .int ac), (2, .int x), (3, .int y), (4, .ref (q 94)), (5, .ref (q 95)), (6, .ref (q 96)), (7, .ref (q 97))]) F dL_act_27 (Nat.le_of_ble_eq_true rfl) rfl ?_
    have hx0 := at_b (M := m0) (c := 400) lr6 hm0.2 (by omega) ex9
    refine g_iload_n (k := 3) F 4 rfl dL_act_29 ?_
    refine g_sipush (v := 801) F (by decide) dL_act_30 ?_
    refine g_callS F (kL_at Γ.1 _ _ 801 (by omega) (by omega)) okL_at mw252 ⟨(Nat.le_of_ble_eq_true rfl), (Nat.le_of_ble_eq_true rfl)⟩ rfl rfl (Nat.le_of_ble_eq_true rfl) ⟨(Nat.le_of_ble_eq_true rfl), (Nat.le_of_ble_eq_true rfl)⟩ dL_act_33 (toI (fun r10 S11 h12 => ?_))
    obtain ⟨⟨jr10, lr10, rfl⟩, rfl⟩ := h12
    refine g_sipush (v := 400) F (by decide) dL_act_36 ?_
    refine g_isub F dL_act_39 ?_
    refine g_topi (fun x13 ex13 => ?_)
    refine g_istore (L' := [(9, .int x13), (8, .int x9), (0, .ref (q 80)), (1, .int ac), (2, .int x), (3, .int y), (4, .ref (q 94)), (5, .ref (q 95)), (6, .ref (q 96)), (7, .ref (q 97))]) F dL_act_40 (Nat.le_of_ble_eq_true rfl) rfl ?_
    have hy0 := at_b (M := 801) (c := 400) lr10 (by omega) (by omega) ex13
    refine g_iload F 1 rfl dL_act_42 ?_
    refine g_sipush (v := 1000) F (by decide) dL_act_44 ?_
    have jn15 : ∀ (y8 : Int32), -1000 ≤ y8.toInt ∧ y8.toInt ≤ 1000 → G Γ S 0 0 55 [(9, .int x13), (8, .int y8), (0, .ref (q 80)), (1, .int ac), (2, .int x), (3, .int y), (4, .ref (q 94)), (5, .ref (q 95)), (6, .ref (q 96)), (7, .ref (q 97))] [] := by
      intro y8 hx9
      refine g_iload_n (k := 1) F 3 rfl dL_act_55 ?_
      refine g_iconst (v := 4) F (by decide) dL_act_56 ?_
      have jn17 : True → G Γ S 0 0 68 [(9, .int x13), (8, .int y8), (0, .ref (q 80)), (1, .int ac), (2, .int x), (3, .int y), (4, .ref (q 94)), (5, .ref (q 95)), (6, .ref (q 96)), (7, .ref (q 97))] [] := by
        intro  htr
        refine g_aload F 8 rfl dL_act_68 ?_
        refine g_iconst (v := 0) F (by decide) dL_act_70 ?_
        refine g_ialde rfl (j := 0) F (qi96 hq) rfl (by rw [(qn96 hq)]; omega) (by rw [(qn96 hq)]; decide) dL_act_71 ?_
        refine g_rei (nI (nc z)) hL.2.2.2.1.2.1 ?_
        refine g_bipush (v := 8) F (by decide) dL_act_72 ?_
        refine g_icmp_ne (t := 79) F dL_act_74 (by decide) (fun c18 => ?_) (fun c18 => ?_)
        · have h7 : nc z ≤ 7 := by
            rw [show (8 : Int32) = nI 8 from rfl, nI_eq (by omega) (by omega)] at c18
            omega
          refine g_iload_n (k := 2) F 4 rfl dL_act_79 ?_
          refine g_iconst (v := 4) F (by decide) dL_act_80 ?_
          refine g_ishr F dL_act_81 ?_
          refine g_aload F 8 rfl dL_act_82 ?_
          refine g_iconst (v := 0) F (by decide) dL_act_84 ?_
          refine g_ialde rfl (j := 0) F (qi96 hq) rfl (by rw [(qn96 hq)]; omega) (by rw [(qn96 hq)]; decide) dL_act_85 ?_
          refine g_rei (nI (nc z)) hL.2.2.2.1.2.1 ?_
          refine g_iconst (v := 1) F (by decide) dL_act_86 ?_
          refine g_iadd F dL_act_87 ?_
          refine g_rei (nI ((nc z) + 1)) (nadd rfl rfl) ?_
          refine g_callS F (kL_at Γ.1 _ _ (((nc z) + 1)) (by omega) (by omega)) okL_at mw252 ⟨(Nat.le_of_ble_eq_true rfl), (Nat.le_of_ble_eq_true rfl)⟩ rfl rfl (Nat.le_of_ble_eq_true rfl) ⟨(Nat.le_of_ble_eq_true rfl), (Nat.le_of_ble_eq_true rfl)⟩ dL_act_88 (toI (fun r19 S20 h21 => ?_))
          obtain ⟨⟨jr19, lr19, rfl⟩, rfl⟩ := h21
          refine g_istore (L' := [(10, .int (nI jr19)), (9, .int x13), (8, .int y8), (0, .ref (q 80)), (1, .int ac), (2, .int x), (3, .int y), (4, .ref (q 94)), (5, .ref (q 95)), (6, .ref (q 96)), (7, .ref (q 97))]) F dL_act_91 (Nat.le_of_ble_eq_true rfl) rfl ?_
          have hkK : jr19 ≤ nc z := by have := lr19; omega
          refine g_iconst (v := 3) F (by decide) dL_act_93 ?_
          refine g_aload F 9 rfl dL_act_94 ?_
          refine g_iconst (v := 0) F (by decide) dL_act_96 ?_
          refine g_ialde rfl (j := 0) F (qi96 hq) rfl (by rw [(qn96 hq)]; omega) (by rw [(qn96 hq)]; decide) dL_act_97 ?_
          refine g_rei (nI (nc z)) hL.2.2.2.1.2.1 ?_
          refine g_imul F dL_act_98 ?_
          refine g_rei (nI (3 * (nc z))) (nmul rfl rfl) ?_
          refine g_iconst (v := 1) F (by decide) dL_act_99 ?_
          refine g_isub F dL_act_100 ?_
          refine g_topi (fun x22 ex22 => ?_)
          refine g_istore (L' := [(11, .int x22), (10, .int (nI jr19)), (9, .int x13), (8, .int y8), (0, .ref (q 80)), (1, .int ac), (2, .int x), (3, .int y), (4, .ref (q 94)), (5, .ref (q 95)), (6, .ref (q 96)), (7, .ref (q 97))]) F dL_act_101 (Nat.le_of_ble_eq_true rfl) rfl ?_
          subst ex22
          have lp23 : ∀ (n9 : Nat) (m : Nat) (S1 : PS), m < n9 → (m ≤ 3 * nc z) → (3 * jr19 ≤ m) → (Fr S S1 q [95]) → (∀ j, j < m → pI S1 (q 95) j = pI S (q 95) j) → (∀ j, m + 3 ≤ j → j < 3 * nc z + 3 → pI S1 (q 95) j = pI S (q 95) (j - 3)) → G Γ S1 0 0 103 [(11, .int ((nI m) - 1)), (10, .int (nI jr19)), (9, .int x13), (8, .int y8), (0, .ref (q 80)), (1, .int ac), (2, .int x), (3, .int y), (4, .ref (q 94)), (5, .ref (q 95)), (6, .ref (q 96)), (7, .ref (q 97))] [] := by
            intro n9
            induction n9 with
            | zero =>
              intro m S1 hm9 hm1 hm3 hf hc1 hc2
              exact absurd hm9 (by omega)
            | succ n9 ihlp23 =>
              intro m S1 hm9 hm1 hm3 hf hc1 hc2
              have hq24 : Shp S1.1 S1.2.1 q := Fr.q hf hq
              refine g_iload F 0 rfl dL_act_103 ?_
              refine g_iconst (v := 3) F (by decide) dL_act_105 ?_
              refine g_iload F 1 rfl dL_act_106 ?_
              refine g_imul F dL_act_108 ?_
              refine g_rei (nI (3 * jr19)) (nmul rfl rfl) ?_
              refine g_icmp_lt (t := 130) F dL_act_109 (by decide) (fun c25 => ?_) (fun c25 => ?_)
              · have hme : m = 3 * jr19 := by
                  have h := (lt_m1 (by omega) (by omega)).mp c25
                  omega
                refine g_aload F 9 rfl dL_act_130 ?_
                refine g_iconst (v := 3) F (by decide) dL_act_132 ?_
                refine g_iload F 1 rfl dL_act_133 ?_
                refine g_imul F dL_act_135 ?_
                refine g_rei (nI (3 * jr19)) (nmul rfl rfl) ?_
                refine g_iload F 3 rfl dL_act_136 ?_
                refine g_iast (j := (3 * jr19)) F (qi95 hq24) rfl (by rw [(qn95 hq24)]; omega) (by rw [(qn95 hq24)]; decide) dL_act_138 ?_
                refine g_aload F 9 rfl dL_act_139 ?_
                refine g_iconst (v := 3) F (by decide) dL_act_141 ?_
                refine g_iload F 1 rfl dL_act_142 ?_
                refine g_imul F dL_act_144 ?_
                refine g_rei (nI (3 * jr19)) (nmul rfl rfl) ?_
                refine g_iconst (v := 1) F (by decide) dL_act_145 ?_
                refine g_iadd F dL_act_146 ?_
                refine g_rei (nI ((3 * jr19) + 1)) (nadd rfl rfl) ?_
                refine g_iload F 2 rfl dL_act_147 ?_
                refine g_iast (j := ((3 * jr19) + 1)) F (qi95 hq24) rfl (by rw [(qn95 hq24)]; omega) (by rw [(qn95 hq24)]; decide) dL_act_149 ?_
                refine g_aload F 9 rfl dL_act_150 ?_
                refine g_iconst (v := 3) F (by decide) dL_act_152 ?_
                refine g_iload F 1 rfl dL_act_153 ?_
                refine g_imul F dL_act_155 ?_
                refine g_rei (nI (3 * jr19)) (nmul rfl rfl) ?_
                refine g_iconst (v := 2) F (by decide) dL_act_156 ?_
                refine g_iadd F dL_act_157 ?_
                refine g_rei (nI ((3 * jr19) + 2)) (nadd rfl rfl) ?_
                refine g_iconst (v := 0) F (by decide) dL_act_158 ?_
                refine g_iast (j := ((3 * jr19) + 2)) F (qi95 hq24) rfl (by rw [(qn95 hq24)]; omega) (by rw [(qn95 hq24)]; decide) dL_act_159 ?_
                refine g_aload F 10 rfl dL_act_160 ?_
                refine g_iconst (v := 0) F (by decide) dL_act_162 ?_
                refine g_dup2 F dL_act_163 rfl rfl ?_
                refine g_ialde ((up2_r (qne hq24 (by decide) (by decide) (by decide))).trans ((up2_r (qne hq24 (by decide) (by decide) (by decide))).trans ((up2_r (qne hq24 (by decide) (by decide) (by decide))).trans (hf.2.2 96 (by decide) (by decide)).1))) (j := 0) F (qi96 hq24) rfl (by rw [(qn96 hq24)]; omega) (by rw [(qn96 hq24)]; decide) dL_act_164 ?_
                refine g_rei (nI (nc z)) hL.2.2.2.1.2.1 ?_
                refine g_iconst (v := 1) F (by decide) dL_act_165 ?_
                refine g_iadd F dL_act_166 ?_
                refine g_rei (nI ((nc z) + 1)) (nadd rfl rfl) ?_
                refine g_iast (j := 0) F (qi96 hq24) rfl (by rw [(qn96 hq24)]; omega) (by rw [(qn96 hq24)]; decide) dL_act_167 ?_
                refine g_aload F 10 rfl dL_act_168 ?_
                refine g_iconst (v := 1) F (by decide) dL_act_170 ?_
                refine g_iconst (v := 0) F (by decide) dL_act_171 ?_
                refine g_iast (j := 1) F (qi96 hq24) rfl (by rw [(qn96 hq24)]; omega) (by rw [(qn96 hq24)]; decide) dL_act_172 ?_
                refine g_gen (P := fun S9 => Lv S9 q (z, H, l, n, tx) (zIns z (nI jr19) y8 x13)) (ins_L hB hL hkK h7 hf (fun j hj => hc1 j (by omega)) (fun j h1 h2 => hc2 j (by omega) h2)) (fun S26 b27 => ?_)
                refine g_aload_n (k := 0) F 4 rfl dL_act_173 ?_
                refine g_iload F 1 rfl dL_act_174 ?_
                refine g_iload F 3 rfl dL_act_176 ?_
                refine g_iload F 2 rfl dL_act_178 ?_
                refine x_callV F (kX9_insert Γ.1 S26 q b27.1 z H l n tx hB b27.2.1 (nI jr19) y8 x13) okX9_insert (qi80 b27.1) mw385 ⟨(Nat.le_of_ble_eq_true rfl), (Nat.le_of_ble_eq_true rfl)⟩ rfl rfl (Nat.le_of_ble_eq_true rfl) ⟨(by show 0 + 3 ≤ 40; omega), (by show 0 + 18 ≤ 240; omega)⟩ dL_act_180 (fun E31 S32 h33 => ?_) (toI (fun r28 S29 h30 => ?_))
                · rw [ins_e (k := jr19) (x := y8) (y := x13) hkK h7 ⟨hx9, by omega⟩] at h33
                  rcases h33.1 with h | h | h <;> exact absurd (show (0 : Int32) = _ from h.2) (by decide)
                obtain ⟨-, er28, fr28, cr28⟩ := h30
                rw [ins_e (k := jr19) (x := y8) (y := x13) hkK h7 ⟨hx9, by omega⟩] at er28 cr28
                replace er28 : r28 = nI (nc z + 1) := er28
                replace cr28 : Cl S29 q (zIns z (nI jr19) y8 x13, psh H z, l, n, tx) := cr28
                have br28 := Lw.cl b27 fr28 cr28
                have ir28 : Iw (zIns z (nI jr19) y8 x13, psh H z, l, n, tx) := by
                                  have h := I_Ins (k := nI jr19) (x := y8) (y := x13) hI
                                  rw [ins_e (k := jr19) (x := y8) (y := x13) hkK h7 ⟨hx9, by omega⟩] at h
                                  exact h
                refine g_aload F 10 rfl dL_act_183 ?_
                refine g_iconst (v := 0) F (by decide) dL_act_185 ?_
                refine g_ialde rfl (j := 0) F (qi96 br28.1) rfl (by rw [(qn96 br28.1)]; omega) (by rw [(qn96 br28.1)]; decide) dL_act_186 ?_
                refine g_rei (nI (nc (zIns z (nI jr19) y8 x13))) br28.2.2.2.1.2.1 ?_
                refine g_icmp_ne (t := 194) F dL_act_187 (by decide) (fun c34 => ?_) (fun c34 => ?_)
                · exact absurd (er28.trans (congrArg nI (nc_zins hB).symm)) c34
                · refine g_iconst (v := 1) F (by decide) dL_act_190 ?_
                  refine g_goto (t := 195) F dL_act_191 (by decide) ?_
                  refine x_zret F T rfl ⟨_, rfl, ?_⟩ (by show (0 + 3) ≤ 40; omega) (by show (0 + 18) ≤ 240; omega) dL_act_195
                  exact ⟨rfl, _, ir28, br28, fun _ => psh_p⟩
              · have hmg : ¬ m ≤ 3 * jr19 := fun h => c25 ((lt_m1 (by omega) (by omega)).mpr h)
                have hmm : nI m - 1 = nI (m - 1) := nI_m1b (by omega)
                refine g_aload F 9 rfl dL_act_112 ?_
                refine g_iload F 0 rfl dL_act_114 ?_
                refine g_iconst (v := 3) F (by decide) dL_act_116 ?_
                refine g_iadd F dL_act_117 ?_
                refine g_rei (nI ((m - 1) + 3)) (nadd hmm rfl) ?_
                refine g_aload F 9 rfl dL_act_118 ?_
                refine g_iload F 0 rfl dL_act_120 ?_
                refine g_ialde rfl (j := (m - 1)) F (qi95 hq24) hmm (by rw [(qn95 hq24)]; omega) (by rw [(qn95 hq24)]; decide) dL_act_122 ?_
                refine g_iast (j := ((m - 1) + 3)) F (qi95 hq24) rfl (by rw [(qn95 hq24)]; omega) (by rw [(qn95 hq24)]; decide) dL_act_123 ?_
                obtain ⟨x35, ex35⟩ : ∃ y9 : Int32, y9 = ((nI m) - 1) + (-1) := ⟨_, rfl⟩
                refine g_iinc (k := 0) (v := x35) (L' := [(11, .int x35), (10, .int (nI jr19)), (9, .int x13), (8, .int y8), (0, .ref (q 80)), (1, .int ac), (2, .int x), (3, .int y), (4, .ref (q 94)), (5, .ref (q 95)), (6, .ref (q 96)), (7, .ref (q 97))]) F dL_act_124 rfl (by rw [ex35]; rfl) (Nat.le_of_ble_eq_true rfl) rfl ?_
                obtain rfl : x35 = nI (m - 1) - 1 := by rw [ex35, hmm]; exact I_m1
                refine g_goto (t := 103) F dL_act_127 (by decide) ?_
                refine g_sub (L' := [(11, .int ((nI (m - 1)) - 1)), (10, .int (nI jr19)), (9, .int x13), (8, .int y8), (0, .ref (q 80)), (1, .int ac), (2, .int x), (3, .int y), (4, .ref (q 94)), (5, .ref (q 95)), (6, .ref (q 96)), (7, .ref (q 97))]) [0, 1, 2, 3, 4, 5, 6, 7, 8, 9, 10, 11] rfl ?_
                exact ihlp23 (m - 1) ((wI S1 (q 95) (((m - 1) + 3)) ((pI S1 (q 95)) ((m - 1))))) (by omega) (by omega) (by omega) (Fr.wI hq hf (by decide) (by decide)) (fun j hj => (up2_k (by omega)).trans (hc1 j (by omega))) (fun j h1 h2 => if e : j = m - 1 + 3 then (by subst e; exact up2_s.trans ((hc1 _ (by omega)).trans (congrArg (pI S (q 95)) (by omega)))) else (up2_k e).trans (hc2 j (by omega) h2))
          exact lp23 (3 * nc z + 1) (3 * nc z) S (by omega) (by omega) (by omega) Fr.rf (fun _ _ => rfl) (fun j h1 h2 => absurd h2 (by omega))
        · have hn8 : nc z = 8 := by
            rw [show (8 : Int32) = nI 8 from rfl, nI_eq (by omega) (by omega)] at c18
            exact c18
          refine g_iconst (v := 1) F (by decide) dL_act_77 ?_
          refine x_zret F T rfl ⟨_, rfl, ?_⟩ (Nat.le_of_ble_eq_true rfl) (Nat.le_of_ble_eq_true rfl) dL_act_78
          exact ⟨rfl, _, hI, hL, fun h => h.elim id (fun h9 => absurd h9 (by omega))⟩
      refine g_icmp_lt (t := 68) F dL_act_57 (by decide) (fun c16 => ?_) (fun c16 => ?_)
      · exact jn17  trivial
      · refine g_aload F 8 rfl dL_act_60 ?_
        refine g_iconst (v := 0) F (by decide) dL_act_62 ?_
        refine g_ialde rfl (j := 0) F (qi96 hq) rfl (by rw [(qn96 hq)]; omega) (by rw [(qn96 hq)]; decide) dL_act_63 ?_
        refine g_rei (nI (nc z)) hL.2.2.2.1.2.1 ?_
        refine g_iconst (v := 3) F (by decide) dL_act_64 ?_
        refine g_icmp_ge (t := 196) F dL_act_65 (by decide) (fun c36 => ?_) (fun c36 => ?_)
        · have h3 : 3 ≤ nc z := (nI_leI (a := 3) (by omega) (by omega)).mp c36
          refine g_iload_n (k := 2) F 4 rfl dL_act_196 ?_
          refine g_iconst (v := 4) F (by decide) dL_act_197 ?_
          refine g_ishr F dL_act_198 ?_
          refine g_aload F 8 rfl dL_act_199 ?_
          refine g_iconst (v := 0) F (by decide) dL_act_201 ?_
          refine g_ialde rfl (j := 0) F (qi96 hq) rfl (by rw [(qn96 hq)]; omega) (by rw [(qn96 hq)]; decide) dL_act_202 ?_
          refine g_rei (nI (nc z)) hL.2.2.2.1.2.1 ?_
          refine g_callS F (kL_at Γ.1 _ _ ((nc z)) (by omega) (by omega)) okL_at mw252 ⟨(Nat.le_of_ble_eq_true rfl), (Nat.le_of_ble_eq_true rfl)⟩ rfl rfl (Nat.le_of_ble_eq_true rfl) ⟨(Nat.le_of_ble_eq_true rfl), (Nat.le_of_ble_eq_true rfl)⟩ dL_act_203 (toI (fun r37 S38 h39 => ?_))
          obtain ⟨⟨jr37, lr37, rfl⟩, rfl⟩ := h39
          refine g_istore (L' := [(10, .int (nI jr37)), (9, .int x13), (8, .int y8), (0, .ref (q 80)), (1, .int ac), (2, .int x), (3, .int y), (4, .ref (q 94)), (5, .ref (q 95)), (6, .ref (q 96)), (7, .ref (q 97))]) F dL_act_206 (Nat.le_of_ble_eq_true rfl) rfl ?_
          have hkK : jr37 < nc z := lr37
          refine g_aload F 9 rfl dL_act_208 ?_
          refine g_iconst (v := 1) F (by decide) dL_act_210 ?_
          refine g_ialde rfl (j := 1) F (qi96 hq) rfl (by rw [(qn96 hq)]; omega) (by rw [(qn96 hq)]; decide) dL_act_211 ?_
          refine g_rei (nI (nr z)) hL.2.2.2.2 ?_
          refine g_istore (L' := [(11, .int (nI (nr z))), (10, .int (nI jr37)), (9, .int x13), (8, .int y8), (0, .ref (q 80)), (1, .int ac), (2, .int x), (3, .int y), (4, .ref (q 94)), (5, .ref (q 95)), (6, .ref (q 96)), (7, .ref (q 97))]) F dL_act_212 (Nat.le_of_ble_eq_true rfl) rfl ?_
          refine g_iload_n (k := 1) F 5 rfl dL_act_214 ?_
          refine g_bipush (v := 9) F (by decide) dL_act_215 ?_
          refine g_icmp_ge (t := 401) F dL_act_217 (by decide) (fun c40 => ?_) (fun c40 => ?_)
          · refine g_iload_n (k := 1) F 5 rfl dL_act_401 ?_
            refine g_bipush (v := 9) F (by decide) dL_act_402 ?_
            refine g_icmp_ne (t := 459) F dL_act_404 (by decide) (fun c41 => ?_) (fun c41 => ?_)
            · refine g_aload F 10 rfl dL_act_459 ?_
              refine g_iconst (v := 1) F (by decide) dL_act_461 ?_
              refine g_iconst (v := 0) F (by decide) dL_act_462 ?_
              refine g_iast (j := 1) F (qi96 hq) rfl (by rw [(qn96 hq)]; omega) (by rw [(qn96 hq)]; decide) dL_act_463 ?_
              refine g_gen (P := fun S9 => Lv S9 q (z, H, l, n, tx) (vp_updL z 69 0)) (Lv.d1 hL) (fun S42 b43 => ?_)
              refine g_iload_n (k := 1) F 5 rfl dL_act_464 ?_
              refine g_bipush (v := 10) F (by decide) dL_act_465 ?_
              refine g_icmp_ne (t := 511) F dL_act_467 (by decide) (fun c44 => ?_) (fun c44 => ?_)
              · refine g_iload_n (k := 1) F 5 rfl dL_act_511 ?_
                refine g_bipush (v := 11) F (by decide) dL_act_512 ?_
                refine g_icmp_ne (t := 579) F dL_act_514 (by decide) (fun c45 => ?_) (fun c45 => ?_)
                · refine g_iload_n (k := 1) F 5 rfl dL_act_579 ?_
                  refine g_bipush (v := 12) F (by decide) dL_act_580 ?_
                  refine g_icmp_ne (t := 644) F dL_act_582 (by decide) (fun c46 => ?_) (fun c46 => ?_)
                  · refine g_iload_n (k := 2) F 6 rfl dL_act_644 ?_
                    refine g_iconst (v := 5) F (by decide) dL_act_645 ?_
                    refine g_callS F (kL_at Γ.1 _ _ 5 (by omega) (by omega)) okL_at mw252 ⟨(Nat.le_of_ble_eq_true rfl), (Nat.le_of_ble_eq_true rfl)⟩ rfl rfl (Nat.le_of_ble_eq_true rfl) ⟨(Nat.le_of_ble_eq_true rfl), (Nat.le_of_ble_eq_true rfl)⟩ dL_act_646 (toI (fun r47 S48 h49 => ?_))
                    obtain ⟨⟨jr47, lr47, rfl⟩, rfl⟩ := h49
                    refine g_istore (L' := [(12, .int (nI jr47)), (11, .int (nI (nr z))), (10, .int (nI jr37)), (9, .int x13), (8, .int y8), (0, .ref (q 80)), (1, .int ac), (2, .int x), (3, .int y), (4, .ref (q 94)), (5, .ref (q 95)), (6, .ref (q 96)), (7, .ref (q 97))]) F dL_act_649 (Nat.le_of_ble_eq_true rfl) rfl ?_
                    refine g_aload F 9 rfl dL_act_651 ?_
                    refine g_iload F 0 rfl dL_act_653 ?_
                    refine g_ialde rfl (j := jr47) F (qi94 b43.1) rfl (by rw [(qn94 b43.1)]; omega) (by rw [(qn94 b43.1)]; decide) dL_act_655 ?_
                    refine g_topi (fun x50 ex50 => ?_)
                    refine g_istore (L' := [(13, .int x50), (12, .int (nI jr47)), (11, .int (nI (nr z))), (10, .int (nI jr37)), (9, .int x13), (8, .int y8), (0, .ref (q 80)), (1, .int ac), (2, .int x), (3, .int y), (4, .ref (q 94)), (5, .ref (q 95)), (6, .ref (q 96)), (7, .ref (q 97))]) F dL_act_656 (Nat.le_of_ble_eq_true rfl) rfl ?_
                    refine g_aload F 10 rfl dL_act_658 ?_
                    refine g_iload F 1 rfl dL_act_660 ?_
                    refine g_iload F 1 rfl dL_act_662 ?_
                    refine g_iload_n (k := 3) F 9 rfl dL_act_664 ?_
                    refine g_callS F (kL_value Γ.1 _ jr47 (by omega) _) okL_value mw489 ⟨(Nat.le_of_ble_eq_true rfl), (Nat.le_of_ble_eq_true rfl)⟩ rfl rfl (Nat.le_of_ble_eq_true rfl) ⟨(Nat.le_of_ble_eq_true rfl), (Nat.le_of_ble_eq_true rfl)⟩ dL_act_665 (toI (fun r51 S52 h53 => ?_))
                    obtain ⟨vr51, rfl⟩ := h53
                    refine g_iast (j := jr47) F (qi94 b43.1) rfl (by rw [(qn94 b43.1)]; omega) (by rw [(qn94 b43.1)]; decide) dL_act_668 ?_
                    refine g_gen (P := fun S9 => Lv S9 q (z, H, l, n, tx) (zSet z (nI jr47) r51) ∧ pI S9 (q 94) jr47 = r51) (⟨(Lv.se (i := jr47) (by omega) b43).eq (set_q (by omega)), up2_s⟩) (fun S54 b55 => ?_)
                    obtain ⟨b55, v9⟩ := b55
                    refine g_aload_n (k := 0) F 6 rfl dL_act_669 ?_
                    refine g_iload F 1 rfl dL_act_670 ?_
                    refine g_aload F 10 rfl dL_act_672 ?_
                    refine g_iload F 1 rfl dL_act_674 ?_
                    refine g_ialde rfl (j := jr47) F (qi94 b55.1) rfl (by rw [(qn94 b55.1)]; omega) (by rw [(qn94 b55.1)]; decide) dL_act_676 ?_
                    refine g_rei r51 v9 ?_
                    refine x_callV F (kX9_set Γ.1 S54 q b55.1 z H l n tx hB b55.2.1 (nI jr47) r51) okX9_set (qi80 b55.1) mw492 ⟨(Nat.le_of_ble_eq_true rfl), (Nat.le_of_ble_eq_true rfl)⟩ rfl rfl (Nat.le_of_ble_eq_true rfl) ⟨(by show 0 + 3 ≤ 40; omega), (by show 0 + 18 ≤ 240; omega)⟩ dL_act_677 (fun E59 S60 h61 => ?_) (toI (fun r56 S57 h58 => ?_))
                    · rw [set_e (k := jr47) (v := r51) (by omega) vr51] at h61
                      rcases h61.1 with h | h <;> exact absurd (show (0 : Int32) = _ from h.2) (by decide)
                    obtain ⟨-, er56, fr56, cr56⟩ := h58
                    rw [set_e (k := jr47) (v := r51) (by omega) vr51] at er56 cr56
                    replace er56 : r56 = (z (2 + jr47)).toInt32 := er56
                    replace cr56 : Cl S57 q (zSet z (nI jr47) r51, psh H z, l, n, tx) := cr56
                    have br56 := Lw.cl b55 fr56 cr56
                    have ir56 : Iw (zSet z (nI jr47) r51, psh H z, l, n, tx) := by
                                          have h := I_Set (k := nI jr47) (v := r51) hI
                                          rw [set_e (k := jr47) (v := r51) (by omega) vr51] at h
                                          exact h
                    refine g_iload F 0 rfl dL_act_680 ?_
                    refine g_icmp_ne (t := 689) F dL_act_682 (by decide) (fun c62 => ?_) (fun c62 => ?_)
                    · exact absurd (er56.trans (by rw [ex50]; exact (i32_k ((Ls.e b43.2.2.1 (by omega)).trans (uLn (by omega)))).symm)) c62
                    · refine g_iconst (v := 1) F (by decide) dL_act_685 ?_
                      refine g_goto (t := 690) F dL_act_686 (by decide) ?_
                      refine x_zret F T rfl ⟨_, rfl, ?_⟩ (by show (0 + 3) ≤ 40; omega) (by show (0 + 18) ≤ 240; omega) dL_act_690
                      exact ⟨rfl, _, ir56, br56, fun _ => psh_p⟩
                  · refine g_aload F 8 rfl dL_act_585 ?_
                    refine g_iconst (v := 5) F (by decide) dL_act_587 ?_
                    refine g_iload_n (k := 2) F 6 rfl dL_act_588 ?_
                    refine g_iconst (v := 2) F (by decide) dL_act_589 ?_
                    refine g_ishr F dL_act_590 ?_
                    refine g_sipush (v := 1401) F (by decide) dL_act_591 ?_
                    refine g_callS F (kL_at Γ.1 _ _ 1401 (by omega) (by omega)) okL_at mw252 ⟨(Nat.le_of_ble_eq_true rfl), (Nat.le_of_ble_eq_true rfl)⟩ rfl rfl (Nat.le_of_ble_eq_true rfl) ⟨(Nat.le_of_ble_eq_true rfl), (Nat.le_of_ble_eq_true rfl)⟩ dL_act_594 (toI (fun r63 S64 h65 => ?_))
                    obtain ⟨⟨jr63, lr63, rfl⟩, rfl⟩ := h65
                    have a5 := at_b (x := nI jr63 - 700) (c := 700) lr63 (by omega) (by omega) rfl
                    refine g_sipush (v := 700) F (by decide) dL_act_597 ?_
                    refine g_isub F dL_act_600 ?_
                    refine g_iast (j := 5) F (qi94 b43.1) rfl (by rw [(qn94 b43.1)]; omega) (by rw [(qn94 b43.1)]; decide) dL_act_601 ?_
                    refine g_aload F 8 rfl dL_act_602 ?_
                    refine g_bipush (v := 6) F (by decide) dL_act_604 ?_
                    refine g_iload_n (k := 3) F 7 rfl dL_act_606 ?_
                    refine g_iconst (v := 2) F (by decide) dL_act_607 ?_
                    refine g_ishr F dL_act_608 ?_
                    refine g_sipush (v := 1401) F (by decide) dL_act_609 ?_
                    refine g_callS F (kL_at Γ.1 _ _ 1401 (by omega) (by omega)) okL_at mw252 ⟨(Nat.le_of_ble_eq_true rfl), (Nat.le_of_ble_eq_true rfl)⟩ rfl rfl (Nat.le_of_ble_eq_true rfl) ⟨(Nat.le_of_ble_eq_true rfl), (Nat.le_of_ble_eq_true rfl)⟩ dL_act_612 (toI (fun r66 S67 h68 => ?_))
                    obtain ⟨⟨jr66, lr66, rfl⟩, rfl⟩ := h68
                    have a6 := at_b (x := nI jr66 - 700) (c := 700) lr66 (by omega) (by omega) rfl
                    refine g_sipush (v := 700) F (by decide) dL_act_615 ?_
                    refine g_isub F dL_act_618 ?_
                    refine g_iast (j := 6) F (qi94 b43.1) rfl (by rw [(qn94 b43.1)]; omega) (by rw [(qn94 b43.1)]; decide) dL_act_619 ?_
                    refine g_gen (P := fun S9 => Lv S9 q (z, H, l, n, tx) (zAnc z ((nI jr63) - 700) ((nI jr66) - 700)) ∧ pI S9 (q 94) 5 = ((nI jr63) - 700) ∧ pI S9 (q 94) 6 = ((nI jr66) - 700)) (⟨(Lv.an b43).eq anc_q, (up2_k (by decide)).trans up2_s, up2_s⟩) (fun S69 b70 => ?_)
                    obtain ⟨b70, v5, v6⟩ := b70
                    refine g_aload_n (k := 0) F 4 rfl dL_act_620 ?_
                    refine g_aload F 8 rfl dL_act_621 ?_
                    refine g_iconst (v := 5) F (by decide) dL_act_623 ?_
                    refine g_ialde rfl (j := 5) F (qi94 b70.1) rfl (by rw [(qn94 b70.1)]; omega) (by rw [(qn94 b70.1)]; decide) dL_act_624 ?_
                    refine g_rei ((nI jr63) - 700) v5 ?_
                    refine g_aload F 8 rfl dL_act_625 ?_
                    refine g_bipush (v := 6) F (by decide) dL_act_627 ?_
                    refine g_ialde rfl (j := 6) F (qi94 b70.1) rfl (by rw [(qn94 b70.1)]; omega) (by rw [(qn94 b70.1)]; decide) dL_act_629 ?_
                    refine g_rei ((nI jr66) - 700) v6 ?_
                    refine x_callV F (kX9_setAnchor Γ.1 S69 q b70.1 z H l n tx hB b70.2.1 ((nI jr63) - 700) ((nI jr66) - 700)) okX9_setAnchor (qi80 b70.1) mw485 ⟨(Nat.le_of_ble_eq_true rfl), (Nat.le_of_ble_eq_true rfl)⟩ rfl rfl (Nat.le_of_ble_eq_true rfl) ⟨(by show 0 + 3 ≤ 40; omega), (by show 0 + 18 ≤ 240; omega)⟩ dL_act_630 (fun E74 S75 h76 => ?_) (toI (fun r71 S72 h73 => ?_))
                    · rw [anc_e (a := ((nI jr63) - 700)) (b := ((nI jr66) - 700)) (by have := a5; omega) (by have := a6; omega)] at h76
                      exact absurd (show (0 : Int32) = _ from h76.1.2) (by decide)
                    obtain ⟨-, er71, fr71, cr71⟩ := h73
                    rw [anc_e (a := ((nI jr63) - 700)) (b := ((nI jr66) - 700)) (by have := a5; omega) (by have := a6; omega)] at er71 cr71
                    replace er71 : r71 = nI (nr z) := er71
                    replace cr71 : Cl S72 q (zAnc z ((nI jr63) - 700) ((nI jr66) - 700), psh H z, l, n, tx) := cr71
                    have br71 := Lw.cl b70 fr71 cr71
                    have ir71 : Iw (zAnc z ((nI jr63) - 700) ((nI jr66) - 700), psh H z, l, n, tx) := by
                                          have h := I_Anc (x := ((nI jr63) - 700)) (y := ((nI jr66) - 700)) hI
                                          rw [anc_e (a := ((nI jr63) - 700)) (b := ((nI jr66) - 700)) (by have := a5; omega) (by have := a6; omega)] at h
                                          exact h
                    refine g_iload F 0 rfl dL_act_633 ?_
                    refine g_icmp_ne (t := 642) F dL_act_635 (by decide) (fun c77 => ?_) (fun c77 => ?_)
                    · exact absurd (er71) c77
                    · refine g_iconst (v := 1) F (by decide) dL_act_638 ?_
                      refine g_goto (t := 643) F dL_act_639 (by decide) ?_
                      refine x_zret F T rfl ⟨_, rfl, ?_⟩ (by show (0 + 3) ≤ 40; omega) (by show (0 + 18) ≤ 240; omega) dL_act_643
                      exact ⟨rfl, _, ir71, br71, fun _ => psh_p⟩
                · refine g_aload F 10 rfl dL_act_517 ?_
                  refine g_iconst (v := 0) F (by decide) dL_act_519 ?_
                  refine g_dup2 F dL_act_520 rfl rfl ?_
                  refine g_ialde rfl (j := 0) F (qi96 b43.1) rfl (by rw [(qn96 b43.1)]; omega) (by rw [(qn96 b43.1)]; decide) dL_act_521 ?_
                  refine g_rei (nI (nc z)) (b43.2.2.2.1.2.1.trans (congrArg nI (uL_nc (by decide)))) ?_
                  refine g_iconst (v := 1) F (by decide) dL_act_522 ?_
                  refine g_isub F dL_act_523 ?_
                  refine g_rei (nI ((nc z) - 1)) (nsub rfl rfl (by omega)) ?_
                  refine g_iast (j := 0) F (qi96 b43.1) rfl (by rw [(qn96 b43.1)]; omega) (by rw [(qn96 b43.1)]; decide) dL_act_524 ?_
                  refine g_iconst (v := 3) F (by decide) dL_act_525 ?_
                  refine g_iload F 1 rfl dL_act_526 ?_
                  refine g_imul F dL_act_528 ?_
                  refine g_rei (nI (3 * jr37)) (nmul rfl rfl) ?_
                  refine g_istore (L' := [(12, .int (nI (3 * jr37))), (11, .int (nI (nr z))), (10, .int (nI jr37)), (9, .int x13), (8, .int y8), (0, .ref (q 80)), (1, .int ac), (2, .int x), (3, .int y), (4, .ref (q 94)), (5, .ref (q 95)), (6, .ref (q 96)), (7, .ref (q 97))]) F dL_act_529 (Nat.le_of_ble_eq_true rfl) rfl ?_
                  have lp78 : ∀ (n9 : Nat) (i : Nat) (S1 : PS), 3 * nc z < i + n9 → (3 * jr37 ≤ i) → (i ≤ 3 * (nc z - 1)) → (Fr (wI S42 (q 96) (0) (nI ((nc z) - 1))) S1 q [95]) → (∀ j, j < 3 * jr37 → pI S1 (q 95) j = pI S42 (q 95) j) → (∀ j, 3 * jr37 ≤ j → j < i → pI S1 (q 95) j = pI S42 (q 95) (j + 3)) → (∀ j, i ≤ j → pI S1 (q 95) j = pI S42 (q 95) j) → G Γ S1 0 0 531 [(12, .int (nI i)), (11, .int (nI (nr z))), (10, .int (nI jr37)), (9, .int x13), (8, .int y8), (0, .ref (q 80)), (1, .int ac), (2, .int x), (3, .int y), (4, .ref (q 94)), (5, .ref (q 95)), (6, .ref (q 96)), (7, .ref (q 97))] [] := by
                    intro n9
                    induction n9 with
                    | zero =>
                      intro i S1 hm9 hi3 hi9 hf hc1 hc2 hc3
                      exact absurd hm9 (by omega)
                    | succ n9 ihlp78 =>
                      intro i S1 hm9 hi3 hi9 hf hc1 hc2 hc3
                      have hq79 : Shp S1.1 S1.2.1 q := Fr.q hf b43.1
                      refine g_iload F 0 rfl dL_act_531 ?_
                      refine g_iconst (v := 3) F (by decide) dL_act_533 ?_
                      refine g_aload F 11 rfl dL_act_534 ?_
                      refine g_iconst (v := 0) F (by decide) dL_act_536 ?_
                      refine g_ialde rfl (j := 0) F (qi96 hq79) rfl (by rw [(qn96 hq79)]; omega) (by rw [(qn96 hq79)]; decide) dL_act_537 ?_
                      refine g_rei (nI (nc z - 1)) ((congrFun (hf.2.2 96 (by decide) (by decide)).1 0).trans up2_s) ?_
                      refine g_imul F dL_act_538 ?_
                      refine g_rei (nI (3 * (nc z - 1))) (nmul rfl rfl) ?_
                      refine g_icmp_ge (t := 560) F dL_act_539 (by decide) (fun c80 => ?_) (fun c80 => ?_)
                      · have hie : i = 3 * (nc z - 1) := by
                          rw [nI_leI (by omega) (by omega)] at c80
                          omega
                        refine g_gen (P := fun S9 => Lv S9 q (z, H, l, n, tx) (zRem z (nI jr37))) (rem_L hB b43 hkK hf hc1 (fun j h1 h2 => hc2 j h1 (by omega))) (fun S81 b82 => ?_)
                        refine g_aload_n (k := 0) F 5 rfl dL_act_560 ?_
                        refine g_iload F 2 rfl dL_act_561 ?_
                        refine x_callV F (kX9_remove Γ.1 S81 q b82.1 z H l n tx hB b82.2.1 (nI jr37)) okX9_remove (qi80 b82.1) mw478 ⟨(Nat.le_of_ble_eq_true rfl), (Nat.le_of_ble_eq_true rfl)⟩ rfl rfl (Nat.le_of_ble_eq_true rfl) ⟨(by show 0 + 3 ≤ 40; omega), (by show 0 + 18 ≤ 240; omega)⟩ dL_act_563 (fun E86 S87 h88 => ?_) (toI (fun r83 S84 h85 => ?_))
                        · rw [rem_e (k := jr37) hkK h8] at h88
                          exact absurd (show (0 : Int32) = _ from h88.1.2) (by decide)
                        obtain ⟨-, er83, fr83, cr83⟩ := h85
                        rw [rem_e (k := jr37) hkK h8] at er83 cr83
                        replace er83 : r83 = nI (nc z - 1) := er83
                        replace cr83 : Cl S84 q (zRem z (nI jr37), psh H z, l, n, tx) := cr83
                        have br83 := Lw.cl b82 fr83 cr83
                        have ir83 : Iw (zRem z (nI jr37), psh H z, l, n, tx) := by
                                                  have h := I_Rem (k := nI jr37) hI
                                                  rw [rem_e (k := jr37) hkK h8] at h
                                                  exact h
                        refine g_aload F 11 rfl dL_act_566 ?_
                        refine g_iconst (v := 0) F (by decide) dL_act_568 ?_
                        refine g_ialde rfl (j := 0) F (qi96 br83.1) rfl (by rw [(qn96 br83.1)]; omega) (by rw [(qn96 br83.1)]; decide) dL_act_569 ?_
                        refine g_rei (nI (nc (zRem z (nI jr37)))) br83.2.2.2.1.2.1 ?_
                        refine g_icmp_ne (t := 577) F dL_act_570 (by decide) (fun c89 => ?_) (fun c89 => ?_)
                        · exact absurd (er83.trans (congrArg nI (nc_zrem hB hkK).symm)) c89
                        · refine g_iconst (v := 1) F (by decide) dL_act_573 ?_
                          refine g_goto (t := 578) F dL_act_574 (by decide) ?_
                          refine x_zret F T rfl ⟨_, rfl, ?_⟩ (by show (0 + 3) ≤ 40; omega) (by show (0 + 18) ≤ 240; omega) dL_act_578
                          exact ⟨rfl, _, ir83, br83, fun _ => psh_p⟩
                      · have hil : i < 3 * (nc z - 1) := by
                          rw [nI_leI (by omega) (by omega)] at c80
                          omega
                        refine g_aload F 10 rfl dL_act_542 ?_
                        refine g_iload F 0 rfl dL_act_544 ?_
                        refine g_aload F 10 rfl dL_act_546 ?_
                        refine g_iload F 0 rfl dL_act_548 ?_
                        refine g_iconst (v := 3) F (by decide) dL_act_550 ?_
                        refine g_iadd F dL_act_551 ?_
                        refine g_rei (nI (i + 3)) (nadd rfl rfl) ?_
                        refine g_ialde rfl (j := (i + 3)) F (qi95 hq79) rfl (by rw [(qn95 hq79)]; omega) (by rw [(qn95 hq79)]; decide) dL_act_552 ?_
                        refine g_iast (j := i) F (qi95 hq79) rfl (by rw [(qn95 hq79)]; omega) (by rw [(qn95 hq79)]; decide) dL_act_553 ?_
                        obtain ⟨x90, ex90⟩ : ∃ y9 : Int32, y9 = (nI i) + 1 := ⟨_, rfl⟩
                        refine g_iinc (k := 0) (v := x90) (L' := [(12, .int x90), (11, .int (nI (nr z))), (10, .int (nI jr37)), (9, .int x13), (8, .int y8), (0, .ref (q 80)), (1, .int ac), (2, .int x), (3, .int y), (4, .ref (q 94)), (5, .ref (q 95)), (6, .ref (q 96)), (7, .ref (q 97))]) F dL_act_554 rfl (by rw [ex90]; rfl) (Nat.le_of_ble_eq_true rfl) rfl ?_
                        refine g_goto (t := 531) F dL_act_557 (by decide) ?_
                        obtain rfl : x90 = nI (i + 1) := (ex90.trans (nI_1 _))
                        refine g_sub (L' := [(12, .int (nI (i + 1))), (11, .int (nI (nr z))), (10, .int (nI jr37)), (9, .int x13), (8, .int y8), (0, .ref (q 80)), (1, .int ac), (2, .int x), (3, .int y), (4, .ref (q 94)), (5, .ref (q 95)), (6, .ref (q 96)), (7, .ref (q 97))]) [0, 1, 2, 3, 4, 5, 6, 7, 8, 9, 10, 11, 12] rfl ?_
                        exact ihlp78 (i + 1) ((wI S1 (q 95) (i) ((pI S1 (q 95)) ((i + 3))))) (by omega) (by omega) (by omega) (Fr.wI b43.1 hf (by decide) (by decide)) (fun j hj => (up2_k (by omega)).trans (hc1 j hj)) (fun j h1 h2 => if e : j = i then (by subst e; exact up2_s.trans (hc3 _ (by omega))) else (up2_k e).trans (hc2 j h1 (by omega))) (fun j hj => (up2_k (by omega)).trans (hc3 j (by omega)))
                  exact lp78 (3 * nc z + 1) (3 * jr37) (wI S42 (q 96) (0) (nI ((nc z) - 1))) (by omega) (by omega) (by omega) Fr.rf (fun j _ => congrFun (up2_r (qne b43.1 (by decide) (by decide) (by decide))) j) (fun j h1 h2 => absurd h2 (by omega)) (fun j _ => congrFun (up2_r (qne b43.1 (by decide) (by decide) (by decide))) j)
              · refine g_aload F 9 rfl dL_act_470 ?_
                refine g_iconst (v := 3) F (by decide) dL_act_472 ?_
                refine g_iload F 1 rfl dL_act_473 ?_
                refine g_imul F dL_act_475 ?_
                refine g_rei (nI (3 * jr37)) (nmul rfl rfl) ?_
                refine g_iload F 3 rfl dL_act_476 ?_
                refine g_iast (j := (3 * jr37)) F (qi95 b43.1) rfl (by rw [(qn95 b43.1)]; omega) (by rw [(qn95 b43.1)]; decide) dL_act_478 ?_
                refine g_aload F 9 rfl dL_act_479 ?_
                refine g_iconst (v := 3) F (by decide) dL_act_481 ?_
                refine g_iload F 1 rfl dL_act_482 ?_
                refine g_imul F dL_act_484 ?_
                refine g_rei (nI (3 * jr37)) (nmul rfl rfl) ?_
                refine g_iconst (v := 1) F (by decide) dL_act_485 ?_
                refine g_iadd F dL_act_486 ?_
                refine g_rei (nI ((3 * jr37) + 1)) (nadd rfl rfl) ?_
                refine g_iload F 2 rfl dL_act_487 ?_
                refine g_iast (j := ((3 * jr37) + 1)) F (qi95 b43.1) rfl (by rw [(qn95 b43.1)]; omega) (by rw [(qn95 b43.1)]; decide) dL_act_489 ?_
                refine g_gen (P := fun S9 => Lv S9 q (z, H, l, n, tx) (vp_updL (zMov z (nI jr37) y8 x13) 69 0)) ((Lv.co (m := nc z) (by rw [uL_nc (by omega), uL_nc (by decide)]) (by omega) (Lv.co (m := nc z) (uL_nc (by decide)) (by omega) b43)).eq (mov_q (by omega))) (fun S91 b92 => ?_)
                refine g_aload_n (k := 0) F 4 rfl dL_act_490 ?_
                refine g_iload F 1 rfl dL_act_491 ?_
                refine g_iload F 3 rfl dL_act_493 ?_
                refine g_iload F 2 rfl dL_act_495 ?_
                refine x_callV F (kX9_move Γ.1 S91 q b92.1 z H l n tx hB b92.2.1 (nI jr37) y8 x13) okX9_move (qi80 b92.1) mw474 ⟨(Nat.le_of_ble_eq_true rfl), (Nat.le_of_ble_eq_true rfl)⟩ rfl rfl (Nat.le_of_ble_eq_true rfl) ⟨(by show 0 + 3 ≤ 40; omega), (by show 0 + 18 ≤ 240; omega)⟩ dL_act_497 (fun E96 S97 h98 => ?_) (toI (fun r93 S94 h95 => ?_))
                · rw [mov_e (k := jr37) (x := y8) (y := x13) hkK h8 ⟨hx9, by omega⟩] at h98
                  rcases h98.1 with h | h <;> exact absurd (show (0 : Int32) = _ from h.2) (by decide)
                obtain ⟨-, er93, fr93, cr93⟩ := h95
                rw [mov_e (k := jr37) (x := y8) (y := x13) hkK h8 ⟨hx9, by omega⟩] at er93 cr93
                replace er93 : r93 = nI (nr z) := er93
                replace cr93 : Cl S94 q (vp_updL (zMov z (nI jr37) y8 x13) 69 0, psh H z, l, n, tx) := cr93
                have br93 := Lw.cl b92 fr93 cr93
                have ir93 : Iw (vp_updL (zMov z (nI jr37) y8 x13) 69 0, psh H z, l, n, tx) := by
                                  have h := I_Mov (k := nI jr37) (x := y8) (y := x13) hI
                                  rw [mov_e (k := jr37) (x := y8) (y := x13) hkK h8 ⟨hx9, by omega⟩] at h
                                  exact h
                refine g_iload F 0 rfl dL_act_500 ?_
                refine g_icmp_ne (t := 509) F dL_act_502 (by decide) (fun c99 => ?_) (fun c99 => ?_)
                · exact absurd (er93) c99
                · refine g_iconst (v := 1) F (by decide) dL_act_505 ?_
                  refine g_goto (t := 510) F dL_act_506 (by decide) ?_
                  refine x_zret F T rfl ⟨_, rfl, ?_⟩ (by show (0 + 3) ≤ 40; omega) (by show (0 + 18) ≤ 240; omega) dL_act_510
                  exact ⟨rfl, _, ir93, br93, fun _ => psh_p⟩
            · refine g_aload F 9 rfl dL_act_407 ?_
              refine g_iconst (v := 3) F (by decide) dL_act_409 ?_
              refine g_iload F 1 rfl dL_act_410 ?_
              refine g_imul F dL_act_412 ?_
              refine g_rei (nI (3 * jr37)) (nmul rfl rfl) ?_
              refine g_iconst (v := 2) F (by decide) dL_act_413 ?_
              refine g_iadd F dL_act_414 ?_
              refine g_rei (nI ((3 * jr37) + 2)) (nadd rfl rfl) ?_
              refine g_ialde rfl (j := ((3 * jr37) + 2)) F (qi95 hq) rfl (by rw [(qn95 hq)]; omega) (by rw [(qn95 hq)]; decide) dL_act_415 ?_
              refine g_topi (fun x100 ex100 => ?_)
              refine g_istore (L' := [(12, .int x100), (11, .int (nI (nr z))), (10, .int (nI jr37)), (9, .int x13), (8, .int y8), (0, .ref (q 80)), (1, .int ac), (2, .int x), (3, .int y), (4, .ref (q 94)), (5, .ref (q 95)), (6, .ref (q 96)), (7, .ref (q 97))]) F dL_act_416 (Nat.le_of_ble_eq_true rfl) rfl ?_
              refine g_aload F 10 rfl dL_act_418 ?_
              refine g_iconst (v := 3) F (by decide) dL_act_420 ?_
              refine g_iload F 2 rfl dL_act_421 ?_
              refine g_imul F dL_act_423 ?_
              refine g_rei (nI (3 * jr37)) (nmul rfl rfl) ?_
              refine g_iconst (v := 2) F (by decide) dL_act_424 ?_
              refine g_iadd F dL_act_425 ?_
              refine g_rei (nI ((3 * jr37) + 2)) (nadd rfl rfl) ?_
              refine g_iload_n (k := 3) F 8 rfl dL_act_426 ?_
              refine g_bipush (v := 101) F (by decide) dL_act_427 ?_
              refine g_callS F (kL_at Γ.1 _ _ 101 (by omega) (by omega)) okL_at mw252 ⟨(Nat.le_of_ble_eq_true rfl), (Nat.le_of_ble_eq_true rfl)⟩ rfl rfl (Nat.le_of_ble_eq_true rfl) ⟨(Nat.le_of_ble_eq_true rfl), (Nat.le_of_ble_eq_true rfl)⟩ dL_act_429 (toI (fun r101 S102 h103 => ?_))
              obtain ⟨⟨jr101, lr101, rfl⟩, rfl⟩ := h103
              refine g_iast (j := ((3 * jr37) + 2)) F (qi95 hq) rfl (by rw [(qn95 hq)]; omega) (by rw [(qn95 hq)]; decide) dL_act_432 ?_
              refine g_gen (P := fun S9 => Lv S9 q (z, H, l, n, tx) (zSlp z (nI jr37) (nI jr101)) ∧ pI S9 (q 95) (3 * jr37 + 2) = nI jr101) (⟨(Lv.co (m := nc z) rfl (by omega) hL).eq (slp_q (by omega)), up2_s⟩) (fun S104 b105 => ?_)
              obtain ⟨b105, v9⟩ := b105
              refine g_aload_n (k := 0) F 5 rfl dL_act_433 ?_
              refine g_iload F 2 rfl dL_act_434 ?_
              refine g_aload F 10 rfl dL_act_436 ?_
              refine g_iconst (v := 3) F (by decide) dL_act_438 ?_
              refine g_iload F 2 rfl dL_act_439 ?_
              refine g_imul F dL_act_441 ?_
              refine g_rei (nI (3 * jr37)) (nmul rfl rfl) ?_
              refine g_iconst (v := 2) F (by decide) dL_act_442 ?_
              refine g_iadd F dL_act_443 ?_
              refine g_rei (nI ((3 * jr37) + 2)) (nadd rfl rfl) ?_
              refine g_ialde rfl (j := ((3 * jr37) + 2)) F (qi95 b105.1) rfl (by rw [(qn95 b105.1)]; omega) (by rw [(qn95 b105.1)]; decide) dL_act_444 ?_
              refine g_rei (nI jr101) v9 ?_
              refine x_callV F (kX9_setSlip Γ.1 S104 q b105.1 z H l n tx hB b105.2.1 (nI jr37) (nI jr101)) okX9_setSlip (qi80 b105.1) mw470 ⟨(Nat.le_of_ble_eq_true rfl), (Nat.le_of_ble_eq_true rfl)⟩ rfl rfl (Nat.le_of_ble_eq_true rfl) ⟨(by show 0 + 3 ≤ 40; omega), (by show 0 + 18 ≤ 240; omega)⟩ dL_act_445 (fun E109 S110 h111 => ?_) (toI (fun r106 S107 h108 => ?_))
              · rw [slq_e (k := jr37) (j := jr101) hkK h8 lr101] at h111
                rcases h111.1 with h | h <;> exact absurd (show (0 : Int32) = _ from h.2) (by decide)
              obtain ⟨-, er106, fr106, cr106⟩ := h108
              rw [slq_e (k := jr37) (j := jr101) hkK h8 lr101] at er106 cr106
              replace er106 : r106 = (z (9 + 3 * jr37 + 2)).toInt32 := er106
              replace cr106 : Cl S107 q (zSlp z (nI jr37) (nI jr101), psh H z, l, n, tx) := cr106
              have br106 := Lw.cl b105 fr106 cr106
              have ir106 : Iw (zSlp z (nI jr37) (nI jr101), psh H z, l, n, tx) := by
                              have h := I_Slp (k := nI jr37) (v := nI jr101) hI
                              rw [slq_e (k := jr37) (j := jr101) hkK h8 lr101] at h
                              exact h
              refine g_iload F 0 rfl dL_act_448 ?_
              refine g_icmp_ne (t := 457) F dL_act_450 (by decide) (fun c112 => ?_) (fun c112 => ?_)
              · exact absurd (er106.trans (by rw [ex100]; exact (i32_k (hL.2.2.2.1.S hkK)).symm)) c112
              · refine g_iconst (v := 1) F (by decide) dL_act_453 ?_
                refine g_goto (t := 458) F dL_act_454 (by decide) ?_
                refine x_zret F T rfl ⟨_, rfl, ?_⟩ (by show (0 + 3) ≤ 40; omega) (by show (0 + 18) ≤ 240; omega) dL_act_458
                exact ⟨rfl, _, ir106, br106, fun _ => psh_p⟩
          · refine g_iload_n (k := 3) F 7 rfl dL_act_220 ?_
            refine g_iconst (v := 5) F (by decide) dL_act_221 ?_
            refine g_ishr F dL_act_222 ?_
            refine g_iconst (v := 2) F (by decide) dL_act_223 ?_
            refine g_callS F (kL_at Γ.1 _ _ 2 (by omega) (by omega)) okL_at mw252 ⟨(Nat.le_of_ble_eq_true rfl), (Nat.le_of_ble_eq_true rfl)⟩ rfl rfl (Nat.le_of_ble_eq_true rfl) ⟨(Nat.le_of_ble_eq_true rfl), (Nat.le_of_ble_eq_true rfl)⟩ dL_act_224 (toI (fun r113 S114 h115 => ?_))
            obtain ⟨⟨jr113, lr113, rfl⟩, rfl⟩ := h115
            have jn117 : ∀ (w235 : Int32), w235 = 1 ∨ w235 = 0 → G Γ S 0 0 235 [(11, .int (nI (nr z))), (10, .int (nI jr37)), (9, .int x13), (8, .int y8), (0, .ref (q 80)), (1, .int ac), (2, .int x), (3, .int y), (4, .ref (q 94)), (5, .ref (q 95)), (6, .ref (q 96)), (7, .ref (q 97))] [.int w235] := by
              intro w235 hj5
              obtain ⟨b9, rfl⟩ := ex_b hj5
              refine g_istore (L' := [(12, .int (bI b9)), (11, .int (nI (nr z))), (10, .int (nI jr37)), (9, .int x13), (8, .int y8), (0, .ref (q 80)), (1, .int ac), (2, .int x), (3, .int y), (4, .ref (q 94)), (5, .ref (q 95)), (6, .ref (q 96)), (7, .ref (q 97))]) F dL_act_235 (Nat.le_of_ble_eq_true rfl) rfl ?_
              refine g_aload F 9 rfl dL_act_237 ?_
              refine g_aload F 10 rfl dL_act_239 ?_
              refine g_aload F 11 rfl dL_act_241 ?_
              refine g_aload F 12 rfl dL_act_243 ?_
              refine g_callS F (kL_why Γ.1 S q hq z hB hL.2.2.1 hL.2.2.2.1 hL.2.2.2.2) okL_why mw270 ⟨(Nat.le_of_ble_eq_true rfl), (Nat.le_of_ble_eq_true rfl)⟩ rfl rfl (Nat.le_of_ble_eq_true rfl) ⟨(Nat.le_of_ble_eq_true rfl), (Nat.le_of_ble_eq_true rfl)⟩ dL_act_245 (toI (fun r118 S119 h120 => ?_))
              obtain ⟨rfl, fr118⟩ := h120
              have br118 := Lw.f97 hL fr118
              refine g_if_le (t := 253) F dL_act_248 (by decide) (fun c121 => ?_) (fun c121 => ?_)
              · have hr0 : zRf z = 0 := nI_le0 c121 (by have := zRf_le (z := z); omega)
                have hz0 := zRf_0 hB hr0
                refine g_iload F 2 rfl dL_act_253 ?_
                refine g_iload F 0 rfl dL_act_255 ?_
                refine g_aload F 9 rfl dL_act_257 ?_
                refine g_aload F 10 rfl dL_act_259 ?_
                refine g_aload F 11 rfl dL_act_261 ?_
                refine g_aload F 12 rfl dL_act_263 ?_
                refine g_callS F (kL_sum Γ.1 S119 q br118.1 z hB br118.2.2.1 br118.2.2.2.1 jr37 (by omega) b9 hz0.2.1) okL_sum mw423 ⟨(Nat.le_of_ble_eq_true rfl), (Nat.le_of_ble_eq_true rfl)⟩ rfl rfl (Nat.le_of_ble_eq_true rfl) ⟨(Nat.le_of_ble_eq_true rfl), (Nat.le_of_ble_eq_true rfl)⟩ dL_act_265 (toJ (fun r122 S123 h124 => ?_))
                obtain ⟨er122, fr122⟩ := h124
                have br122 := Lw.f97 br118 fr122
                refine g_lstore (L' := [(13, .long r122), (12, .int (bI b9)), (11, .int (nI (nr z))), (10, .int (nI jr37)), (9, .int x13), (8, .int y8), (0, .ref (q 80)), (1, .int ac), (2, .int x), (3, .int y), (4, .ref (q 94)), (5, .ref (q 95)), (6, .ref (q 96)), (7, .ref (q 97))]) F dL_act_268 (Nat.le_of_ble_eq_true rfl) rfl ?_
                refine g_aload F 12 rfl dL_act_270 ?_
                refine g_iconst (v := 1) F (by decide) dL_act_272 ?_
                refine g_dup2 F dL_act_273 rfl rfl ?_
                refine g_ialde rfl (j := 1) F (qi96 br122.1) rfl (by rw [(qn96 br122.1)]; omega) (by rw [(qn96 br122.1)]; decide) dL_act_274 ?_
                refine g_rei (nI (nr z)) br122.2.2.2.2 ?_
                refine g_iconst (v := 1) F (by decide) dL_act_275 ?_
                refine g_iadd F dL_act_276 ?_
                refine g_rei (nI ((nr z) + 1)) (nadd rfl rfl) ?_
                refine g_iast (j := 1) F (qi96 br122.1) rfl (by rw [(qn96 br122.1)]; omega) (by rw [(qn96 br122.1)]; decide) dL_act_277 ?_
                refine g_gen (P := fun S9 => Lv S9 q (z, H, l, n, tx) (zMk z jr37 b9)) (Lv.d1i hB hz0.2.2 br122) (fun S125 b126 => ?_)
                refine g_aload_n (k := 0) F 6 rfl dL_act_278 ?_
                refine g_iload F 3 rfl dL_act_279 ?_
                refine g_iload F 1 rfl dL_act_281 ?_
                refine x_callV F (kX9_run Γ.1 S125 q b126.1 z H l n tx hB b126.2.1 (nI jr37) b9) okX9_run (qi80 b126.1) mw427 ⟨(Nat.le_of_ble_eq_true rfl), (Nat.le_of_ble_eq_true rfl)⟩ rfl rfl (Nat.le_of_ble_eq_true rfl) ⟨(by show 0 + 3 ≤ 40; omega), (by show 0 + 18 ≤ 240; omega)⟩ dL_act_283 (fun E130 S131 h132 => ?_) (toI (fun r127 S128 h129 => ?_))
                · rw [run_e (k := jr37) (b := b9) hkK h8 hr0] at h132
                  rcases h132.1 with h | h <;> exact absurd (show (0 : Int32) = _ from h.2) (by decide)
                obtain ⟨-, er127, fr127, cr127⟩ := h129
                rw [run_e (k := jr37) (b := b9) hkK h8 hr0] at er127 cr127
                replace er127 : r127 = nI (nr z) := er127
                replace cr127 : Cl S128 q (zMk z jr37 b9, psh H z, 0, n, tx) := cr127
                have br127 := Lw.cl b126 fr127 cr127
                have ir127 : Iw (zMk z jr37 b9, psh H z, 0, n, tx) := by
                                  have h := I_Run (k := nI jr37) (b := b9) hI
                                  rw [run_e (k := jr37) (b := b9) hkK h8 hr0] at h
                                  exact h
                refine g_iload F 2 rfl dL_act_286 ?_
                refine g_icmp_ne (t := 298) F dL_act_288 (by decide) (fun c133 => ?_) (fun c133 => ?_)
                · exact absurd (er127) c133
                · refine g_aload_n (k := 0) F 6 rfl dL_act_291 ?_
                  refine g_callV F (kX9_reason Γ.1 S128 q br127.1 (zMk z jr37 b9) (psh H z) 0 n tx ir127.1.1 br127.2.1) okX9_reason (qi80 br127.1) mw457 ⟨(Nat.le_of_ble_eq_true rfl), (Nat.le_of_ble_eq_true rfl)⟩ rfl rfl (Nat.le_of_ble_eq_true rfl) ⟨(by show (0 + 3) + 0 ≤ 40; omega), (by show (0 + 18) + 0 ≤ 240; omega)⟩ dL_act_292 (toI (fun r134 S135 h136 => ?_))
                  obtain ⟨-, er134, fr134, cr134⟩ := h136
                  replace er134 : r134 = 0 := er134
                  have br134 := Lw.cl br127 fr134 cr134
                  refine g_if_eq (t := 300) F dL_act_295 (by decide) (fun c137 => ?_) (fun c137 => ?_)
                  · have hkr : nr z < nr (zMk z jr37 b9) := by rw [mk_nr2 hB hz0.2.2]; omega
                    have h12r : nr (zMk z jr37 b9) ≤ 12 := by rw [mk_nr2 hB hz0.2.2]; have := hz0.2.2; omega
                    have mkv := mk_v (z := z) (c := jr37) (b := b9)
                    refine g_aload_n (k := 0) F 6 rfl dL_act_300 ?_
                    refine g_iload F 2 rfl dL_act_301 ?_
                    refine g_iconst (v := 0) F (by decide) dL_act_303 ?_
                    refine x_callV F (kX9_made Γ.1 S135 q br134.1 (zMk z jr37 b9) (psh H z) 0 n tx ir127.1.1 br134.2.1 (nI (nr z)) (nI 0)) okX9_made (qi80 br134.1) mw461 ⟨(Nat.le_of_ble_eq_true rfl), (Nat.le_of_ble_eq_true rfl)⟩ rfl rfl (Nat.le_of_ble_eq_true rfl) ⟨(by show (0 + 3) + 3 ≤ 40; omega), (by show (0 + 18) + 18 ≤ 240; omega)⟩ dL_act_304 (fun E141 S142 h143 => ?_) (toJ (fun r138 S139 h140 => ?_))
                    · rw [mad_e (k := nr z) (i := 0) hkr h12r (by omega)] at h143
                      rcases h143.1 with h | h <;> exact absurd (show (0 : Int32) = _ from h.2) (by decide)
                    obtain ⟨-, er138, fr138, cr138⟩ := h140
                    rw [mad_e (k := nr z) (i := 0) hkr h12r (by omega)] at er138
                    replace er138 : r138 = zMn (zMk z jr37 b9) (nr z) (nI 0) := er138
                    have br138 := Lw.cl br134 fr138 cr138
                    refine g_iload F 3 rfl dL_act_307 ?_
                    refine g_i2l F dL_act_309 ?_
                    refine g_lcmp F dL_act_310 ?_
                    refine g_if_ne (t := 399) F dL_act_311 (by decide) (fun c144 => ?_) (fun c144 => ?_)
                    · exact absurd (lc_eq.mpr (er138.trans (mn_0.trans mkv.1))) c144
                    · rw [lc_eq] at c144
                      refine g_aload_n (k := 0) F 6 rfl dL_act_314 ?_
                      refine g_iload F 2 rfl dL_act_315 ?_
                      refine g_iconst (v := 1) F (by decide) dL_act_317 ?_
                      refine x_callV F (kX9_made Γ.1 S139 q br138.1 (zMk z jr37 b9) (psh H z) 0 n tx ir127.1.1 br138.2.1 (nI (nr z)) (nI 1)) okX9_made (qi80 br138.1) mw461 ⟨(Nat.le_of_ble_eq_true rfl), (Nat.le_of_ble_eq_true rfl)⟩ rfl rfl (Nat.le_of_ble_eq_true rfl) ⟨(by show ((0 + 3) + 3) + 3 ≤ 40; omega), (by show ((0 + 18) + 18) + 18 ≤ 240; omega)⟩ dL_act_318 (fun E148 S149 h150 => ?_) (toJ (fun r145 S146 h147 => ?_))
                      · rw [mad_e (k := nr z) (i := 1) hkr h12r (by omega)] at h150
                        rcases h150.1 with h | h <;> exact absurd (show (0 : Int32) = _ from h.2) (by decide)
                      obtain ⟨-, er145, fr145, cr145⟩ := h147
                      rw [mad_e (k := nr z) (i := 1) hkr h12r (by omega)] at er145
                      replace er145 : r145 = zMn (zMk z jr37 b9) (nr z) (nI 1) := er145
                      have br145 := Lw.cl br138 fr145 cr145
                      refine g_iload F 1 rfl dL_act_321 ?_
                      have jn152 : ∀ (w331 : Int64), w331 = bL b9 → G Γ S146 (((0 + 3) + 3) + 3) (((0 + 18) + 18) + 18) 331 [(13, .long r122), (12, .int (bI b9)), (11, .int (nI (nr z))), (10, .int (nI jr37)), (9, .int x13), (8, .int y8), (0, .ref (q 80)), (1, .int ac), (2, .int x), (3, .int y), (4, .ref (q 94)), (5, .ref (q 95)), (6, .ref (q 96)), (7, .ref (q 97))] [.long w331, .long r145] := by
                        intro w331 hj6
                        refine g_lcmp F dL_act_331 ?_
                        refine g_if_ne (t := 399) F dL_act_332 (by decide) (fun c153 => ?_) (fun c153 => ?_)
                        · exact absurd (lc_eq.mpr (er145.trans (mn_1.trans (mkv.2.1.trans hj6.symm)))) c153
                        · rw [lc_eq] at c153
                          refine g_aload_n (k := 0) F 6 rfl dL_act_335 ?_
                          refine g_iload F 2 rfl dL_act_336 ?_
                          refine g_iconst (v := 2) F (by decide) dL_act_338 ?_
                          refine x_callV F (kX9_made Γ.1 S146 q br145.1 (zMk z jr37 b9) (psh H z) 0 n tx ir127.1.1 br145.2.1 (nI (nr z)) (nI 2)) okX9_made (qi80 br145.1) mw461 ⟨(Nat.le_of_ble_eq_true rfl), (Nat.le_of_ble_eq_true rfl)⟩ rfl rfl (Nat.le_of_ble_eq_true rfl) ⟨(by show (((0 + 3) + 3) + 3) + 3 ≤ 40; omega), (by show (((0 + 18) + 18) + 18) + 18 ≤ 240; omega)⟩ dL_act_339 (fun E157 S158 h159 => ?_) (toJ (fun r154 S155 h156 => ?_))
                          · rw [mad_e (k := nr z) (i := 2) hkr h12r (by omega)] at h159
                            rcases h159.1 with h | h <;> exact absurd (show (0 : Int32) = _ from h.2) (by decide)
                          obtain ⟨-, er154, fr154, cr154⟩ := h156
                          rw [mad_e (k := nr z) (i := 2) hkr h12r (by omega)] at er154
                          replace er154 : r154 = zMn (zMk z jr37 b9) (nr z) (nI 2) := er154
                          have br154 := Lw.cl br145 fr154 cr154
                          refine g_lload F 0 rfl dL_act_342 ?_
                          refine g_lcmp F dL_act_344 ?_
                          refine g_if_ne (t := 399) F dL_act_345 (by decide) (fun c160 => ?_) (fun c160 => ?_)
                          · exact absurd (lc_eq.mpr (er154.trans (mn_2.trans (mkv.2.2.trans er122.symm)))) c160
                          · rw [lc_eq] at c160
                            refine g_aload_n (k := 0) F 6 rfl dL_act_348 ?_
                            refine g_iload F 2 rfl dL_act_349 ?_
                            refine g_iconst (v := 3) F (by decide) dL_act_351 ?_
                            refine x_callV F (kX9_made Γ.1 S155 q br154.1 (zMk z jr37 b9) (psh H z) 0 n tx ir127.1.1 br154.2.1 (nI (nr z)) (nI 3)) okX9_made (qi80 br154.1) mw461 ⟨(Nat.le_of_ble_eq_true rfl), (Nat.le_of_ble_eq_true rfl)⟩ rfl rfl (Nat.le_of_ble_eq_true rfl) ⟨(by show ((((0 + 3) + 3) + 3) + 3) + 3 ≤ 40; omega), (by show ((((0 + 18) + 18) + 18) + 18) + 18 ≤ 240; omega)⟩ dL_act_352 (fun E164 S165 h166 => ?_) (toJ (fun r161 S162 h163 => ?_))
                            · rw [mad_e (k := nr z) (i := 3) hkr h12r (by omega)] at h166
                              rcases h166.1 with h | h <;> exact absurd (show (0 : Int32) = _ from h.2) (by decide)
                            obtain ⟨-, er161, fr161, cr161⟩ := h163
                            rw [mad_e (k := nr z) (i := 3) hkr h12r (by omega)] at er161
                            replace er161 : r161 = zMn (zMk z jr37 b9) (nr z) (nI 3) := er161
                            have br161 := Lw.cl br154 fr161 cr161
                            refine g_lload F 0 rfl dL_act_355 ?_
                            refine g_ldc2 F mw384 dL_act_357 ?_
                            refine g_aload F 10 rfl dL_act_360 ?_
                            refine g_iconst (v := 1) F (by decide) dL_act_362 ?_
                            refine g_ialde rfl (j := 1) F (qi94 br161.1) rfl (by rw [(qn94 br161.1)]; omega) (by rw [(qn94 br161.1)]; decide) dL_act_363 ?_
                            refine g_i2l F dL_act_364 ?_
                            refine g_lmul F dL_act_365 ?_
                            refine g_ldiv F dL_act_366 (by rw [br161.2.2.1.1.2.1]; exact ne512 ir127.1.1) ?_
                            refine g_lcmp F dL_act_367 ?_
                            refine g_if_ne (t := 399) F dL_act_368 (by decide) (fun c167 => ?_) (fun c167 => ?_)
                            · exact absurd (lc_eq.mpr (er161.trans (mn_3.trans (by rw [mkv.2.2, br161.2.2.1.1.2.1, er122])))) c167
                            · rw [lc_eq] at c167
                              refine g_aload_n (k := 0) F 6 rfl dL_act_371 ?_
                              refine g_iload F 2 rfl dL_act_372 ?_
                              refine g_iconst (v := 4) F (by decide) dL_act_374 ?_
                              refine x_callV F (kX9_made Γ.1 S162 q br161.1 (zMk z jr37 b9) (psh H z) 0 n tx ir127.1.1 br161.2.1 (nI (nr z)) (nI 4)) okX9_made (qi80 br161.1) mw461 ⟨(Nat.le_of_ble_eq_true rfl), (Nat.le_of_ble_eq_true rfl)⟩ rfl rfl (Nat.le_of_ble_eq_true rfl) ⟨(by show (((((0 + 3) + 3) + 3) + 3) + 3) + 3 ≤ 40; omega), (by show (((((0 + 18) + 18) + 18) + 18) + 18) + 18 ≤ 240; omega)⟩ dL_act_375 (fun E171 S172 h173 => ?_) (toJ (fun r168 S169 h170 => ?_))
                              · rw [mad_e (k := nr z) (i := 4) hkr h12r (by omega)] at h173
                                rcases h173.1 with h | h <;> exact absurd (show (0 : Int32) = _ from h.2) (by decide)
                              obtain ⟨-, er168, fr168, cr168⟩ := h170
                              rw [mad_e (k := nr z) (i := 4) hkr h12r (by omega)] at er168
                              replace er168 : r168 = zMn (zMk z jr37 b9) (nr z) (nI 4) := er168
                              have br168 := Lw.cl br161 fr168 cr168
                              refine g_lload F 0 rfl dL_act_378 ?_
                              refine g_ldc2 F mw384 dL_act_380 ?_
                              refine g_ldiv F dL_act_383 (by decide) ?_
                              refine g_aload_n (k := 0) F 6 rfl dL_act_384 ?_
                              refine g_bipush (v := 8) F (by decide) dL_act_385 ?_
                              refine x_callV F (kX9_count Γ.1 S169 q br168.1 (zMk z jr37 b9) (psh H z) 0 n tx ir127.1.1 br168.2.1 (nI 8)) okX9_count (qi80 br168.1) mw299 ⟨(Nat.le_of_ble_eq_true rfl), (Nat.le_of_ble_eq_true rfl)⟩ rfl rfl (Nat.le_of_ble_eq_true rfl) ⟨(by show ((((((0 + 3) + 3) + 3) + 3) + 3) + 3) + 3 ≤ 40; omega), (by show ((((((0 + 18) + 18) + 18) + 18) + 18) + 18) + 18 ≤ 240; omega)⟩ dL_act_387 (fun E177 S178 h179 => ?_) (toJ (fun r174 S175 h176 => ?_))
                              · rw [cnt_e (i := 8) (by omega)] at h179
                                exact absurd (show (0 : Int32) = _ from h179.1.2) (by decide)
                              obtain ⟨-, er174, fr174, cr174⟩ := h176
                              rw [cnt_e (i := 8) (by omega)] at er174
                              replace er174 : r174 = zCt (zMk z jr37 b9) (psh H z).length (nI 8) := er174
                              have br174 := Lw.cl br168 fr174 cr174
                              refine g_ladd F dL_act_390 ?_
                              refine g_lcmp F dL_act_391 ?_
                              refine g_if_ne (t := 399) F dL_act_392 (by decide) (fun c180 => ?_) (fun c180 => ?_)
                              · exact absurd (lc_eq.mpr (er168.trans (mn_4.trans (by rw [er174.trans ct_8]; unfold zAr; rw [mkv.2.2, er122])))) c180
                              · rw [lc_eq] at c180
                                refine g_iconst (v := 1) F (by decide) dL_act_395 ?_
                                refine g_goto (t := 400) F dL_act_396 (by decide) ?_
                                refine x_zret F T rfl ⟨_, rfl, ?_⟩ (by show (((((((0 + 3) + 3) + 3) + 3) + 3) + 3) + 3) ≤ 40; omega) (by show (((((((0 + 18) + 18) + 18) + 18) + 18) + 18) + 18) ≤ 240; omega) dL_act_400
                                exact ⟨rfl, _, ir127, br174, fun _ => psh_p⟩
                      refine g_if_eq (t := 330) F dL_act_323 (by decide) (fun c151 => ?_) (fun c151 => ?_)
                      · have g23 := c151
                        refine g_lconst (v := 0) F (by decide) dL_act_330 ?_
                        exact jn152 (0) (bL_b g23)
                      · have g23 := c151
                        refine g_lconst (v := 1) F (by decide) dL_act_326 ?_
                        refine g_goto (t := 331) F dL_act_327 (by decide) ?_
                        exact jn152 (1) (bL_b1 g23)
                  · exact absurd er134 c137
              · refine g_iconst (v := 1) F (by decide) dL_act_251 ?_
                refine x_zret F T rfl ⟨_, rfl, ?_⟩ (Nat.le_of_ble_eq_true rfl) (Nat.le_of_ble_eq_true rfl) dL_act_252
                exact ⟨rfl, _, hI, br118, fun h => h.elim id (fun h9 => absurd h9 (by omega))⟩
            refine g_if_ne (t := 234) F dL_act_227 (by decide) (fun c116 => ?_) (fun c116 => ?_)
            · refine g_iconst (v := 0) F (by decide) dL_act_234 ?_
              exact jn117 (0) (.inr rfl)
            · refine g_iconst (v := 1) F (by decide) dL_act_230 ?_
              refine g_goto (t := 235) F dL_act_231 (by decide) ?_
              exact jn117 (1) (.inl rfl)
        · exact jn17  trivial
    refine g_icmp_le (t := 55) F dL_act_47 (by decide) (fun c14 => ?_) (fun c14 => ?_)
    · have g47 := c14
      exact jn15 (x9) (by rw [Int32.le_iff_toInt_le, show (1000 : Int32).toInt = 1000 by decide] at g47; omega)
    · refine g_sipush (v := 1000) F (by decide) dL_act_50 ?_
      refine g_istore (L' := [(8, .int 1000), (9, .int x13), (0, .ref (q 80)), (1, .int ac), (2, .int x), (3, .int y), (4, .ref (q 94)), (5, .ref (q 95)), (6, .ref (q 96)), (7, .ref (q 97))]) F dL_act_53 (Nat.le_of_ble_eq_true rfl) rfl ?_
      refine g_sub (L' := [(9, .int x13), (8, .int 1000), (0, .ref (q 80)), (1, .int ac), (2, .int x), (3, .int y), (4, .ref (q 94)), (5, .ref (q 95)), (6, .ref (q 96)), (7, .ref (q 97))]) [1, 0, 2, 3, 4, 5, 6, 7, 8, 9] rfl ?_
      exact jn15 (1000) (by decide)
  refine g_if_ne (t := 17) F dL_act_8 (by decide) (fun c4 => ?_) (fun c4 => ?_)
  · refine g_sipush (v := 801) F (by decide) dL_act_17 ?_
    exact jn5 (801) ⟨801, ⟨by omega, by omega⟩, rfl⟩
  · refine g_sipush (v := 2001) F (by decide) dL_act_11 ?_
    refine g_goto (t := 20) F dL_act_14 (by decide) ?_
    exact jn5 (2001) ⟨2001, ⟨by omega, by omega⟩, rfl⟩
