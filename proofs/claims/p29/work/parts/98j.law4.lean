abbrev rmL : Room × Nat := ({ frames := 11, cells := 600104, slots := 7301314, locals := 518 }, 9)
theorem kL_cell (g : Glo) (S : PS) (k : Nat) (hk : k < 1000) : Ct g mL_cell 0 0 [.ref (g.2.2.2.2.1 3), .int (nI k)] S (pI9 (fun _ S' => S = S')) := by
  refine Ct.of (by decide) (Nat.le_of_ble_eq_true rfl) (fun Γ hg F T => ?_)
  subst hg
  show G Γ S 0 0 0 [(0, .ref (Γ.1.2.2.2.2.1 3)), (1, .int (nI k))] []
  obtain ⟨hX, ht, hL⟩ := F.e.2.2.2.2.2.2.1.2.2
  refine g_iload_n (k := 1) F 1 rfl dL_cell_0 ?_
  refine g_aload_n (k := 0) F 0 rfl dL_cell_1 ?_
  refine g_slen F hX ht dL_cell_2 ?_
  refine g_icmp_ge (t := 12) F dL_cell_3 (by decide) (fun c1 => ?_) (fun c1 => ?_)
  · refine g_ldc F mw380 dL_cell_12 ?_
    refine g_iload_n (k := 1) F 1 rfl dL_cell_14 ?_
    refine g_iconst (v := 1) F (by decide) dL_cell_15 ?_
    refine g_iadd F dL_cell_16 ?_
    refine g_imul F dL_cell_17 ?_
    refine g_iret F T ⟨_, rfl, ?_⟩ (Nat.le_of_ble_eq_true rfl) (Nat.le_of_ble_eq_true rfl) dL_cell_18
    rfl
  · refine g_aload_n (k := 0) F 0 rfl dL_cell_6 ?_
    refine g_iload_n (k := 1) F 1 rfl dL_cell_7 ?_
    refine g_sald (j := k) F hX ht rfl (by rw [nI_leI (by omega) (by omega)] at c1; omega) (by omega) dL_cell_8 ?_
    refine g_goto (t := 18) F dL_cell_9 (by decide) ?_
    refine g_iret F T ⟨_, rfl, ?_⟩ (Nat.le_of_ble_eq_true rfl) (Nat.le_of_ble_eq_true rfl) dL_cell_18
    rfl
set_option maxHeartbeats 4000000 in
set_option maxRecDepth 100000 in
theorem law_mid {Γ : Ctx} (F : Fx Γ RL cL_law rmL) (q : Nat → Nat) (S : PS) (cA mA : Nat) (hcA : cA ≤ 200) (hmA : mA ≤ 2000) (hq : Shp S.1 S.2.1 q) (hC : Cl S q (z00, [], 0, 0, fun _ => 0)) (h4 : pI S (q 94) = fun _ => 0) (h6 : pI S (q 96) = fun _ => 0) (hend : ∀ (S : PS) (c m : Nat) (L : List (Nat × Value)), c ≤ 600104 → m ≤ 7301314 → G Γ S c m 236 L [.int 1]) : G Γ S cA mA 28 [(0, .ref (Γ.1.2.2.2.2.1 3)), (1, .ref (q 80)), (2, .ref (q 94)), (3, .ref (q 95)), (4, .ref (q 96)), (5, .ref (q 97))] [] := by
  refine g_aload_n (k := 2) F 2 rfl dL_law_28 ?_
  refine g_iconst (v := 0) F (by decide) dL_law_29 ?_
  refine g_sipush (v := 1200) F (by decide) dL_law_30 ?_
  refine g_iast (j := 0) F (qi94 hq) rfl (by rw [(qn94 hq)]; omega) (by rw [(qn94 hq)]; decide) dL_law_33 ?_
  refine g_aload_n (k := 2) F 2 rfl dL_law_34 ?_
  refine g_iconst (v := 1) F (by decide) dL_law_35 ?_
  refine g_sipush (v := 1000) F (by decide) dL_law_36 ?_
  refine g_iast (j := 1) F (qi94 hq) rfl (by rw [(qn94 hq)]; omega) (by rw [(qn94 hq)]; decide) dL_law_39 ?_
  refine g_aload_n (k := 2) F 2 rfl dL_law_40 ?_
  refine g_iconst (v := 2) F (by decide) dL_law_41 ?_
  refine g_bipush (v := 50) F (by decide) dL_law_42 ?_
  refine g_iast (j := 2) F (qi94 hq) rfl (by rw [(qn94 hq)]; omega) (by rw [(qn94 hq)]; decide) dL_law_44 ?_
  refine g_aload_n (k := 2) F 2 rfl dL_law_45 ?_
  refine g_iconst (v := 4) F (by decide) dL_law_46 ?_
  refine g_bipush (v := 50) F (by decide) dL_law_47 ?_
  refine g_iast (j := 4) F (qi94 hq) rfl (by rw [(qn94 hq)]; omega) (by rw [(qn94 hq)]; decide) dL_law_49 ?_
  refine g_gen (P := fun S9 => Lv S9 q (z00, [], 0, 0, fun _ => 0) z00) (La_00 hq hC h4 h6) (fun S1 b2 => ?_)
  refine g_aload_n (k := 1) F 1 rfl dL_law_50 ?_
  refine g_iconst (v := 5) F (by decide) dL_law_51 ?_
  refine g_aload_n (k := 2) F 2 rfl dL_law_52 ?_
  refine g_aload_n (k := 3) F 3 rfl dL_law_53 ?_
  refine g_aload F 4 rfl dL_law_54 ?_
  refine g_aload F 5 rfl dL_law_56 ?_
  refine x_callS F (kL_told Γ.1 S1 q z00 [] 0 0 (fun _ => 0) Iw_00 b2 _) okL_told mw98 ⟨(Nat.le_of_ble_eq_true rfl), (Nat.le_of_ble_eq_true rfl)⟩ rfl rfl (Nat.le_of_ble_eq_true rfl) ⟨(by show cA + 200 ≤ 600104; omega), (by show mA + 1200 ≤ 7301314; omega)⟩ dL_law_58 (fun E6 S7 h8 => ?_) (toI (fun r3 S4 h5 => ?_))
  · exact h8.elim
  obtain ⟨rfl, br3⟩ := h5
  refine g_if_eq (t := 85) F dL_law_61 (by decide) (fun c9 => ?_) (fun c9 => ?_)
  · exact absurd c9 (by decide)
  · refine g_aload_n (k := 1) F 1 rfl dL_law_64 ?_
    refine g_iconst (v := 4) F (by decide) dL_law_65 ?_
    refine x_callV F (kX9_count Γ.1 S4 q br3.1 z00 [] 0 0 (fun _ => 0) Iw_00.1.1 br3.2.1 (nI 4)) okX9_count (qi80 br3.1) mw299 ⟨(Nat.le_of_ble_eq_true rfl), (Nat.le_of_ble_eq_true rfl)⟩ rfl rfl (Nat.le_of_ble_eq_true rfl) ⟨(by show (cA + 200) + 3 ≤ 600104; omega), (by show (mA + 1200) + 18 ≤ 7301314; omega)⟩ dL_law_66 (fun E13 S14 h15 => ?_) (toJ (fun r10 S11 h12 => ?_))
    · rw [cnt_e (i := 4) (by omega)] at h15
      exact absurd (show (0 : Int32) = _ from h15.1.2) (by decide)
    obtain ⟨-, er10, fr10, cr10⟩ := h12
    rw [cnt_e (i := 4) (by omega)] at er10
    replace er10 : r10 = zCt z00 (([] : List ZZ)).length (nI 4) := er10
    have br10 := Lw.cl br3 fr10 cr10
    refine g_ldc2 F mw5 dL_law_69 ?_
    refine g_lcmp F dL_law_72 ?_
    refine g_if_ne (t := 85) F dL_law_73 (by decide) (fun c16 => ?_) (fun c16 => ?_)
    · exact absurd (lc_eq.mpr (er10.trans (ct_4.trans (by decide)))) c16
    · rw [lc_eq] at c16
      refine g_aload_n (k := 1) F 1 rfl dL_law_76 ?_
      refine g_callV F (pX9_error Γ.1 S11 q br10.1 z00 [] 0 0 (fun _ => 0) Iw_00.1.1 br10.2.1) okX9_error (qi80 br10.1) mw373 ⟨(Nat.le_of_ble_eq_true rfl), (Nat.le_of_ble_eq_true rfl)⟩ rfl rfl (Nat.le_of_ble_eq_true rfl) ⟨(by show ((cA + 200) + 3) + 0 ≤ 600104; omega), (by show ((mA + 1200) + 18) + 0 ≤ 7301314; omega)⟩ dL_law_77 (toD (fun r17 S18 h19 => ?_))
      obtain ⟨-, er17, fr17, cr17⟩ := h19
      replace er17 : r17 = zEr z00 := er17
      have br17 := Lw.cl br10 fr17 cr17
      refine g_dconst0 F dL_law_80 ?_
      refine g_dcmp F dL_law_81 ?_
      refine g_if_eq (t := 87) F dL_law_82 (by decide) (fun c20 => ?_) (fun c20 => ?_)
      · refine g_iconst (v := 0) F (by decide) dL_law_87 ?_
        refine g_istore (L' := [(6, .int 0), (0, .ref (Γ.1.2.2.2.2.1 3)), (1, .ref (q 80)), (2, .ref (q 94)), (3, .ref (q 95)), (4, .ref (q 96)), (5, .ref (q 97))]) F dL_law_88 (Nat.le_of_ble_eq_true rfl) rfl ?_
        have lp21 : ∀ (n9 : Nat) (t : Nat) (z : ZZ) (H : List ZZ) (l : Int32) (n : Nat) (tx : Nat → Int32) (S1 : PS) (c8 : Nat) (m8 : Nat), 20 < t + n9 → (t ≤ 20) → (Iw (z, H, l, n, tx)) → (Lw S1 q (z, H, l, n, tx)) → (0 < t → 0 < H.length) → (t = 0 → nc z < 3) → (c8 ≤ 600 + 250 * t) → (m8 ≤ 6000 + 1500 * t) → G Γ S1 c8 m8 90 [(6, .int (nI t)), (0, .ref (Γ.1.2.2.2.2.1 3)), (1, .ref (q 80)), (2, .ref (q 94)), (3, .ref (q 95)), (4, .ref (q 96)), (5, .ref (q 97))] [] := by
          intro n9
          induction n9 with
          | zero =>
            intro t z H l n tx S1 c8 m8 hm9 ht hI hL hp htn hc8 hm8b
            exact absurd hm9 (by omega)
          | succ n9 ihlp21 =>
            intro t z H l n tx S1 c8 m8 hm9 ht hI hL hp htn hc8 hm8b
            refine g_iload F 0 rfl dL_law_90 ?_
            refine g_bipush (v := 20) F (by decide) dL_law_92 ?_
            refine g_icmp_ge (t := 220) F dL_law_94 (by decide) (fun c22 => ?_) (fun c22 => ?_)
            · have h20 : t = 20 := by
                rw [show (20 : Int32) = nI 20 from rfl, nI_leI (by omega) (by omega)] at c22
                omega
              refine g_aload_n (k := 1) F 2 rfl dL_law_220 ?_
              refine g_bipush (v := 14) F (by decide) dL_law_221 ?_
              refine x_callV F (kX9_count Γ.1 S1 q hL.1 z H l n tx hI.1.1 hL.2.1 (nI 14)) okX9_count (qi80 hL.1) mw299 ⟨(Nat.le_of_ble_eq_true rfl), (Nat.le_of_ble_eq_true rfl)⟩ rfl rfl (Nat.le_of_ble_eq_true rfl) ⟨(by show c8 + 3 ≤ 600104; omega), (by show m8 + 18 ≤ 7301314; omega)⟩ dL_law_223 (fun E26 S27 h28 => ?_) (toJ (fun r23 S24 h25 => ?_))
              · rw [cnt_e (i := 14) (by omega)] at h28
                exact absurd (show (0 : Int32) = _ from h28.1.2) (by decide)
              obtain ⟨-, er23, fr23, cr23⟩ := h25
              rw [cnt_e (i := 14) (by omega)] at er23
              replace er23 : r23 = zCt z (H).length (nI 14) := er23
              have br23 := Lw.cl hL fr23 cr23
              refine g_lconst (v := 0) F (by decide) dL_law_226 ?_
              refine g_lcmp F dL_law_227 ?_
              refine g_if_le (t := 235) F dL_law_228 (by decide) (fun c29 => ?_) (fun c29 => ?_)
              · exact absurd (lc_le.mp c29) (by rw [er23, ct_14]; exact lN_pos (hp (by omega)) (by have : H.length ≤ 6 := hI.2.2.1; omega))
              · rw [lc_le] at c29
                refine g_iconst (v := 1) F (by decide) dL_law_231 ?_
                refine g_goto (t := 236) F dL_law_232 (by decide) ?_
                exact hend _ _ _ _ (by show (c8 + 3) ≤ _; omega) (by show (m8 + 18) ≤ _; omega)
            · have h20 : t < 20 := by
                rw [show (20 : Int32) = nI 20 from rfl, nI_leI (by omega) (by omega)] at c22
                omega
              refine g_aload_n (k := 0) F 1 rfl dL_law_97 ?_
              refine g_iconst (v := 2) F (by decide) dL_law_98 ?_
              refine g_iload F 0 rfl dL_law_99 ?_
              refine g_imul F dL_law_101 ?_
              refine g_rei (nI (2 * t)) (nmul rfl rfl) ?_
              refine g_callS F (kL_cell Γ.1 _ ((2 * t)) (by omega)) okL_cell mw377 ⟨(Nat.le_of_ble_eq_true rfl), (Nat.le_of_ble_eq_true rfl)⟩ rfl rfl (Nat.le_of_ble_eq_true rfl) ⟨(by show c8 + 0 ≤ 600104; omega), (by show m8 + 0 ≤ 7301314; omega)⟩ dL_law_102 (toI (fun r30 S31 h32 => ?_))
              obtain rfl := h32
              refine g_ldc F mw6 dL_law_105 ?_
              refine g_iand F dL_law_107 ?_
              refine g_topi (fun x33 ex33 => ?_)
              refine g_istore (L' := [(7, .int x33), (6, .int (nI t)), (0, .ref (Γ.1.2.2.2.2.1 3)), (1, .ref (q 80)), (2, .ref (q 94)), (3, .ref (q 95)), (4, .ref (q 96)), (5, .ref (q 97))]) F dL_law_108 (Nat.le_of_ble_eq_true rfl) rfl ?_
              refine g_aload_n (k := 0) F 2 rfl dL_law_110 ?_
              refine g_iconst (v := 2) F (by decide) dL_law_111 ?_
              refine g_iload F 1 rfl dL_law_112 ?_
              refine g_imul F dL_law_114 ?_
              refine g_rei (nI (2 * t)) (nmul rfl rfl) ?_
              refine g_iconst (v := 1) F (by decide) dL_law_115 ?_
              refine g_iadd F dL_law_116 ?_
              refine g_rei (nI ((2 * t) + 1)) (nadd rfl rfl) ?_
              refine g_callS F (kL_cell Γ.1 _ (((2 * t) + 1)) (by omega)) okL_cell mw377 ⟨(Nat.le_of_ble_eq_true rfl), (Nat.le_of_ble_eq_true rfl)⟩ rfl rfl (Nat.le_of_ble_eq_true rfl) ⟨(by show c8 + 0 ≤ 600104; omega), (by show m8 + 0 ≤ 7301314; omega)⟩ dL_law_117 (toI (fun r34 S35 h36 => ?_))
              obtain rfl := h36
              refine g_ldc F mw6 dL_law_120 ?_
              refine g_iand F dL_law_122 ?_
              refine g_topi (fun x37 ex37 => ?_)
              refine g_istore (L' := [(8, .int x37), (7, .int x33), (6, .int (nI t)), (0, .ref (Γ.1.2.2.2.2.1 3)), (1, .ref (q 80)), (2, .ref (q 94)), (3, .ref (q 95)), (4, .ref (q 96)), (5, .ref (q 97))]) F dL_law_123 (Nat.le_of_ble_eq_true rfl) rfl ?_
              refine g_aload_n (k := 1) F 4 rfl dL_law_125 ?_
              refine g_iload F 2 rfl dL_law_126 ?_
              refine g_iconst (v := 4) F (by decide) dL_law_128 ?_
              have jn39 : ∀ (w146 : Int32), True → G Γ S1 c8 m8 146 [(8, .int x37), (7, .int x33), (6, .int (nI t)), (0, .ref (Γ.1.2.2.2.2.1 3)), (1, .ref (q 80)), (2, .ref (q 94)), (3, .ref (q 95)), (4, .ref (q 96)), (5, .ref (q 97))] [.int w146, .ref (q 80)] := by
                intro w146 htr
                refine g_iload F 1 rfl dL_law_146 ?_
                refine g_iload F 0 rfl dL_law_148 ?_
                refine g_aload_n (k := 2) F 5 rfl dL_law_150 ?_
                refine g_aload_n (k := 3) F 6 rfl dL_law_151 ?_
                refine g_aload F 7 rfl dL_law_152 ?_
                refine g_aload F 8 rfl dL_law_154 ?_
                refine x_callS F (kL_act Γ.1 S1 q z H l n tx hI hL _ _ _) okL_act mw381 ⟨(Nat.le_of_ble_eq_true rfl), (Nat.le_of_ble_eq_true rfl)⟩ rfl rfl (Nat.le_of_ble_eq_true rfl) ⟨(by show c8 + 40 ≤ 600104; omega), (by show m8 + 240 ≤ 7301314; omega)⟩ dL_law_156 (fun E43 S44 h45 => ?_) (toI (fun r40 S41 h42 => ?_))
                · exact h45.elim
                obtain ⟨rfl, ⟨zr40, Hr40, lr40, nr40, tr40⟩, ir40, br40, pr40⟩ := h42
                have hpos : 0 < Hr40.length := pr40 ((Nat.eq_zero_or_pos t).elim (fun h => .inr (htn h)) (fun h => .inl (hp h)))
                refine g_if_eq (t := 179) F dL_law_159 (by decide) (fun c46 => ?_) (fun c46 => ?_)
                · exact absurd c46 (by decide)
                · refine g_aload_n (k := 1) F 4 rfl dL_law_162 ?_
                  refine g_iload F 0 rfl dL_law_163 ?_
                  refine g_iconst (v := 2) F (by decide) dL_law_165 ?_
                  refine g_ishr F dL_law_166 ?_
                  refine g_aload_n (k := 2) F 5 rfl dL_law_167 ?_
                  refine g_aload_n (k := 3) F 6 rfl dL_law_168 ?_
                  refine g_aload F 7 rfl dL_law_169 ?_
                  refine g_aload F 8 rfl dL_law_171 ?_
                  refine x_callS F (kL_told Γ.1 S41 q zr40 Hr40 lr40 nr40 tr40 ir40 br40 _) okL_told mw98 ⟨(Nat.le_of_ble_eq_true rfl), (Nat.le_of_ble_eq_true rfl)⟩ rfl rfl (Nat.le_of_ble_eq_true rfl) ⟨(by show (c8 + 40) + 200 ≤ 600104; omega), (by show (m8 + 240) + 1200 ≤ 7301314; omega)⟩ dL_law_173 (fun E50 S51 h52 => ?_) (toI (fun r47 S48 h49 => ?_))
                  · exact h52.elim
                  obtain ⟨rfl, br47⟩ := h49
                  refine g_if_ne (t := 181) F dL_law_176 (by decide) (fun c53 => ?_) (fun c53 => ?_)
                  · refine g_iload F 2 rfl dL_law_181 ?_
                    refine g_bipush (v := 7) F (by decide) dL_law_183 ?_
                    refine g_irem F dL_law_185 (by decide) ?_
                    refine g_rei (nI (t % 7)) (nrem rfl rfl (by omega) (by omega) (by omega)) ?_
                    refine g_bipush (v := 6) F (by decide) dL_law_186 ?_
                    refine g_icmp_ne (t := 214) F dL_law_188 (by decide) (fun c54 => ?_) (fun c54 => ?_)
                    · obtain ⟨x55, ex55⟩ : ∃ y9 : Int32, y9 = (nI t) + 1 := ⟨_, rfl⟩
                      refine g_iinc (k := 2) (v := x55) (L' := [(6, .int x55), (8, .int x37), (7, .int x33), (0, .ref (Γ.1.2.2.2.2.1 3)), (1, .ref (q 80)), (2, .ref (q 94)), (3, .ref (q 95)), (4, .ref (q 96)), (5, .ref (q 97))]) F dL_law_214 rfl (by rw [ex55]; rfl) (Nat.le_of_ble_eq_true rfl) rfl ?_
                      refine g_goto (t := 90) F dL_law_217 (by decide) ?_
                      obtain rfl : x55 = nI (t + 1) := (ex55.trans (nI_1 _))
                      refine g_sub (L' := [(6, .int (nI (t + 1))), (0, .ref (Γ.1.2.2.2.2.1 3)), (1, .ref (q 80)), (2, .ref (q 94)), (3, .ref (q 95)), (4, .ref (q 96)), (5, .ref (q 97))]) [0, 3, 4, 5, 6, 7, 8] rfl ?_
                      exact ihlp21 (t + 1) (zr40) (Hr40) (lr40) (nr40) (tr40) (S48) (((c8 + 40) + 200)) (((m8 + 240) + 1200)) (by omega) (by omega) ir40 br47 (fun _ => hpos) (fun h => absurd h (by omega)) (by omega) (by omega)
                    · refine g_aload_n (k := 1) F 4 rfl dL_law_191 ?_
                      refine g_iload F 0 rfl dL_law_192 ?_
                      refine g_iconst (v := 2) F (by decide) dL_law_194 ?_
                      refine g_ishr F dL_law_195 ?_
                      refine g_iload F 1 rfl dL_law_196 ?_
                      refine g_iconst (v := 2) F (by decide) dL_law_198 ?_
                      refine g_ishr F dL_law_199 ?_
                      refine g_aload_n (k := 2) F 5 rfl dL_law_200 ?_
                      refine g_aload_n (k := 3) F 6 rfl dL_law_201 ?_
                      refine g_aload F 7 rfl dL_law_202 ?_
                      refine g_aload F 8 rfl dL_law_204 ?_
                      refine x_callS F (kL_ahead Γ.1 S48 q zr40 Hr40 lr40 nr40 tr40 ir40 br47 _ _) okL_ahead mw501 ⟨(Nat.le_of_ble_eq_true rfl), (Nat.le_of_ble_eq_true rfl)⟩ rfl rfl (Nat.le_of_ble_eq_true rfl) ⟨(by show ((c8 + 40) + 200) + 10 ≤ 600104; omega), (by show ((m8 + 240) + 1200) + 60 ≤ 7301314; omega)⟩ dL_law_206 (fun E59 S60 h61 => ?_) (toI (fun r56 S57 h58 => ?_))
                      · exact h61.elim
                      obtain ⟨rfl, br56⟩ := h58
                      refine g_if_ne (t := 214) F dL_law_209 (by decide) (fun c62 => ?_) (fun c62 => ?_)
                      · obtain ⟨x63, ex63⟩ : ∃ y9 : Int32, y9 = (nI t) + 1 := ⟨_, rfl⟩
                        refine g_iinc (k := 2) (v := x63) (L' := [(6, .int x63), (8, .int x37), (7, .int x33), (0, .ref (Γ.1.2.2.2.2.1 3)), (1, .ref (q 80)), (2, .ref (q 94)), (3, .ref (q 95)), (4, .ref (q 96)), (5, .ref (q 97))]) F dL_law_214 rfl (by rw [ex63]; rfl) (Nat.le_of_ble_eq_true rfl) rfl ?_
                        refine g_goto (t := 90) F dL_law_217 (by decide) ?_
                        obtain rfl : x63 = nI (t + 1) := (ex63.trans (nI_1 _))
                        refine g_sub (L' := [(6, .int (nI (t + 1))), (0, .ref (Γ.1.2.2.2.2.1 3)), (1, .ref (q 80)), (2, .ref (q 94)), (3, .ref (q 95)), (4, .ref (q 96)), (5, .ref (q 97))]) [0, 3, 4, 5, 6, 7, 8] rfl ?_
                        exact ihlp21 (t + 1) (zr40) (Hr40) (lr40) (nr40) (tr40) (S57) ((((c8 + 40) + 200) + 10)) ((((m8 + 240) + 1200) + 60)) (by omega) (by omega) ir40 br56 (fun _ => hpos) (fun h => absurd h (by omega)) (by omega) (by omega)
                      · exact absurd c62 (by decide)
                  · exact absurd c53 (by decide)
              refine g_icmp_ge (t := 136) F dL_law_129 (by decide) (fun c38 => ?_) (fun c38 => ?_)
              · refine g_iload F 1 rfl dL_law_136 ?_
                refine g_bipush (v := 13) F (by decide) dL_law_138 ?_
                refine g_ishr F dL_law_140 ?_
                refine g_bipush (v := 15) F (by decide) dL_law_141 ?_
                refine g_callS F (kL_at Γ.1 _ _ 15 (by omega) (by omega)) okL_at mw252 ⟨(Nat.le_of_ble_eq_true rfl), (Nat.le_of_ble_eq_true rfl)⟩ rfl rfl (Nat.le_of_ble_eq_true rfl) ⟨(by show c8 + 0 ≤ 600104; omega), (by show m8 + 0 ≤ 7301314; omega)⟩ dL_law_143 (toI (fun r64 S65 h66 => ?_))
                obtain ⟨⟨jr64, lr64, rfl⟩, rfl⟩ := h66
                exact jn39 ((nI jr64)) trivial
              · refine g_iconst (v := 0) F (by decide) dL_law_132 ?_
                refine g_goto (t := 146) F dL_law_133 (by decide) ?_
                exact jn39 (0) trivial
        exact lp21 21 0 z00 [] 0 0 (fun _ => 0) S18 ((cA + 200) + 3) ((mA + 1200) + 18) (by omega) (by omega) Iw_00 br17 (fun h => absurd h (by omega)) (fun _ => by rw [z00_nc]; omega) (by omega) (by omega)
      · exact absurd (by rw [er17, zEr_00]; decide +kernel) c20
