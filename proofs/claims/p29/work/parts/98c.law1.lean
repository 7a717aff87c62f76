set_option maxHeartbeats 4000000 in
set_option maxRecDepth 100000 in
theorem kL_abs (g : Glo) (S : PS) (v : Int64) : Ct g mL_abs 0 0 [.long v] S (pJ9 (fun r S' => r = sz v ∧ S = S')) := by
  refine Ct.of (by decide) (Nat.le_of_ble_eq_true rfl) (fun Γ hg F T => ?_)
  subst hg
  show G Γ S 0 0 0 [(0, .long v)] []
  refine g_lload_n (k := 0) F 0 rfl dL_abs_0 ?_
  refine g_lconst (v := 0) F (by decide) dL_abs_1 ?_
  refine g_lcmp F dL_abs_2 ?_
  refine g_if_ge (t := 11) F dL_abs_3 (by decide) (fun c1 => ?_) (fun c1 => ?_)
  · rw [lc_ge] at c1
    refine g_lload_n (k := 0) F 0 rfl dL_abs_11 ?_
    refine g_lret F T ⟨_, rfl, ?_⟩ (Nat.le_of_ble_eq_true rfl) (Nat.le_of_ble_eq_true rfl) dL_abs_12
    exact ⟨sz_p c1, rfl⟩
  · rw [lc_ge] at c1
    refine g_lload_n (k := 0) F 0 rfl dL_abs_6 ?_
    refine g_lneg F dL_abs_7 ?_
    refine g_goto (t := 12) F dL_abs_8 (by decide) ?_
    refine g_lret F T ⟨_, rfl, ?_⟩ (Nat.le_of_ble_eq_true rfl) (Nat.le_of_ble_eq_true rfl) dL_abs_12
    exact ⟨sz_m c1, rfl⟩
set_option maxHeartbeats 4000000 in
set_option maxRecDepth 100000 in
theorem kL_root (g : Glo) (S : PS) (v : Int64) (hv : 0 ≤ v.toInt) (hV : v.toInt < 1125899906842624) : Ct g mL_root 0 0 [.long v] S (pJ9 (fun r S' => r = rt v ∧ S = S')) := by
  refine Ct.of (by decide) (Nat.le_of_ble_eq_true rfl) (fun Γ hg F T => ?_)
  subst hg
  show G Γ S 0 0 0 [(0, .long v)] []
  obtain ⟨V, eV⟩ : ∃ V : Nat, V = v.toInt.toNat := ⟨_, rfl⟩
  have hvV : v.toInt = (V : Int) := by omega
  have hV2 : V < 1125899906842624 := by omega
  refine g_lconst (v := 0) F (by decide) dL_root_0 ?_
  refine g_lstore_n (k := 2) (L' := [(2, .long 0), (0, .long v)]) F dL_root_1 (Nat.le_of_ble_eq_true rfl) rfl ?_
  refine g_ldc2 F mw123 dL_root_2 ?_
  refine g_lstore (L' := [(4, .long 16777216), (2, .long 0), (0, .long v)]) F dL_root_5 (Nat.le_of_ble_eq_true rfl) rfl ?_
  have lp1 : ∀ (n9 : Nat) (r : Nat) (b : Nat), b < n9 → (RoI V r b) → G Γ S 0 0 7 [(4, .long (lN b)), (2, .long (lN r)), (0, .long v)] [] := by
    intro n9
    induction n9 with
    | zero =>
      intro r b hm9 h9
      exact absurd hm9 (by omega)
    | succ n9 ihlp1 =>
      intro r b hm9 h9
      refine g_lload F 0 rfl dL_root_7 ?_
      refine g_lconst (v := 0) F (by decide) dL_root_9 ?_
      refine g_lcmp F dL_root_10 ?_
      refine g_if_le (t := 42) F dL_root_11 (by decide) (fun c2 => ?_) (fun c2 => ?_)
      · rw [lc_le] at c2
        have b0 : b = 0 := by
          rw [show (0 : Int64) = lN 0 from rfl, pk_lLE (by have := h9.2.1; omega) (by omega)] at c2
          omega
        refine g_lload_n (k := 2) F 1 rfl dL_root_42 ?_
        refine g_lret F T ⟨_, rfl, ?_⟩ (Nat.le_of_ble_eq_true rfl) (Nat.le_of_ble_eq_true rfl) dL_root_43
        subst b0
        exact ⟨by unfold rt; rw [← eV, ro_e h9], rfl⟩
      · rw [lc_le] at c2
        have b0 : 0 < b := by
          rw [show (0 : Int64) = lN 0 from rfl, pk_lLE (by have := h9.2.1; omega) (by omega)] at c2
          omega
        refine g_lload_n (k := 2) F 1 rfl dL_root_14 ?_
        refine g_lload F 0 rfl dL_root_15 ?_
        refine g_ladd F dL_root_17 ?_
        refine g_lload_n (k := 2) F 1 rfl dL_root_18 ?_
        refine g_lload F 0 rfl dL_root_19 ?_
        refine g_ladd F dL_root_21 ?_
        refine g_lmul F dL_root_22 ?_
        refine g_lload_n (k := 0) F 2 rfl dL_root_23 ?_
        refine g_lcmp F dL_root_24 ?_
        refine g_if_gt (t := 33) F dL_root_25 (by decide) (fun c3 => ?_) (fun c3 => ?_)
        · rw [lc_gt] at c3
          have c9 := (ro_c h9 hvV hV2).mp c3
          refine g_lload F 0 rfl dL_root_33 ?_
          refine g_iconst (v := 1) F (by decide) dL_root_35 ?_
          refine g_lshr F dL_root_36 ?_
          refine g_topl (fun x4 ex4 => ?_)
          refine g_lstore (L' := [(4, .long x4), (2, .long (lN r)), (0, .long v)]) F dL_root_37 (Nat.le_of_ble_eq_true rfl) rfl ?_
          obtain rfl : x4 = lN (b / 2) := ex4.trans (shr1 (by have := h9.2.1; omega))
          refine g_goto (t := 7) F dL_root_39 (by decide) ?_
          refine g_sub (L' := [(4, .long (lN (b / 2))), (2, .long (lN r)), (0, .long v)]) [0, 1, 2] rfl ?_
          exact ihlp1 (r) (b / 2) (by omega) (ro_t h9 b0 c9)
        · rw [lc_gt] at c3
          have c9 : ¬ _ := fun h => c3 ((ro_c h9 hvV hV2).mpr h)
          refine g_lload_n (k := 2) F 1 rfl dL_root_28 ?_
          refine g_lload F 0 rfl dL_root_29 ?_
          refine g_ladd F dL_root_31 ?_
          refine g_topl (fun x5 ex5 => ?_)
          refine g_lstore_n (k := 2) (L' := [(2, .long x5), (4, .long (lN b)), (0, .long v)]) F dL_root_32 (Nat.le_of_ble_eq_true rfl) rfl ?_
          obtain rfl : x5 = lN (r + b) := ex5.trans (lN_add r b)
          refine g_lload F 1 rfl dL_root_33 ?_
          refine g_iconst (v := 1) F (by decide) dL_root_35 ?_
          refine g_lshr F dL_root_36 ?_
          refine g_topl (fun x6 ex6 => ?_)
          refine g_lstore (L' := [(4, .long x6), (2, .long (lN (r + b))), (0, .long v)]) F dL_root_37 (Nat.le_of_ble_eq_true rfl) rfl ?_
          obtain rfl : x6 = lN (b / 2) := ex6.trans (shr1 (by have := h9.2.1; omega))
          refine g_goto (t := 7) F dL_root_39 (by decide) ?_
          refine g_sub (L' := [(4, .long (lN (b / 2))), (2, .long (lN (r + b))), (0, .long v)]) [0, 1, 2] rfl ?_
          exact ihlp1 ((r + b)) (b / 2) (by omega) (ro_f h9 b0 c9)
  exact lp1 16777217 0 16777216 (by omega) (ro_s0 hV2)
set_option maxHeartbeats 4000000 in
set_option maxRecDepth 100000 in
theorem kL_find (g : Glo) (S : PS) (q : Nat → Nat) (hq : Shp S.1 S.2.1 q) (z : ZZ) (hB : Bz z) (hs : Ls S q z) (tx ty : Int64) (h1 : wtn tx (-50000) 50000) (h2 : wtn ty (-50000) 50000) : Ct g mL_find 0 0 [.long tx, .long ty, .ref (q 94), .ref (q 97)] S (pV9 (fun S' => Fr S S' q [97] ∧ Po S' q z tx ty)) := by
  refine Ct.of (by decide) (Nat.le_of_ble_eq_true rfl) (fun Γ hg F T => ?_)
  subst hg
  show G Γ S 0 0 0 [(0, .long tx), (2, .long ty), (4, .ref (q 94)), (5, .ref (q 97))] []
  refine g_lload_n (k := 0) F 0 rfl dL_find_0 ?_
  refine g_ldc2 F mw116 dL_find_1 ?_
  refine g_aload F 2 rfl dL_find_4 ?_
  refine g_iconst (v := 5) F (by decide) dL_find_6 ?_
  refine g_ialde rfl (j := 5) F (qi94 hq) rfl (by rw [(qn94 hq)]; omega) (by rw [(qn94 hq)]; decide) dL_find_7 ?_
  refine g_i2l F dL_find_8 ?_
  refine g_lmul F dL_find_9 ?_
  refine g_lsub F dL_find_10 ?_
  refine g_topl (fun x1 ex1 => ?_)
  refine g_lstore (L' := [(6, .long x1), (0, .long tx), (2, .long ty), (4, .ref (q 94)), (5, .ref (q 97))]) F dL_find_11 (Nat.le_of_ble_eq_true rfl) rfl ?_
  refine g_lload_n (k := 2) F 2 rfl dL_find_13 ?_
  refine g_ldc2 F mw116 dL_find_14 ?_
  refine g_aload F 3 rfl dL_find_17 ?_
  refine g_bipush (v := 6) F (by decide) dL_find_19 ?_
  refine g_ialde rfl (j := 6) F (qi94 hq) rfl (by rw [(qn94 hq)]; omega) (by rw [(qn94 hq)]; decide) dL_find_21 ?_
  refine g_i2l F dL_find_22 ?_
  refine g_lmul F dL_find_23 ?_
  refine g_lsub F dL_find_24 ?_
  refine g_topl (fun x2 ex2 => ?_)
  refine g_lstore (L' := [(8, .long x2), (6, .long x1), (0, .long tx), (2, .long ty), (4, .ref (q 94)), (5, .ref (q 97))]) F dL_find_25 (Nat.le_of_ble_eq_true rfl) rfl ?_
  refine g_lload F 1 rfl dL_find_27 ?_
  refine g_lload F 1 rfl dL_find_29 ?_
  refine g_lmul F dL_find_31 ?_
  refine g_lload F 0 rfl dL_find_32 ?_
  refine g_lload F 0 rfl dL_find_34 ?_
  refine g_lmul F dL_find_36 ?_
  refine g_ladd F dL_find_37 ?_
  refine g_topl (fun x3 ex3 => ?_)
  refine g_lstore (L' := [(10, .long x3), (8, .long x2), (6, .long x1), (0, .long tx), (2, .long ty), (4, .ref (q 94)), (5, .ref (q 97))]) F dL_find_38 (Nat.le_of_ble_eq_true rfl) rfl ?_
  have dx9 : x1 = tx - 16 * z 0 := by rw [ex1, hs.2.1]
  have dy9 : x2 = ty - 16 * z 1 := by rw [ex2, hs.2.2]
  have sq9 : x3 = zD z tx ty := by rw [ex3, dx9, dy9]; rfl
  have hD9 := zD_b hB h1 h2
  refine g_lload F 0 rfl dL_find_40 ?_
  refine g_callS F (kL_root Γ.1 _ _ (by rw [sq9]; exact hD9.2.1) (by rw [sq9]; have := hD9.2.2; omega)) okL_root mw120 ⟨(Nat.le_of_ble_eq_true rfl), (Nat.le_of_ble_eq_true rfl)⟩ rfl rfl (Nat.le_of_ble_eq_true rfl) ⟨(Nat.le_of_ble_eq_true rfl), (Nat.le_of_ble_eq_true rfl)⟩ dL_find_42 (toJ (fun r4 S5 h6 => ?_))
  obtain ⟨er4, rfl⟩ := h6
  refine g_lstore (L' := [(12, .long r4), (10, .long x3), (8, .long x2), (6, .long x1), (0, .long tx), (2, .long ty), (4, .ref (q 94)), (5, .ref (q 97))]) F dL_find_45 (Nat.le_of_ble_eq_true rfl) rfl ?_
  refine g_ldc2 F mw116 dL_find_47 ?_
  refine g_aload F 6 rfl dL_find_50 ?_
  refine g_iconst (v := 0) F (by decide) dL_find_52 ?_
  refine g_ialde rfl (j := 0) F (qi94 hq) rfl (by rw [(qn94 hq)]; omega) (by rw [(qn94 hq)]; decide) dL_find_53 ?_
  refine g_i2l F dL_find_54 ?_
  refine g_lmul F dL_find_55 ?_
  refine g_topl (fun x7 ex7 => ?_)
  refine g_lstore (L' := [(14, .long x7), (12, .long r4), (10, .long x3), (8, .long x2), (6, .long x1), (0, .long tx), (2, .long ty), (4, .ref (q 94)), (5, .ref (q 97))]) F dL_find_56 (Nat.le_of_ble_eq_true rfl) rfl ?_
  refine g_ldc2 F mw116 dL_find_58 ?_
  refine g_aload F 7 rfl dL_find_61 ?_
  refine g_iconst (v := 1) F (by decide) dL_find_63 ?_
  refine g_ialde rfl (j := 1) F (qi94 hq) rfl (by rw [(qn94 hq)]; omega) (by rw [(qn94 hq)]; decide) dL_find_64 ?_
  refine g_i2l F dL_find_65 ?_
  refine g_lmul F dL_find_66 ?_
  refine g_topl (fun x8 ex8 => ?_)
  refine g_lstore (L' := [(16, .long x8), (14, .long x7), (12, .long r4), (10, .long x3), (8, .long x2), (6, .long x1), (0, .long tx), (2, .long ty), (4, .ref (q 94)), (5, .ref (q 97))]) F dL_find_67 (Nat.le_of_ble_eq_true rfl) rfl ?_
  have rt9 : r4 = rt (zD z tx ty) := by rw [er4, sq9]
  have p9 : x7 = 16 * z 2 := by rw [ex7, hs.1.1]
  have l9 : x8 = 16 * z 3 := by rw [ex8, hs.1.2.1]
  refine g_aload F 9 rfl dL_find_69 ?_
  refine g_iconst (v := 2) F (by decide) dL_find_71 ?_
  refine g_lload F 2 rfl dL_find_72 ?_
  refine g_lconst (v := 0) F (by decide) dL_find_74 ?_
  refine g_lcmp F dL_find_75 ?_
  have jn10 : ∀ (w109 : Int64), (w109 = 1 ∧ zRe z tx ty) ∨ (w109 = 0 ∧ ¬ zRe z tx ty) → G Γ S 0 0 109 [(16, .long x8), (14, .long x7), (12, .long r4), (10, .long x3), (8, .long x2), (6, .long x1), (0, .long tx), (2, .long ty), (4, .ref (q 94)), (5, .ref (q 97))] [.long w109, .int 2, .ref (q 97)] := by
    intro w109 hj
    refine g_last (j := 2) F (qi97 hq) rfl (by rw [(qn97 hq)]; omega) (by rw [(qn97 hq)]; decide) dL_find_109 ?_
    refine g_aload F 9 rfl dL_find_110 ?_
    refine g_iconst (v := 2) F (by decide) dL_find_112 ?_
    refine g_lalde (up2_updL.trans (congrArg (fun f9 => vp_updL f9 (2) w109) rfl)) (j := 2) F (qi97 hq) rfl (by rw [(qn97 hq)]; omega) (by rw [(qn97 hq)]; decide) dL_find_113 ?_
    refine g_lconst (v := 0) F (by decide) dL_find_114 ?_
    refine g_lcmp F dL_find_115 ?_
    refine g_if_ne (t := 120) F dL_find_116 (by decide) (fun c11 => ?_) (fun c11 => ?_)
    · rw [lc_eq] at c11
      obtain ⟨hw1, hre⟩ : w109 = 1 ∧ zRe z tx ty := by
        rcases hj with h | h
        · exact h
        · exact absurd (uLs.trans h.1) c11
      have hA9 := zA_b hB h1 h2 hre
      refine g_lload F 3 rfl dL_find_120 ?_
      refine g_lload F 1 rfl dL_find_122 ?_
      refine g_lload F 0 rfl dL_find_124 ?_
      refine g_lsub F dL_find_126 ?_
      refine g_lload F 1 rfl dL_find_127 ?_
      refine g_lload F 0 rfl dL_find_129 ?_
      refine g_ladd F dL_find_131 ?_
      refine g_lmul F dL_find_132 ?_
      refine g_ladd F dL_find_133 ?_
      refine g_lload F 2 rfl dL_find_134 ?_
      refine g_lload F 2 rfl dL_find_136 ?_
      refine g_ladd F dL_find_138 ?_
      refine g_ldiv F dL_find_139 (by rw [rt9, show rt (zD z tx ty) + rt (zD z tx ty) = 2 * rt (zD z tx ty) by grind]; exact hA9.2.2.1) ?_
      refine g_topl (fun x12 ex12 => ?_)
      refine g_lstore (L' := [(18, .long x12), (16, .long x8), (14, .long x7), (12, .long r4), (10, .long x3), (8, .long x2), (6, .long x1), (0, .long tx), (2, .long ty), (4, .ref (q 94)), (5, .ref (q 97))]) F dL_find_140 (Nat.le_of_ble_eq_true rfl) rfl ?_
      have a9 : x12 = zA z tx ty := by rw [ex12, sq9, p9, l9, rt9]; exact fa_e
      have hbq : (x7 - x12) * (x7 + x12) = zHb z tx ty := by rw [p9]; exact fh_e a9
      refine g_lload F 2 rfl dL_find_142 ?_
      refine g_lload F 0 rfl dL_find_144 ?_
      refine g_lsub F dL_find_146 ?_
      refine g_lload F 2 rfl dL_find_147 ?_
      refine g_lload F 0 rfl dL_find_149 ?_
      refine g_ladd F dL_find_151 ?_
      refine g_lmul F dL_find_152 ?_
      refine g_lconst (v := 0) F (by decide) dL_find_153 ?_
      refine g_lcmp F dL_find_154 ?_
      have jn14 : ∀ (w176 : Int64), w176 = (if zHb z tx ty < 0 then 0 else rt (zHb z tx ty)) → G Γ (wJ S (q 97) (2) w109) 0 0 176 [(18, .long x12), (16, .long x8), (14, .long x7), (12, .long r4), (10, .long x3), (8, .long x2), (6, .long x1), (0, .long tx), (2, .long ty), (4, .ref (q 94)), (5, .ref (q 97))] [.long w176] := by
        intro w176 hj2
        refine g_lstore (L' := [(20, .long w176), (18, .long x12), (16, .long x8), (14, .long x7), (12, .long r4), (10, .long x3), (8, .long x2), (6, .long x1), (0, .long tx), (2, .long ty), (4, .ref (q 94)), (5, .ref (q 97))]) F dL_find_176 (Nat.le_of_ble_eq_true rfl) rfl ?_
        refine g_aload F 10 rfl dL_find_178 ?_
        refine g_iconst (v := 3) F (by decide) dL_find_180 ?_
        refine g_ialde rfl (j := 3) F (qi94 hq) rfl (by rw [(qn94 hq)]; omega) (by rw [(qn94 hq)]; decide) dL_find_181 ?_
        refine g_iconst (v := 1) F (by decide) dL_find_182 ?_
        refine g_icmp_ne (t := 191) F dL_find_183 (by decide) (fun c15 => ?_) (fun c15 => ?_)
        · have f9 : ¬ z 5 = 1 := fun h => c15 (by rw [i32_k (hs.1.2.2.2.1.trans h)]; decide)
          have h9 : w176 = zH z tx ty := by rw [hj2]; unfold zH; rw [if_neg f9]
          refine g_aload F 11 rfl dL_find_191 ?_
          refine g_iconst (v := 0) F (by decide) dL_find_193 ?_
          refine g_ldc2 F mw116 dL_find_194 ?_
          refine g_aload F 10 rfl dL_find_197 ?_
          refine g_iconst (v := 5) F (by decide) dL_find_199 ?_
          refine g_ialde rfl (j := 5) F (qi94 hq) rfl (by rw [(qn94 hq)]; omega) (by rw [(qn94 hq)]; decide) dL_find_200 ?_
          refine g_i2l F dL_find_201 ?_
          refine g_lmul F dL_find_202 ?_
          refine g_lload F 7 rfl dL_find_203 ?_
          refine g_lload F 1 rfl dL_find_205 ?_
          refine g_lmul F dL_find_207 ?_
          refine g_lload F 6 rfl dL_find_208 ?_
          refine g_lload F 0 rfl dL_find_210 ?_
          refine g_lmul F dL_find_212 ?_
          refine g_lsub F dL_find_213 ?_
          refine g_lload F 4 rfl dL_find_214 ?_
          refine g_ldiv F dL_find_216 (by rw [rt9]; exact hA9.2.2.2.1) ?_
          refine g_ladd F dL_find_217 ?_
          refine g_last (j := 0) F (qi97 hq) rfl (by rw [(qn97 hq)]; omega) (by rw [(qn97 hq)]; decide) dL_find_218 ?_
          refine g_aload F 11 rfl dL_find_219 ?_
          refine g_iconst (v := 1) F (by decide) dL_find_221 ?_
          refine g_ldc2 F mw116 dL_find_222 ?_
          refine g_aload F 10 rfl dL_find_225 ?_
          refine g_bipush (v := 6) F (by decide) dL_find_227 ?_
          refine g_ialde rfl (j := 6) F (qi94 hq) rfl (by rw [(qn94 hq)]; omega) (by rw [(qn94 hq)]; decide) dL_find_229 ?_
          refine g_i2l F dL_find_230 ?_
          refine g_lmul F dL_find_231 ?_
          refine g_lload F 6 rfl dL_find_232 ?_
          refine g_lload F 1 rfl dL_find_234 ?_
          refine g_lmul F dL_find_236 ?_
          refine g_lload F 7 rfl dL_find_237 ?_
          refine g_lload F 0 rfl dL_find_239 ?_
          refine g_lmul F dL_find_241 ?_
          refine g_ladd F dL_find_242 ?_
          refine g_lload F 4 rfl dL_find_243 ?_
          refine g_ldiv F dL_find_245 (by rw [rt9]; exact hA9.2.2.2.1) ?_
          refine g_ladd F dL_find_246 ?_
          refine g_last (j := 1) F (qi97 hq) rfl (by rw [(qn97 hq)]; omega) (by rw [(qn97 hq)]; decide) dL_find_247 ?_
          refine g_vret F T ⟨rfl, ?_⟩ (Nat.le_of_ble_eq_true rfl) (Nat.le_of_ble_eq_true rfl) dL_find_248
          exact ⟨(Fr.wJ hq (Fr.wJ hq (Fr.wJ hq Fr.rf (by decide) (by decide)) (by decide) (by decide)) (by decide) (by decide)), .inl ⟨hre, (up2_k (by decide)).trans ((up2_k (by decide)).trans (up2_s.trans hw1)), (up2_k (by decide)).trans (up2_s.trans (by rw [hs.2.1, dx9, dy9, a9, h9, rt9]; rfl)), up2_s.trans (by rw [hs.2.2, dx9, dy9, a9, h9, rt9]; rfl)⟩⟩
        · have f9 : z 5 = 1 := by rw [← hs.1.2.2.2.1, c15]; rfl
          refine g_lload F 0 rfl dL_find_186 ?_
          refine g_lneg F dL_find_188 ?_
          refine g_topl (fun x16 ex16 => ?_)
          refine g_lstore (L' := [(20, .long x16), (18, .long x12), (16, .long x8), (14, .long x7), (12, .long r4), (10, .long x3), (8, .long x2), (6, .long x1), (0, .long tx), (2, .long ty), (4, .ref (q 94)), (5, .ref (q 97))]) F dL_find_189 (Nat.le_of_ble_eq_true rfl) rfl ?_
          have h9 : x16 = zH z tx ty := by rw [ex16, hj2]; unfold zH; rw [if_pos f9]
          refine g_aload F 11 rfl dL_find_191 ?_
          refine g_iconst (v := 0) F (by decide) dL_find_193 ?_
          refine g_ldc2 F mw116 dL_find_194 ?_
          refine g_aload F 10 rfl dL_find_197 ?_
          refine g_iconst (v := 5) F (by decide) dL_find_199 ?_
          refine g_ialde rfl (j := 5) F (qi94 hq) rfl (by rw [(qn94 hq)]; omega) (by rw [(qn94 hq)]; decide) dL_find_200 ?_
          refine g_i2l F dL_find_201 ?_
          refine g_lmul F dL_find_202 ?_
          refine g_lload F 7 rfl dL_find_203 ?_
          refine g_lload F 1 rfl dL_find_205 ?_
          refine g_lmul F dL_find_207 ?_
          refine g_lload F 6 rfl dL_find_208 ?_
          refine g_lload F 0 rfl dL_find_210 ?_
          refine g_lmul F dL_find_212 ?_
          refine g_lsub F dL_find_213 ?_
          refine g_lload F 4 rfl dL_find_214 ?_
          refine g_ldiv F dL_find_216 (by rw [rt9]; exact hA9.2.2.2.1) ?_
          refine g_ladd F dL_find_217 ?_
          refine g_last (j := 0) F (qi97 hq) rfl (by rw [(qn97 hq)]; omega) (by rw [(qn97 hq)]; decide) dL_find_218 ?_
          refine g_aload F 11 rfl dL_find_219 ?_
          refine g_iconst (v := 1) F (by decide) dL_find_221 ?_
          refine g_ldc2 F mw116 dL_find_222 ?_
          refine g_aload F 10 rfl dL_find_225 ?_
          refine g_bipush (v := 6) F (by decide) dL_find_227 ?_
          refine g_ialde rfl (j := 6) F (qi94 hq) rfl (by rw [(qn94 hq)]; omega) (by rw [(qn94 hq)]; decide) dL_find_229 ?_
          refine g_i2l F dL_find_230 ?_
          refine g_lmul F dL_find_231 ?_
          refine g_lload F 6 rfl dL_find_232 ?_
          refine g_lload F 1 rfl dL_find_234 ?_
          refine g_lmul F dL_find_236 ?_
          refine g_lload F 7 rfl dL_find_237 ?_
          refine g_lload F 0 rfl dL_find_239 ?_
          refine g_lmul F dL_find_241 ?_
          refine g_ladd F dL_find_242 ?_
          refine g_lload F 4 rfl dL_find_243 ?_
          refine g_ldiv F dL_find_245 (by rw [rt9]; exact hA9.2.2.2.1) ?_
          refine g_ladd F dL_find_246 ?_
          refine g_last (j := 1) F (qi97 hq) rfl (by rw [(qn97 hq)]; omega) (by rw [(qn97 hq)]; decide) dL_find_247 ?_
          refine g_vret F T ⟨rfl, ?_⟩ (Nat.le_of_ble_eq_true rfl) (Nat.le_of_ble_eq_true rfl) dL_find_248
          exact ⟨(Fr.wJ hq (Fr.wJ hq (Fr.wJ hq Fr.rf (by decide) (by decide)) (by decide) (by decide)) (by decide) (by decide)), .inl ⟨hre, (up2_k (by decide)).trans ((up2_k (by decide)).trans (up2_s.trans hw1)), (up2_k (by decide)).trans (up2_s.trans (by rw [hs.2.1, dx9, dy9, a9, h9, rt9]; rfl)), up2_s.trans (by rw [hs.2.2, dx9, dy9, a9, h9, rt9]; rfl)⟩⟩
      refine g_if_le (t := 175) F dL_find_155 (by decide) (fun c13 => ?_) (fun c13 => ?_)
      · rw [lc_le] at c13
        have k9 : ¬ 0 < zHb z tx ty := by rw [← hbq]; exact L_nlt.mpr c13
        refine g_lconst (v := 0) F (by decide) dL_find_175 ?_
        exact jn14 (0) (fi_h0 k9)
      · rw [lc_le] at c13
        have k9 : 0 < zHb z tx ty := by rw [← hbq]; exact L_nle.mp c13
        have k8 : 0 ≤ (zHb z tx ty).toInt := by
          rw [Int64.lt_iff_toInt_lt, L0_0] at k9
          omega
        refine g_lload F 2 rfl dL_find_158 ?_
        refine g_lload F 0 rfl dL_find_160 ?_
        refine g_lsub F dL_find_162 ?_
        refine g_lload F 2 rfl dL_find_163 ?_
        refine g_lload F 0 rfl dL_find_165 ?_
        refine g_ladd F dL_find_167 ?_
        refine g_lmul F dL_find_168 ?_
        refine g_callS F (kL_root Γ.1 _ _ (by rw [hbq]; exact k8) (by rw [hbq]; have := hA9.2.2.2.2.2; omega)) okL_root mw120 ⟨(Nat.le_of_ble_eq_true rfl), (Nat.le_of_ble_eq_true rfl)⟩ rfl rfl (Nat.le_of_ble_eq_true rfl) ⟨(Nat.le_of_ble_eq_true rfl), (Nat.le_of_ble_eq_true rfl)⟩ dL_find_169 (toJ (fun r17 S18 h19 => ?_))
        obtain ⟨er17, rfl⟩ := h19
        refine g_goto (t := 176) F dL_find_172 (by decide) ?_
        exact jn14 (r17) (by rw [er17, hbq]; exact fi_h1 k9)
    · rw [lc_eq] at c11
      have hre : ¬ zRe z tx ty := by
        rcases hj with h | h
        · exact absurd ((uLs.trans h.1).symm.trans c11) (by decide)
        · exact h.2
      refine g_vret F T ⟨rfl, ?_⟩ (Nat.le_of_ble_eq_true rfl) (Nat.le_of_ble_eq_true rfl) dL_find_119
      exact ⟨(Fr.wJ hq Fr.rf (by decide) (by decide)), .inr ⟨hre, up2_s.trans (uLs.symm.trans c11)⟩⟩
  refine g_if_le (t := 108) F dL_find_76 (by decide) (fun c9 => ?_) (fun c9 => ?_)
  · rw [lc_le] at c9
    have g0 : ¬ 0 < rt (zD z tx ty) := by rw [← rt9]; exact L_nlt.mpr c9
    refine g_lconst (v := 0) F (by decide) dL_find_108 ?_
    exact jn10 (0) (.inr ⟨rfl, fun h => g0 (And.left h)⟩)
  · rw [lc_le] at c9
    have g0 : 0 < rt (zD z tx ty) := by rw [← rt9]; exact L_nle.mp c9
    refine g_lload F 2 rfl dL_find_79 ?_
    refine g_lload F 1 rfl dL_find_81 ?_
    refine g_lload F 0 rfl dL_find_83 ?_
    refine g_ladd F dL_find_85 ?_
    refine g_lcmp F dL_find_86 ?_
    refine g_if_gt (t := 108) F dL_find_87 (by decide) (fun c20 => ?_) (fun c20 => ?_)
    · rw [lc_gt] at c20
      have g1 : ¬ rt (zD z tx ty) ≤ 16 * z 2 + 16 * z 3 := by rw [← rt9, ← p9, ← l9]; exact L_nle.mpr c20
      refine g_lconst (v := 0) F (by decide) dL_find_108 ?_
      exact jn10 (0) (.inr ⟨rfl, fun h => g1 (And.left (And.right h))⟩)
    · rw [lc_gt] at c20
      have g1 : rt (zD z tx ty) ≤ 16 * z 2 + 16 * z 3 := by rw [← rt9, ← p9, ← l9]; exact L_nlt.mp c20
      refine g_lload F 2 rfl dL_find_90 ?_
      refine g_lload F 1 rfl dL_find_92 ?_
      refine g_lload F 0 rfl dL_find_94 ?_
      refine g_lsub F dL_find_96 ?_
      refine g_callS F (kL_abs Γ.1 _ _) okL_abs mw110 ⟨(Nat.le_of_ble_eq_true rfl), (Nat.le_of_ble_eq_true rfl)⟩ rfl rfl (Nat.le_of_ble_eq_true rfl) ⟨(Nat.le_of_ble_eq_true rfl), (Nat.le_of_ble_eq_true rfl)⟩ dL_find_97 (toJ (fun r21 S22 h23 => ?_))
      obtain ⟨er21, rfl⟩ := h23
      refine g_lcmp F dL_find_100 ?_
      refine g_if_lt (t := 108) F dL_find_101 (by decide) (fun c24 => ?_) (fun c24 => ?_)
      · rw [lc_lt] at c24
        have g2 : ¬ sz (16 * z 2 - 16 * z 3) ≤ rt (zD z tx ty) := by rw [← rt9, ← p9, ← l9, ← er21]; exact L_nle.mpr c24
        refine g_lconst (v := 0) F (by decide) dL_find_108 ?_
        exact jn10 (0) (.inr ⟨rfl, fun h => g2 (And.right (And.right h))⟩)
      · rw [lc_lt] at c24
        have g2 : sz (16 * z 2 - 16 * z 3) ≤ rt (zD z tx ty) := by rw [← rt9, ← p9, ← l9, ← er21]; exact L_nlt.mp c24
        refine g_lconst (v := 1) F (by decide) dL_find_104 ?_
        refine g_goto (t := 109) F dL_find_105 (by decide) ?_
        exact jn10 (1) (.inl ⟨rfl, And.intro g0 (And.intro g1 g2)⟩)
