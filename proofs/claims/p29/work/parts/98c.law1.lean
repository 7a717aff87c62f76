set_option maxHeartbeats 4000000 in
set_option maxRecDepth 100000 in
theorem kL_abs (g : Glo) (S : PS) (v : Int64) : Ct g mL_abs 0 0 [.long v] S (pJ9 (fun r S' => r = sz v ∧ S = S')) := by
  refine Ct.of (by decide) (Nat.le_of_ble_eq_true rfl) (fun Γ hg F T => ?_)
  subst hg
  show G Γ S 0 0 0 [(0, .long v)] []
  refine g_lload_n (k := 0) F 0 rfl dL_abs_0 ?_
  refine g_lconst (v := 0) F (by decide) dL_abs_1 ?_
  refine g_lcmp F dL_abs_2 ?_
  refine g_if_ge (t := 11) F dL_abs_3 (by decide) (fun c1 => ?_) (fun c1 => ?_)
  · rw [lc_ge] at c1
    refine g_lload_n (k := 0) F 0 rfl dL_abs_11 ?_
    refine g_lret F T ⟨_, rfl, ?_⟩ (Nat.le_of_ble_eq_true rfl) (Nat.le_of_ble_eq_true rfl) dL_abs_12
    exact ⟨sz_p c1, rfl⟩
  · rw [lc_ge] at c1
    refine g_lload_n (k := 0) F 0 rfl dL_abs_6 ?_
    refine g_lneg F dL_abs_7 ?_
    refine g_goto (t := 12) F dL_abs_8 (by decide) ?_
    refine g_lret F T ⟨_, rfl, ?_⟩ (Nat.le_of_ble_eq_true rfl) (Nat.le_of_ble_eq_true rfl) dL_abs_12
    exact ⟨sz_m c1, rfl⟩
set_option maxHeartbeats 4000000 in
set_option maxRecDepth 100000 in
theorem kL_root (g : Glo) (S : PS) (v : Int64) (hv : 0 ≤ v.toInt) (hV : v.toInt < 1125899906842624) : Ct g mL_root 0 0 [.long v] S (pJ9 (fun r S' => r = rt v ∧ S = S')) := by
  refine Ct.of (by decide) (Nat.le_of_ble_eq_true rfl) (fun Γ hg F T => ?_)
  subst hg
  show G Γ S 0 0 0 [(0, .long v)] []
  obtain ⟨V, eV⟩ : ∃ V : Nat, V = v.toInt.toNat := ⟨_, rfl⟩
  have hvV : v.toInt = (V : Int) := by omega
  have hV2 : V < 1125899906842624 := by omega
  refine g_lconst (v := 0) F (by decide) dL_root_0 ?_
  refine g_lstore_n (k := 2) (L' := [(2, .long 0), (0, .long v)]) F dL_root_1 (Nat.le_of_ble_eq_true rfl) rfl ?_
  refine g_ldc2 F mw123 dL_root_2 ?_
  refine g_lstore (L' := [(4, .long 16777216), (2, .long 0), (0, .long v)]) F dL_root_5 (Nat.le_of_ble_eq_true rfl) rfl ?_
  have lp1 : ∀ (n9 : Nat) (r : Nat) (b : Nat), b < n9 → (RoI V r b) → G Γ S 0 0 7 [(4, .long (lN b)), (2, .long (lN r)), (0, .long v)] [] := by
    intro n9
    induction n9 with
    | zero =>
      intro r b hm9 h9
      exact absurd hm9 (by omega)
    | succ n9 ihlp1 =>
      intro r b hm9 h9
      refine g_lload F 0 rfl dL_root_7 ?_
      refine g_lconst (v := 0) F (by decide) dL_root_9 ?_
      refine g_lcmp F dL_root_10 ?_
      refine g_if_le (t := 42) F dL_root_11 (by decide) (fun c2 => ?_) (fun c2 => ?_)
      · rw [lc_le] at c2
        have b0 : b = 0 := by
          rw [show (0 : Int64) = lN 0 from rfl, pk_lLE (by have := h9.2.1; omega) (by omega)] at c2
          omega
        refine g_lload_n (k := 2) F 1 rfl dL_root_42 ?_
        refine g_lret F T ⟨_, rfl, ?_⟩ (Nat.le_of_ble_eq_true rfl) (Nat.le_of_ble_eq_true rfl) dL_root_43
        subst b0
        exact ⟨by unfold rt; rw [← eV, ro_e h9], rfl⟩
      · rw [lc_le] at c2
        have b0 : 0 < b := by
          rw [show (0 : Int64) = lN 0 from rfl, pk_lLE (by have := h9.2.1; omega) (by omega)] at c2
          omega
        refine g_lload_n (k := 2) F 1 rfl dL_root_14 ?_
        refine g_lload F 0 rfl dL_root_15 ?_
        refine g_ladd F dL_root_17 ?_
        refine g_lload_n (k := 2) F 1 rfl dL_root_18 ?_
        refine g_lload F 0 rfl dL_root_19 ?_
        refine g_ladd F dL_root_21 ?_
        refine g_lmul F dL_root_22 ?_
        refine g_lload_n (k := 0) F 2 rfl dL_root_23 ?_
        refine g_lcmp F dL_root_24 ?_
        refine g_if_gt (t := 33) F dL_root_25 (by decide) (fun c3 => ?_) (fun c3 => ?_)
        · rw [lc_gt] at c3
          have c9 := (ro_c h9 hvV hV2).mp c3
          refine g_lload F 0 rfl dL_root_33 ?_
          refine g_iconst (v := 1) F (by decide) dL_root_35 ?_
          refine g_lshr F dL_root_36 ?_
          refine g_topl (fun x4 ex4 => ?_)
          refine g_lstore (L' := [(4, .long x4), (2, .long (lN r)), (0, .long v)]) F dL_root_37 (Nat.le_of_ble_eq_true rfl) rfl ?_
          obtain rfl : x4 = lN (b / 2) := ex4.trans (shr1 (by have := h9.2.1; omega))
          refine g_goto (t := 7) F dL_root_39 (by decide) ?_
          refine g_sub (L' := [(4, .long (lN (b / 2))), (2, .long (lN r)), (0, .long v)]) [0, 1, 2] rfl ?_
          exact ihlp1 (r) (b / 2) (by omega) (ro_t h9 b0 c9)
        · rw [lc_gt] at c3
          have c9 : ¬ _ := fun h => c3 ((ro_c h9 hvV hV2).mpr h)
          refine g_lload_n (k := 2) F 1 rfl dL_root_28 ?_
          refine g_lload F 0 rfl dL_root_29 ?_
          refine g_ladd F dL_root_31 ?_
          refine g_topl (fun x5 ex5 => ?_)
          refine g_lstore_n (k := 2) (L' := [(2, .long x5), (4, .long (lN b)), (0, .long v)]) F dL_root_32 (Nat.le_of_ble_eq_true rfl) rfl ?_
          obtain rfl : x5 = lN (r + b) := ex5.trans (lN_add r b)
          refine g_lload F 1 rfl dL_root_33 ?_
          refine g_iconst (v := 1) F (by decide) dL_root_35 ?_
          refine g_lshr F dL_root_36 ?_
          refine g_topl (fun x6 ex6 => ?_)
          refine g_lstore (L' := [(4, .long x6), (2, .long (lN (r + b))), (0, .long v)]) F dL_root_37 (Nat.le_of_ble_eq_true rfl) rfl ?_
          obtain rfl : x6 = lN (b / 2) := ex6.trans (shr1 (by have := h9.2.1; omega))
          refine g_goto (t := 7) F dL_root_39 (by decide) ?_
          refine g_sub (L' := [(4, .long (lN (b / 2))), (2, .long (lN (r + b))), (0, .long v)]) [0, 1, 2] rfl ?_
          exact ihlp1 ((r + b)) (b / 2) (by omega) (ro_f h9 b0 c9)
  exact lp1 16777217 0 16777216 (by omega) (ro_s0 hV2)
set_option maxHeartbeats 4000000 in
set_option maxRecDepth 100000 in
theorem kL_find (g : Glo) (S : PS) (q : Nat → Nat) (hq : Shp S.1 S.2.1 q) (z : ZZ) (hB : Bz z) (hs : Ls S q z) (tx ty : Int64) (h1 : wtn tx (-50000) 50000) (h2 : wtn ty (-50000) 50000) : Ct g mL_find 0 0 [.long tx, .long ty, .ref (q 94), .ref (q 97)] S (pV9 (fun S' => Fr S S' q [97] ∧ Po S' q z tx ty)) := by
  refine Ct.of (by decide) (Nat.le_of_ble_eq_true rfl) (fun Γ hg F T => ?_)
  subst hg
  show G Γ S 0 0 0 [(0, .long tx), (2, .long ty), (4, .ref (q 94)), (5, .ref (q 97))] []
  refine g_lload_n (k := 0) F 0 rfl dL_find_0 ?_
  refine g_ldc2 F mw116 dL_find_1 ?_
  refine g_aload F 2 rfl dL_find_4 ?_
  refine g_iconst (v := 5) F (by decide) dL_find_6 ?_
  refine g_ialde rfl (j := 5) F (qi94 hq) rfl (by rw [(qn94 hq)]; omega) (by rw [(qn94 hq)]; decide) dL_find_7 ?_
  refine g_i2l F dL_find_8 ?_
  refine g_lmul F dL_find_9 ?_
  refine g_lsub F dL_find_10 ?_
  refine g_topl (fun x1 ex1 => ?_)
  refine g_lstore (L' := [(6, .long x1), (0, .long tx), (2, .long ty), (4, .ref (q 94)), (5, .ref (q 97))]) F dL_find_11 (Nat.le_of_ble_eq_true rfl) rfl ?_
  refine g_lload_n (k := 2) F 2 rfl dL_find_13 ?_
  refine g_ldc2 F mw116 dL_find_14 ?_
  refine g_aload F 3 rfl dL_find_17 ?_
  refine g_bipush (v := 6) F (by decide) dL_find_19 ?_
  refine g_ialde rfl (j := 6) F (qi94 hq) rfl (by rw [(qn94 hq)]; omega) (by rw [(qn94 hq)]; decide) dL_find_21 ?_
  refine g_i2l F dL_find_22 ?_
  refine g_lmul F dL_find_23 ?_
  refine g_lsub F dL_find_24 ?_
  refine g_topl (fun x2 ex2 => ?_)
  refine g_lstore (L' := [(8, .long x2), (6, .long x1), (0, .long tx), (2, .long ty), (4, .ref (q 94)), (5, .ref (q 97))]) F dL_find_25 (Nat.le_of_ble_eq_true rfl) rfl ?_
  refine g_lload F 1 rfl dL_find_27 ?_
  refine g_lload F 1 rfl dL_find_29 ?_
  refine g_lmul F dL_find_31 ?_
  refine g_lload F 0 rfl dL_find_32 ?_
  refine g_lload F 0 rfl dL_find_34 ?_
  refine g_lmul F dL_find_36 ?_
  refine g_ladd F dL_find_37 ?_
  refine g_topl (fun x3 ex3 => ?_)
  refine g_lstore (L' := [(10, .long x3), (8, .long x2), (6, .long x1), (0, .long tx), (2, .long ty), (4, .ref (q 94)), (5, .ref (q 97))]) F dL_find_38 (Nat.le_of_ble_eq_true rfl) rfl ?_
  have dx9 : x1 = tx - 16 * z 0 := by rw [ex1, hs.2.1]
  have dy9 : x2 = ty - 16 * z 1 := by rw [ex2, hs.2.2]
  have sq9 : x3 = zD z tx ty := by rw [ex3, dx9, dy9]; rfl
  have hD9 := zD_b hB h1 h2
  refine g_lload F 0 rfl dL_find_40 ?_
  refine g_callS F (kL_root Γ.1 _ _ (by rw [sq9]; exact hD9.2.1) (by rw [sq9]; have := hD9.2.2; omega)) okL_root mw120 ⟨(Nat.le_of_ble_eq_true rfl), (Nat.le_of_ble_eq_true rfl)⟩ rfl rfl (Nat.le_of_ble_eq_true rfl) ⟨(Nat.le_of_ble_eq_true rfl), (Nat.le_of_ble_eq_true rfl)⟩ dL_find_42 (toJ (fun r4 S5 h6 => ?_))
  obtain ⟨er4, rfl⟩ := h6
  refine g_lstore (L' := [(12, .long r4), (10, .long x3), (8, .long x2), (6, .long x1), (0, .long tx), (2, .long ty), (4, .ref (q 94)), (5, .ref (q 97))]) F dL_find_45 (Nat.le_of_ble_eq_true rfl) rfl ?_
  refine g_ldc2 F mw116 dL_find_47 ?_
  refine g_aload F 6 rfl dL_find_50 ?_
  refine g_iconst (v := 0) F (by decide) dL_find_52 ?_
  refine g_ialde rfl (j := 0) F (qi94 hq) rfl (by rw [(qn94 hq)]; omega) (by rw [(qn94 hq)]; decide) dL_find_53 ?_
  refine g_i2l F dL_find_54 ?_
  refine g_lmul F dL_find_55 ?_
  refine g_topl (fun x7 ex7 => ?_)
  refine g_lstore (L' := [(14, .long x7), (12, .long r4), (10, .long x3), (8, .long x2), (6, .long x1), (0, .long tx), (2, .long ty), (4, .ref (q 94)), (5, .ref (q 97))]) F dL_find_56 (Nat.le_of_ble_eq_true rfl) rfl ?_
  refine g_ldc2 F mw116 dL_find_58 ?_
  refine g_aload F 7 rfl dL_find_61 ?_
  refine g_iconst (v := 1) F (by decide) dL_find_63 ?_
  refine g_ialde rfl (j := 1) F (qi94 hq) rfl (by rw [(qn94 hq)]; omega) (by rw [(qn94 hq)]; decide) dL_find_64 ?_
  refine g_i2l F dL_find_65 ?_
  refine g_lmul F dL_find_66 ?_
  refine g_topl (fun x8 ex8 => ?_)
  refine g_lstore (L' := [(16, .long x8), (14, .long x7), (12, .long r4), (10, .long x3), (8, .long x2), (6, .long x1), (0, .long tx), (2, .long ty), (4, .ref (q 94)), (5, .ref (q 97))]) F dL_find_67 (Nat.le_of_ble_eq_true rfl) rfl ?_
  have rt9 : r4 = rt (zD z tx ty) := by rw [er4, sq9]
  have p9 : x7 = 16 * z 2 := by rw [ex7, hs.1.1]
  have l9 : x8 = 16 * z 3 := by rw [ex8, hs.1.2.1]
  refine g_aload F 9 rfl dL_find_69 ?_
  refine g_iconst (v := 2) F (by decide) dL_find_71 ?_
  refine g_lload F 2 rfl dL_find_72 ?_
  refine g_lconst (v := 0) F (by decide) dL_find_74 ?_
  refine g_lcmp F dL_find_75 ?_
  have jn10 : ∀ (w109 : Int64), (w109 = 1 ∧ zRe z tx ty) ∨ (w109 = 0 ∧ ¬ zRe z tx ty) → G Γ S 0 0 109 [(16, .long x8), (14, .long x7), (12, .long r4), (10, .long x3), (8, .long x2), (6, .long x1), (0, .long tx), (2, .long ty), (4, .ref (q 94)), (5, .ref (q 97))] [.long w109, .int 2, .ref (q 97)] := by
    intro w109 hj
    refine g_last (j := 2) F (qi97 hq) rfl (by rw [(qn97 hq)]; omega) (by rw [(qn97 hq)]; decide) dL_find_109 ?_
    refine g_aload F 9 rfl dL_find_110 ?_
    refine g_iconst (v := 2) F (by decide) dL_find_112 ?_
    refine g_lalde (up2_updL.trans (congrArg (fun f9 => vp_updL f9 (2) w109) rfl)) (j := 2) F (qi97 hq) rfl (by rw [(qn97 hq)]; omega) (by rw [(qn97 hq)]; decide) dL_find_113 ?_
    refine g_lconst (v := 0) F (by decide) dL_find_114 ?_
    refine g_lcmp F dL_find_115 ?_
    refine g_if_ne (t := 120) F dL_find_116 (by decide) (fun c11 => ?_) (fun c11 => ?_)
    · rw [lc_eq] at c11
      obtain ⟨hw1, hre⟩ : w109 = 1 ∧ zRe z tx ty := by
        rcases hj with h | h
        · exact h
        · exact absurd (uLs.trans h.1) c11
      have hA9 := zA_b hB h1 h2 hre
      refine g_lload F 3 rfl dL_find_120 ?_
      refine g_lload F 1 rfl dL_find_122 ?_
      refine g_lload F 0 rfl dL_find_124 ?_
      refine g_lsub F dL_find_126 ?_
      refine g_lload F 1 rfl dL_find_127 ?_
      refine g_lload F 0 rfl dL_find_129 ?_
      refine g_ladd F dL_find_131 ?_
      refine g_lmul F dL_find_132 ?_
      refine g_ladd F dL_find_133 ?_
      refine g_lload F 2 rfl dL_find_134 ?_
      refine g_lload F 2 rfl dL_find_136 ?_
      refine g_ladd F dL_find_138 ?_
      refine g_ldiv F dL_find_139 (by rw [rt9, show rt (zD z tx ty) + rt (zD z tx ty) = 2 * rt (zD z tx ty) by grind]; exact hA9.2.2.1) ?_
      refine g_topl (fun x12 ex12 => ?_)
      refine g_lstore (L' := [(18, .long x12), (16, .long x8), (14, .long x7), (12, .long r4), (10, .long x3), (8, .long x2), (6, .long x1), (0, .long tx), (2, .long ty), (4, .ref (q 94)), (5, .ref (q 97))]) F dL_find_140 (Nat.le_of_ble_eq_true rfl) rfl ?_
      have a9 : x12 = zA z tx ty := by rw [ex12, sq9, p9, l9, rt9]; exact fa_e
      have hbq : (x7 - x12) * (x7 + x12) = zHb z tx ty := by rw [p9]; exact fh_e a9
      refine g_lload F 2 rfl dL_find_142 ?_
      refine g_lload F 0 rfl dL_find_144 ?_
      refine g_lsub F dL_find_146 ?_
      refine g_lload F 2 rfl dL_find_147 ?_
      refine g_lload F 0 rfl dL_find_149 ?_
      refine g_ladd F dL_find_151 ?_
      refine g_lmul F dL_find_152 ?_
      refine g_lconst (v := 0) F (by decide) dL_find_153 ?_
      refine g_lcmp F dL_find_154 ?_
      have jn14 : ∀ (w176 : Int64), w176 = (if zHb z tx ty < 0 then 0 else rt (zHb z tx ty)) → G Γ (wJ S (q 97) (2) w109) 0 0 176 [(18, .long x12), (16, .long x8), (14, .long x7), (12, .long r4), (10, .long x3), (8, .long x2), (6, .long x1), (0, .long tx), (2, .long ty), (4, .ref (q 94)), (5, .ref (q 97))] [.long w176] := by
        intro w176 hj2
        refine g_lstore (L' := [(20, .long w176), (18, .long x12), (16, .long x8), (14, .long x7), (12, .long r4), (10, .long x3), (8, .long x2), (6, .long x1), (0, .long tx), (2, .long ty), (4, .ref (q 94)), (5, .ref (q 97))]) F dL_find_176 (Nat.le_of_ble_eq_true rfl) rfl ?_
        refine g_aload F 10 rfl dL_find_178 ?_
        refine g_iconst (v := 3) F (by decide) dL_find_180 ?_
        refine g_ialde rfl (j := 3) F (qi94 hq) rfl (by rw [(qn94 hq)]; omega) (by rw [(qn94 hq)]; decide) dL_find_181 ?_
        refine g_iconst (v := 1) F (by decide) dL_find_182 ?_
        refine g_icmp_ne (t := 191) F dL_find_183 (by decide) (fun c15 => ?_) (fun c15 => ?_)
        · have f9 : ¬ z 5 = 1 := fun h => c15 (by rw [i32_k (hs.1.2.2.2.1.trans h)]; decide)
          have h9 : w176 = zH z tx ty := by rw [hj2]; unfold zH; rw [if_neg f9]
          refine g_aload F 11 rfl dL_find_191 ?_
          refine g_iconst (v := 0) F (by decide) dL_find_193 ?_
          refine g_ldc2 F mw116 dL_find_194 ?_
          refine g_aload F 10 rfl dL_find_197 ?_
          refine g_iconst (v := 5) F (by decide) dL_find_199 ?_
          refine g_ialde rfl (j := 5) F (qi94 hq) rfl (by rw [(qn94 hq)]; omega) (by rw [(qn94 hq)]; decide) dL_find_200 ?_
          refine g_i2l F dL_find_201 ?_
          refine g_lmul F dL_find_202 ?_
          refine g_lload F 7 rfl dL_find_203 ?_
          refine g_lload F 1 rfl dL_find_205 ?_
          refine g_lmul F dL_find_207 ?_
          refine g_lload F 6 rfl dL_find_208 ?_
          refine g_lload F 0 rfl dL_find_210 ?_
          refine g_lmul F dL_find_212 ?_
          refine g_lsub F dL_find_213 ?_
          refine g_lload F 4 rfl dL_find_214 ?_
          refine g_ldiv F dL_find_216 (by rw [rt9]; exact hA9.2.2.2.1) ?_
          refine g_ladd F dL_find_217 ?_
          refine g_last (j := 0) F (qi97 hq) rfl (by rw [(qn97 hq)]; omega) (by rw [(qn97 hq)]; decide) dL_find_218 ?_
          refine g_aload F 11 rfl dL_find_219 ?_
          refine g_iconst (v := 1) F (by decide) dL_find_221 ?_
          refine g_ldc2 F mw116 dL_find_222 ?_
          refine g_aload F 10 rfl dL_find_225 ?_
          refine g_bipush (v := 6) F (by decide) dL_find_227 ?_
          refine g_ialde rfl (j := 6) F (qi94 hq) rfl (by rw [(qn94 hq)]; omega) (by rw [(qn94 hq)]; decide) dL_find_229 ?_
          refine g_i2l F dL_find_230 ?_
          refine g_lmul F dL_find_231 ?_
          refine g_lload F 6 rfl dL_find_232 ?_
          refine g_lload F 1 rfl dL_find_234 ?_
          refine g_lmul F dL_find_236 ?_
          refine g_lload F 7 rfl dL_find_237 ?_
          refine g_lload F 0 rfl dL_find_239 ?_
          refine g_lmul F dL_find_241 ?_
          refine g_ladd F dL_find_242 ?_
          refine g_lload F 4 rfl dL_find_243 ?_
          refine g_ldiv F dL_find_245 (by rw [rt9]; exact hA9.2.2.2.1) ?_
          refine g_ladd F dL_find_246 ?_
          refine g_last (j := 1) F (qi97 hq) rfl (by rw [(qn97 hq)]; omega) (by rw [(qn97 hq)]; decide) dL_find_247 ?_
          refine g_vret F T ⟨rfl, ?_⟩ (Nat.le_of_ble_eq_true rfl) (Nat.le_of_ble_eq_true rfl) dL_find_248
          exact ⟨(Fr.wJ hq (Fr.wJ hq (Fr.wJ hq Fr.rf (by decide) (by decide)) (by decide) (by decide)) (by decide) (by decide)), .inl ⟨hre, (up2_k (by decide)).trans ((up2_k (by decide)).trans (up2_s.trans hw1)), (up2_k (by decide)).trans (up2_s.trans (by rw [hs.2.1, dx9, dy9, a9, h9, rt9]; rfl)), up2_s.trans (by rw [hs.2.2, dx9, dy9, a9, h9, rt9]; rfl)⟩⟩
        · have f9 : z 5 = 1 := by rw [← hs.1.2.2.2.1, c15]; rfl
          refine g_lload F 0 rfl dL_find_186 ?_
          refine g_lneg F dL_find_188 ?_
          refine g_topl (fun x16 ex16 => ?_)
          refine g_lstore (L' := [(20, .long x16), (18, .long x12), (16, .long x8), (14, .long x7), (12, .long r4), (10, .long x3), (8, .long x2), (6, .long x1), (0, .long tx), (2, .long ty), (4, .ref (q 94)), (5, .ref (q 97))]) F dL_find_189 (Nat.le_of_ble_eq_true rfl) rfl ?_
          have h9 : x16 = zH z tx ty := by rw [ex16, hj2]; unfold zH; rw [if_pos f9]
          refine g_aload F 11 rfl dL_find_191 ?_
          refine g_iconst (v := 0) F (by decide) dL_find_193 ?_
          refine g_ldc2 F mw116 dL_find_194 ?_
          refine g_aload F 10 rfl dL_find_197 ?_
          refine g_iconst (v := 5) F (by decide) dL_find_199 ?_
          refine g_ialde rfl (j := 5) F (qi94 hq) rfl (by rw [(qn94 hq)]; omega) (by rw [(qn94 hq)]; decide) dL_find_200 ?_
          refine g_i2l F dL_find_201 ?_
          refine g_lmul F dL_find_202 ?_
          refine g_lload F 7 rfl dL_find_203 ?_
          refine g_lload F 1 rfl dL_find_205 ?_
          refine g_lmul F dL_find_207 ?_
          refine g_lload F 6 rfl dL_find_208 ?_
          refine g_lload F 0 rfl dL_find_210 ?_
          refine g_lmul F dL_find_212 ?_
          refine g_lsub F dL_find_213 ?_
          refine g_lload F 4 rfl dL_find_214 ?_
          refine g_ldiv F dL_find_216 (by rw [rt9]; exact hA9.2.2.2.1) ?_
          refine g_ladd F dL_find_217 ?_
          refine g_last (j := 0) F (qi97 hq) rfl (by rw [(qn97 hq)]; omega) (by rw [(qn97 hq)]; decide) dL_find_218 ?_
          refine g_aload F 11 rfl dL_find_219 ?_
          refine g_iconst (v := 1) F (by decide) dL_find_221 ?_
          refine g_ldc2 F mw116 dL_find_222 ?_
          refine g_aload F 10 rfl dL_find_225 ?_
          refine g_bipush (v := 6) F (by decide) dL_find_227 ?_
          refine g_ialde rfl (j := 6) F (qi94 hq) rfl (by rw [(qn94 hq)]; omega) (by rw [(qn94 hq)]; decide) dL_find_229 ?_
          refine g_i2l F dL_find_230 ?_
          refine g_lmul F dL_find_231 ?_
          refine g_lload F 6 rfl dL_find_232 ?_
          refine g_lload F 1 rfl dL_find_234 ?_
          refine g_lmul F dL_find_236 ?_
          refine g_lload F 7 rfl dL_find_237 ?_
          refine g_lload F 0 rfl dL_find_239 ?_
          refine g_lmul F dL_find_241 ?_
          refine g_ladd F dL_find_242 ?_
          refine g_lload F 4 rfl dL_find_243 ?_
          refine g_ldiv F dL_find_245 (by rw [rt9]; exact hA9.2.2.2.1) ?_
          refine g_ladd F dL_find_246 ?_
          refine g_last (j := 1) F (qi97 hq) rfl (by rw [(qn97 hq)]; omega) (by rw [(qn97 hq)]; decide) dL_find_247 ?_
          refine g_vret F T ⟨rfl, ?_⟩ (Nat.le_of_ble_eq_true rfl) (Nat.le_of_ble_eq_true rfl) dL_find_248
          exact ⟨(Fr.wJ hq (Fr.wJ hq (Fr.wJ hq Fr.rf (by decide) (by decide)) (by decide) (by decide)) (by decide) (by decide)), .inl ⟨hre, (up2_k (by decide)).trans ((up2_k (by decide)).trans (up2_s.trans hw1)), (up2_k (by decide)).trans (up2_s.trans (by rw [hs.2.1, dx9, dy9, a9, h9, rt9]; rfl)), up2_s.trans (by rw [hs.2.2, dx9, dy9, a9, h9, rt9]; rfl)⟩⟩
      refine g_if_le (t := 175) F dL_find_155 (by decide) (fun c13 => ?_) (fun c13 => ?_)
      · rw [lc_le] at c13
        have k9 : ¬ 0 < zHb z tx ty := by rw [← hbq]; exact L_nlt.mpr c13
        refine g_lconst (v := 0) F (by decide) dL_find_175 ?_
        exact jn14 (0) (fi_h0 k9)
      · rw [lc_le] at c13
        have k9 : 0 < zHb z tx ty := by rw [← hbq]; exact L_nle.mp c13
        have k8 : 0 ≤ (zHb z tx ty).toInt := by
          rw [Int64.lt_iff_toInt_lt, L0_0] at k9
          omega
        refine g_lload F 2 rfl dL_find_158 ?_
        refine g_lload F 0 rfl dL_find_160 ?_
        refine g_lsub F dL_find_162 ?_
        refine g_lload F 2 rfl dL_find_163 ?_
        refine g_lload F 0 rfl dL_find_165 ?_
        refine g_ladd F dL_find_167 ?_
        refine g_lmul F dL_find_168 ?_
        refine g_callS F (kL_root Γ.1 _ _ (by rw [hbq]; exact k8) (by rw [hbq]; have := hA9.2.2.2.2.2; omega)) okL_root mw120 ⟨(Nat.le_of_ble_eq_true rfl), (Nat.le_of_ble_eq_true rfl)⟩ rfl rfl (Nat.le_of_ble_eq_true rfl) ⟨(Nat.le_of_ble_eq_true rfl), (Nat.le_of_ble_eq_true rfl)⟩ dL_find_169 (toJ (fun r17 S18 h19 => ?_))
        obtain ⟨er17, rfl⟩ := h19
        refine g_goto (t := 176) F dL_find_172 (by decide) ?_
        exact jn14 (r17) (by rw [er17, hbq]; exact fi_h1 k9)
    · rw [lc_eq] at c11
      have hre : ¬ zRe z tx ty := by
        rcases hj with h | h
        · exact absurd ((uLs.trans h.1).symm.trans c11) (by decide)
        · exact h.2
      refine g_vret F T ⟨rfl, ?_⟩ (Nat.le_of_ble_eq_true rfl) (Nat.le_of_ble_eq_true rfl) dL_find_119
      exact ⟨(Fr.wJ hq Fr.rf (by decide) (by decide)), .inr ⟨hre, up2_s.trans (uLs.symm.trans c11)⟩⟩
  refine g_if_le (t := 108) F dL_find_76 (by decide) (fun c9 => ?_) (fun c9 => ?_)
  · rw [lc_le] at c9
    have g0 : ¬ 0 < rt (zD z tx ty) := by rw [← rt9]; exact L_nlt.mpr c9
    refine g_lconst (v := 0) F (by decide) dL_find_108 ?_
    exact jn10 (0) (.inr ⟨rfl, fun h => g0 (And.left h)⟩)
  · rw [lc_le] at c9
    have g0 : 0 < rt (zD z tx ty) := by rw [← rt9]; exact L_nle.mp c9
    refine g_lload F 2 rfl dL_find_79 ?_
    refine g_lload F 1 rfl dL_find_81 ?_
    refine g_lload F 0 rfl dL_find_83 ?_
    refine g_ladd F dL_find_85 ?_
    refine g_lcmp F dL_find_86 ?_
    refine g_if_gt (t := 108) F dL_find_87 (by decide) (fun c20 => ?_) (fun c20 => ?_)
    · rw [lc_gt] at c20
      have g1 : ¬ rt (zD z tx ty) ≤ 16 * z 2 + 16 * z 3 := by rw [← rt9, ← p9, ← l9]; exact L_nle.mpr c20
      refine g_lconst (v := 0) F (by decide) dL_find_108 ?_
      exact jn10 (0) (.inr ⟨rfl, fun h => g1 (And.left (And.right h))⟩)
    · rw [lc_gt] at c20
      have g1 : rt (zD z tx ty) ≤ 16 * z 2 + 16 * z 3 := by rw [← rt9, ← p9, ← l9]; exact L_nlt.mp c20
      refine g_lload F 2 rfl dL_find_90 ?_
      refine g_lload F 1 rfl dL_find_92 ?_
      refine g_lload F 0 rfl dL_find_94 ?_
      refine g_lsub F dL_find_96 ?_
      refine g_callS F (kL_abs Γ.1 _ _) okL_abs mw110 ⟨(Nat.le_of_ble_eq_true rfl), (Nat.le_of_ble_eq_true rfl)⟩ rfl rfl (Nat.le_of_ble_eq_true rfl) ⟨(Nat.le_of_ble_eq_true rfl), (Nat.le_of_ble_eq_true rfl)⟩ dL_find_97 (toJ (fun r21 S22 h23 => ?_))
      obtain ⟨er21, rfl⟩ := h23
      refine g_lcmp F dL_find_100 ?_
      refine g_if_lt (t := 108) F dL_find_101 (by decide) (fun c24 => ?_) (fun c24 => ?_)
      · rw [lc_lt] at c24
        have g2 : ¬ sz (16 * z 2 - 16 * z 3) ≤ rt (zD z tx ty) := by rw [← rt9, ← p9, ← l9, ← er21]; exact L_nle.mpr c24
        refine g_lconst (v := 0) F (by decide) dL_find_108 ?_
        exact jn10 (0) (.inr ⟨rfl, fun h => g2 (And.right (And.right h))⟩)
      · rw [lc_lt] at c24
        have g2 : sz (16 * z 2 - 16 * z 3) ≤ rt (zD z tx ty) := by rw [← rt9, ← p9, ← l9, ← er21]; exact L_nlt.mp c24
        refine g_lconst (v := 1) F (by decide) dL_find_104 ?_
        refine g_goto (t := 109) F dL_find_105 (by decide) ?_
        exact jn10 (1) (.inl ⟨rfl, And.intro g0 (And.intro g1 g2)⟩)
set_option maxHeartbeats 4000000 in
set_option maxRecDepth 100000 in
theorem kL_at (g : Glo) (S : PS) (x : Int32) (n : Nat) (h0 : 0 < n) (hn : n < 2147483648) : Ct g mL_at 0 0 [.int x, .int (nI n)] S (pI9 (fun r S' => (∃ j : Nat, j < n ∧ r = nI j) ∧ S = S')) := by
  refine Ct.of (by decide) (Nat.le_of_ble_eq_true rfl) (fun Γ hg F T => ?_)
  subst hg
  show G Γ S 0 0 0 [(0, .int x), (1, .int (nI n))] []
  refine g_iload_n (k := 0) F 0 rfl dL_at_0 ?_
  refine g_iconst (v := 1) F (by decide) dL_at_1 ?_
  refine g_iushr F dL_at_2 ?_
  refine g_iload_n (k := 1) F 1 rfl dL_at_3 ?_
  refine g_irem F dL_at_4 (fun h => by rw [show (0 : Int32) = nI 0 from rfl, nI_eq (by omega) (by omega)] at h; omega) ?_
  refine g_iret F T ⟨_, rfl, ?_⟩ (Nat.le_of_ble_eq_true rfl) (Nat.le_of_ble_eq_true rfl) dL_at_5
  obtain ⟨a, ha, e⟩ := at_v (x := x)
  exact ⟨⟨a % n, Nat.mod_lt _ h0, by rw [e]; exact pk_rem ha h0 hn⟩, rfl⟩
set_option maxHeartbeats 4000000 in
set_option maxRecDepth 100000 in
theorem kL_value (g : Glo) (S : PS) (k : Nat) (hk : k ≤ 4) (y : Int32) : Ct g mL_value 0 0 [.int (nI k), .int y] S (pI9 (fun r S' => vOk (nI k) r ∧ S = S')) := by
  refine Ct.of (by decide) (Nat.le_of_ble_eq_true rfl) (fun Γ hg F T => ?_)
  subst hg
  show G Γ S 0 0 0 [(0, .int (nI k)), (1, .int y)] []
  refine g_iload_n (k := 0) F 0 rfl dL_value_0 ?_
  refine g_iconst (v := 2) F (by decide) dL_value_1 ?_
  refine g_icmp_ge (t := 19) F dL_value_2 (by decide) (fun c1 => ?_) (fun c1 => ?_)
  · have v2 : ¬ k < 2 := by
      rw [show (2 : Int32) = nI 2 from rfl, nI_leI (by omega) (by omega)] at c1
      omega
    refine g_iload_n (k := 0) F 0 rfl dL_value_19 ?_
    refine g_iconst (v := 2) F (by decide) dL_value_20 ?_
    refine g_icmp_ne (t := 37) F dL_value_21 (by decide) (fun c2 => ?_) (fun c2 => ?_)
    · have v3 : ¬ k = 2 := fun h => c2 (by rw [h]; rfl)
      refine g_iload_n (k := 0) F 0 rfl dL_value_37 ?_
      refine g_iconst (v := 3) F (by decide) dL_value_38 ?_
      refine g_icmp_ne (t := 50) F dL_value_39 (by decide) (fun c3 => ?_) (fun c3 => ?_)
      · have v4 : ¬ k = 3 := fun h => c3 (by rw [h]; rfl)
        refine g_iload_n (k := 1) F 1 rfl dL_value_50 ?_
        refine g_sipush (v := 3000) F (by decide) dL_value_51 ?_
        refine g_callS F (kL_at Γ.1 _ _ 3000 (by omega) (by omega)) okL_at mw252 ⟨(Nat.le_of_ble_eq_true rfl), (Nat.le_of_ble_eq_true rfl)⟩ rfl rfl (Nat.le_of_ble_eq_true rfl) ⟨(Nat.le_of_ble_eq_true rfl), (Nat.le_of_ble_eq_true rfl)⟩ dL_value_54 (toI (fun r4 S5 h6 => ?_))
        obtain ⟨⟨jr4, lr4, rfl⟩, rfl⟩ := h6
        refine g_iret F T ⟨_, rfl, ?_⟩ (Nat.le_of_ble_eq_true rfl) (Nat.le_of_ble_eq_true rfl) dL_value_57
        exact ⟨vo_i hk (by omega) (by rw [if_neg v2, if_neg v2, if_neg v3, if_neg v3, if_neg v4]; omega), rfl⟩
      · have v4 : k = 3 := by
          rw [show (3 : Int32) = nI 3 from rfl, nI_eq (by omega) (by omega)] at c3
          exact c3
        refine g_iload_n (k := 1) F 1 rfl dL_value_42 ?_
        refine g_iconst (v := 2) F (by decide) dL_value_43 ?_
        refine g_callS F (kL_at Γ.1 _ _ 2 (by omega) (by omega)) okL_at mw252 ⟨(Nat.le_of_ble_eq_true rfl), (Nat.le_of_ble_eq_true rfl)⟩ rfl rfl (Nat.le_of_ble_eq_true rfl) ⟨(Nat.le_of_ble_eq_true rfl), (Nat.le_of_ble_eq_true rfl)⟩ dL_value_44 (toI (fun r7 S8 h9 => ?_))
        obtain ⟨⟨jr7, lr7, rfl⟩, rfl⟩ := h9
        refine g_goto (t := 57) F dL_value_47 (by decide) ?_
        refine g_iret F T ⟨_, rfl, ?_⟩ (Nat.le_of_ble_eq_true rfl) (Nat.le_of_ble_eq_true rfl) dL_value_57
        exact ⟨vo_i hk (by omega) (by rw [if_neg v2, if_neg v2, if_neg v3, if_neg v3, if_pos v4]; omega), rfl⟩
    · have v3 : k = 2 := by
        rw [show (2 : Int32) = nI 2 from rfl, nI_eq (by omega) (by omega)] at c2
        exact c2
      refine g_bipush (v := 40) F (by decide) dL_value_24 ?_
      refine g_iload_n (k := 1) F 1 rfl dL_value_26 ?_
      refine g_sipush (v := 161) F (by decide) dL_value_27 ?_
      refine g_callS F (kL_at Γ.1 _ _ 161 (by omega) (by omega)) okL_at mw252 ⟨(Nat.le_of_ble_eq_true rfl), (Nat.le_of_ble_eq_true rfl)⟩ rfl rfl (Nat.le_of_ble_eq_true rfl) ⟨(Nat.le_of_ble_eq_true rfl), (Nat.le_of_ble_eq_true rfl)⟩ dL_value_30 (toI (fun r10 S11 h12 => ?_))
      obtain ⟨⟨jr10, lr10, rfl⟩, rfl⟩ := h12
      refine g_iadd F dL_value_33 ?_
      refine g_rei (nI (40 + jr10)) (nadd rfl rfl) ?_
      refine g_goto (t := 57) F dL_value_34 (by decide) ?_
      refine g_iret F T ⟨_, rfl, ?_⟩ (Nat.le_of_ble_eq_true rfl) (Nat.le_of_ble_eq_true rfl) dL_value_57
      exact ⟨vo_i hk (by omega) (by rw [if_neg v2, if_neg v2, if_pos v3, if_pos v3]; omega), rfl⟩
  · have v2 : k < 2 := by
      rw [show (2 : Int32) = nI 2 from rfl, nI_leI (by omega) (by omega)] at c1
      omega
    refine g_sipush (v := 400) F (by decide) dL_value_5 ?_
    refine g_iload_n (k := 1) F 1 rfl dL_value_8 ?_
    refine g_sipush (v := 1800) F (by decide) dL_value_9 ?_
    refine g_callS F (kL_at Γ.1 _ _ 1800 (by omega) (by omega)) okL_at mw252 ⟨(Nat.le_of_ble_eq_true rfl), (Nat.le_of_ble_eq_true rfl)⟩ rfl rfl (Nat.le_of_ble_eq_true rfl) ⟨(Nat.le_of_ble_eq_true rfl), (Nat.le_of_ble_eq_true rfl)⟩ dL_value_12 (toI (fun r13 S14 h15 => ?_))
    obtain ⟨⟨jr13, lr13, rfl⟩, rfl⟩ := h15
    refine g_iadd F dL_value_15 ?_
    refine g_rei (nI (400 + jr13)) (nadd rfl rfl) ?_
    refine g_goto (t := 57) F dL_value_16 (by decide) ?_
    refine g_iret F T ⟨_, rfl, ?_⟩ (Nat.le_of_ble_eq_true rfl) (Nat.le_of_ble_eq_true rfl) dL_value_57
    exact ⟨vo_i hk (by omega) (by rw [if_pos v2, if_pos v2]; omega), rfl⟩
set_option maxHeartbeats 4000000 in
set_option maxRecDepth 100000 in
theorem kL_steps (g : Glo) (S : PS) (q : Nat → Nat) (hq : Shp S.1 S.2.1 q) (z : ZZ) (hB : Bz z) (hs : Ls S q z) (hk : Lk S q z) (k : Nat) (hkn : k < nc z) : Ct g mL_steps 0 0 [.int (nI k), .ref (q 94), .ref (q 95), .ref (q 96)] S (pI9 (fun r S' => r = nI (zN z k) ∧ S = S')) := by
  refine Ct.of (by decide) (Nat.le_of_ble_eq_true rfl) (fun Γ hg F T => ?_)
  subst hg
  show G Γ S 0 0 0 [(0, .int (nI k)), (1, .ref (q 94)), (2, .ref (q 95)), (3, .ref (q 96))] []
  have hnx := nx_lt hkn
  have h8 := hk.2.2
  have h0 : 0 < nc z := by omega
  obtain ⟨DX, eDX⟩ : ∃ y9 : Nat, y9 = ((zX z (k + 1)).toInt - (zX z k).toInt).natAbs := ⟨_, rfl⟩
  obtain ⟨DY, eDY⟩ : ∃ y9 : Nat, y9 = ((zY z (k + 1)).toInt - (zY z k).toInt).natAbs := ⟨_, rfl⟩
  have hz := zN_l (k := k) (M := max DX DY) hB (by rw [eDX, eDY])
  obtain ⟨hst, h20, h200⟩ := sten hB.2.1.2.2.1
  generalize (z 4).toInt.toNat = st at hz hst h20 h200
  have bX : DX ≤ 2000 := by
    have a1 := zX_b hB h0 k
    have a2 := zX_b hB h0 (k + 1)
    unfold wtn at a1 a2
    omega
  have bY : DY ≤ 2000 := by
    have a1 := zY_b hB h0 k
    have a2 := zY_b hB h0 (k + 1)
    unfold wtn at a1 a2
    omega
  refine g_iload_n (k := 0) F 0 rfl dL_steps_0 ?_
  refine g_iconst (v := 1) F (by decide) dL_steps_1 ?_
  refine g_iadd F dL_steps_2 ?_
  refine g_rei (nI (k + 1)) (nadd rfl rfl) ?_
  refine g_aload_n (k := 3) F 3 rfl dL_steps_3 ?_
  refine g_iconst (v := 0) F (by decide) dL_steps_4 ?_
  refine g_ialde rfl (j := 0) F (qi96 hq) rfl (by rw [(qn96 hq)]; omega) (by rw [(qn96 hq)]; decide) dL_steps_5 ?_
  refine g_rei (nI (nc z)) hk.2.1 ?_
  have jn2 : ∀ (w16 : Int32), w16 = nI (nx (nc z) k) → G Γ S 0 0 16 [(0, .int (nI k)), (1, .ref (q 94)), (2, .ref (q 95)), (3, .ref (q 96))] [.int w16] := by
    intro w16 hj
    refine g_istore (L' := [(4, .int w16), (0, .int (nI k)), (1, .ref (q 94)), (2, .ref (q 95)), (3, .ref (q 96))]) F dL_steps_16 (Nat.le_of_ble_eq_true rfl) rfl ?_
    refine g_aload_n (k := 2) F 3 rfl dL_steps_18 ?_
    refine g_iconst (v := 3) F (by decide) dL_steps_19 ?_
    refine g_iload F 0 rfl dL_steps_20 ?_
    refine g_imul F dL_steps_22 ?_
    refine g_rei (nI (3 * (nx (nc z) k))) (nmul rfl hj) ?_
    refine g_ialde rfl (j := (3 * (nx (nc z) k))) F (qi95 hq) rfl (by rw [(qn95 hq)]; omega) (by rw [(qn95 hq)]; decide) dL_steps_23 ?_
    refine g_aload_n (k := 2) F 3 rfl dL_steps_24 ?_
    refine g_iconst (v := 3) F (by decide) dL_steps_25 ?_
    refine g_iload_n (k := 0) F 1 rfl dL_steps_26 ?_
    refine g_imul F dL_steps_27 ?_
    refine g_rei (nI (3 * k)) (nmul rfl rfl) ?_
    refine g_ialde rfl (j := (3 * k)) F (qi95 hq) rfl (by rw [(qn95 hq)]; omega) (by rw [(qn95 hq)]; decide) dL_steps_28 ?_
    refine g_isub F dL_steps_29 ?_
    refine g_i2l F dL_steps_30 ?_
    refine g_callS F (kL_abs Γ.1 _ _) okL_abs mw110 ⟨(Nat.le_of_ble_eq_true rfl), (Nat.le_of_ble_eq_true rfl)⟩ rfl rfl (Nat.le_of_ble_eq_true rfl) ⟨(Nat.le_of_ble_eq_true rfl), (Nat.le_of_ble_eq_true rfl)⟩ dL_steps_31 (toJ (fun r3 S4 h5 => ?_))
    obtain ⟨er3, rfl⟩ := h5
    refine g_lstore (L' := [(5, .long r3), (4, .int w16), (0, .int (nI k)), (1, .ref (q 94)), (2, .ref (q 95)), (3, .ref (q 96))]) F dL_steps_34 (Nat.le_of_ble_eq_true rfl) rfl ?_
    have hx9 : r3 = lN DX := by rw [er3, d64 (hk.X1 hkn) (hk.X hkn) (wtn_w (zX_b hB h0 _) (by omega) (by omega)) (wtn_w (zX_b hB h0 _) (by omega) (by omega)), szd (zX_b hB h0 _) (zX_b hB h0 _), ← eDX]
    refine g_aload_n (k := 2) F 4 rfl dL_steps_36 ?_
    refine g_iconst (v := 3) F (by decide) dL_steps_37 ?_
    refine g_iload F 1 rfl dL_steps_38 ?_
    refine g_imul F dL_steps_40 ?_
    refine g_rei (nI (3 * (nx (nc z) k))) (nmul rfl hj) ?_
    refine g_iconst (v := 1) F (by decide) dL_steps_41 ?_
    refine g_iadd F dL_steps_42 ?_
    refine g_rei (nI ((3 * (nx (nc z) k)) + 1)) (nadd rfl rfl) ?_
    refine g_ialde rfl (j := ((3 * (nx (nc z) k)) + 1)) F (qi95 hq) rfl (by rw [(qn95 hq)]; omega) (by rw [(qn95 hq)]; decide) dL_steps_43 ?_
    refine g_aload_n (k := 2) F 4 rfl dL_steps_44 ?_
    refine g_iconst (v := 3) F (by decide) dL_steps_45 ?_
    refine g_iload_n (k := 0) F 2 rfl dL_steps_46 ?_
    refine g_imul F dL_steps_47 ?_
    refine g_rei (nI (3 * k)) (nmul rfl rfl) ?_
    refine g_iconst (v := 1) F (by decide) dL_steps_48 ?_
    refine g_iadd F dL_steps_49 ?_
    refine g_rei (nI ((3 * k) + 1)) (nadd rfl rfl) ?_
    refine g_ialde rfl (j := ((3 * k) + 1)) F (qi95 hq) rfl (by rw [(qn95 hq)]; omega) (by rw [(qn95 hq)]; decide) dL_steps_50 ?_
    refine g_isub F dL_steps_51 ?_
    refine g_i2l F dL_steps_52 ?_
    refine g_callS F (kL_abs Γ.1 _ _) okL_abs mw110 ⟨(Nat.le_of_ble_eq_true rfl), (Nat.le_of_ble_eq_true rfl)⟩ rfl rfl (Nat.le_of_ble_eq_true rfl) ⟨(Nat.le_of_ble_eq_true rfl), (Nat.le_of_ble_eq_true rfl)⟩ dL_steps_53 (toJ (fun r6 S7 h8 => ?_))
    obtain ⟨er6, rfl⟩ := h8
    refine g_lstore (L' := [(7, .long r6), (5, .long r3), (4, .int w16), (0, .int (nI k)), (1, .ref (q 94)), (2, .ref (q 95)), (3, .ref (q 96))]) F dL_steps_56 (Nat.le_of_ble_eq_true rfl) rfl ?_
    have hy9 : r6 = lN DY := by rw [er6, d64 (hk.Y1 hkn) (hk.Y hkn) (wtn_w (zY_b hB h0 _) (by omega) (by omega)) (wtn_w (zY_b hB h0 _) (by omega) (by omega)), szd (zY_b hB h0 _) (zY_b hB h0 _), ← eDY]
    refine g_lload F 1 rfl dL_steps_58 ?_
    refine g_lload F 0 rfl dL_steps_60 ?_
    refine g_lcmp F dL_steps_62 ?_
    have jn10 : ∀ (w73 : Int64), w73 = lN (max DX DY) → G Γ S 0 0 73 [(7, .long r6), (5, .long r3), (4, .int w16), (0, .int (nI k)), (1, .ref (q 94)), (2, .ref (q 95)), (3, .ref (q 96))] [.long w73] := by
      intro w73 hj2
      refine g_lstore (L' := [(9, .long w73), (7, .long r6), (5, .long r3), (4, .int w16), (0, .int (nI k)), (1, .ref (q 94)), (2, .ref (q 95)), (3, .ref (q 96))]) F dL_steps_73 (Nat.le_of_ble_eq_true rfl) rfl ?_
      refine g_lload F 0 rfl dL_steps_75 ?_
      refine g_aload_n (k := 1) F 5 rfl dL_steps_77 ?_
      refine g_iconst (v := 2) F (by decide) dL_steps_78 ?_
      refine g_ialde rfl (j := 2) F (qi94 hq) rfl (by rw [(qn94 hq)]; omega) (by rw [(qn94 hq)]; decide) dL_steps_79 ?_
      refine g_i2l F dL_steps_80 ?_
      refine g_ldiv F dL_steps_81 (by rw [hs.1.2.2.1]; exact stne hB) ?_
      refine g_l2i F dL_steps_82 ?_
      refine g_topi (fun x11 ex11 => ?_)
      refine g_istore (L' := [(11, .int x11), (9, .long w73), (7, .long r6), (5, .long r3), (4, .int w16), (0, .int (nI k)), (1, .ref (q 94)), (2, .ref (q 95)), (3, .ref (q 96))]) F dL_steps_83 (Nat.le_of_ble_eq_true rfl) rfl ?_
      have n9 : x11 = nI (max DX DY / st) := by rw [ex11, hj2, hs.1.2.2.1, hst, pk_lDiv (by omega) (by omega) (by omega), lN_i]
      have r9 : w73 - w73 / (pI S (q 94) 2).toInt64 * (pI S (q 94) 2).toInt64 = lN (max DX DY % st) := by rw [hj2, hs.1.2.2.1, hst, pk_lRem (by omega) (by omega) (by omega)]
      refine g_lload F 1 rfl dL_steps_85 ?_
      refine g_aload_n (k := 1) F 6 rfl dL_steps_87 ?_
      refine g_iconst (v := 2) F (by decide) dL_steps_88 ?_
      refine g_ialde rfl (j := 2) F (qi94 hq) rfl (by rw [(qn94 hq)]; omega) (by rw [(qn94 hq)]; decide) dL_steps_89 ?_
      refine g_i2l F dL_steps_90 ?_
      refine g_lrem F dL_steps_91 (by rw [hs.1.2.2.1]; exact stne hB) ?_
      refine g_lconst (v := 0) F (by decide) dL_steps_92 ?_
      refine g_lcmp F dL_steps_93 ?_
      refine g_if_gt (t := 102) F dL_steps_94 (by decide) (fun c12 => ?_) (fun c12 => ?_)
      · rw [lc_gt] at c12
        have q9 : 0 < max DX DY % st := by
          rw [r9, show (0 : Int64) = lN 0 from rfl, pk_lLT (by omega) (by have := Nat.mod_lt (max DX DY) (show 0 < st by omega); omega)] at c12
          exact c12
        refine g_iload F 0 rfl dL_steps_102 ?_
        refine g_iconst (v := 1) F (by decide) dL_steps_104 ?_
        refine g_iadd F dL_steps_105 ?_
        refine g_rei (nI ((max DX DY / st) + 1)) (nadd n9 rfl) ?_
        refine g_goto (t := 111) F dL_steps_106 (by decide) ?_
        refine g_iret F T ⟨_, rfl, ?_⟩ (Nat.le_of_ble_eq_true rfl) (Nat.le_of_ble_eq_true rfl) dL_steps_111
        exact ⟨congrArg nI (hz.1 (.inl q9)), rfl⟩
      · rw [lc_gt] at c12
        have q9 : ¬ 0 < max DX DY % st := fun h => c12 (by rw [r9, show (0 : Int64) = lN 0 from rfl, pk_lLT (by omega) (by have := Nat.mod_lt (max DX DY) (show 0 < st by omega); omega)]; exact h)
        refine g_iload F 0 rfl dL_steps_97 ?_
        refine g_if_ne (t := 109) F dL_steps_99 (by decide) (fun c13 => ?_) (fun c13 => ?_)
        · have d9 : ¬ max DX DY / st = 0 := fun h => c13 (by rw [n9, h]; rfl)
          refine g_iload F 0 rfl dL_steps_109 ?_
          refine g_iret F T ⟨_, rfl, ?_⟩ (Nat.le_of_ble_eq_true rfl) (Nat.le_of_ble_eq_true rfl) dL_steps_111
          exact ⟨n9.trans (congrArg nI (hz.2 (fun h => h.elim q9 d9))), rfl⟩
        · have d9 : max DX DY / st = 0 := by
            rw [n9, show (0 : Int32) = nI 0 from rfl, nI_eq (by have := Nat.div_le_self (max DX DY) st; omega) (by omega)] at c13
            exact c13
          refine g_iload F 0 rfl dL_steps_102 ?_
          refine g_iconst (v := 1) F (by decide) dL_steps_104 ?_
          refine g_iadd F dL_steps_105 ?_
          refine g_rei (nI ((max DX DY / st) + 1)) (nadd n9 rfl) ?_
          refine g_goto (t := 111) F dL_steps_106 (by decide) ?_
          refine g_iret F T ⟨_, rfl, ?_⟩ (Nat.le_of_ble_eq_true rfl) (Nat.le_of_ble_eq_true rfl) dL_steps_111
          exact ⟨congrArg nI (hz.1 (.inr d9)), rfl⟩
    refine g_if_le (t := 71) F dL_steps_63 (by decide) (fun c9 => ?_) (fun c9 => ?_)
    · rw [lc_le] at c9
      have m9 : DX ≤ DY := by
        rw [hx9, hy9, pk_lLE (by omega) (by omega)] at c9
        exact c9
      refine g_lload F 0 rfl dL_steps_71 ?_
      exact jn10 (r6) (by rw [hy9, Nat.max_eq_right m9])
    · rw [lc_le] at c9
      have m9 : DY ≤ DX := by
        rw [hx9, hy9, pk_lLE (by omega) (by omega)] at c9
        omega
      refine g_lload F 1 rfl dL_steps_66 ?_
      refine g_goto (t := 73) F dL_steps_68 (by decide) ?_
      exact jn10 (r3) (by rw [hx9, Nat.max_eq_left m9])
  refine g_icmp_ne (t := 13) F dL_steps_6 (by decide) (fun c1 => ?_) (fun c1 => ?_)
  · have g0 := nxI_f hkn (by omega) c1
    refine g_iload_n (k := 0) F 0 rfl dL_steps_13 ?_
    refine g_iconst (v := 1) F (by decide) dL_steps_14 ?_
    refine g_iadd F dL_steps_15 ?_
    refine g_rei (nI (k + 1)) (nadd rfl rfl) ?_
    exact jn2 ((nI (k + 1))) (by rw [g0])
  · have g0 := nxI_t hkn (by omega) c1
    refine g_iconst (v := 0) F (by decide) dL_steps_9 ?_
    refine g_goto (t := 16) F dL_steps_10 (by decide) ?_
    exact jn2 (0) (by rw [g0]; rfl)
set_option maxHeartbeats 4000000 in
set_option maxRecDepth 100000 in
theorem kL_point (g : Glo) (S : PS) (q : Nat → Nat) (hq : Shp S.1 S.2.1 q) (z : ZZ) (hB : Bz z) (hs : Ls S q z) (hk : Lk S q z) (k : Nat) (hkn : k < nc z) (i : Nat) (hi : i < 1000000) (y : Nat) (hy : y ≤ 1) : Ct g mL_point 0 0 [.int (nI k), .int (nI i), .int (nI y), .ref (q 94), .ref (q 95), .ref (q 96)] S (pJ9 (fun r S' => r = pt (zC z k y) (zC z (k + 1) y) i (zN z k) ∧ S = S')) := by
  refine Ct.of (by decide) (Nat.le_of_ble_eq_true rfl) (fun Γ hg F T => ?_)
  subst hg
  show G Γ S 0 0 0 [(0, .int (nI k)), (1, .int (nI i)), (2, .int (nI y)), (3, .ref (q 94)), (4, .ref (q 95)), (5, .ref (q 96))] []
  have hnx := nx_lt hkn
  have h8 := hk.2.2
  have h0 : 0 < nc z := by omega
  have hzn := zN_b hB h0 k
  refine g_iload_n (k := 0) F 0 rfl dL_point_0 ?_
  refine g_iconst (v := 1) F (by decide) dL_point_1 ?_
  refine g_iadd F dL_point_2 ?_
  refine g_rei (nI (k + 1)) (nadd rfl rfl) ?_
  refine g_aload F 5 rfl dL_point_3 ?_
  refine g_iconst (v := 0) F (by decide) dL_point_5 ?_
  refine g_ialde rfl (j := 0) F (qi96 hq) rfl (by rw [(qn96 hq)]; omega) (by rw [(qn96 hq)]; decide) dL_point_6 ?_
  refine g_rei (nI (nc z)) hk.2.1 ?_
  have jn2 : ∀ (w17 : Int32), w17 = nI (nx (nc z) k) → G Γ S 0 0 17 [(0, .int (nI k)), (1, .int (nI i)), (2, .int (nI y)), (3, .ref (q 94)), (4, .ref (q 95)), (5, .ref (q 96))] [.int w17] := by
    intro w17 hj
    refine g_istore (L' := [(6, .int w17), (0, .int (nI k)), (1, .int (nI i)), (2, .int (nI y)), (3, .ref (q 94)), (4, .ref (q 95)), (5, .ref (q 96))]) F dL_point_17 (Nat.le_of_ble_eq_true rfl) rfl ?_
    refine g_ldc2 F mw116 dL_point_19 ?_
    refine g_aload F 5 rfl dL_point_22 ?_
    refine g_iconst (v := 3) F (by decide) dL_point_24 ?_
    refine g_iload_n (k := 0) F 1 rfl dL_point_25 ?_
    refine g_imul F dL_point_26 ?_
    refine g_rei (nI (3 * k)) (nmul rfl rfl) ?_
    refine g_iload_n (k := 2) F 3 rfl dL_point_27 ?_
    refine g_iadd F dL_point_28 ?_
    refine g_rei (nI ((3 * k) + y)) (nadd rfl rfl) ?_
    refine g_ialde rfl (j := ((3 * k) + y)) F (qi95 hq) rfl (by rw [(qn95 hq)]; omega) (by rw [(qn95 hq)]; decide) dL_point_29 ?_
    refine g_i2l F dL_point_30 ?_
    refine g_lmul F dL_point_31 ?_
    refine g_ldc2 F mw116 dL_point_32 ?_
    refine g_aload F 5 rfl dL_point_35 ?_
    refine g_iconst (v := 3) F (by decide) dL_point_37 ?_
    refine g_iload F 0 rfl dL_point_38 ?_
    refine g_imul F dL_point_40 ?_
    refine g_rei (nI (3 * (nx (nc z) k))) (nmul rfl hj) ?_
    refine g_iload_n (k := 2) F 3 rfl dL_point_41 ?_
    refine g_iadd F dL_point_42 ?_
    refine g_rei (nI ((3 * (nx (nc z) k)) + y)) (nadd rfl rfl) ?_
    refine g_ialde rfl (j := ((3 * (nx (nc z) k)) + y)) F (qi95 hq) rfl (by rw [(qn95 hq)]; omega) (by rw [(qn95 hq)]; decide) dL_point_43 ?_
    refine g_aload F 5 rfl dL_point_44 ?_
    refine g_iconst (v := 3) F (by decide) dL_point_46 ?_
    refine g_iload_n (k := 0) F 1 rfl dL_point_47 ?_
    refine g_imul F dL_point_48 ?_
    refine g_rei (nI (3 * k)) (nmul rfl rfl) ?_
    refine g_iload_n (k := 2) F 3 rfl dL_point_49 ?_
    refine g_iadd F dL_point_50 ?_
    refine g_rei (nI ((3 * k) + y)) (nadd rfl rfl) ?_
    refine g_ialde rfl (j := ((3 * k) + y)) F (qi95 hq) rfl (by rw [(qn95 hq)]; omega) (by rw [(qn95 hq)]; decide) dL_point_51 ?_
    refine g_isub F dL_point_52 ?_
    refine g_i2l F dL_point_53 ?_
    refine g_lmul F dL_point_54 ?_
    refine g_iload_n (k := 1) F 2 rfl dL_point_55 ?_
    refine g_i2l F dL_point_56 ?_
    refine g_lmul F dL_point_57 ?_
    refine g_iload_n (k := 0) F 1 rfl dL_point_58 ?_
    refine g_aload_n (k := 3) F 4 rfl dL_point_59 ?_
    refine g_aload F 5 rfl dL_point_60 ?_
    refine g_aload F 6 rfl dL_point_62 ?_
    refine g_callS F (kL_steps Γ.1 S q hq z hB hs hk k hkn) okL_steps mw107 ⟨(Nat.le_of_ble_eq_true rfl), (Nat.le_of_ble_eq_true rfl)⟩ rfl rfl (Nat.le_of_ble_eq_true rfl) ⟨(Nat.le_of_ble_eq_true rfl), (Nat.le_of_ble_eq_true rfl)⟩ dL_point_64 (toI (fun r3 S4 h5 => ?_))
    obtain ⟨rfl, rfl⟩ := h5
    refine g_i2l F dL_point_67 ?_
    refine g_ldiv F dL_point_68 (by rw [nI_L (by omega)]; exact lN_ne0 (by omega) (by omega)) ?_
    refine g_ladd F dL_point_69 ?_
    refine g_lret F T ⟨_, rfl, ?_⟩ (Nat.le_of_ble_eq_true rfl) (Nat.le_of_ble_eq_true rfl) dL_point_70
    exact ⟨by rw [d64 (hk.C1 hkn (by omega)) (hk.C hkn (by omega)) (wtn_w (zC_b hB h0 _ hy) (by omega) (by omega)) (wtn_w (zC_b hB h0 _ hy) (by omega) (by omega)), hk.C hkn (by omega), nI_L (by omega), nI_L (by omega)]; rfl, rfl⟩
  refine g_icmp_ne (t := 14) F dL_point_7 (by decide) (fun c1 => ?_) (fun c1 => ?_)
  · have g0 := nxI_f hkn (by omega) c1
    refine g_iload_n (k := 0) F 0 rfl dL_point_14 ?_
    refine g_iconst (v := 1) F (by decide) dL_point_15 ?_
    refine g_iadd F dL_point_16 ?_
    refine g_rei (nI (k + 1)) (nadd rfl rfl) ?_
    exact jn2 ((nI (k + 1))) (by rw [g0])
  · have g0 := nxI_t hkn (by omega) c1
    refine g_iconst (v := 0) F (by decide) dL_point_10 ?_
    refine g_goto (t := 17) F dL_point_11 (by decide) ?_
    exact jn2 (0) (by rw [g0]; rfl)
set_option maxHeartbeats 4000000 in
set_option maxRecDepth 100000 in
theorem kL_four (g : Glo) (S : PS) (a b c d e f k h : Int64) : Ct g mL_four 0 0 [.long a, .long b, .long c, .long d, .long e, .long f, .long k, .long h] S (pJ9 (fun r S' => r = a * d - c * b + c * f - e * d + e * h - k * f + k * b - a * h ∧ S = S')) := by
  refine Ct.of (by decide) (Nat.le_of_ble_eq_true rfl) (fun Γ hg F T => ?_)
  subst hg
  show G Γ S 0 0 0 [(0, .long a), (2, .long b), (4, .long c), (6, .long d), (8, .long e), (10, .long f), (12, .long k), (14, .long h)] []
  refine g_lload_n (k := 0) F 0 rfl dL_four_0 ?_
  refine g_lload F 3 rfl dL_four_1 ?_
  refine g_lmul F dL_four_3 ?_
  refine g_lload F 2 rfl dL_four_4 ?_
  refine g_lload_n (k := 2) F 1 rfl dL_four_6 ?_
  refine g_lmul F dL_four_7 ?_
  refine g_lsub F dL_four_8 ?_
  refine g_lload F 2 rfl dL_four_9 ?_
  refine g_lload F 5 rfl dL_four_11 ?_
  refine g_lmul F dL_four_13 ?_
  refine g_ladd F dL_four_14 ?_
  refine g_lload F 4 rfl dL_four_15 ?_
  refine g_lload F 3 rfl dL_four_17 ?_
  refine g_lmul F dL_four_19 ?_
  refine g_lsub F dL_four_20 ?_
  refine g_lload F 4 rfl dL_four_21 ?_
  refine g_lload F 7 rfl dL_four_23 ?_
  refine g_lmul F dL_four_25 ?_
  refine g_ladd F dL_four_26 ?_
  refine g_lload F 6 rfl dL_four_27 ?_
  refine g_lload F 5 rfl dL_four_29 ?_
  refine g_lmul F dL_four_31 ?_
  refine g_lsub F dL_four_32 ?_
  refine g_lload F 6 rfl dL_four_33 ?_
  refine g_lload_n (k := 2) F 1 rfl dL_four_35 ?_
  refine g_lmul F dL_four_36 ?_
  refine g_ladd F dL_four_37 ?_
  refine g_lload_n (k := 0) F 0 rfl dL_four_38 ?_
  refine g_lload F 7 rfl dL_four_39 ?_
  refine g_lmul F dL_four_41 ?_
  refine g_lsub F dL_four_42 ?_
  refine g_lret F T ⟨_, rfl, ?_⟩ (Nat.le_of_ble_eq_true rfl) (Nat.le_of_ble_eq_true rfl) dL_four_43
  exact ⟨rfl, rfl⟩
set_option maxHeartbeats 4000000 in
set_option maxRecDepth 100000 in
theorem kL_swept (g : Glo) (S : PS) (q : Nat → Nat) (hq : Shp S.1 S.2.1 q) (z : ZZ) (hB : Bz z) (hs : Ls S q z) (hk : Lk S q z) (k : Nat) (hkn : k < nc z) (i j : Nat) (hi : i ≤ zN z k) (hj : j ≤ zN z k) (hr : zRk z k) : Ct g mL_swept 0 0 [.int (nI k), .int (nI i), .int (nI j), .ref (q 94), .ref (q 95), .ref (q 96), .ref (q 97)] S (pJ9 (fun r S' => r = zSi z k i j ∧ Fr S S' q [97])) := by
  refine Ct.of (by decide) (Nat.le_of_ble_eq_true rfl) (fun Γ hg F T => ?_)
  subst hg
  show G Γ S 0 0 0 [(0, .int (nI k)), (1, .int (nI i)), (2, .int (nI j)), (3, .ref (q 94)), (4, .ref (q 95)), (5, .ref (q 96)), (6, .ref (q 97))] []
  have hnx := nx_lt hkn
  have h8 := hk.2.2
  have h0 : 0 < nc z := by omega
  have hzn := zN_b hB h0 k
  refine g_iload_n (k := 0) F 0 rfl dL_swept_0 ?_
  refine g_iload_n (k := 1) F 1 rfl dL_swept_1 ?_
  refine g_iconst (v := 0) F (by decide) dL_swept_2 ?_
  refine g_aload_n (k := 3) F 3 rfl dL_swept_3 ?_
  refine g_aload F 4 rfl dL_swept_4 ?_
  refine g_aload F 5 rfl dL_swept_6 ?_
  refine g_callS F (kL_point Γ.1 S q hq z hB hs hk k hkn i (by omega) 0 (by omega)) okL_point mw113 ⟨(Nat.le_of_ble_eq_true rfl), (Nat.le_of_ble_eq_true rfl)⟩ rfl rfl (Nat.le_of_ble_eq_true rfl) ⟨(Nat.le_of_ble_eq_true rfl), (Nat.le_of_ble_eq_true rfl)⟩ dL_swept_8 (toJ (fun r1 S2 h3 => ?_))
  obtain ⟨er1, rfl⟩ := h3
  have pr1 : r1 = zPx z k i := er1
  refine g_lstore (L' := [(7, .long r1), (0, .int (nI k)), (1, .int (nI i)), (2, .int (nI j)), (3, .ref (q 94)), (4, .ref (q 95)), (5, .ref (q 96)), (6, .ref (q 97))]) F dL_swept_11 (Nat.le_of_ble_eq_true rfl) rfl ?_
  refine g_iload_n (k := 0) F 1 rfl dL_swept_13 ?_
  refine g_iload_n (k := 1) F 2 rfl dL_swept_14 ?_
  refine g_iconst (v := 1) F (by decide) dL_swept_15 ?_
  refine g_aload_n (k := 3) F 4 rfl dL_swept_16 ?_
  refine g_aload F 5 rfl dL_swept_17 ?_
  refine g_aload F 6 rfl dL_swept_19 ?_
  refine g_callS F (kL_point Γ.1 S q hq z hB hs hk k hkn i (by omega) 1 (by omega)) okL_point mw113 ⟨(Nat.le_of_ble_eq_true rfl), (Nat.le_of_ble_eq_true rfl)⟩ rfl rfl (Nat.le_of_ble_eq_true rfl) ⟨(Nat.le_of_ble_eq_true rfl), (Nat.le_of_ble_eq_true rfl)⟩ dL_swept_21 (toJ (fun r4 S5 h6 => ?_))
  obtain ⟨er4, rfl⟩ := h6
  have pr4 : r4 = zPy z k i := er4
  refine g_lstore (L' := [(9, .long r4), (7, .long r1), (0, .int (nI k)), (1, .int (nI i)), (2, .int (nI j)), (3, .ref (q 94)), (4, .ref (q 95)), (5, .ref (q 96)), (6, .ref (q 97))]) F dL_swept_24 (Nat.le_of_ble_eq_true rfl) rfl ?_
  refine g_iload_n (k := 0) F 2 rfl dL_swept_26 ?_
  refine g_iload_n (k := 2) F 4 rfl dL_swept_27 ?_
  refine g_iconst (v := 0) F (by decide) dL_swept_28 ?_
  refine g_aload_n (k := 3) F 5 rfl dL_swept_29 ?_
  refine g_aload F 6 rfl dL_swept_30 ?_
  refine g_aload F 7 rfl dL_swept_32 ?_
  refine g_callS F (kL_point Γ.1 S q hq z hB hs hk k hkn j (by omega) 0 (by omega)) okL_point mw113 ⟨(Nat.le_of_ble_eq_true rfl), (Nat.le_of_ble_eq_true rfl)⟩ rfl rfl (Nat.le_of_ble_eq_true rfl) ⟨(Nat.le_of_ble_eq_true rfl), (Nat.le_of_ble_eq_true rfl)⟩ dL_swept_34 (toJ (fun r7 S8 h9 => ?_))
  obtain ⟨er7, rfl⟩ := h9
  have pr7 : r7 = zPx z k j := er7
  refine g_lstore (L' := [(11, .long r7), (9, .long r4), (7, .long r1), (0, .int (nI k)), (1, .int (nI i)), (2, .int (nI j)), (3, .ref (q 94)), (4, .ref (q 95)), (5, .ref (q 96)), (6, .ref (q 97))]) F dL_swept_37 (Nat.le_of_ble_eq_true rfl) rfl ?_
  refine g_iload_n (k := 0) F 3 rfl dL_swept_39 ?_
  refine g_iload_n (k := 2) F 5 rfl dL_swept_40 ?_
  refine g_iconst (v := 1) F (by decide) dL_swept_41 ?_
  refine g_aload_n (k := 3) F 6 rfl dL_swept_42 ?_
  refine g_aload F 7 rfl dL_swept_43 ?_
  refine g_aload F 8 rfl dL_swept_45 ?_
  refine g_callS F (kL_point Γ.1 S q hq z hB hs hk k hkn j (by omega) 1 (by omega)) okL_point mw113 ⟨(Nat.le_of_ble_eq_true rfl), (Nat.le_of_ble_eq_true rfl)⟩ rfl rfl (Nat.le_of_ble_eq_true rfl) ⟨(Nat.le_of_ble_eq_true rfl), (Nat.le_of_ble_eq_true rfl)⟩ dL_swept_47 (toJ (fun r10 S11 h12 => ?_))
  obtain ⟨er10, rfl⟩ := h12
  have pr10 : r10 = zPy z k j := er10
  refine g_lstore (L' := [(13, .long r10), (11, .long r7), (9, .long r4), (7, .long r1), (0, .int (nI k)), (1, .int (nI i)), (2, .int (nI j)), (3, .ref (q 94)), (4, .ref (q 95)), (5, .ref (q 96)), (6, .ref (q 97))]) F dL_swept_50 (Nat.le_of_ble_eq_true rfl) rfl ?_
  refine g_lload F 3 rfl dL_swept_52 ?_
  refine g_lload F 2 rfl dL_swept_54 ?_
  refine g_aload_n (k := 3) F 7 rfl dL_swept_56 ?_
  refine g_aload F 10 rfl dL_swept_57 ?_
  refine g_callS F (kL_find Γ.1 S q hq z hB hs r1 r4 (by rw [pr1]; exact (zP_b hB h0 hi).1) (by rw [pr4]; exact (zP_b hB h0 hi).2)) okL_find mw117 ⟨(Nat.le_of_ble_eq_true rfl), (Nat.le_of_ble_eq_true rfl)⟩ rfl rfl (Nat.le_of_ble_eq_true rfl) ⟨(Nat.le_of_ble_eq_true rfl), (Nat.le_of_ble_eq_true rfl)⟩ dL_swept_59 (toV (fun S14 h15 => ?_))
  obtain ⟨fr13, pr13⟩ := h15
  have hq16 : Shp S14.1 S14.2.1 q := Fr.q fr13 hq
  refine g_aload F 10 rfl dL_swept_62 ?_
  refine g_iconst (v := 0) F (by decide) dL_swept_64 ?_
  refine g_lalde rfl (j := 0) F (qi97 hq16) rfl (by rw [(qn97 hq16)]; omega) (by rw [(qn97 hq16)]; decide) dL_swept_65 ?_
  refine g_topl (fun x17 ex17 => ?_)
  refine g_lstore (L' := [(15, .long x17), (13, .long r10), (11, .long r7), (9, .long r4), (7, .long r1), (0, .int (nI k)), (1, .int (nI i)), (2, .int (nI j)), (3, .ref (q 94)), (4, .ref (q 95)), (5, .ref (q 96)), (6, .ref (q 97))]) F dL_swept_66 (Nat.le_of_ble_eq_true rfl) rfl ?_
  refine g_aload F 11 rfl dL_swept_68 ?_
  refine g_iconst (v := 1) F (by decide) dL_swept_70 ?_
  refine g_lalde rfl (j := 1) F (qi97 hq16) rfl (by rw [(qn97 hq16)]; omega) (by rw [(qn97 hq16)]; decide) dL_swept_71 ?_
  refine g_topl (fun x18 ex18 => ?_)
  refine g_lstore (L' := [(17, .long x18), (15, .long x17), (13, .long r10), (11, .long r7), (9, .long r4), (7, .long r1), (0, .int (nI k)), (1, .int (nI i)), (2, .int (nI j)), (3, .ref (q 94)), (4, .ref (q 95)), (5, .ref (q 96)), (6, .ref (q 97))]) F dL_swept_72 (Nat.le_of_ble_eq_true rfl) rfl ?_
  refine g_lload F 3 rfl dL_swept_74 ?_
  refine g_lload F 2 rfl dL_swept_76 ?_
  refine g_aload_n (k := 3) F 9 rfl dL_swept_78 ?_
  refine g_aload F 12 rfl dL_swept_79 ?_
  refine g_callS F (kL_find Γ.1 S14 q hq16 z hB (Ls.fr (l := [97]) (Fr.tr (l := [97]) Fr.rf fr13 (by decide) (by decide)) (by decide) hs) r7 r10 (by rw [pr7]; exact (zP_b hB h0 hj).1) (by rw [pr10]; exact (zP_b hB h0 hj).2)) okL_find mw117 ⟨(Nat.le_of_ble_eq_true rfl), (Nat.le_of_ble_eq_true rfl)⟩ rfl rfl (Nat.le_of_ble_eq_true rfl) ⟨(Nat.le_of_ble_eq_true rfl), (Nat.le_of_ble_eq_true rfl)⟩ dL_swept_81 (toV (fun S20 h21 => ?_))
  obtain ⟨fr19, pr19⟩ := h21
  have hq22 : Shp S20.1 S20.2.1 q := Fr.q fr19 hq16
  refine g_lload F 1 rfl dL_swept_84 ?_
  refine g_lload F 0 rfl dL_swept_86 ?_
  refine g_lload F 5 rfl dL_swept_88 ?_
  refine g_lload F 4 rfl dL_swept_90 ?_
  refine g_lload F 3 rfl dL_swept_92 ?_
  refine g_lload F 2 rfl dL_swept_94 ?_
  refine g_aload F 12 rfl dL_swept_96 ?_
  refine g_iconst (v := 0) F (by decide) dL_swept_98 ?_
  refine g_lalde rfl (j := 0) F (qi97 hq22) rfl (by rw [(qn97 hq22)]; omega) (by rw [(qn97 hq22)]; decide) dL_swept_99 ?_
  refine g_aload F 12 rfl dL_swept_100 ?_
  refine g_iconst (v := 1) F (by decide) dL_swept_102 ?_
  refine g_lalde rfl (j := 1) F (qi97 hq22) rfl (by rw [(qn97 hq22)]; omega) (by rw [(qn97 hq22)]; decide) dL_swept_103 ?_
  refine g_callS F (kL_four Γ.1 _ _ _ _ _ _ _ _ _) okL_four mw127 ⟨(Nat.le_of_ble_eq_true rfl), (Nat.le_of_ble_eq_true rfl)⟩ rfl rfl (Nat.le_of_ble_eq_true rfl) ⟨(Nat.le_of_ble_eq_true rfl), (Nat.le_of_ble_eq_true rfl)⟩ dL_swept_104 (toJ (fun r23 S24 h25 => ?_))
  obtain ⟨er23, rfl⟩ := h25
  refine g_lret F T ⟨_, rfl, ?_⟩ (Nat.le_of_ble_eq_true rfl) (Nat.le_of_ble_eq_true rfl) dL_swept_107
  exact ⟨by rw [er23, four_e, ex17, ex18, (Po.t pr13 (by rw [pr1, pr4]; exact hr i hi)).1, (Po.t pr13 (by rw [pr1, pr4]; exact hr i hi)).2, (Po.t pr19 (by rw [pr7, pr10]; exact hr j hj)).1, (Po.t pr19 (by rw [pr7, pr10]; exact hr j hj)).2, pr1, pr4, pr7, pr10]; rfl, (Fr.tr (l := [97]) (Fr.tr (l := [97]) Fr.rf fr13 (by decide) (by decide)) fr19 (by decide) (by decide))⟩
set_option maxHeartbeats 4000000 in
set_option maxRecDepth 100000 in
theorem kL_reached (g : Glo) (S : PS) (q : Nat → Nat) (hq : Shp S.1 S.2.1 q) (z : ZZ) (hB : Bz z) (hs : Ls S q z) (hk : Lk S q z) (k : Nat) (hkn : k < nc z) : Ct g mL_reached 0 0 [.int (nI k), .ref (q 94), .ref (q 95), .ref (q 96), .ref (q 97)] S (pI9 (fun r S' => (r = 1 ∧ zRk z k ∨ r = 0 ∧ ¬ zRk z k) ∧ Fr S S' q [97])) := by
  refine Ct.of (by decide) (Nat.le_of_ble_eq_true rfl) (fun Γ hg F T => ?_)
  subst hg
  show G Γ S 0 0 0 [(0, .int (nI k)), (1, .ref (q 94)), (2, .ref (q 95)), (3, .ref (q 96)), (4, .ref (q 97))] []
  have hnx := nx_lt hkn
  have h8 := hk.2.2
  have h0 : 0 < nc z := by omega
  have hzn := zN_b hB h0 k
  refine g_iconst (v := 0) F (by decide) dL_reached_0 ?_
  refine g_istore (L' := [(5, .int 0), (0, .int (nI k)), (1, .ref (q 94)), (2, .ref (q 95)), (3, .ref (q 96)), (4, .ref (q 97))]) F dL_reached_1 (Nat.le_of_ble_eq_true rfl) rfl ?_
  have lp1 : ∀ (n9 : Nat) (i : Nat) (S1 : PS), zN z k + 1 < i + n9 → (i ≤ zN z k + 1) → (Fr S S1 q [97]) → (∀ j, j < i → zRe z (zPx z k j) (zPy z k j)) → G Γ S1 0 0 3 [(5, .int (nI i)), (0, .int (nI k)), (1, .ref (q 94)), (2, .ref (q 95)), (3, .ref (q 96)), (4, .ref (q 97))] [] := by
    intro n9
    induction n9 with
    | zero =>
      intro i S1 hm9 hi hf ha
      exact absurd hm9 (by omega)
    | succ n9 ihlp1 =>
      intro i S1 hm9 hi hf ha
      have hq2 : Shp S1.1 S1.2.1 q := Fr.q hf hq
      refine g_iload F 0 rfl dL_reached_3 ?_
      refine g_iload_n (k := 0) F 1 rfl dL_reached_5 ?_
      refine g_aload_n (k := 1) F 2 rfl dL_reached_6 ?_
      refine g_aload_n (k := 2) F 3 rfl dL_reached_7 ?_
      refine g_aload_n (k := 3) F 4 rfl dL_reached_8 ?_
      refine g_callS F (kL_steps Γ.1 S1 q hq2 z hB (Ls.fr (l := [97]) hf (by decide) hs) (Lk.fr (l := [97]) hf (by decide) (by decide) hk) k hkn) okL_steps mw107 ⟨(Nat.le_of_ble_eq_true rfl), (Nat.le_of_ble_eq_true rfl)⟩ rfl rfl (Nat.le_of_ble_eq_true rfl) ⟨(Nat.le_of_ble_eq_true rfl), (Nat.le_of_ble_eq_true rfl)⟩ dL_reached_9 (toI (fun r3 S4 h5 => ?_))
      obtain ⟨rfl, rfl⟩ := h5
      refine g_icmp_gt (t := 58) F dL_reached_12 (by decide) (fun c6 => ?_) (fun c6 => ?_)
      · have hi9 : i = zN z k + 1 := by
          rw [nI_ltI (by omega) (by omega)] at c6
          omega
        refine g_iconst (v := 1) F (by decide) dL_reached_58 ?_
        refine g_zret F T rfl ⟨_, rfl, ?_⟩ (Nat.le_of_ble_eq_true rfl) (Nat.le_of_ble_eq_true rfl) dL_reached_59
        exact ⟨.inl ⟨rfl, fun j hj => ha j (by omega)⟩, hf⟩
      · have hi9 : i ≤ zN z k := by
          rw [nI_ltI (by omega) (by omega)] at c6
          omega
        refine g_iload_n (k := 0) F 1 rfl dL_reached_15 ?_
        refine g_iload F 0 rfl dL_reached_16 ?_
        refine g_iconst (v := 0) F (by decide) dL_reached_18 ?_
        refine g_aload_n (k := 1) F 2 rfl dL_reached_19 ?_
        refine g_aload_n (k := 2) F 3 rfl dL_reached_20 ?_
        refine g_aload_n (k := 3) F 4 rfl dL_reached_21 ?_
        refine g_callS F (kL_point Γ.1 S1 q hq2 z hB (Ls.fr (l := [97]) hf (by decide) hs) (Lk.fr (l := [97]) hf (by decide) (by decide) hk) k hkn i (by omega) 0 (by omega)) okL_point mw113 ⟨(Nat.le_of_ble_eq_true rfl), (Nat.le_of_ble_eq_true rfl)⟩ rfl rfl (Nat.le_of_ble_eq_true rfl) ⟨(Nat.le_of_ble_eq_true rfl), (Nat.le_of_ble_eq_true rfl)⟩ dL_reached_22 (toJ (fun r7 S8 h9 => ?_))
        obtain ⟨er7, rfl⟩ := h9
        have pr7 : r7 = zPx z k i := er7
        refine g_iload_n (k := 0) F 1 rfl dL_reached_25 ?_
        refine g_iload F 0 rfl dL_reached_26 ?_
        refine g_iconst (v := 1) F (by decide) dL_reached_28 ?_
        refine g_aload_n (k := 1) F 2 rfl dL_reached_29 ?_
        refine g_aload_n (k := 2) F 3 rfl dL_reached_30 ?_
        refine g_aload_n (k := 3) F 4 rfl dL_reached_31 ?_
        refine g_callS F (kL_point Γ.1 S1 q hq2 z hB (Ls.fr (l := [97]) hf (by decide) hs) (Lk.fr (l := [97]) hf (by decide) (by decide) hk) k hkn i (by omega) 1 (by omega)) okL_point mw113 ⟨(Nat.le_of_ble_eq_true rfl), (Nat.le_of_ble_eq_true rfl)⟩ rfl rfl (Nat.le_of_ble_eq_true rfl) ⟨(Nat.le_of_ble_eq_true rfl), (Nat.le_of_ble_eq_true rfl)⟩ dL_reached_32 (toJ (fun r10 S11 h12 => ?_))
        obtain ⟨er10, rfl⟩ := h12
        have pr10 : r10 = zPy z k i := er10
        refine g_aload_n (k := 1) F 2 rfl dL_reached_35 ?_
        refine g_aload F 5 rfl dL_reached_36 ?_
        refine g_callS F (kL_find Γ.1 S1 q hq2 z hB (Ls.fr (l := [97]) hf (by decide) hs) r7 r10 (by rw [pr7]; exact (zP_b hB h0 hi9).1) (by rw [pr10]; exact (zP_b hB h0 hi9).2)) okL_find mw117 ⟨(Nat.le_of_ble_eq_true rfl), (Nat.le_of_ble_eq_true rfl)⟩ rfl rfl (Nat.le_of_ble_eq_true rfl) ⟨(Nat.le_of_ble_eq_true rfl), (Nat.le_of_ble_eq_true rfl)⟩ dL_reached_38 (toV (fun S14 h15 => ?_))
        obtain ⟨fr13, pr13⟩ := h15
        have hq16 : Shp S14.1 S14.2.1 q := Fr.q fr13 hq2
        refine g_aload F 5 rfl dL_reached_41 ?_
        refine g_iconst (v := 2) F (by decide) dL_reached_43 ?_
        refine g_lalde rfl (j := 2) F (qi97 hq16) rfl (by rw [(qn97 hq16)]; omega) (by rw [(qn97 hq16)]; decide) dL_reached_44 ?_
        refine g_lconst (v := 0) F (by decide) dL_reached_45 ?_
        refine g_lcmp F dL_reached_46 ?_
        refine g_if_ne (t := 52) F dL_reached_47 (by decide) (fun c17 => ?_) (fun c17 => ?_)
        · rw [lc_eq] at c17
          have g9 : zRe z (zPx z k i) (zPy z k i) := by
            rw [← pr7, ← pr10]
            exact Po.f1 pr13 c17
          obtain ⟨x18, ex18⟩ : ∃ y9 : Int32, y9 = (nI i) + 1 := ⟨_, rfl⟩
          refine g_iinc (k := 0) (v := x18) (L' := [(5, .int x18), (0, .int (nI k)), (1, .ref (q 94)), (2, .ref (q 95)), (3, .ref (q 96)), (4, .ref (q 97))]) F dL_reached_52 rfl (by rw [ex18]; rfl) (Nat.le_of_ble_eq_true rfl) rfl ?_
          refine g_goto (t := 3) F dL_reached_55 (by decide) ?_
          obtain rfl : x18 = nI (i + 1) := (ex18.trans (nI_1 _))
          refine g_sub (L' := [(5, .int (nI (i + 1))), (0, .int (nI k)), (1, .ref (q 94)), (2, .ref (q 95)), (3, .ref (q 96)), (4, .ref (q 97))]) [0, 1, 2, 3, 4, 5] rfl ?_
          exact ihlp1 (i + 1) (S14) (by omega) (by omega) (Fr.tr (l := [97]) hf fr13 (by decide) (by decide)) (fun j hj => (by omega : j < i ∨ j = i).elim (ha j) (fun e => by subst e; exact g9))
        · rw [lc_eq] at c17
          have g9 : ¬ zRe z (zPx z k i) (zPy z k i) := by
            rw [← pr7, ← pr10]
            exact Po.f0 pr13 c17
          refine g_iconst (v := 0) F (by decide) dL_reached_50 ?_
          refine g_zret F T rfl ⟨_, rfl, ?_⟩ (Nat.le_of_ble_eq_true rfl) (Nat.le_of_ble_eq_true rfl) dL_reached_51
          exact ⟨.inr ⟨rfl, fun h => g9 (h i hi9)⟩, (Fr.tr (l := [97]) hf fr13 (by decide) (by decide))⟩
  exact lp1 (zN z k + 2) 0 S (by omega) (by omega) Fr.rf (fun j hj => absurd hj (Nat.not_lt_zero j))
set_option maxHeartbeats 4000000 in
set_option maxRecDepth 100000 in
theorem kL_all (g : Glo) (S : PS) (q : Nat → Nat) (hq : Shp S.1 S.2.1 q) (z : ZZ) (hB : Bz z) (hs : Ls S q z) (hk : Lk S q z) : Ct g mL_all 0 0 [.ref (q 94), .ref (q 95), .ref (q 96), .ref (q 97)] S (pI9 (fun r S' => (r = 1 ∧ zRa z ∨ r = 0 ∧ ¬ zRa z) ∧ Fr S S' q [97])) := by
  refine Ct.of (by decide) (Nat.le_of_ble_eq_true rfl) (fun Γ hg F T => ?_)
  subst hg
  show G Γ S 0 0 0 [(0, .ref (q 94)), (1, .ref (q 95)), (2, .ref (q 96)), (3, .ref (q 97))] []
  have h8 := hk.2.2
  refine g_iconst (v := 0) F (by decide) dL_all_0 ?_
  refine g_istore (L' := [(4, .int 0), (0, .ref (q 94)), (1, .ref (q 95)), (2, .ref (q 96)), (3, .ref (q 97))]) F dL_all_1 (Nat.le_of_ble_eq_true rfl) rfl ?_
  have lp1 : ∀ (n9 : Nat) (i : Nat) (S1 : PS), nc z < i + n9 → (i ≤ nc z) → (Fr S S1 q [97]) → (∀ j, j < i → zRk z j) → G Γ S1 0 0 3 [(4, .int (nI i)), (0, .ref (q 94)), (1, .ref (q 95)), (2, .ref (q 96)), (3, .ref (q 97))] [] := by
    intro n9
    induction n9 with
    | zero =>
      intro i S1 hm9 hi hf ha
      exact absurd hm9 (by omega)
    | succ n9 ihlp1 =>
      intro i S1 hm9 hi hf ha
      have hq2 : Shp S1.1 S1.2.1 q := Fr.q hf hq
      refine g_iload F 0 rfl dL_all_3 ?_
      refine g_aload_n (k := 2) F 3 rfl dL_all_5 ?_
      refine g_iconst (v := 0) F (by decide) dL_all_6 ?_
      refine g_ialde (hf.2.2 96 (by decide) (by decide)).1 (j := 0) F (qi96 hq2) rfl (by rw [(qn96 hq2)]; omega) (by rw [(qn96 hq2)]; decide) dL_all_7 ?_
      refine g_rei (nI (nc z)) hk.2.1 ?_
      refine g_icmp_ge (t := 31) F dL_all_8 (by decide) (fun c3 => ?_) (fun c3 => ?_)
      · have hi9 : i = nc z := by
          rw [nI_leI (by omega) (by omega)] at c3
          omega
        refine g_iconst (v := 1) F (by decide) dL_all_31 ?_
        refine g_zret F T rfl ⟨_, rfl, ?_⟩ (Nat.le_of_ble_eq_true rfl) (Nat.le_of_ble_eq_true rfl) dL_all_32
        exact ⟨.inl ⟨rfl, fun j hj => ha j (by omega)⟩, hf⟩
      · have hi9 : i < nc z := by
          rw [nI_leI (by omega) (by omega)] at c3
          omega
        refine g_iload F 0 rfl dL_all_11 ?_
        refine g_aload_n (k := 0) F 1 rfl dL_all_13 ?_
        refine g_aload_n (k := 1) F 2 rfl dL_all_14 ?_
        refine g_aload_n (k := 2) F 3 rfl dL_all_15 ?_
        refine g_aload_n (k := 3) F 4 rfl dL_all_16 ?_
        refine g_callS F (kL_reached Γ.1 S1 q hq2 z hB (Ls.fr (l := [97]) hf (by decide) hs) (Lk.fr (l := [97]) hf (by decide) (by decide) hk) i hi9) okL_reached mw104 ⟨(Nat.le_of_ble_eq_true rfl), (Nat.le_of_ble_eq_true rfl)⟩ rfl rfl (Nat.le_of_ble_eq_true rfl) ⟨(Nat.le_of_ble_eq_true rfl), (Nat.le_of_ble_eq_true rfl)⟩ dL_all_17 (toI (fun r4 S5 h6 => ?_))
        obtain ⟨er4, fr4⟩ := h6
        have hq7 : Shp S5.1 S5.2.1 q := Fr.q fr4 hq2
        refine g_if_ne (t := 25) F dL_all_20 (by decide) (fun c8 => ?_) (fun c8 => ?_)
        · have g9 := w1 er4 c8
          obtain ⟨x9, ex9⟩ : ∃ y9 : Int32, y9 = (nI i) + 1 := ⟨_, rfl⟩
          refine g_iinc (k := 0) (v := x9) (L' := [(4, .int x9), (0, .ref (q 94)), (1, .ref (q 95)), (2, .ref (q 96)), (3, .ref (q 97))]) F dL_all_25 rfl (by rw [ex9]; rfl) (Nat.le_of_ble_eq_true rfl) rfl ?_
          refine g_goto (t := 3) F dL_all_28 (by decide) ?_
          obtain rfl : x9 = nI (i + 1) := (ex9.trans (nI_1 _))
          refine g_sub (L' := [(4, .int (nI (i + 1))), (0, .ref (q 94)), (1, .ref (q 95)), (2, .ref (q 96)), (3, .ref (q 97))]) [0, 1, 2, 3, 4] rfl ?_
          exact ihlp1 (i + 1) (S5) (by omega) (by omega) (Fr.tr (l := [97]) hf fr4 (by decide) (by decide)) (fun j hj => (by omega : j < i ∨ j = i).elim (ha j) (fun e => by subst e; exact g9))
        · have g9 := w0 er4 c8
          refine g_iconst (v := 0) F (by decide) dL_all_23 ?_
          refine g_zret F T rfl ⟨_, rfl, ?_⟩ (Nat.le_of_ble_eq_true rfl) (Nat.le_of_ble_eq_true rfl) dL_all_24
          exact ⟨.inr ⟨rfl, fun h => g9 (h i hi9)⟩, (Fr.tr (l := [97]) hf fr4 (by decide) (by decide))⟩
  exact lp1 (nc z + 1) 0 S (by omega) (by omega) Fr.rf (fun j hj => absurd hj (Nat.not_lt_zero j))
set_option maxHeartbeats 4000000 in
set_option maxRecDepth 100000 in
theorem kL_on (g : Glo) (S : PS) (q : Nat → Nat) (hq : Shp S.1 S.2.1 q) (z : ZZ) (hB : Bz z) (hs : Ls S q z) (hk : Lk S q z) : Ct g mL_on 0 0 [.ref (q 94), .ref (q 95), .ref (q 96)] S (pI9 (fun r S' => (r = 1 ∧ zOO z ∨ r = 0 ∧ ¬ zOO z) ∧ S = S')) := by
  refine Ct.of (by decide) (Nat.le_of_ble_eq_true rfl) (fun Γ hg F T => ?_)
  subst hg
  show G Γ S 0 0 0 [(0, .ref (q 94)), (1, .ref (q 95)), (2, .ref (q 96))] []
  have h8 := hk.2.2
  refine g_iconst (v := 0) F (by decide) dL_on_0 ?_
  refine g_istore_n (k := 3) (L' := [(3, .int 0), (0, .ref (q 94)), (1, .ref (q 95)), (2, .ref (q 96))]) F dL_on_1 (Nat.le_of_ble_eq_true rfl) rfl ?_
  have lp1 : ∀ (n9 : Nat) (i : Nat), nc z < i + n9 → (i ≤ nc z) → (∀ j, j < i → ¬ zOn z j) → G Γ S 0 0 2 [(3, .int (nI i)), (0, .ref (q 94)), (1, .ref (q 95)), (2, .ref (q 96))] [] := by
    intro n9
    induction n9 with
    | zero =>
      intro i hm9 hi ha
      exact absurd hm9 (by omega)
    | succ n9 ihlp1 =>
      intro i hm9 hi ha
      refine g_iload_n (k := 3) F 0 rfl dL_on_2 ?_
      refine g_aload_n (k := 2) F 3 rfl dL_on_3 ?_
      refine g_iconst (v := 0) F (by decide) dL_on_4 ?_
      refine g_ialde rfl (j := 0) F (qi96 hq) rfl (by rw [(qn96 hq)]; omega) (by rw [(qn96 hq)]; decide) dL_on_5 ?_
      refine g_rei (nI (nc z)) hk.2.1 ?_
      refine g_icmp_ge (t := 121) F dL_on_6 (by decide) (fun c2 => ?_) (fun c2 => ?_)
      · obtain rfl : i = nc z := by
          rw [nI_leI (by omega) (by omega)] at c2
          omega
        refine g_iconst (v := 0) F (by decide) dL_on_121 ?_
        refine g_zret F T rfl ⟨_, rfl, ?_⟩ (Nat.le_of_ble_eq_true rfl) (Nat.le_of_ble_eq_true rfl) dL_on_122
        exact ⟨.inr ⟨rfl, on_n ha (Nat.le_refl _)⟩, rfl⟩
      · have hi9 : i < nc z := by
          rw [nI_leI (by omega) (by omega)] at c2
          omega
        have hnx := nx_lt hi9
        have h0 : 0 < nc z := by omega
        refine g_iload_n (k := 3) F 0 rfl dL_on_9 ?_
        refine g_iconst (v := 1) F (by decide) dL_on_10 ?_
        refine g_iadd F dL_on_11 ?_
        refine g_rei (nI (i + 1)) (nadd rfl rfl) ?_
        refine g_aload_n (k := 2) F 3 rfl dL_on_12 ?_
        refine g_iconst (v := 0) F (by decide) dL_on_13 ?_
        refine g_ialde rfl (j := 0) F (qi96 hq) rfl (by rw [(qn96 hq)]; omega) (by rw [(qn96 hq)]; decide) dL_on_14 ?_
        refine g_rei (nI (nc z)) hk.2.1 ?_
        have jn4 : ∀ (w25 : Int32), w25 = nI (nx (nc z) i) → G Γ S 0 0 25 [(3, .int (nI i)), (0, .ref (q 94)), (1, .ref (q 95)), (2, .ref (q 96))] [.int w25] := by
          intro w25 hj
          refine g_istore (L' := [(4, .int w25), (3, .int (nI i)), (0, .ref (q 94)), (1, .ref (q 95)), (2, .ref (q 96))]) F dL_on_25 (Nat.le_of_ble_eq_true rfl) rfl ?_
          refine g_aload_n (k := 0) F 2 rfl dL_on_27 ?_
          refine g_iconst (v := 5) F (by decide) dL_on_28 ?_
          refine g_ialde rfl (j := 5) F (qi94 hq) rfl (by rw [(qn94 hq)]; omega) (by rw [(qn94 hq)]; decide) dL_on_29 ?_
          refine g_aload_n (k := 1) F 3 rfl dL_on_30 ?_
          refine g_iconst (v := 3) F (by decide) dL_on_31 ?_
          refine g_iload_n (k := 3) F 1 rfl dL_on_32 ?_
          refine g_imul F dL_on_33 ?_
          refine g_rei (nI (3 * i)) (nmul rfl rfl) ?_
          refine g_ialde rfl (j := (3 * i)) F (qi95 hq) rfl (by rw [(qn95 hq)]; omega) (by rw [(qn95 hq)]; decide) dL_on_34 ?_
          refine g_isub F dL_on_35 ?_
          refine g_i2l F dL_on_36 ?_
          refine g_topl (fun x5 ex5 => ?_)
          refine g_lstore (L' := [(5, .long x5), (4, .int w25), (3, .int (nI i)), (0, .ref (q 94)), (1, .ref (q 95)), (2, .ref (q 96))]) F dL_on_37 (Nat.le_of_ble_eq_true rfl) rfl ?_
          refine g_aload_n (k := 0) F 3 rfl dL_on_39 ?_
          refine g_bipush (v := 6) F (by decide) dL_on_40 ?_
          refine g_ialde rfl (j := 6) F (qi94 hq) rfl (by rw [(qn94 hq)]; omega) (by rw [(qn94 hq)]; decide) dL_on_42 ?_
          refine g_aload_n (k := 1) F 4 rfl dL_on_43 ?_
          refine g_iconst (v := 3) F (by decide) dL_on_44 ?_
          refine g_iload_n (k := 3) F 2 rfl dL_on_45 ?_
          refine g_imul F dL_on_46 ?_
          refine g_rei (nI (3 * i)) (nmul rfl rfl) ?_
          refine g_iconst (v := 1) F (by decide) dL_on_47 ?_
          refine g_iadd F dL_on_48 ?_
          refine g_rei (nI ((3 * i) + 1)) (nadd rfl rfl) ?_
          refine g_ialde rfl (j := ((3 * i) + 1)) F (qi95 hq) rfl (by rw [(qn95 hq)]; omega) (by rw [(qn95 hq)]; decide) dL_on_49 ?_
          refine g_isub F dL_on_50 ?_
          refine g_i2l F dL_on_51 ?_
          refine g_topl (fun x6 ex6 => ?_)
          refine g_lstore (L' := [(7, .long x6), (5, .long x5), (4, .int w25), (3, .int (nI i)), (0, .ref (q 94)), (1, .ref (q 95)), (2, .ref (q 96))]) F dL_on_52 (Nat.le_of_ble_eq_true rfl) rfl ?_
          refine g_aload_n (k := 0) F 4 rfl dL_on_54 ?_
          refine g_iconst (v := 5) F (by decide) dL_on_55 ?_
          refine g_ialde rfl (j := 5) F (qi94 hq) rfl (by rw [(qn94 hq)]; omega) (by rw [(qn94 hq)]; decide) dL_on_56 ?_
          refine g_aload_n (k := 1) F 5 rfl dL_on_57 ?_
          refine g_iconst (v := 3) F (by decide) dL_on_58 ?_
          refine g_iload F 2 rfl dL_on_59 ?_
          refine g_imul F dL_on_61 ?_
          refine g_rei (nI (3 * (nx (nc z) i))) (nmul rfl hj) ?_
          refine g_ialde rfl (j := (3 * (nx (nc z) i))) F (qi95 hq) rfl (by rw [(qn95 hq)]; omega) (by rw [(qn95 hq)]; decide) dL_on_62 ?_
          refine g_isub F dL_on_63 ?_
          refine g_i2l F dL_on_64 ?_
          refine g_topl (fun x7 ex7 => ?_)
          refine g_lstore (L' := [(9, .long x7), (7, .long x6), (5, .long x5), (4, .int w25), (3, .int (nI i)), (0, .ref (q 94)), (1, .ref (q 95)), (2, .ref (q 96))]) F dL_on_65 (Nat.le_of_ble_eq_true rfl) rfl ?_
          refine g_aload_n (k := 0) F 5 rfl dL_on_67 ?_
          refine g_bipush (v := 6) F (by decide) dL_on_68 ?_
          refine g_ialde rfl (j := 6) F (qi94 hq) rfl (by rw [(qn94 hq)]; omega) (by rw [(qn94 hq)]; decide) dL_on_70 ?_
          refine g_aload_n (k := 1) F 6 rfl dL_on_71 ?_
          refine g_iconst (v := 3) F (by decide) dL_on_72 ?_
          refine g_iload F 3 rfl dL_on_73 ?_
          refine g_imul F dL_on_75 ?_
          refine g_rei (nI (3 * (nx (nc z) i))) (nmul rfl hj) ?_
          refine g_iconst (v := 1) F (by decide) dL_on_76 ?_
          refine g_iadd F dL_on_77 ?_
          refine g_rei (nI ((3 * (nx (nc z) i)) + 1)) (nadd rfl rfl) ?_
          refine g_ialde rfl (j := ((3 * (nx (nc z) i)) + 1)) F (qi95 hq) rfl (by rw [(qn95 hq)]; omega) (by rw [(qn95 hq)]; decide) dL_on_78 ?_
          refine g_isub F dL_on_79 ?_
          refine g_i2l F dL_on_80 ?_
          refine g_topl (fun x8 ex8 => ?_)
          refine g_lstore (L' := [(11, .long x8), (9, .long x7), (7, .long x6), (5, .long x5), (4, .int w25), (3, .int (nI i)), (0, .ref (q 94)), (1, .ref (q 95)), (2, .ref (q 96))]) F dL_on_81 (Nat.le_of_ble_eq_true rfl) rfl ?_
          have a9 : x5 = z 0 - zX z i := by rw [ex5]; exact d64 hs.2.1 (hk.X hi9) (wtn_w hB.1.1 (by omega) (by omega)) (wtn_w (zX_b hB h0 _) (by omega) (by omega))
          have b9 : x6 = z 1 - zY z i := by rw [ex6]; exact d64 hs.2.2 (hk.Y hi9) (wtn_w hB.1.2 (by omega) (by omega)) (wtn_w (zY_b hB h0 _) (by omega) (by omega))
          have c9 : x7 = z 0 - zX z (i + 1) := by rw [ex7]; exact d64 hs.2.1 (hk.X1 hi9) (wtn_w hB.1.1 (by omega) (by omega)) (wtn_w (zX_b hB h0 _) (by omega) (by omega))
          have d9 : x8 = z 1 - zY z (i + 1) := by rw [ex8]; exact d64 hs.2.2 (hk.Y1 hi9) (wtn_w hB.1.2 (by omega) (by omega)) (wtn_w (zY_b hB h0 _) (by omega) (by omega))
          have on9 := on_l (k := i) hB h0 a9 b9 c9 d9
          refine g_lload F 3 rfl dL_on_83 ?_
          refine g_lload F 0 rfl dL_on_85 ?_
          refine g_lmul F dL_on_87 ?_
          refine g_lload F 2 rfl dL_on_88 ?_
          refine g_lload F 1 rfl dL_on_90 ?_
          refine g_lmul F dL_on_92 ?_
          refine g_lcmp F dL_on_93 ?_
          refine g_if_ne (t := 115) F dL_on_94 (by decide) (fun c9 => ?_) (fun c9 => ?_)
          · rw [lc_eq] at c9
            obtain ⟨x10, ex10⟩ : ∃ y9 : Int32, y9 = (nI i) + 1 := ⟨_, rfl⟩
            refine g_iinc (k := 5) (v := x10) (L' := [(3, .int x10), (11, .long x8), (9, .long x7), (7, .long x6), (5, .long x5), (4, .int w25), (0, .ref (q 94)), (1, .ref (q 95)), (2, .ref (q 96))]) F dL_on_115 rfl (by rw [ex10]; rfl) (Nat.le_of_ble_eq_true rfl) rfl ?_
            refine g_goto (t := 2) F dL_on_118 (by decide) ?_
            obtain rfl : x10 = nI (i + 1) := (ex10.trans (nI_1 _))
            refine g_sub (L' := [(3, .int (nI (i + 1))), (0, .ref (q 94)), (1, .ref (q 95)), (2, .ref (q 96))]) [0, 6, 7, 8] rfl ?_
            exact ihlp1 (i + 1) (by omega) (by omega) (on_s ha (fun h => c9 (on9.mp h).1))
          · rw [lc_eq] at c9
            refine g_lload F 3 rfl dL_on_97 ?_
            refine g_lload F 1 rfl dL_on_99 ?_
            refine g_lmul F dL_on_101 ?_
            refine g_lload F 2 rfl dL_on_102 ?_
            refine g_lload F 0 rfl dL_on_104 ?_
            refine g_lmul F dL_on_106 ?_
            refine g_ladd F dL_on_107 ?_
            refine g_lconst (v := 0) F (by decide) dL_on_108 ?_
            refine g_lcmp F dL_on_109 ?_
            refine g_if_gt (t := 115) F dL_on_110 (by decide) (fun c11 => ?_) (fun c11 => ?_)
            · rw [lc_gt] at c11
              obtain ⟨x12, ex12⟩ : ∃ y9 : Int32, y9 = (nI i) + 1 := ⟨_, rfl⟩
              refine g_iinc (k := 5) (v := x12) (L' := [(3, .int x12), (11, .long x8), (9, .long x7), (7, .long x6), (5, .long x5), (4, .int w25), (0, .ref (q 94)), (1, .ref (q 95)), (2, .ref (q 96))]) F dL_on_115 rfl (by rw [ex12]; rfl) (Nat.le_of_ble_eq_true rfl) rfl ?_
              refine g_goto (t := 2) F dL_on_118 (by decide) ?_
              obtain rfl : x12 = nI (i + 1) := (ex12.trans (nI_1 _))
              refine g_sub (L' := [(3, .int (nI (i + 1))), (0, .ref (q 94)), (1, .ref (q 95)), (2, .ref (q 96))]) [0, 6, 7, 8] rfl ?_
              exact ihlp1 (i + 1) (by omega) (by omega) (on_s ha (fun h => (on9.mp h).2 c11))
            · rw [lc_gt] at c11
              refine g_iconst (v := 1) F (by decide) dL_on_113 ?_
              refine g_zret F T rfl ⟨_, rfl, ?_⟩ (Nat.le_of_ble_eq_true rfl) (Nat.le_of_ble_eq_true rfl) dL_on_114
              exact ⟨.inl ⟨rfl, i, hi9, on9.mpr ⟨c9, c11⟩⟩, rfl⟩
        refine g_icmp_ne (t := 22) F dL_on_15 (by decide) (fun c3 => ?_) (fun c3 => ?_)
        · have g0 := nxI_f hi9 (by omega) c3
          refine g_iload_n (k := 3) F 0 rfl dL_on_22 ?_
          refine g_iconst (v := 1) F (by decide) dL_on_23 ?_
          refine g_iadd F dL_on_24 ?_
          refine g_rei (nI (i + 1)) (nadd rfl rfl) ?_
          exact jn4 ((nI (i + 1))) (by rw [g0])
        · have g0 := nxI_t hi9 (by omega) c3
          refine g_iconst (v := 0) F (by decide) dL_on_18 ?_
          refine g_goto (t := 25) F dL_on_19 (by decide) ?_
          exact jn4 (0) (by rw [g0]; rfl)
  exact lp1 (nc z + 1) 0 (by omega) (by omega) (fun j hj => absurd hj (Nat.not_lt_zero j))
set_option maxHeartbeats 4000000 in
set_option maxRecDepth 100000 in
theorem kL_why (g : Glo) (S : PS) (q : Nat → Nat) (hq : Shp S.1 S.2.1 q) (z : ZZ) (hB : Bz z) (hs : Ls S q z) (hk : Lk S q z) (hn : pI S (q 96) 1 = nI (nr z)) : Ct g mL_why 0 0 [.ref (q 94), .ref (q 95), .ref (q 96), .ref (q 97)] S (pI9 (fun r S' => r = nI (zRf z) ∧ Fr S S' q [97])) := by
  refine Ct.of (by decide) (Nat.le_of_ble_eq_true rfl) (fun Γ hg F T => ?_)
  subst hg
  show G Γ S 0 0 0 [(0, .ref (q 94)), (1, .ref (q 95)), (2, .ref (q 96)), (3, .ref (q 97))] []
  have h8 := hk.2.2
  have hnr := (nr_e hB).2
  refine g_aload_n (k := 2) F 2 rfl dL_why_0 ?_
  refine g_iconst (v := 0) F (by decide) dL_why_1 ?_
  refine g_ialde rfl (j := 0) F (qi96 hq) rfl (by rw [(qn96 hq)]; omega) (by rw [(qn96 hq)]; decide) dL_why_2 ?_
  refine g_rei (nI (nc z)) hk.2.1 ?_
  refine g_iconst (v := 3) F (by decide) dL_why_3 ?_
  refine g_icmp_ge (t := 11) F dL_why_4 (by decide) (fun c1 => ?_) (fun c1 => ?_)
  · have h3 : 3 ≤ nc z := (nI_leI (a := 3) (by omega) (by omega)).mp c1
    refine g_aload_n (k := 0) F 0 rfl dL_why_11 ?_
    refine g_aload_n (k := 1) F 1 rfl dL_why_12 ?_
    refine g_aload_n (k := 2) F 2 rfl dL_why_13 ?_
    refine g_callS F (kL_on Γ.1 S q hq z hB hs hk) okL_on mw273 ⟨(Nat.le_of_ble_eq_true rfl), (Nat.le_of_ble_eq_true rfl)⟩ rfl rfl (Nat.le_of_ble_eq_true rfl) ⟨(Nat.le_of_ble_eq_true rfl), (Nat.le_of_ble_eq_true rfl)⟩ dL_why_14 (toI (fun r2 S3 h4 => ?_))
    obtain ⟨er2, rfl⟩ := h4
    refine g_if_eq (t := 24) F dL_why_17 (by decide) (fun c5 => ?_) (fun c5 => ?_)
    · have g1 := w0 er2 c5
      refine g_aload_n (k := 0) F 0 rfl dL_why_24 ?_
      refine g_aload_n (k := 1) F 1 rfl dL_why_25 ?_
      refine g_aload_n (k := 2) F 2 rfl dL_why_26 ?_
      refine g_aload_n (k := 3) F 3 rfl dL_why_27 ?_
      refine g_callS F (kL_all Γ.1 S q hq z hB hs hk) okL_all mw276 ⟨(Nat.le_of_ble_eq_true rfl), (Nat.le_of_ble_eq_true rfl)⟩ rfl rfl (Nat.le_of_ble_eq_true rfl) ⟨(Nat.le_of_ble_eq_true rfl), (Nat.le_of_ble_eq_true rfl)⟩ dL_why_28 (toI (fun r6 S7 h8 => ?_))
      obtain ⟨er6, fr6⟩ := h8
      have hq9 : Shp S7.1 S7.2.1 q := Fr.q fr6 hq
      refine g_if_ne (t := 38) F dL_why_31 (by decide) (fun c10 => ?_) (fun c10 => ?_)
      · have g2 := w1 er6 c10
        refine g_aload_n (k := 2) F 2 rfl dL_why_38 ?_
        refine g_iconst (v := 1) F (by decide) dL_why_39 ?_
        refine g_ialde ((fr6.2.2 (96) (by decide) (by decide)).1.trans rfl) (j := 1) F (qi96 hq9) rfl (by rw [(qn96 hq9)]; omega) (by rw [(qn96 hq9)]; decide) dL_why_40 ?_
        refine g_rei (nI (nr z)) hn ?_
        refine g_bipush (v := 12) F (by decide) dL_why_41 ?_
        refine g_icmp_ne (t := 50) F dL_why_43 (by decide) (fun c11 => ?_) (fun c11 => ?_)
        · have g4 : nr z < 12 := by
            rw [show (12 : Int32) = nI 12 from rfl, nI_eq (by omega) (by omega)] at c11
            omega
          refine g_iconst (v := 0) F (by decide) dL_why_50 ?_
          refine g_iret F T ⟨_, rfl, ?_⟩ (Nat.le_of_ble_eq_true rfl) (Nat.le_of_ble_eq_true rfl) dL_why_51
          exact ⟨rf_0 hB h3 g1 g2 g4, (Fr.tr (l := [97]) Fr.rf fr6 (by decide) (by decide))⟩
        · have g4 : ¬ nr z < 12 := by
            rw [show (12 : Int32) = nI 12 from rfl, nI_eq (by omega) (by omega)] at c11
            omega
          refine g_iconst (v := 4) F (by decide) dL_why_46 ?_
          refine g_goto (t := 51) F dL_why_47 (by decide) ?_
          refine g_iret F T ⟨_, rfl, ?_⟩ (Nat.le_of_ble_eq_true rfl) (Nat.le_of_ble_eq_true rfl) dL_why_51
          exact ⟨rf_4 hB h3 g1 g2 g4, (Fr.tr (l := [97]) Fr.rf fr6 (by decide) (by decide))⟩
      · have g2 := w0 er6 c10
        refine g_iconst (v := 3) F (by decide) dL_why_34 ?_
        refine g_goto (t := 51) F dL_why_35 (by decide) ?_
        refine g_iret F T ⟨_, rfl, ?_⟩ (Nat.le_of_ble_eq_true rfl) (Nat.le_of_ble_eq_true rfl) dL_why_51
        exact ⟨rf_3 h3 g1 g2, (Fr.tr (l := [97]) Fr.rf fr6 (by decide) (by decide))⟩
    · have g1 := w1 er2 c5
      refine g_iconst (v := 2) F (by decide) dL_why_20 ?_
      refine g_goto (t := 51) F dL_why_21 (by decide) ?_
      refine g_iret F T ⟨_, rfl, ?_⟩ (Nat.le_of_ble_eq_true rfl) (Nat.le_of_ble_eq_true rfl) dL_why_51
      exact ⟨rf_2 h3 g1, Fr.rf⟩
  · have h3 : ¬ 3 ≤ nc z := fun h => c1 ((nI_leI (a := 3) (by omega) (by omega)).mpr h)
    refine g_iconst (v := 1) F (by decide) dL_why_7 ?_
    refine g_goto (t := 51) F dL_why_8 (by decide) ?_
    refine g_iret F T ⟨_, rfl, ?_⟩ (Nat.le_of_ble_eq_true rfl) (Nat.le_of_ble_eq_true rfl) dL_why_51
    exact ⟨rf_1 h3, Fr.rf⟩
set_option maxHeartbeats 4000000 in
set_option maxRecDepth 100000 in
theorem kL_sum (g : Glo) (S : PS) (q : Nat → Nat) (hq : Shp S.1 S.2.1 q) (z : ZZ) (hB : Bz z) (hs : Ls S q z) (hk : Lk S q z) (c : Nat) (hc : c < nc z) (b : Bool) (hr : zRa z) : Ct g mL_sum 0 0 [.int (nI c), .int (bI b), .ref (q 94), .ref (q 95), .ref (q 96), .ref (q 97)] S (pJ9 (fun r S' => r = zSum z c b ∧ Fr S S' q [97])) := by
  refine Ct.of (by decide) (Nat.le_of_ble_eq_true rfl) (fun Γ hg F T => ?_)
  subst hg
  show G Γ S 0 0 0 [(0, .int (nI c)), (1, .int (bI b)), (2, .ref (q 94)), (3, .ref (q 95)), (4, .ref (q 96)), (5, .ref (q 97))] []
  have h8 := hk.2.2
  have h0 : 0 < nc z := by omega
  refine g_ldc2 F mw384 dL_sum_0 ?_
  refine g_aload_n (k := 2) F 2 rfl dL_sum_3 ?_
  refine g_iconst (v := 4) F (by decide) dL_sum_4 ?_
  refine g_ialde rfl (j := 4) F (qi94 hq) rfl (by rw [(qn94 hq)]; omega) (by rw [(qn94 hq)]; decide) dL_sum_5 ?_
  refine g_i2l F dL_sum_6 ?_
  refine g_lmul F dL_sum_7 ?_
  refine g_topl (fun x1 ex1 => ?_)
  refine g_lstore (L' := [(6, .long x1), (0, .int (nI c)), (1, .int (bI b)), (2, .ref (q 94)), (3, .ref (q 95)), (4, .ref (q 96)), (5, .ref (q 97))]) F dL_sum_8 (Nat.le_of_ble_eq_true rfl) rfl ?_
  have pl9 : x1 = 512 * z 6 := by rw [ex1, hs.1.2.2.2.2]
  refine g_lconst (v := 0) F (by decide) dL_sum_10 ?_
  refine g_lstore (L' := [(8, .long 0), (6, .long x1), (0, .int (nI c)), (1, .int (bI b)), (2, .ref (q 94)), (3, .ref (q 95)), (4, .ref (q 96)), (5, .ref (q 97))]) F dL_sum_11 (Nat.le_of_ble_eq_true rfl) rfl ?_
  refine g_lconst (v := 0) F (by decide) dL_sum_13 ?_
  refine g_lstore (L' := [(10, .long 0), (8, .long 0), (6, .long x1), (0, .int (nI c)), (1, .int (bI b)), (2, .ref (q 94)), (3, .ref (q 95)), (4, .ref (q 96)), (5, .ref (q 97))]) F dL_sum_14 (Nat.le_of_ble_eq_true rfl) rfl ?_
  refine g_iload_n (k := 0) F 3 rfl dL_sum_16 ?_
  refine g_istore (L' := [(12, .int (nI c)), (10, .long 0), (8, .long 0), (6, .long x1), (0, .int (nI c)), (1, .int (bI b)), (2, .ref (q 94)), (3, .ref (q 95)), (4, .ref (q 96)), (5, .ref (q 97))]) F dL_sum_17 (Nat.le_of_ble_eq_true rfl) rfl ?_
  refine g_iconst (v := 0) F (by decide) dL_sum_19 ?_
  refine g_istore (L' := [(13, .int 0), (12, .int (nI c)), (10, .long 0), (8, .long 0), (6, .long x1), (0, .int (nI c)), (1, .int (bI b)), (2, .ref (q 94)), (3, .ref (q 95)), (4, .ref (q 96)), (5, .ref (q 97))]) F dL_sum_20 (Nat.le_of_ble_eq_true rfl) rfl ?_
  have lp2 : ∀ (n9 : Nat) (i : Nat) (kk : Nat) (s : Int64) (w : Int64) (S1 : PS), nc z < i + n9 → (i ≤ nc z) → (kk < nc z) → (i < nc z → (if b then pv (nc z) kk else kk) = zSk (nc z) c b i) → ((s, w) = zSu z c b i) → (Fr S S1 q [97]) → G Γ S1 0 0 22 [(13, .int (nI i)), (12, .int (nI kk)), (10, .long w), (8, .long s), (6, .long x1), (0, .int (nI c)), (1, .int (bI b)), (2, .ref (q 94)), (3, .ref (q 95)), (4, .ref (q 96)), (5, .ref (q 97))] [] := by
    intro n9
    induction n9 with
    | zero =>
      intro i kk s w S1 hm9 hi hkk hsk hsw hf
      exact absurd hm9 (by omega)
    | succ n9 ihlp2 =>
      intro i kk s w S1 hm9 hi hkk hsk hsw hf
      have hq3 : Shp S1.1 S1.2.1 q := Fr.q hf hq
      refine g_iload F 0 rfl dL_sum_22 ?_
      refine g_aload F 9 rfl dL_sum_24 ?_
      refine g_iconst (v := 0) F (by decide) dL_sum_26 ?_
      refine g_ialde (hf.2.2 96 (by decide) (by decide)).1 (j := 0) F (qi96 hq3) rfl (by rw [(qn96 hq3)]; omega) (by rw [(qn96 hq3)]; decide) dL_sum_27 ?_
      refine g_rei (nI (nc z)) hk.2.1 ?_
      refine g_icmp_ge (t := 228) F dL_sum_28 (by decide) (fun c4 => ?_) (fun c4 => ?_)
      · obtain rfl : i = nc z := by
          rw [nI_leI (by omega) (by omega)] at c4
          omega
        refine g_iload_n (k := 1) F 6 rfl dL_sum_228 ?_
        refine g_if_eq (t := 238) F dL_sum_229 (by decide) (fun c5 => ?_) (fun c5 => ?_)
        · have hb6 := bI_0 c5
          refine g_lload F 2 rfl dL_sum_238 ?_
          refine g_lret F T ⟨_, rfl, ?_⟩ (Nat.le_of_ble_eq_true rfl) (Nat.le_of_ble_eq_true rfl) dL_sum_240
          exact ⟨zsum_f hsw hb6, hf⟩
        · have hb6 := bI_1 c5
          refine g_lload F 2 rfl dL_sum_232 ?_
          refine g_lneg F dL_sum_234 ?_
          refine g_goto (t := 240) F dL_sum_235 (by decide) ?_
          refine g_lret F T ⟨_, rfl, ?_⟩ (Nat.le_of_ble_eq_true rfl) (Nat.le_of_ble_eq_true rfl) dL_sum_240
          exact ⟨zsum_t hsw hb6, hf⟩
      · have hi9 : i < nc z := by
          rw [nI_leI (by omega) (by omega)] at c4
          omega
        refine g_iload_n (k := 1) F 6 rfl dL_sum_31 ?_
        have jn7 : ∀ (y12 : Int32), y12 = nI (zSk (nc z) c b i) → G Γ S1 0 0 55 [(13, .int (nI i)), (12, .int y12), (10, .long w), (8, .long s), (6, .long x1), (0, .int (nI c)), (1, .int (bI b)), (2, .ref (q 94)), (3, .ref (q 95)), (4, .ref (q 96)), (5, .ref (q 97))] [] := by
          intro y12 hj3
          obtain ⟨K, eK⟩ : ∃ y9 : Nat, y9 = zSk (nc z) c b i := ⟨_, rfl⟩
          rw [← eK] at hj3
          subst hj3
          have hKn : K < nc z := by rw [eK]; exact sk_lt (by omega) i
          have hzn := zN_b hB h0 K
          refine g_iload F 1 rfl dL_sum_55 ?_
          refine g_aload_n (k := 2) F 7 rfl dL_sum_57 ?_
          refine g_aload_n (k := 3) F 8 rfl dL_sum_58 ?_
          refine g_aload F 9 rfl dL_sum_59 ?_
          refine g_callS F (kL_steps Γ.1 S1 q hq3 z hB (Ls.fr (l := [97]) hf (by decide) hs) (Lk.fr (l := [97]) hf (by decide) (by decide) hk) K hKn) okL_steps mw107 ⟨(Nat.le_of_ble_eq_true rfl), (Nat.le_of_ble_eq_true rfl)⟩ rfl rfl (Nat.le_of_ble_eq_true rfl) ⟨(Nat.le_of_ble_eq_true rfl), (Nat.le_of_ble_eq_true rfl)⟩ dL_sum_61 (toI (fun r8 S9 h10 => ?_))
          obtain ⟨rfl, rfl⟩ := h10
          refine g_istore (L' := [(14, .int (nI (zN z K))), (13, .int (nI i)), (12, .int (nI K)), (10, .long w), (8, .long s), (6, .long x1), (0, .int (nI c)), (1, .int (bI b)), (2, .ref (q 94)), (3, .ref (q 95)), (4, .ref (q 96)), (5, .ref (q 97))]) F dL_sum_64 (Nat.le_of_ble_eq_true rfl) rfl ?_
          refine g_iconst (v := 0) F (by decide) dL_sum_66 ?_
          refine g_istore (L' := [(15, .int 0), (14, .int (nI (zN z K))), (13, .int (nI i)), (12, .int (nI K)), (10, .long w), (8, .long s), (6, .long x1), (0, .int (nI c)), (1, .int (bI b)), (2, .ref (q 94)), (3, .ref (q 95)), (4, .ref (q 96)), (5, .ref (q 97))]) F dL_sum_67 (Nat.le_of_ble_eq_true rfl) rfl ?_
          have lp11 : ∀ (n9 : Nat) (m : Nat) (s2 : Int64) (w2 : Int64) (S2 : PS), zN z K < m + n9 → (m ≤ zN z K) → ((s2, w2) = zFo z b K m (s, w)) → (Fr S S2 q [97]) → G Γ S2 0 0 69 [(15, .int (nI m)), (14, .int (nI (zN z K))), (13, .int (nI i)), (12, .int (nI K)), (10, .long w2), (8, .long s2), (6, .long x1), (0, .int (nI c)), (1, .int (bI b)), (2, .ref (q 94)), (3, .ref (q 95)), (4, .ref (q 96)), (5, .ref (q 97))] [] := by
            intro n9
            induction n9 with
            | zero =>
              intro m s2 w2 S2 hm9 hm hsw2 hf2
              exact absurd hm9 (by omega)
            | succ n9 ihlp11 =>
              intro m s2 w2 S2 hm9 hm hsw2 hf2
              have hq12 : Shp S2.1 S2.2.1 q := Fr.q hf2 hq
              refine g_iload F 0 rfl dL_sum_69 ?_
              refine g_iload F 1 rfl dL_sum_71 ?_
              refine g_icmp_ge (t := 197) F dL_sum_73 (by decide) (fun c13 => ?_) (fun c13 => ?_)
              · have hmz : m = zN z K := by
                  rw [nI_leI (by omega) (by omega)] at c13
                  omega
                refine g_iload_n (k := 1) F 8 rfl dL_sum_197 ?_
                refine g_if_ne (t := 222) F dL_sum_198 (by decide) (fun c14 => ?_) (fun c14 => ?_)
                · have hb7 := bI_1 c14
                  obtain ⟨x15, ex15⟩ : ∃ y9 : Int32, y9 = (nI i) + 1 := ⟨_, rfl⟩
                  refine g_iinc (k := 2) (v := x15) (L' := [(13, .int x15), (15, .int (nI m)), (14, .int (nI (zN z K))), (12, .int (nI K)), (10, .long w2), (8, .long s2), (6, .long x1), (0, .int (nI c)), (1, .int (bI b)), (2, .ref (q 94)), (3, .ref (q 95)), (4, .ref (q 96)), (5, .ref (q 97))]) F dL_sum_222 rfl (by rw [ex15]; rfl) (Nat.le_of_ble_eq_true rfl) rfl ?_
                  refine g_goto (t := 22) F dL_sum_225 (by decide) ?_
                  obtain rfl : x15 = nI (i + 1) := (ex15.trans (nI_1 _))
                  refine g_sub (L' := [(13, .int (nI (i + 1))), (12, .int (nI K)), (10, .long w2), (8, .long s2), (6, .long x1), (0, .int (nI c)), (1, .int (bI b)), (2, .ref (q 94)), (3, .ref (q 95)), (4, .ref (q 96)), (5, .ref (q 97))]) [0, 3, 4, 5, 6, 7, 8, 9, 10, 11, 12] rfl ?_
                  exact ihlp2 (i + 1) (K) (s2) (w2) (S2) (by omega) (by omega) hKn (fun _ => (sks hc hi9 eK).1 hb7) (by rw [zSu_s, ← eK, ← hsw, ← hmz]; exact hsw2) hf2
                · have hb7 := bI_0 c14
                  refine g_iload F 3 rfl dL_sum_201 ?_
                  refine g_iconst (v := 1) F (by decide) dL_sum_203 ?_
                  refine g_iadd F dL_sum_204 ?_
                  refine g_rei (nI (K + 1)) (nadd rfl rfl) ?_
                  refine g_aload F 11 rfl dL_sum_205 ?_
                  refine g_iconst (v := 0) F (by decide) dL_sum_207 ?_
                  refine g_ialde (hf2.2.2 96 (by decide) (by decide)).1 (j := 0) F (qi96 hq12) rfl (by rw [(qn96 hq12)]; omega) (by rw [(qn96 hq12)]; decide) dL_sum_208 ?_
                  refine g_rei (nI (nc z)) hk.2.1 ?_
                  have jn17 : ∀ (w220 : Int32), w220 = nI (nx (nc z) K) → G Γ S2 0 0 220 [(15, .int (nI m)), (14, .int (nI (zN z K))), (13, .int (nI i)), (12, .int (nI K)), (10, .long w2), (8, .long s2), (6, .long x1), (0, .int (nI c)), (1, .int (bI b)), (2, .ref (q 94)), (3, .ref (q 95)), (4, .ref (q 96)), (5, .ref (q 97))] [.int w220] := by
                    intro w220 hj
                    refine g_istore (L' := [(12, .int w220), (15, .int (nI m)), (14, .int (nI (zN z K))), (13, .int (nI i)), (10, .long w2), (8, .long s2), (6, .long x1), (0, .int (nI c)), (1, .int (bI b)), (2, .ref (q 94)), (3, .ref (q 95)), (4, .ref (q 96)), (5, .ref (q 97))]) F dL_sum_220 (Nat.le_of_ble_eq_true rfl) rfl ?_
                    subst hj
                    obtain ⟨x18, ex18⟩ : ∃ y9 : Int32, y9 = (nI i) + 1 := ⟨_, rfl⟩
                    refine g_iinc (k := 3) (v := x18) (L' := [(13, .int x18), (12, .int (nI (nx (nc z) K))), (15, .int (nI m)), (14, .int (nI (zN z K))), (10, .long w2), (8, .long s2), (6, .long x1), (0, .int (nI c)), (1, .int (bI b)), (2, .ref (q 94)), (3, .ref (q 95)), (4, .ref (q 96)), (5, .ref (q 97))]) F dL_sum_222 rfl (by rw [ex18]; rfl) (Nat.le_of_ble_eq_true rfl) rfl ?_
                    refine g_goto (t := 22) F dL_sum_225 (by decide) ?_
                    obtain rfl : x18 = nI (i + 1) := (ex18.trans (nI_1 _))
                    refine g_sub (L' := [(13, .int (nI (i + 1))), (12, .int (nI (nx (nc z) K))), (10, .long w2), (8, .long s2), (6, .long x1), (0, .int (nI c)), (1, .int (bI b)), (2, .ref (q 94)), (3, .ref (q 95)), (4, .ref (q 96)), (5, .ref (q 97))]) [0, 1, 4, 5, 6, 7, 8, 9, 10, 11, 12] rfl ?_
                    exact ihlp2 (i + 1) ((nx (nc z) K)) (s2) (w2) (S2) (by omega) (by omega) (nx_lt hKn) (fun _ => (sks hc hi9 eK).2 hb7) (by rw [zSu_s, ← eK, ← hsw, ← hmz]; exact hsw2) hf2
                  refine g_icmp_ne (t := 216) F dL_sum_209 (by decide) (fun c16 => ?_) (fun c16 => ?_)
                  · have g0 := nxI_f hKn (by omega) c16
                    refine g_iload F 3 rfl dL_sum_216 ?_
                    refine g_iconst (v := 1) F (by decide) dL_sum_218 ?_
                    refine g_iadd F dL_sum_219 ?_
                    refine g_rei (nI (K + 1)) (nadd rfl rfl) ?_
                    exact jn17 ((nI (K + 1))) (by rw [g0])
                  · have g0 := nxI_t hKn (by omega) c16
                    refine g_iconst (v := 0) F (by decide) dL_sum_212 ?_
                    refine g_goto (t := 220) F dL_sum_213 (by decide) ?_
                    exact jn17 (0) (by rw [g0]; rfl)
              · have hm9 : m < zN z K := by
                  rw [nI_leI (by omega) (by omega)] at c13
                  omega
                refine g_iload_n (k := 1) F 8 rfl dL_sum_76 ?_
                refine g_if_eq (t := 106) F dL_sum_77 (by decide) (fun c19 => ?_) (fun c19 => ?_)
                · have hb8 := bI_0 c19
                  refine g_iload F 3 rfl dL_sum_106 ?_
                  refine g_iload F 0 rfl dL_sum_108 ?_
                  refine g_iload F 0 rfl dL_sum_110 ?_
                  refine g_iconst (v := 1) F (by decide) dL_sum_112 ?_
                  refine g_iadd F dL_sum_113 ?_
                  refine g_rei (nI (m + 1)) (nadd rfl rfl) ?_
                  refine g_aload_n (k := 2) F 9 rfl dL_sum_114 ?_
                  refine g_aload_n (k := 3) F 10 rfl dL_sum_115 ?_
                  refine g_aload F 11 rfl dL_sum_116 ?_
                  refine g_aload F 12 rfl dL_sum_118 ?_
                  refine g_callS F (kL_swept Γ.1 S2 q hq12 z hB (Ls.fr (l := [97]) hf2 (by decide) hs) (Lk.fr (l := [97]) hf2 (by decide) (by decide) hk) K hKn m ((m + 1)) (by omega) (by omega) (hr K hKn)) okL_swept mw124 ⟨(Nat.le_of_ble_eq_true rfl), (Nat.le_of_ble_eq_true rfl)⟩ rfl rfl (Nat.le_of_ble_eq_true rfl) ⟨(Nat.le_of_ble_eq_true rfl), (Nat.le_of_ble_eq_true rfl)⟩ dL_sum_120 (toJ (fun r20 S21 h22 => ?_))
                  obtain ⟨er20, fr20⟩ := h22
                  have hq23 : Shp S21.1 S21.2.1 q := Fr.q fr20 hq12
                  have q9 : r20 = zFs z b K m := by rw [er20, zFs_f hb8]
                  refine g_lstore (L' := [(16, .long r20), (15, .int (nI m)), (14, .int (nI (zN z K))), (13, .int (nI i)), (12, .int (nI K)), (10, .long w2), (8, .long s2), (6, .long x1), (0, .int (nI c)), (1, .int (bI b)), (2, .ref (q 94)), (3, .ref (q 95)), (4, .ref (q 96)), (5, .ref (q 97))]) F dL_sum_123 (Nat.le_of_ble_eq_true rfl) rfl ?_
                  refine g_lload F 6 rfl dL_sum_125 ?_
                  refine g_lload F 0 rfl dL_sum_127 ?_
                  refine g_bipush (v := 100) F (by decide) dL_sum_129 ?_
                  refine g_aload_n (k := 3) F 11 rfl dL_sum_131 ?_
                  refine g_iconst (v := 3) F (by decide) dL_sum_132 ?_
                  refine g_iload F 4 rfl dL_sum_133 ?_
                  refine g_imul F dL_sum_135 ?_
                  refine g_rei (nI (3 * K)) (nmul rfl rfl) ?_
                  refine g_iconst (v := 2) F (by decide) dL_sum_136 ?_
                  refine g_iadd F dL_sum_137 ?_
                  refine g_rei (nI ((3 * K) + 2)) (nadd rfl rfl) ?_
                  refine g_ialde ((fr20.2.2 (95) (by decide) (by decide)).1.trans (hf2.2.2 95 (by decide) (by decide)).1) (j := ((3 * K) + 2)) F (qi95 hq23) rfl (by rw [(qn95 hq23)]; omega) (by rw [(qn95 hq23)]; decide) dL_sum_138 ?_
                  refine g_isub F dL_sum_139 ?_
                  refine g_i2l F dL_sum_140 ?_
                  refine g_lmul F dL_sum_141 ?_
                  refine g_ldc2 F mw426 dL_sum_142 ?_
                  refine g_ldiv F dL_sum_145 (by decide) ?_
                  refine g_ladd F dL_sum_146 ?_
                  refine g_topl (fun x24 ex24 => ?_)
                  refine g_lstore (L' := [(8, .long x24), (16, .long r20), (15, .int (nI m)), (14, .int (nI (zN z K))), (13, .int (nI i)), (12, .int (nI K)), (10, .long w2), (6, .long x1), (0, .int (nI c)), (1, .int (bI b)), (2, .ref (q 94)), (3, .ref (q 95)), (4, .ref (q 96)), (5, .ref (q 97))]) F dL_sum_147 (Nat.le_of_ble_eq_true rfl) rfl ?_
                  have hw2 : w2 = (zFo z b K m (s, w)).2 := congrArg Prod.snd hsw2
                  have s9 : x24 = (zFo z b K m (s, w)).1 + zFs z b K m * (100 - zS z K) / 100 := by rw [ex24, q9, d64 (a := 100) (x := 100) (by decide) (hk.S hKn) (by unfold wtn; decide) (zS_b hB hKn), ← hsw2]
                  refine g_lload F 0 rfl dL_sum_149 ?_
                  refine g_lconst (v := 0) F (by decide) dL_sum_151 ?_
                  refine g_lcmp F dL_sum_152 ?_
                  refine g_if_ge (t := 160) F dL_sum_153 (by decide) (fun c25 => ?_) (fun c25 => ?_)
                  · rw [lc_ge] at c25
                    refine g_lload F 0 rfl dL_sum_160 ?_
                    refine g_lload F 7 rfl dL_sum_162 ?_
                    refine g_lcmp F dL_sum_164 ?_
                    refine g_if_le (t := 173) F dL_sum_165 (by decide) (fun c26 => ?_) (fun c26 => ?_)
                    · rw [lc_le] at c26
                      refine g_lload F 0 rfl dL_sum_173 ?_
                      refine g_lstore (L' := [(18, .long x24), (8, .long x24), (16, .long r20), (15, .int (nI m)), (14, .int (nI (zN z K))), (13, .int (nI i)), (12, .int (nI K)), (10, .long w2), (6, .long x1), (0, .int (nI c)), (1, .int (bI b)), (2, .ref (q 94)), (3, .ref (q 95)), (4, .ref (q 96)), (5, .ref (q 97))]) F dL_sum_175 (Nat.le_of_ble_eq_true rfl) rfl ?_
                      refine g_lload F 7 rfl dL_sum_177 ?_
                      refine g_lload F 1 rfl dL_sum_179 ?_
                      refine g_lload F 0 rfl dL_sum_181 ?_
                      refine g_lsub F dL_sum_183 ?_
                      refine g_ladd F dL_sum_184 ?_
                      refine g_topl (fun x27 ex27 => ?_)
                      refine g_lstore (L' := [(10, .long x27), (18, .long x24), (8, .long x24), (16, .long r20), (15, .int (nI m)), (14, .int (nI (zN z K))), (13, .int (nI i)), (12, .int (nI K)), (6, .long x1), (0, .int (nI c)), (1, .int (bI b)), (2, .ref (q 94)), (3, .ref (q 95)), (4, .ref (q 96)), (5, .ref (q 97))]) F dL_sum_185 (Nat.le_of_ble_eq_true rfl) rfl ?_
                      refine g_lload F 1 rfl dL_sum_187 ?_
                      refine g_lstore (L' := [(8, .long x24), (10, .long x27), (18, .long x24), (16, .long r20), (15, .int (nI m)), (14, .int (nI (zN z K))), (13, .int (nI i)), (12, .int (nI K)), (6, .long x1), (0, .int (nI c)), (1, .int (bI b)), (2, .ref (q 94)), (3, .ref (q 95)), (4, .ref (q 96)), (5, .ref (q 97))]) F dL_sum_189 (Nat.le_of_ble_eq_true rfl) rfl ?_
                      obtain ⟨x28, ex28⟩ : ∃ y9 : Int32, y9 = (nI m) + 1 := ⟨_, rfl⟩
                      refine g_iinc (k := 4) (v := x28) (L' := [(15, .int x28), (8, .long x24), (10, .long x27), (18, .long x24), (16, .long r20), (14, .int (nI (zN z K))), (13, .int (nI i)), (12, .int (nI K)), (6, .long x1), (0, .int (nI c)), (1, .int (bI b)), (2, .ref (q 94)), (3, .ref (q 95)), (4, .ref (q 96)), (5, .ref (q 97))]) F dL_sum_191 rfl (by rw [ex28]; rfl) (Nat.le_of_ble_eq_true rfl) rfl ?_
                      refine g_goto (t := 69) F dL_sum_194 (by decide) ?_
                      obtain rfl : x28 = nI (m + 1) := (ex28.trans (nI_1 _))
                      refine g_sub (L' := [(15, .int (nI (m + 1))), (14, .int (nI (zN z K))), (13, .int (nI i)), (12, .int (nI K)), (10, .long x27), (8, .long x24), (6, .long x1), (0, .int (nI c)), (1, .int (bI b)), (2, .ref (q 94)), (3, .ref (q 95)), (4, .ref (q 96)), (5, .ref (q 97))]) [0, 5, 6, 7, 2, 1, 8, 9, 10, 11, 12, 13, 14] rfl ?_
                      exact ihlp11 (m + 1) (x24) (x27) (S21) (by omega) (by omega) (by rw [ex27, hw2]; exact ro_l2 s9 (L_nlt.mpr c25) (by rw [← pl9]; exact L_nlt.mpr c26)) (Fr.tr (l := [97]) hf2 fr20 (by decide) (by decide))
                    · rw [lc_le] at c26
                      refine g_lload F 7 rfl dL_sum_168 ?_
                      refine g_goto (t := 175) F dL_sum_170 (by decide) ?_
                      refine g_lstore (L' := [(18, .long x1), (8, .long x24), (16, .long r20), (15, .int (nI m)), (14, .int (nI (zN z K))), (13, .int (nI i)), (12, .int (nI K)), (10, .long w2), (6, .long x1), (0, .int (nI c)), (1, .int (bI b)), (2, .ref (q 94)), (3, .ref (q 95)), (4, .ref (q 96)), (5, .ref (q 97))]) F dL_sum_175 (Nat.le_of_ble_eq_true rfl) rfl ?_
                      refine g_lload F 7 rfl dL_sum_177 ?_
                      refine g_lload F 1 rfl dL_sum_179 ?_
                      refine g_lload F 0 rfl dL_sum_181 ?_
                      refine g_lsub F dL_sum_183 ?_
                      refine g_ladd F dL_sum_184 ?_
                      refine g_topl (fun x29 ex29 => ?_)
                      refine g_lstore (L' := [(10, .long x29), (18, .long x1), (8, .long x24), (16, .long r20), (15, .int (nI m)), (14, .int (nI (zN z K))), (13, .int (nI i)), (12, .int (nI K)), (6, .long x1), (0, .int (nI c)), (1, .int (bI b)), (2, .ref (q 94)), (3, .ref (q 95)), (4, .ref (q 96)), (5, .ref (q 97))]) F dL_sum_185 (Nat.le_of_ble_eq_true rfl) rfl ?_
                      refine g_lload F 1 rfl dL_sum_187 ?_
                      refine g_lstore (L' := [(8, .long x1), (10, .long x29), (18, .long x1), (16, .long r20), (15, .int (nI m)), (14, .int (nI (zN z K))), (13, .int (nI i)), (12, .int (nI K)), (6, .long x1), (0, .int (nI c)), (1, .int (bI b)), (2, .ref (q 94)), (3, .ref (q 95)), (4, .ref (q 96)), (5, .ref (q 97))]) F dL_sum_189 (Nat.le_of_ble_eq_true rfl) rfl ?_
                      obtain ⟨x30, ex30⟩ : ∃ y9 : Int32, y9 = (nI m) + 1 := ⟨_, rfl⟩
                      refine g_iinc (k := 4) (v := x30) (L' := [(15, .int x30), (8, .long x1), (10, .long x29), (18, .long x1), (16, .long r20), (14, .int (nI (zN z K))), (13, .int (nI i)), (12, .int (nI K)), (6, .long x1), (0, .int (nI c)), (1, .int (bI b)), (2, .ref (q 94)), (3, .ref (q 95)), (4, .ref (q 96)), (5, .ref (q 97))]) F dL_sum_191 rfl (by rw [ex30]; rfl) (Nat.le_of_ble_eq_true rfl) rfl ?_
                      refine g_goto (t := 69) F dL_sum_194 (by decide) ?_
                      obtain rfl : x30 = nI (m + 1) := (ex30.trans (nI_1 _))
                      refine g_sub (L' := [(15, .int (nI (m + 1))), (14, .int (nI (zN z K))), (13, .int (nI i)), (12, .int (nI K)), (10, .long x29), (8, .long x1), (6, .long x1), (0, .int (nI c)), (1, .int (bI b)), (2, .ref (q 94)), (3, .ref (q 95)), (4, .ref (q 96)), (5, .ref (q 97))]) [0, 5, 6, 7, 2, 1, 8, 9, 10, 11, 12, 13, 14] rfl ?_
                      exact ihlp11 (m + 1) (x1) (x29) (S21) (by omega) (by omega) (by rw [ex29, pl9, hw2]; exact ro_l1 s9 (by rw [← pl9]; exact L_nle.mp c26)) (Fr.tr (l := [97]) hf2 fr20 (by decide) (by decide))
                  · rw [lc_ge] at c25
                    refine g_lconst (v := 0) F (by decide) dL_sum_156 ?_
                    refine g_goto (t := 175) F dL_sum_157 (by decide) ?_
                    refine g_lstore (L' := [(18, .long 0), (8, .long x24), (16, .long r20), (15, .int (nI m)), (14, .int (nI (zN z K))), (13, .int (nI i)), (12, .int (nI K)), (10, .long w2), (6, .long x1), (0, .int (nI c)), (1, .int (bI b)), (2, .ref (q 94)), (3, .ref (q 95)), (4, .ref (q 96)), (5, .ref (q 97))]) F dL_sum_175 (Nat.le_of_ble_eq_true rfl) rfl ?_
                    refine g_lload F 7 rfl dL_sum_177 ?_
                    refine g_lload F 1 rfl dL_sum_179 ?_
                    refine g_lload F 0 rfl dL_sum_181 ?_
                    refine g_lsub F dL_sum_183 ?_
                    refine g_ladd F dL_sum_184 ?_
                    refine g_topl (fun x31 ex31 => ?_)
                    refine g_lstore (L' := [(10, .long x31), (18, .long 0), (8, .long x24), (16, .long r20), (15, .int (nI m)), (14, .int (nI (zN z K))), (13, .int (nI i)), (12, .int (nI K)), (6, .long x1), (0, .int (nI c)), (1, .int (bI b)), (2, .ref (q 94)), (3, .ref (q 95)), (4, .ref (q 96)), (5, .ref (q 97))]) F dL_sum_185 (Nat.le_of_ble_eq_true rfl) rfl ?_
                    refine g_lload F 1 rfl dL_sum_187 ?_
                    refine g_lstore (L' := [(8, .long 0), (10, .long x31), (18, .long 0), (16, .long r20), (15, .int (nI m)), (14, .int (nI (zN z K))), (13, .int (nI i)), (12, .int (nI K)), (6, .long x1), (0, .int (nI c)), (1, .int (bI b)), (2, .ref (q 94)), (3, .ref (q 95)), (4, .ref (q 96)), (5, .ref (q 97))]) F dL_sum_189 (Nat.le_of_ble_eq_true rfl) rfl ?_
                    obtain ⟨x32, ex32⟩ : ∃ y9 : Int32, y9 = (nI m) + 1 := ⟨_, rfl⟩
                    refine g_iinc (k := 4) (v := x32) (L' := [(15, .int x32), (8, .long 0), (10, .long x31), (18, .long 0), (16, .long r20), (14, .int (nI (zN z K))), (13, .int (nI i)), (12, .int (nI K)), (6, .long x1), (0, .int (nI c)), (1, .int (bI b)), (2, .ref (q 94)), (3, .ref (q 95)), (4, .ref (q 96)), (5, .ref (q 97))]) F dL_sum_191 rfl (by rw [ex32]; rfl) (Nat.le_of_ble_eq_true rfl) rfl ?_
                    refine g_goto (t := 69) F dL_sum_194 (by decide) ?_
                    obtain rfl : x32 = nI (m + 1) := (ex32.trans (nI_1 _))
                    refine g_sub (L' := [(15, .int (nI (m + 1))), (14, .int (nI (zN z K))), (13, .int (nI i)), (12, .int (nI K)), (10, .long x31), (8, .long 0), (6, .long x1), (0, .int (nI c)), (1, .int (bI b)), (2, .ref (q 94)), (3, .ref (q 95)), (4, .ref (q 96)), (5, .ref (q 97))]) [0, 5, 6, 7, 2, 1, 8, 9, 10, 11, 12, 13, 14] rfl ?_
                    exact ihlp11 (m + 1) (0) (x31) (S21) (by omega) (by omega) (by rw [ex31, hw2]; exact ro_l0 (play_p hB) s9 (L_nle.mp c25)) (Fr.tr (l := [97]) hf2 fr20 (by decide) (by decide))
                · have hb8 := bI_1 c19
                  refine g_iload F 3 rfl dL_sum_80 ?_
                  refine g_iload F 1 rfl dL_sum_82 ?_
                  refine g_iload F 0 rfl dL_sum_84 ?_
                  refine g_isub F dL_sum_86 ?_
                  refine g_rei (nI ((zN z K) - m)) (nsub rfl rfl (by omega)) ?_
                  refine g_iload F 1 rfl dL_sum_87 ?_
                  refine g_iload F 0 rfl dL_sum_89 ?_
                  refine g_isub F dL_sum_91 ?_
                  refine g_rei (nI ((zN z K) - m)) (nsub rfl rfl (by omega)) ?_
                  refine g_iconst (v := 1) F (by decide) dL_sum_92 ?_
                  refine g_isub F dL_sum_93 ?_
                  refine g_rei (nI (((zN z K) - m) - 1)) (nsub rfl rfl (by omega)) ?_
                  refine g_aload_n (k := 2) F 9 rfl dL_sum_94 ?_
                  refine g_aload_n (k := 3) F 10 rfl dL_sum_95 ?_
                  refine g_aload F 11 rfl dL_sum_96 ?_
                  refine g_aload F 12 rfl dL_sum_98 ?_
                  refine g_callS F (kL_swept Γ.1 S2 q hq12 z hB (Ls.fr (l := [97]) hf2 (by decide) hs) (Lk.fr (l := [97]) hf2 (by decide) (by decide) hk) K hKn (((zN z K) - m)) ((((zN z K) - m) - 1)) (by omega) (by omega) (hr K hKn)) okL_swept mw124 ⟨(Nat.le_of_ble_eq_true rfl), (Nat.le_of_ble_eq_true rfl)⟩ rfl rfl (Nat.le_of_ble_eq_true rfl) ⟨(Nat.le_of_ble_eq_true rfl), (Nat.le_of_ble_eq_true rfl)⟩ dL_sum_100 (toJ (fun r33 S34 h35 => ?_))
                  obtain ⟨er33, fr33⟩ := h35
                  have hq36 : Shp S34.1 S34.2.1 q := Fr.q fr33 hq12
                  refine g_goto (t := 123) F dL_sum_103 (by decide) ?_
                  have q9 : r33 = zFs z b K m := by rw [er33, zFs_t hb8]
                  refine g_lstore (L' := [(16, .long r33), (15, .int (nI m)), (14, .int (nI (zN z K))), (13, .int (nI i)), (12, .int (nI K)), (10, .long w2), (8, .long s2), (6, .long x1), (0, .int (nI c)), (1, .int (bI b)), (2, .ref (q 94)), (3, .ref (q 95)), (4, .ref (q 96)), (5, .ref (q 97))]) F dL_sum_123 (Nat.le_of_ble_eq_true rfl) rfl ?_
                  refine g_lload F 6 rfl dL_sum_125 ?_
                  refine g_lload F 0 rfl dL_sum_127 ?_
                  refine g_bipush (v := 100) F (by decide) dL_sum_129 ?_
                  refine g_aload_n (k := 3) F 11 rfl dL_sum_131 ?_
                  refine g_iconst (v := 3) F (by decide) dL_sum_132 ?_
                  refine g_iload F 4 rfl dL_sum_133 ?_
                  refine g_imul F dL_sum_135 ?_
                  refine g_rei (nI (3 * K)) (nmul rfl rfl) ?_
                  refine g_iconst (v := 2) F (by decide) dL_sum_136 ?_
                  refine g_iadd F dL_sum_137 ?_
                  refine g_rei (nI ((3 * K) + 2)) (nadd rfl rfl) ?_
                  refine g_ialde ((fr33.2.2 (95) (by decide) (by decide)).1.trans (hf2.2.2 95 (by decide) (by decide)).1) (j := ((3 * K) + 2)) F (qi95 hq36) rfl (by rw [(qn95 hq36)]; omega) (by rw [(qn95 hq36)]; decide) dL_sum_138 ?_
                  refine g_isub F dL_sum_139 ?_
                  refine g_i2l F dL_sum_140 ?_
                  refine g_lmul F dL_sum_141 ?_
                  refine g_ldc2 F mw426 dL_sum_142 ?_
                  refine g_ldiv F dL_sum_145 (by decide) ?_
                  refine g_ladd F dL_sum_146 ?_
                  refine g_topl (fun x37 ex37 => ?_)
                  refine g_lstore (L' := [(8, .long x37), (16, .long r33), (15, .int (nI m)), (14, .int (nI (zN z K))), (13, .int (nI i)), (12, .int (nI K)), (10, .long w2), (6, .long x1), (0, .int (nI c)), (1, .int (bI b)), (2, .ref (q 94)), (3, .ref (q 95)), (4, .ref (q 96)), (5, .ref (q 97))]) F dL_sum_147 (Nat.le_of_ble_eq_true rfl) rfl ?_
                  have hw2 : w2 = (zFo z b K m (s, w)).2 := congrArg Prod.snd hsw2
                  have s9 : x37 = (zFo z b K m (s, w)).1 + zFs z b K m * (100 - zS z K) / 100 := by rw [ex37, q9, d64 (a := 100) (x := 100) (by decide) (hk.S hKn) (by unfold wtn; decide) (zS_b hB hKn), ← hsw2]
                  refine g_lload F 0 rfl dL_sum_149 ?_
                  refine g_lconst (v := 0) F (by decide) dL_sum_151 ?_
                  refine g_lcmp F dL_sum_152 ?_
                  refine g_if_ge (t := 160) F dL_sum_153 (by decide) (fun c38 => ?_) (fun c38 => ?_)
                  · rw [lc_ge] at c38
                    refine g_lload F 0 rfl dL_sum_160 ?_
                    refine g_lload F 7 rfl dL_sum_162 ?_
                    refine g_lcmp F dL_sum_164 ?_
                    refine g_if_le (t := 173) F dL_sum_165 (by decide) (fun c39 => ?_) (fun c39 => ?_)
                    · rw [lc_le] at c39
                      refine g_lload F 0 rfl dL_sum_173 ?_
                      refine g_lstore (L' := [(18, .long x37), (8, .long x37), (16, .long r33), (15, .int (nI m)), (14, .int (nI (zN z K))), (13, .int (nI i)), (12, .int (nI K)), (10, .long w2), (6, .long x1), (0, .int (nI c)), (1, .int (bI b)), (2, .ref (q 94)), (3, .ref (q 95)), (4, .ref (q 96)), (5, .ref (q 97))]) F dL_sum_175 (Nat.le_of_ble_eq_true rfl) rfl ?_
                      refine g_lload F 7 rfl dL_sum_177 ?_
                      refine g_lload F 1 rfl dL_sum_179 ?_
                      refine g_lload F 0 rfl dL_sum_181 ?_
                      refine g_lsub F dL_sum_183 ?_
                      refine g_ladd F dL_sum_184 ?_
                      refine g_topl (fun x40 ex40 => ?_)
                      refine g_lstore (L' := [(10, .long x40), (18, .long x37), (8, .long x37), (16, .long r33), (15, .int (nI m)), (14, .int (nI (zN z K))), (13, .int (nI i)), (12, .int (nI K)), (6, .long x1), (0, .int (nI c)), (1, .int (bI b)), (2, .ref (q 94)), (3, .ref (q 95)), (4, .ref (q 96)), (5, .ref (q 97))]) F dL_sum_185 (Nat.le_of_ble_eq_true rfl) rfl ?_
                      refine g_lload F 1 rfl dL_sum_187 ?_
                      refine g_lstore (L' := [(8, .long x37), (10, .long x40), (18, .long x37), (16, .long r33), (15, .int (nI m)), (14, .int (nI (zN z K))), (13, .int (nI i)), (12, .int (nI K)), (6, .long x1), (0, .int (nI c)), (1, .int (bI b)), (2, .ref (q 94)), (3, .ref (q 95)), (4, .ref (q 96)), (5, .ref (q 97))]) F dL_sum_189 (Nat.le_of_ble_eq_true rfl) rfl ?_
                      obtain ⟨x41, ex41⟩ : ∃ y9 : Int32, y9 = (nI m) + 1 := ⟨_, rfl⟩
                      refine g_iinc (k := 4) (v := x41) (L' := [(15, .int x41), (8, .long x37), (10, .long x40), (18, .long x37), (16, .long r33), (14, .int (nI (zN z K))), (13, .int (nI i)), (12, .int (nI K)), (6, .long x1), (0, .int (nI c)), (1, .int (bI b)), (2, .ref (q 94)), (3, .ref (q 95)), (4, .ref (q 96)), (5, .ref (q 97))]) F dL_sum_191 rfl (by rw [ex41]; rfl) (Nat.le_of_ble_eq_true rfl) rfl ?_
                      refine g_goto (t := 69) F dL_sum_194 (by decide) ?_
                      obtain rfl : x41 = nI (m + 1) := (ex41.trans (nI_1 _))
                      refine g_sub (L' := [(15, .int (nI (m + 1))), (14, .int (nI (zN z K))), (13, .int (nI i)), (12, .int (nI K)), (10, .long x40), (8, .long x37), (6, .long x1), (0, .int (nI c)), (1, .int (bI b)), (2, .ref (q 94)), (3, .ref (q 95)), (4, .ref (q 96)), (5, .ref (q 97))]) [0, 5, 6, 7, 2, 1, 8, 9, 10, 11, 12, 13, 14] rfl ?_
                      exact ihlp11 (m + 1) (x37) (x40) (S34) (by omega) (by omega) (by rw [ex40, hw2]; exact ro_l2 s9 (L_nlt.mpr c38) (by rw [← pl9]; exact L_nlt.mpr c39)) (Fr.tr (l := [97]) hf2 fr33 (by decide) (by decide))
                    · rw [lc_le] at c39
                      refine g_lload F 7 rfl dL_sum_168 ?_
                      refine g_goto (t := 175) F dL_sum_170 (by decide) ?_
                      refine g_lstore (L' := [(18, .long x1), (8, .long x37), (16, .long r33), (15, .int (nI m)), (14, .int (nI (zN z K))), (13, .int (nI i)), (12, .int (nI K)), (10, .long w2), (6, .long x1), (0, .int (nI c)), (1, .int (bI b)), (2, .ref (q 94)), (3, .ref (q 95)), (4, .ref (q 96)), (5, .ref (q 97))]) F dL_sum_175 (Nat.le_of_ble_eq_true rfl) rfl ?_
                      refine g_lload F 7 rfl dL_sum_177 ?_
                      refine g_lload F 1 rfl dL_sum_179 ?_
                      refine g_lload F 0 rfl dL_sum_181 ?_
                      refine g_lsub F dL_sum_183 ?_
                      refine g_ladd F dL_sum_184 ?_
                      refine g_topl (fun x42 ex42 => ?_)
                      refine g_lstore (L' := [(10, .long x42), (18, .long x1), (8, .long x37), (16, .long r33), (15, .int (nI m)), (14, .int (nI (zN z K))), (13, .int (nI i)), (12, .int (nI K)), (6, .long x1), (0, .int (nI c)), (1, .int (bI b)), (2, .ref (q 94)), (3, .ref (q 95)), (4, .ref (q 96)), (5, .ref (q 97))]) F dL_sum_185 (Nat.le_of_ble_eq_true rfl) rfl ?_
                      refine g_lload F 1 rfl dL_sum_187 ?_
                      refine g_lstore (L' := [(8, .long x1), (10, .long x42), (18, .long x1), (16, .long r33), (15, .int (nI m)), (14, .int (nI (zN z K))), (13, .int (nI i)), (12, .int (nI K)), (6, .long x1), (0, .int (nI c)), (1, .int (bI b)), (2, .ref (q 94)), (3, .ref (q 95)), (4, .ref (q 96)), (5, .ref (q 97))]) F dL_sum_189 (Nat.le_of_ble_eq_true rfl) rfl ?_
                      obtain ⟨x43, ex43⟩ : ∃ y9 : Int32, y9 = (nI m) + 1 := ⟨_, rfl⟩
                      refine g_iinc (k := 4) (v := x43) (L' := [(15, .int x43), (8, .long x1), (10, .long x42), (18, .long x1), (16, .long r33), (14, .int (nI (zN z K))), (13, .int (nI i)), (12, .int (nI K)), (6, .long x1), (0, .int (nI c)), (1, .int (bI b)), (2, .ref (q 94)), (3, .ref (q 95)), (4, .ref (q 96)), (5, .ref (q 97))]) F dL_sum_191 rfl (by rw [ex43]; rfl) (Nat.le_of_ble_eq_true rfl) rfl ?_
                      refine g_goto (t := 69) F dL_sum_194 (by decide) ?_
                      obtain rfl : x43 = nI (m + 1) := (ex43.trans (nI_1 _))
                      refine g_sub (L' := [(15, .int (nI (m + 1))), (14, .int (nI (zN z K))), (13, .int (nI i)), (12, .int (nI K)), (10, .long x42), (8, .long x1), (6, .long x1), (0, .int (nI c)), (1, .int (bI b)), (2, .ref (q 94)), (3, .ref (q 95)), (4, .ref (q 96)), (5, .ref (q 97))]) [0, 5, 6, 7, 2, 1, 8, 9, 10, 11, 12, 13, 14] rfl ?_
                      exact ihlp11 (m + 1) (x1) (x42) (S34) (by omega) (by omega) (by rw [ex42, pl9, hw2]; exact ro_l1 s9 (by rw [← pl9]; exact L_nle.mp c39)) (Fr.tr (l := [97]) hf2 fr33 (by decide) (by decide))
                  · rw [lc_ge] at c38
                    refine g_lconst (v := 0) F (by decide) dL_sum_156 ?_
                    refine g_goto (t := 175) F dL_sum_157 (by decide) ?_
                    refine g_lstore (L' := [(18, .long 0), (8, .long x37), (16, .long r33), (15, .int (nI m)), (14, .int (nI (zN z K))), (13, .int (nI i)), (12, .int (nI K)), (10, .long w2), (6, .long x1), (0, .int (nI c)), (1, .int (bI b)), (2, .ref (q 94)), (3, .ref (q 95)), (4, .ref (q 96)), (5, .ref (q 97))]) F dL_sum_175 (Nat.le_of_ble_eq_true rfl) rfl ?_
                    refine g_lload F 7 rfl dL_sum_177 ?_
                    refine g_lload F 1 rfl dL_sum_179 ?_
                    refine g_lload F 0 rfl dL_sum_181 ?_
                    refine g_lsub F dL_sum_183 ?_
                    refine g_ladd F dL_sum_184 ?_
                    refine g_topl (fun x44 ex44 => ?_)
                    refine g_lstore (L' := [(10, .long x44), (18, .long 0), (8, .long x37), (16, .long r33), (15, .int (nI m)), (14, .int (nI (zN z K))), (13, .int (nI i)), (12, .int (nI K)), (6, .long x1), (0, .int (nI c)), (1, .int (bI b)), (2, .ref (q 94)), (3, .ref (q 95)), (4, .ref (q 96)), (5, .ref (q 97))]) F dL_sum_185 (Nat.le_of_ble_eq_true rfl) rfl ?_
                    refine g_lload F 1 rfl dL_sum_187 ?_
                    refine g_lstore (L' := [(8, .long 0), (10, .long x44), (18, .long 0), (16, .long r33), (15, .int (nI m)), (14, .int (nI (zN z K))), (13, .int (nI i)), (12, .int (nI K)), (6, .long x1), (0, .int (nI c)), (1, .int (bI b)), (2, .ref (q 94)), (3, .ref (q 95)), (4, .ref (q 96)), (5, .ref (q 97))]) F dL_sum_189 (Nat.le_of_ble_eq_true rfl) rfl ?_
                    obtain ⟨x45, ex45⟩ : ∃ y9 : Int32, y9 = (nI m) + 1 := ⟨_, rfl⟩
                    refine g_iinc (k := 4) (v := x45) (L' := [(15, .int x45), (8, .long 0), (10, .long x44), (18, .long 0), (16, .long r33), (14, .int (nI (zN z K))), (13, .int (nI i)), (12, .int (nI K)), (6, .long x1), (0, .int (nI c)), (1, .int (bI b)), (2, .ref (q 94)), (3, .ref (q 95)), (4, .ref (q 96)), (5, .ref (q 97))]) F dL_sum_191 rfl (by rw [ex45]; rfl) (Nat.le_of_ble_eq_true rfl) rfl ?_
                    refine g_goto (t := 69) F dL_sum_194 (by decide) ?_
                    obtain rfl : x45 = nI (m + 1) := (ex45.trans (nI_1 _))
                    refine g_sub (L' := [(15, .int (nI (m + 1))), (14, .int (nI (zN z K))), (13, .int (nI i)), (12, .int (nI K)), (10, .long x44), (8, .long 0), (6, .long x1), (0, .int (nI c)), (1, .int (bI b)), (2, .ref (q 94)), (3, .ref (q 95)), (4, .ref (q 96)), (5, .ref (q 97))]) [0, 5, 6, 7, 2, 1, 8, 9, 10, 11, 12, 13, 14] rfl ?_
                    exact ihlp11 (m + 1) (0) (x44) (S34) (by omega) (by omega) (by rw [ex44, hw2]; exact ro_l0 (play_p hB) s9 (L_nle.mp c38)) (Fr.tr (l := [97]) hf2 fr33 (by decide) (by decide))
          exact lp11 (zN z K + 1) 0 s w S1 (by omega) (by omega) rfl hf
        refine g_if_eq (t := 55) F dL_sum_32 (by decide) (fun c6 => ?_) (fun c6 => ?_)
        · have hK := (skn (hsk hi9)).2 (bI_0 c6)
          exact jn7 ((nI kk)) (congrArg nI hK)
        · have hK := (skn (hsk hi9)).1 (bI_1 c6)
          refine g_iload F 1 rfl dL_sum_35 ?_
          have jn47 : ∀ (w53 : Int32), w53 = nI (pv (nc z) kk) → G Γ S1 0 0 53 [(13, .int (nI i)), (12, .int (nI kk)), (10, .long w), (8, .long s), (6, .long x1), (0, .int (nI c)), (1, .int (bI b)), (2, .ref (q 94)), (3, .ref (q 95)), (4, .ref (q 96)), (5, .ref (q 97))] [.int w53] := by
            intro w53 hj
            refine g_istore (L' := [(12, .int w53), (13, .int (nI i)), (10, .long w), (8, .long s), (6, .long x1), (0, .int (nI c)), (1, .int (bI b)), (2, .ref (q 94)), (3, .ref (q 95)), (4, .ref (q 96)), (5, .ref (q 97))]) F dL_sum_53 (Nat.le_of_ble_eq_true rfl) rfl ?_
            refine g_sub (L' := [(13, .int (nI i)), (12, .int w53), (10, .long w), (8, .long s), (6, .long x1), (0, .int (nI c)), (1, .int (bI b)), (2, .ref (q 94)), (3, .ref (q 95)), (4, .ref (q 96)), (5, .ref (q 97))]) [1, 0, 2, 3, 4, 5, 6, 7, 8, 9, 10] rfl ?_
            exact jn7 (w53) (hj.trans (congrArg nI hK))
          refine g_if_ne (t := 49) F dL_sum_37 (by decide) (fun c46 => ?_) (fun c46 => ?_)
          · have k0 : 0 < kk := by
              rw [show (0 : Int32) = nI 0 from rfl, nI_eq (by omega) (by omega)] at c46
              omega
            refine g_iload F 1 rfl dL_sum_49 ?_
            refine g_iconst (v := 1) F (by decide) dL_sum_51 ?_
            refine g_isub F dL_sum_52 ?_
            refine g_rei (nI (kk - 1)) (nsub rfl rfl (by omega)) ?_
            exact jn47 ((nI (kk - 1))) (by unfold pv; rw [if_pos k0])
          · have k0 : ¬ 0 < kk := by
              rw [show (0 : Int32) = nI 0 from rfl, nI_eq (by omega) (by omega)] at c46
              omega
            refine g_aload F 9 rfl dL_sum_40 ?_
            refine g_iconst (v := 0) F (by decide) dL_sum_42 ?_
            refine g_ialde (hf.2.2 96 (by decide) (by decide)).1 (j := 0) F (qi96 hq3) rfl (by rw [(qn96 hq3)]; omega) (by rw [(qn96 hq3)]; decide) dL_sum_43 ?_
            refine g_rei (nI (nc z)) hk.2.1 ?_
            refine g_iconst (v := 1) F (by decide) dL_sum_44 ?_
            refine g_isub F dL_sum_45 ?_
            refine g_rei (nI ((nc z) - 1)) (nsub rfl rfl (by omega)) ?_
            refine g_goto (t := 53) F dL_sum_46 (by decide) ?_
            exact jn47 ((nI ((nc z) - 1))) (by unfold pv; rw [if_neg k0])
  exact lp2 (nc z + 1) 0 c 0 0 S (by omega) (by omega) hc (fun _ => (sk_0 hc).symm) rfl Fr.rf
set_option maxHeartbeats 4000000 in
set_option maxRecDepth 100000 in
theorem kL_area2 (g : Glo) (S : PS) (q : Nat → Nat) (hq : Shp S.1 S.2.1 q) (z : ZZ) (hB : Bz z) (hk : Lk S q z) : Ct g mL_area2 0 0 [.ref (q 95), .ref (q 96)] S (pJ9 (fun r S' => r = zTw z ∧ S = S')) := by
  refine Ct.of (by decide) (Nat.le_of_ble_eq_true rfl) (fun Γ hg F T => ?_)
  subst hg
  show G Γ S 0 0 0 [(0, .ref (q 95)), (1, .ref (q 96))] []
  have h8 := hk.2.2
  refine g_lconst (v := 0) F (by decide) dL_area2_0 ?_
  refine g_lstore_n (k := 2) (L' := [(2, .long 0), (0, .ref (q 95)), (1, .ref (q 96))]) F dL_area2_1 (Nat.le_of_ble_eq_true rfl) rfl ?_
  refine g_iconst (v := 1) F (by decide) dL_area2_2 ?_
  refine g_istore (L' := [(4, .int 1), (2, .long 0), (0, .ref (q 95)), (1, .ref (q 96))]) F dL_area2_3 (Nat.le_of_ble_eq_true rfl) rfl ?_
  have lp1 : ∀ (n9 : Nat) (i : Nat) (a : Int64), nc z < i + n9 → (i ≤ nc z - 2) → (a = sumF (fun k => fanT z (k + 1)) i) → G Γ S 0 0 5 [(4, .int (nI (i + 1))), (2, .long a), (0, .ref (q 95)), (1, .ref (q 96))] [] := by
    intro n9
    induction n9 with
    | zero =>
      intro i a hm9 hi ha
      exact absurd hm9 (by omega)
    | succ n9 ihlp1 =>
      intro i a hm9 hi ha
      refine g_iload F 0 rfl dL_area2_5 ?_
      refine g_iconst (v := 1) F (by decide) dL_area2_7 ?_
      refine g_iadd F dL_area2_8 ?_
      refine g_rei (nI ((i + 1) + 1)) (nadd rfl rfl) ?_
      refine g_aload_n (k := 1) F 3 rfl dL_area2_9 ?_
      refine g_iconst (v := 0) F (by decide) dL_area2_10 ?_
      refine g_ialde rfl (j := 0) F (qi96 hq) rfl (by rw [(qn96 hq)]; omega) (by rw [(qn96 hq)]; decide) dL_area2_11 ?_
      refine g_rei (nI (nc z)) hk.2.1 ?_
      refine g_icmp_ge (t := 77) F dL_area2_12 (by decide) (fun c2 => ?_) (fun c2 => ?_)
      · have hi9 : i = nc z - 2 := by
          rw [nI_leI (by omega) (by omega)] at c2
          omega
        refine g_lload_n (k := 2) F 1 rfl dL_area2_77 ?_
        refine g_lret F T ⟨_, rfl, ?_⟩ (Nat.le_of_ble_eq_true rfl) (Nat.le_of_ble_eq_true rfl) dL_area2_78
        exact ⟨by rw [ha, fan_e, hi9], rfl⟩
      · have h2 : i + 1 + 1 < nc z := by
          rw [nI_leI (by omega) (by omega)] at c2
          omega
        have h1 : i + 1 < nc z := by omega
        have h0 : 0 < nc z := by omega
        refine g_lload_n (k := 2) F 1 rfl dL_area2_15 ?_
        refine g_aload_n (k := 0) F 2 rfl dL_area2_16 ?_
        refine g_iconst (v := 3) F (by decide) dL_area2_17 ?_
        refine g_iload F 0 rfl dL_area2_18 ?_
        refine g_imul F dL_area2_20 ?_
        refine g_rei (nI (3 * (i + 1))) (nmul rfl rfl) ?_
        refine g_ialde rfl (j := (3 * (i + 1))) F (qi95 hq) rfl (by rw [(qn95 hq)]; omega) (by rw [(qn95 hq)]; decide) dL_area2_21 ?_
        refine g_aload_n (k := 0) F 2 rfl dL_area2_22 ?_
        refine g_iconst (v := 0) F (by decide) dL_area2_23 ?_
        refine g_ialde rfl (j := 0) F (qi95 hq) rfl (by rw [(qn95 hq)]; omega) (by rw [(qn95 hq)]; decide) dL_area2_24 ?_
        refine g_isub F dL_area2_25 ?_
        refine g_i2l F dL_area2_26 ?_
        refine g_aload_n (k := 0) F 2 rfl dL_area2_27 ?_
        refine g_iconst (v := 3) F (by decide) dL_area2_28 ?_
        refine g_iload F 0 rfl dL_area2_29 ?_
        refine g_imul F dL_area2_31 ?_
        refine g_rei (nI (3 * (i + 1))) (nmul rfl rfl) ?_
        refine g_iconst (v := 4) F (by decide) dL_area2_32 ?_
        refine g_iadd F dL_area2_33 ?_
        refine g_rei (nI ((3 * (i + 1)) + 4)) (nadd rfl rfl) ?_
        refine g_ialde rfl (j := ((3 * (i + 1)) + 4)) F (qi95 hq) rfl (by rw [(qn95 hq)]; omega) (by rw [(qn95 hq)]; decide) dL_area2_34 ?_
        refine g_aload_n (k := 0) F 2 rfl dL_area2_35 ?_
        refine g_iconst (v := 1) F (by decide) dL_area2_36 ?_
        refine g_ialde rfl (j := 1) F (qi95 hq) rfl (by rw [(qn95 hq)]; omega) (by rw [(qn95 hq)]; decide) dL_area2_37 ?_
        refine g_isub F dL_area2_38 ?_
        refine g_i2l F dL_area2_39 ?_
        refine g_lmul F dL_area2_40 ?_
        refine g_aload_n (k := 0) F 2 rfl dL_area2_41 ?_
        refine g_iconst (v := 3) F (by decide) dL_area2_42 ?_
        refine g_iload F 0 rfl dL_area2_43 ?_
        refine g_imul F dL_area2_45 ?_
        refine g_rei (nI (3 * (i + 1))) (nmul rfl rfl) ?_
        refine g_iconst (v := 1) F (by decide) dL_area2_46 ?_
        refine g_iadd F dL_area2_47 ?_
        refine g_rei (nI ((3 * (i + 1)) + 1)) (nadd rfl rfl) ?_
        refine g_ialde rfl (j := ((3 * (i + 1)) + 1)) F (qi95 hq) rfl (by rw [(qn95 hq)]; omega) (by rw [(qn95 hq)]; decide) dL_area2_48 ?_
        refine g_aload_n (k := 0) F 2 rfl dL_area2_49 ?_
        refine g_iconst (v := 1) F (by decide) dL_area2_50 ?_
        refine g_ialde rfl (j := 1) F (qi95 hq) rfl (by rw [(qn95 hq)]; omega) (by rw [(qn95 hq)]; decide) dL_area2_51 ?_
        refine g_isub F dL_area2_52 ?_
        refine g_i2l F dL_area2_53 ?_
        refine g_aload_n (k := 0) F 2 rfl dL_area2_54 ?_
        refine g_iconst (v := 3) F (by decide) dL_area2_55 ?_
        refine g_iload F 0 rfl dL_area2_56 ?_
        refine g_imul F dL_area2_58 ?_
        refine g_rei (nI (3 * (i + 1))) (nmul rfl rfl) ?_
        refine g_iconst (v := 3) F (by decide) dL_area2_59 ?_
        refine g_iadd F dL_area2_60 ?_
        refine g_rei (nI ((3 * (i + 1)) + 3)) (nadd rfl rfl) ?_
        refine g_ialde rfl (j := ((3 * (i + 1)) + 3)) F (qi95 hq) rfl (by rw [(qn95 hq)]; omega) (by rw [(qn95 hq)]; decide) dL_area2_61 ?_
        refine g_aload_n (k := 0) F 2 rfl dL_area2_62 ?_
        refine g_iconst (v := 0) F (by decide) dL_area2_63 ?_
        refine g_ialde rfl (j := 0) F (qi95 hq) rfl (by rw [(qn95 hq)]; omega) (by rw [(qn95 hq)]; decide) dL_area2_64 ?_
        refine g_isub F dL_area2_65 ?_
        refine g_i2l F dL_area2_66 ?_
        refine g_lmul F dL_area2_67 ?_
        refine g_lsub F dL_area2_68 ?_
        refine g_ladd F dL_area2_69 ?_
        refine g_topl (fun x3 ex3 => ?_)
        refine g_lstore_n (k := 2) (L' := [(2, .long x3), (4, .int (nI (i + 1))), (0, .ref (q 95)), (1, .ref (q 96))]) F dL_area2_70 (Nat.le_of_ble_eq_true rfl) rfl ?_
        obtain ⟨x4, ex4⟩ : ∃ y9 : Int32, y9 = (nI (i + 1)) + 1 := ⟨_, rfl⟩
        refine g_iinc (k := 1) (v := x4) (L' := [(4, .int x4), (2, .long x3), (0, .ref (q 95)), (1, .ref (q 96))]) F dL_area2_71 rfl (by rw [ex4]; rfl) (Nat.le_of_ble_eq_true rfl) rfl ?_
        refine g_goto (t := 5) F dL_area2_74 (by decide) ?_
        obtain rfl : x4 = nI ((i + 1) + 1) := (ex4.trans (nI_1 _))
        refine g_sub (L' := [(4, .int (nI ((i + 1) + 1))), (2, .long x3), (0, .ref (q 95)), (1, .ref (q 96))]) [0, 1, 2, 3] rfl ?_
        exact ihlp1 (i + 1) (x3) (by omega) (by omega) (by rw [ex3, ha, d64 (hk.X h1) (hk.X0 h0) (wtn_w (zX_b hB h0 _) (by omega) (by omega)) (wtn_w (zX_b hB h0 _) (by omega) (by omega)), d64 (hk.Y4 h2) (hk.Y0 h0) (wtn_w (zY_b hB h0 _) (by omega) (by omega)) (wtn_w (zY_b hB h0 _) (by omega) (by omega)), d64 (hk.Y h1) (hk.Y0 h0) (wtn_w (zY_b hB h0 _) (by omega) (by omega)) (wtn_w (zY_b hB h0 _) (by omega) (by omega)), d64 (hk.X3 h2) (hk.X0 h0) (wtn_w (zX_b hB h0 _) (by omega) (by omega)) (wtn_w (zX_b hB h0 _) (by omega) (by omega))]; rfl)
  exact lp1 (nc z + 1) 0 0 (by omega) (by omega) rfl
