set_option maxHeartbeats 4000000 in
set_option maxRecDepth 100000 in
theorem kX10_layElbow (g : Glo) (S : PS) (q : Nat → Nat) (hq : Shp S.1 S.2.1 q) (z : ZZ) (hz : pJ S (q 95) = z) (hB : Bz z) (tx ty : Int64) (ht : wtn tx (-50000) 50000) (hu : wtn ty (-50000) 50000) (hr : zRe z tx ty) : Ct g mX10_layElbow 0 0 [.ref (q 94), .long tx, .long ty] S (pV9 (fun S' => Fm S S' q [7, 8] ∧ pJ S' (q 94) 7 = zEx z tx ty ∧ pJ S' (q 94) 8 = zEy z tx ty)) := by
  refine Ct.of (by decide) (Nat.le_of_ble_eq_true rfl) (fun Γ hg F T => ?_)
  subst hg
  show G Γ S 0 0 0 [(0, .ref (q 94)), (1, .long tx), (3, .long ty)] []
  have hab := zA_b hB ht hu hr
  refine g_lload_n (k := 1) F 1 rfl dX10_layElbow_0 ?_
  refine g_ldc2 F mw504 dX10_layElbow_1 ?_
  refine g_aload_n (k := 0) F 0 rfl dX10_layElbow_4 ?_
  refine gfX10_7 F (qi94 hq) (qr94_1 hq) dX10_layElbow_5 ?_
  refine g_iconst (v := 0) F (by decide) dX10_layElbow_8 ?_
  refine g_lalde hz (j := 0) F (qi95 hq) rfl (by rw [(qn95 hq)]; omega) (by rw [(qn95 hq)]; decide) dX10_layElbow_9 ?_
  refine g_lmul F dX10_layElbow_10 ?_
  refine g_lsub F dX10_layElbow_11 ?_
  refine g_topl (fun x1 ex1 => ?_)
  refine g_lstore (L' := [(5, .long x1), (0, .ref (q 94)), (1, .long tx), (3, .long ty)]) F dX10_layElbow_12 (Nat.le_of_ble_eq_true rfl) rfl ?_
  refine g_lload_n (k := 3) F 3 rfl dX10_layElbow_14 ?_
  refine g_ldc2 F mw504 dX10_layElbow_15 ?_
  refine g_aload_n (k := 0) F 1 rfl dX10_layElbow_18 ?_
  refine gfX10_7 F (qi94 hq) (qr94_1 hq) dX10_layElbow_19 ?_
  refine g_iconst (v := 1) F (by decide) dX10_layElbow_22 ?_
  refine g_lalde hz (j := 1) F (qi95 hq) rfl (by rw [(qn95 hq)]; omega) (by rw [(qn95 hq)]; decide) dX10_layElbow_23 ?_
  refine g_lmul F dX10_layElbow_24 ?_
  refine g_lsub F dX10_layElbow_25 ?_
  refine g_topl (fun x2 ex2 => ?_)
  refine g_lstore (L' := [(7, .long x2), (5, .long x1), (0, .ref (q 94)), (1, .long tx), (3, .long ty)]) F dX10_layElbow_26 (Nat.le_of_ble_eq_true rfl) rfl ?_
  refine g_lload F 1 rfl dX10_layElbow_28 ?_
  refine g_lload F 1 rfl dX10_layElbow_30 ?_
  refine g_lmul F dX10_layElbow_32 ?_
  refine g_lload F 0 rfl dX10_layElbow_33 ?_
  refine g_lload F 0 rfl dX10_layElbow_35 ?_
  refine g_lmul F dX10_layElbow_37 ?_
  refine g_ladd F dX10_layElbow_38 ?_
  refine g_topl (fun x3 ex3 => ?_)
  refine g_lstore (L' := [(9, .long x3), (7, .long x2), (5, .long x1), (0, .ref (q 94)), (1, .long tx), (3, .long ty)]) F dX10_layElbow_39 (Nat.le_of_ble_eq_true rfl) rfl ?_
  refine g_lload F 0 rfl dX10_layElbow_41 ?_
  refine g_callS F (kX10_root Γ.1 _ _ (by rw [ex3, ex1, ex2]; exact rt_D hB ht hu)) okX10_root mw513 ⟨(Nat.le_of_ble_eq_true rfl), (Nat.le_of_ble_eq_true rfl)⟩ rfl rfl (Nat.le_of_ble_eq_true rfl) ⟨(Nat.le_of_ble_eq_true rfl), (Nat.le_of_ble_eq_true rfl)⟩ dX10_layElbow_43 (toJ (fun r4 S5 h6 => ?_))
  obtain ⟨er4, rfl⟩ := h6
  refine g_lstore (L' := [(11, .long r4), (9, .long x3), (7, .long x2), (5, .long x1), (0, .ref (q 94)), (1, .long tx), (3, .long ty)]) F dX10_layElbow_46 (Nat.le_of_ble_eq_true rfl) rfl ?_
  refine g_ldc2 F mw504 dX10_layElbow_48 ?_
  refine g_aload_n (k := 0) F 4 rfl dX10_layElbow_51 ?_
  refine g_iconst (v := 0) F (by decide) dX10_layElbow_52 ?_
  refine g_callV F (kX10_of Γ.1 _ q hq z hz hB 0 (by decide)) okX10_of (qi94 hq) mw496 ⟨(Nat.le_of_ble_eq_true rfl), (Nat.le_of_ble_eq_true rfl)⟩ rfl rfl (Nat.le_of_ble_eq_true rfl) ⟨(Nat.le_of_ble_eq_true rfl), (Nat.le_of_ble_eq_true rfl)⟩ dX10_layElbow_53 (toJ (fun r7 S8 h9 => ?_))
  obtain ⟨er7, rfl⟩ := h9
  refine g_lmul F dX10_layElbow_56 ?_
  refine g_topl (fun x10 ex10 => ?_)
  refine g_lstore (L' := [(13, .long x10), (11, .long r4), (9, .long x3), (7, .long x2), (5, .long x1), (0, .ref (q 94)), (1, .long tx), (3, .long ty)]) F dX10_layElbow_57 (Nat.le_of_ble_eq_true rfl) rfl ?_
  refine g_ldc2 F mw504 dX10_layElbow_59 ?_
  refine g_aload_n (k := 0) F 5 rfl dX10_layElbow_62 ?_
  refine g_iconst (v := 1) F (by decide) dX10_layElbow_63 ?_
  refine g_callV F (kX10_of Γ.1 _ q hq z hz hB 1 (by decide)) okX10_of (qi94 hq) mw496 ⟨(Nat.le_of_ble_eq_true rfl), (Nat.le_of_ble_eq_true rfl)⟩ rfl rfl (Nat.le_of_ble_eq_true rfl) ⟨(Nat.le_of_ble_eq_true rfl), (Nat.le_of_ble_eq_true rfl)⟩ dX10_layElbow_64 (toJ (fun r11 S12 h13 => ?_))
  obtain ⟨er11, rfl⟩ := h13
  refine g_lmul F dX10_layElbow_67 ?_
  refine g_topl (fun x14 ex14 => ?_)
  refine g_lstore (L' := [(15, .long x14), (13, .long x10), (11, .long r4), (9, .long x3), (7, .long x2), (5, .long x1), (0, .ref (q 94)), (1, .long tx), (3, .long ty)]) F dX10_layElbow_68 (Nat.le_of_ble_eq_true rfl) rfl ?_
  refine g_lload F 3 rfl dX10_layElbow_70 ?_
  refine g_lload F 1 rfl dX10_layElbow_72 ?_
  refine g_lload F 1 rfl dX10_layElbow_74 ?_
  refine g_lmul F dX10_layElbow_76 ?_
  refine g_ladd F dX10_layElbow_77 ?_
  refine g_lload F 0 rfl dX10_layElbow_78 ?_
  refine g_lload F 0 rfl dX10_layElbow_80 ?_
  refine g_lmul F dX10_layElbow_82 ?_
  refine g_lsub F dX10_layElbow_83 ?_
  refine g_ldc2 F mw517 dX10_layElbow_84 ?_
  refine g_lload F 2 rfl dX10_layElbow_87 ?_
  refine g_lmul F dX10_layElbow_89 ?_
  refine g_ldiv F dX10_layElbow_90 (by rw [er4, ex3, ex1, ex2]; exact hab.2.2.1) ?_
  refine g_topl (fun x15 ex15 => ?_)
  refine g_lstore (L' := [(17, .long x15), (15, .long x14), (13, .long x10), (11, .long r4), (9, .long x3), (7, .long x2), (5, .long x1), (0, .ref (q 94)), (1, .long tx), (3, .long ty)]) F dX10_layElbow_91 (Nat.le_of_ble_eq_true rfl) rfl ?_
  refine g_lload F 2 rfl dX10_layElbow_93 ?_
  refine g_lload F 2 rfl dX10_layElbow_95 ?_
  refine g_lmul F dX10_layElbow_97 ?_
  refine g_lload F 0 rfl dX10_layElbow_98 ?_
  refine g_lload F 0 rfl dX10_layElbow_100 ?_
  refine g_lmul F dX10_layElbow_102 ?_
  refine g_lsub F dX10_layElbow_103 ?_
  refine g_topl (fun x16 ex16 => ?_)
  refine g_lstore (L' := [(19, .long x16), (17, .long x15), (15, .long x14), (13, .long x10), (11, .long r4), (9, .long x3), (7, .long x2), (5, .long x1), (0, .ref (q 94)), (1, .long tx), (3, .long ty)]) F dX10_layElbow_104 (Nat.le_of_ble_eq_true rfl) rfl ?_
  have hD9 : x3 = zD z tx ty := by rw [ex3, ex1, ex2]; rfl
  have hA9 : x15 = zA z tx ty := by rw [ex15, ex10, ex14, er4, er7, er11, hD9]; rfl
  have hH : x16 = zHb z tx ty := by rw [ex16, ex10, er7, hA9]; rfl
  refine g_lload F 0 rfl dX10_layElbow_106 ?_
  refine g_lconst (v := 0) F (by decide) dX10_layElbow_108 ?_
  refine g_lcmp F dX10_layElbow_109 ?_
  have jn18 : ∀ (w122 : Int64), w122 = (if zHb z tx ty < 0 then 0 else rt (zHb z tx ty)) → G Γ S 0 0 122 [(19, .long x16), (17, .long x15), (15, .long x14), (13, .long x10), (11, .long r4), (9, .long x3), (7, .long x2), (5, .long x1), (0, .ref (q 94)), (1, .long tx), (3, .long ty)] [.long w122] := by
    intro w122 ej
    refine g_lstore (L' := [(21, .long w122), (19, .long x16), (17, .long x15), (15, .long x14), (13, .long x10), (11, .long r4), (9, .long x3), (7, .long x2), (5, .long x1), (0, .ref (q 94)), (1, .long tx), (3, .long ty)]) F dX10_layElbow_122 (Nat.le_of_ble_eq_true rfl) rfl ?_
    refine g_aload_n (k := 0) F 9 rfl dX10_layElbow_124 ?_
    refine g_iconst (v := 3) F (by decide) dX10_layElbow_125 ?_
    refine g_callV F (kX10_of Γ.1 _ q hq z hz hB 3 (by decide)) okX10_of (qi94 hq) mw496 ⟨(Nat.le_of_ble_eq_true rfl), (Nat.le_of_ble_eq_true rfl)⟩ rfl rfl (Nat.le_of_ble_eq_true rfl) ⟨(Nat.le_of_ble_eq_true rfl), (Nat.le_of_ble_eq_true rfl)⟩ dX10_layElbow_126 (toJ (fun r19 S20 h21 => ?_))
    obtain ⟨er19, rfl⟩ := h21
    refine g_lconst (v := 1) F (by decide) dX10_layElbow_129 ?_
    refine g_lcmp F dX10_layElbow_130 ?_
    have jn23 : ∀ (w142 : Int64), w142 = zH z tx ty → G Γ S 0 0 142 [(19, .long x16), (17, .long x15), (15, .long x14), (13, .long x10), (11, .long r4), (9, .long x3), (7, .long x2), (5, .long x1), (0, .ref (q 94)), (1, .long tx), (3, .long ty)] [.long w142] := by
      intro w142 ek
      refine g_lstore (L' := [(21, .long w142), (19, .long x16), (17, .long x15), (15, .long x14), (13, .long x10), (11, .long r4), (9, .long x3), (7, .long x2), (5, .long x1), (0, .ref (q 94)), (1, .long tx), (3, .long ty)]) F dX10_layElbow_142 (Nat.le_of_ble_eq_true rfl) rfl ?_
      refine g_aload_n (k := 0) F 9 rfl dX10_layElbow_144 ?_
      refine g_ldc2 F mw504 dX10_layElbow_145 ?_
      refine g_aload_n (k := 0) F 9 rfl dX10_layElbow_148 ?_
      refine gfX10_7 F (qi94 hq) (qr94_1 hq) dX10_layElbow_149 ?_
      refine g_iconst (v := 0) F (by decide) dX10_layElbow_152 ?_
      refine g_lalde hz (j := 0) F (qi95 hq) rfl (by rw [(qn95 hq)]; omega) (by rw [(qn95 hq)]; decide) dX10_layElbow_153 ?_
      refine g_lmul F dX10_layElbow_154 ?_
      refine g_lload F 8 rfl dX10_layElbow_155 ?_
      refine g_lload F 2 rfl dX10_layElbow_157 ?_
      refine g_lmul F dX10_layElbow_159 ?_
      refine g_lload F 7 rfl dX10_layElbow_160 ?_
      refine g_lload F 0 rfl dX10_layElbow_162 ?_
      refine g_lmul F dX10_layElbow_164 ?_
      refine g_lsub F dX10_layElbow_165 ?_
      refine g_lload F 5 rfl dX10_layElbow_166 ?_
      refine g_ldiv F dX10_layElbow_168 (by rw [er4, ex3, ex1, ex2]; exact hab.2.2.2.1) ?_
      refine g_ladd F dX10_layElbow_169 ?_
      refine g_topl (fun x24 ex24 => ?_)
      refine pfX10_64 F (qi94 hq) dX10_layElbow_170 ?_
      refine g_aload_n (k := 0) F 9 rfl dX10_layElbow_173 ?_
      refine g_ldc2 F mw504 dX10_layElbow_174 ?_
      refine g_aload_n (k := 0) F 9 rfl dX10_layElbow_177 ?_
      refine gfX10_7 F (qi94 hq) (qr94_1 hq) dX10_layElbow_178 ?_
      refine g_iconst (v := 1) F (by decide) dX10_layElbow_181 ?_
      refine g_lalde ((up2_r (qne hq (by decide) (by decide) (by decide))).trans hz) (j := 1) F (qi95 hq) rfl (by rw [(qn95 hq)]; omega) (by rw [(qn95 hq)]; decide) dX10_layElbow_182 ?_
      refine g_lmul F dX10_layElbow_183 ?_
      refine g_lload F 7 rfl dX10_layElbow_184 ?_
      refine g_lload F 2 rfl dX10_layElbow_186 ?_
      refine g_lmul F dX10_layElbow_188 ?_
      refine g_lload F 8 rfl dX10_layElbow_189 ?_
      refine g_lload F 0 rfl dX10_layElbow_191 ?_
      refine g_lmul F dX10_layElbow_193 ?_
      refine g_ladd F dX10_layElbow_194 ?_
      refine g_lload F 5 rfl dX10_layElbow_195 ?_
      refine g_ldiv F dX10_layElbow_197 (by rw [er4, ex3, ex1, ex2]; exact hab.2.2.2.1) ?_
      refine g_ladd F dX10_layElbow_198 ?_
      refine g_topl (fun x25 ex25 => ?_)
      refine pfX10_68 F (qi94 hq) dX10_layElbow_199 ?_
      refine g_vret F T ⟨rfl, ?_⟩ (Nat.le_of_ble_eq_true rfl) (Nat.le_of_ble_eq_true rfl) dX10_layElbow_202
      exact ⟨(Fm.wJ hq (Fm.wJ hq Fm.rf (by decide)) (by decide)), ((up2_k (by decide)).trans up2_s).trans (by rw [ex24, hA9, ek, ex1, ex2, er4, hD9]; rfl), up2_s.trans (by rw [ex25, hA9, ek, ex1, ex2, er4, hD9]; rfl)⟩
    refine g_if_ne (t := 140) F dX10_layElbow_131 (by decide) (fun c22 => ?_) (fun c22 => ?_)
    · rw [lc_eq] at c22
      refine g_lload F 0 rfl dX10_layElbow_140 ?_
      refine g_sub (L' := [(19, .long x16), (17, .long x15), (15, .long x14), (13, .long x10), (11, .long r4), (9, .long x3), (7, .long x2), (5, .long x1), (0, .ref (q 94)), (1, .long tx), (3, .long ty)]) [1, 2, 3, 4, 5, 6, 7, 8, 9, 10, 11] rfl ?_
      exact jn23 (w122) (by rw [er19] at c22; unfold zH; rw [if_neg c22, ej])
    · rw [lc_eq] at c22
      refine g_lload F 0 rfl dX10_layElbow_134 ?_
      refine g_lneg F dX10_layElbow_136 ?_
      refine g_goto (t := 142) F dX10_layElbow_137 (by decide) ?_
      refine g_sub (L' := [(19, .long x16), (17, .long x15), (15, .long x14), (13, .long x10), (11, .long r4), (9, .long x3), (7, .long x2), (5, .long x1), (0, .ref (q 94)), (1, .long tx), (3, .long ty)]) [1, 2, 3, 4, 5, 6, 7, 8, 9, 10, 11] rfl ?_
      exact jn23 ((-w122)) (by rw [er19] at c22; unfold zH; rw [if_pos c22, ej])
  refine g_if_ge (t := 117) F dX10_layElbow_110 (by decide) (fun c17 => ?_) (fun c17 => ?_)
  · rw [lc_ge] at c17
    refine g_lload F 0 rfl dX10_layElbow_117 ?_
    refine g_callS F (kX10_root Γ.1 _ _ (by rw [hH]; omega)) okX10_root mw513 ⟨(Nat.le_of_ble_eq_true rfl), (Nat.le_of_ble_eq_true rfl)⟩ rfl rfl (Nat.le_of_ble_eq_true rfl) ⟨(Nat.le_of_ble_eq_true rfl), (Nat.le_of_ble_eq_true rfl)⟩ dX10_layElbow_119 (toJ (fun r26 S27 h28 => ?_))
    obtain ⟨er26, rfl⟩ := h28
    exact jn18 (r26) (by rw [er26, if_neg (L_nlt.mpr (by rw [← hH]; exact c17)), hH])
  · rw [lc_ge] at c17
    refine g_lconst (v := 0) F (by decide) dX10_layElbow_113 ?_
    refine g_goto (t := 122) F dX10_layElbow_114 (by decide) ?_
    exact jn18 (0) (by rw [if_pos (by rw [← hH]; exact L_nle.mp c17)])
set_option maxHeartbeats 4000000 in
set_option maxRecDepth 100000 in
theorem kX10_swept (g : Glo) (S : PS) (q : Nat → Nat) (hq : Shp S.1 S.2.1 q) (z : ZZ) (hz : pJ S (q 95) = z) (hB : Bz z) (tx ty ux uy : Int64) (ht : wtn tx (-50000) 50000 ∧ wtn ty (-50000) 50000 ∧ zRe z tx ty) (hu : wtn ux (-50000) 50000 ∧ wtn uy (-50000) 50000 ∧ zRe z ux uy) : Ct g mX10_swept 0 0 [.ref (q 94), .long tx, .long ty, .long ux, .long uy] S (pJ9 (fun r S' => r = zSw z tx ty ux uy ∧ Fm S S' q [7, 8])) := by
  refine Ct.of (by decide) (Nat.le_of_ble_eq_true rfl) (fun Γ hg F T => ?_)
  subst hg
  show G Γ S 0 0 0 [(0, .ref (q 94)), (1, .long tx), (3, .long ty), (5, .long ux), (7, .long uy)] []
  refine g_aload_n (k := 0) F 0 rfl dX10_swept_0 ?_
  refine g_lload_n (k := 1) F 1 rfl dX10_swept_1 ?_
  refine g_lload_n (k := 3) F 2 rfl dX10_swept_2 ?_
  refine g_callV F (kX10_layElbow Γ.1 S q hq z hz hB tx ty ht.1 ht.2.1 ht.2.2) okX10_layElbow (qi94 hq) mw542 ⟨(Nat.le_of_ble_eq_true rfl), (Nat.le_of_ble_eq_true rfl)⟩ rfl rfl (Nat.le_of_ble_eq_true rfl) ⟨(Nat.le_of_ble_eq_true rfl), (Nat.le_of_ble_eq_true rfl)⟩ dX10_swept_3 (toV (fun S2 h3 => ?_))
  have hq4 : Shp S2.1 S2.2.1 q := Fm.q h3.1 hq
  refine g_aload_n (k := 0) F 0 rfl dX10_swept_6 ?_
  refine gfX10_64e F (qi94 hq4) h3.2.1 dX10_swept_7 ?_
  refine g_topl (fun x5 ex5 => ?_)
  refine g_lstore (L' := [(9, .long x5), (0, .ref (q 94)), (1, .long tx), (3, .long ty), (5, .long ux), (7, .long uy)]) F dX10_swept_10 (Nat.le_of_ble_eq_true rfl) rfl ?_
  refine g_aload_n (k := 0) F 1 rfl dX10_swept_12 ?_
  refine gfX10_68e F (qi94 hq4) h3.2.2 dX10_swept_13 ?_
  refine g_topl (fun x6 ex6 => ?_)
  refine g_lstore (L' := [(11, .long x6), (9, .long x5), (0, .ref (q 94)), (1, .long tx), (3, .long ty), (5, .long ux), (7, .long uy)]) F dX10_swept_16 (Nat.le_of_ble_eq_true rfl) rfl ?_
  refine g_aload_n (k := 0) F 2 rfl dX10_swept_18 ?_
  refine g_lload F 5 rfl dX10_swept_19 ?_
  refine g_lload F 6 rfl dX10_swept_21 ?_
  refine g_callV F (kX10_layElbow Γ.1 S2 q hq4 z ((h3.1.1.2.2 (95) (by decide) (by decide)).2.trans hz) hB ux uy hu.1 hu.2.1 hu.2.2) okX10_layElbow (qi94 hq4) mw542 ⟨(Nat.le_of_ble_eq_true rfl), (Nat.le_of_ble_eq_true rfl)⟩ rfl rfl (Nat.le_of_ble_eq_true rfl) ⟨(Nat.le_of_ble_eq_true rfl), (Nat.le_of_ble_eq_true rfl)⟩ dX10_swept_23 (toV (fun S8 h9 => ?_))
  have hq10 : Shp S8.1 S8.2.1 q := Fm.q h9.1 hq4
  refine g_lload F 1 rfl dX10_swept_26 ?_
  refine g_lload F 0 rfl dX10_swept_28 ?_
  refine g_lload_n (k := 1) F 3 rfl dX10_swept_30 ?_
  refine g_lload_n (k := 3) F 4 rfl dX10_swept_31 ?_
  refine g_lload F 5 rfl dX10_swept_32 ?_
  refine g_lload F 6 rfl dX10_swept_34 ?_
  refine g_callS F (kX10_turn Γ.1 _ _ _ _ _ _ _) okX10_turn mw478 ⟨(Nat.le_of_ble_eq_true rfl), (Nat.le_of_ble_eq_true rfl)⟩ rfl rfl (Nat.le_of_ble_eq_true rfl) ⟨(Nat.le_of_ble_eq_true rfl), (Nat.le_of_ble_eq_true rfl)⟩ dX10_swept_36 (toJ (fun r11 S12 h13 => ?_))
  obtain ⟨er11, rfl⟩ := h13
  refine g_lload F 1 rfl dX10_swept_39 ?_
  refine g_lload F 0 rfl dX10_swept_41 ?_
  refine g_lload F 5 rfl dX10_swept_43 ?_
  refine g_lload F 6 rfl dX10_swept_45 ?_
  refine g_aload_n (k := 0) F 2 rfl dX10_swept_47 ?_
  refine gfX10_64e F (qi94 hq10) h9.2.1 dX10_swept_48 ?_
  refine g_aload_n (k := 0) F 2 rfl dX10_swept_51 ?_
  refine gfX10_68e F (qi94 hq10) h9.2.2 dX10_swept_52 ?_
  refine g_callS F (kX10_turn Γ.1 _ _ _ _ _ _ _) okX10_turn mw478 ⟨(Nat.le_of_ble_eq_true rfl), (Nat.le_of_ble_eq_true rfl)⟩ rfl rfl (Nat.le_of_ble_eq_true rfl) ⟨(Nat.le_of_ble_eq_true rfl), (Nat.le_of_ble_eq_true rfl)⟩ dX10_swept_55 (toJ (fun r14 S15 h16 => ?_))
  obtain ⟨er14, rfl⟩ := h16
  refine g_ladd F dX10_swept_58 ?_
  refine g_lret F T ⟨_, rfl, ?_⟩ (Nat.le_of_ble_eq_true rfl) (Nat.le_of_ble_eq_true rfl) dX10_swept_59
  exact ⟨by rw [er11, er14, ex5, ex6]; rfl, (Fm.tr (Fm.tr Fm.rf h3.1 (by decide)) h9.1 (by decide))⟩
set_option maxHeartbeats 4000000 in
set_option maxRecDepth 100000 in
theorem kX10_isReached (g : Glo) (S : PS) (q : Nat → Nat) (hq : Shp S.1 S.2.1 q) (z : ZZ) (hz : pJ S (q 95) = z) (hB : Bz z) (h0 : 0 < nc z) (k : Nat) (hk : k < 1000) : Ct g mX10_isReached 0 0 [.ref (q 94), .int (nI k)] S (pI9 (fun r S' => (r = 1 ∧ zRk z k ∨ r = 0 ∧ ¬ zRk z k) ∧ S = S')) := by
  refine Ct.of (by decide) (Nat.le_of_ble_eq_true rfl) (fun Γ hg F T => ?_)
  subst hg
  show G Γ S 0 0 0 [(0, .ref (q 94)), (1, .int (nI k))] []
  have hnc := (nc_e hB).2
  have hmd := Nat.mod_lt k h0
  have hzn := zN_b hB h0 k
  refine g_iconst (v := 1) F (by decide) dX10_isReached_0 ?_
  refine g_istore_n (k := 2) (L' := [(2, .int 1), (0, .ref (q 94)), (1, .int (nI k))]) F dX10_isReached_1 (Nat.le_of_ble_eq_true rfl) rfl ?_
  refine g_iconst (v := 0) F (by decide) dX10_isReached_2 ?_
  refine g_istore_n (k := 3) (L' := [(3, .int 0), (2, .int 1), (0, .ref (q 94)), (1, .int (nI k))]) F dX10_isReached_3 (Nat.le_of_ble_eq_true rfl) rfl ?_
  have lp1 : ∀ (n9 : Nat) (i : Nat) (b : Int32), zN z k + 1 < i + n9 → (i ≤ zN z k + 1) → ((b = 1 ∧ ∀ j, j < i → zRe z (zPx z k j) (zPy z k j)) ∨ (b = 0 ∧ ¬ zRk z k)) → G Γ S 0 0 4 [(3, .int (nI i)), (2, .int b), (0, .ref (q 94)), (1, .int (nI k))] [] := by
    intro n9
    induction n9 with
    | zero =>
      intro i b hm9 hi hb
      exact absurd hm9 (by omega)
    | succ n9 ihlp1 =>
      intro i b hm9 hi hb
      refine g_iload_n (k := 3) F 0 rfl dX10_isReached_4 ?_
      refine g_aload_n (k := 0) F 2 rfl dX10_isReached_5 ?_
      refine g_iload_n (k := 1) F 3 rfl dX10_isReached_6 ?_
      refine g_callV F (kX10_steps Γ.1 _ q hq z hz hB h0 k (by omega)) okX10_steps (qi94 hq) mw489 ⟨(Nat.le_of_ble_eq_true rfl), (Nat.le_of_ble_eq_true rfl)⟩ rfl rfl (Nat.le_of_ble_eq_true rfl) ⟨(Nat.le_of_ble_eq_true rfl), (Nat.le_of_ble_eq_true rfl)⟩ dX10_isReached_7 (toI (fun r2 S3 h4 => ?_))
      obtain ⟨rfl, rfl⟩ := h4
      refine g_icmp_gt (t := 40) F dX10_isReached_10 (by decide) (fun c5 => ?_) (fun c5 => ?_)
      · have hi9 : zN z k < i := by rw [nI_ltI (by omega) (by omega)] at c5; exact c5
        refine g_iload_n (k := 2) F 1 rfl dX10_isReached_40 ?_
        refine g_zret F T (by rcases hb with ⟨rfl, _⟩ | ⟨rfl, _⟩ <;> rfl) ⟨_, rfl, ?_⟩ (Nat.le_of_ble_eq_true rfl) (Nat.le_of_ble_eq_true rfl) dX10_isReached_41
        exact ⟨rk_end hb (Or.inl hi9), rfl⟩
      · have hi9 : i ≤ zN z k := by rw [nI_ltI (by omega) (by omega)] at c5; omega
        refine g_iload_n (k := 2) F 1 rfl dX10_isReached_13 ?_
        refine g_if_eq (t := 40) F dX10_isReached_14 (by decide) (fun c6 => ?_) (fun c6 => ?_)
        · refine g_iload_n (k := 2) F 1 rfl dX10_isReached_40 ?_
          refine g_zret F T (by rcases hb with ⟨rfl, _⟩ | ⟨rfl, _⟩ <;> rfl) ⟨_, rfl, ?_⟩ (Nat.le_of_ble_eq_true rfl) (Nat.le_of_ble_eq_true rfl) dX10_isReached_41
          exact ⟨rk_end hb (Or.inr c6), rfl⟩
        · refine g_aload_n (k := 0) F 2 rfl dX10_isReached_17 ?_
          refine g_aload_n (k := 0) F 2 rfl dX10_isReached_18 ?_
          refine g_iload_n (k := 1) F 3 rfl dX10_isReached_19 ?_
          refine g_iload_n (k := 3) F 0 rfl dX10_isReached_20 ?_
          refine g_callV F (kX10_pointX Γ.1 _ q hq z hz hB h0 k (by omega) i (by omega)) okX10_pointX (qi94 hq) mw500 ⟨(Nat.le_of_ble_eq_true rfl), (Nat.le_of_ble_eq_true rfl)⟩ rfl rfl (Nat.le_of_ble_eq_true rfl) ⟨(Nat.le_of_ble_eq_true rfl), (Nat.le_of_ble_eq_true rfl)⟩ dX10_isReached_21 (toJ (fun r7 S8 h9 => ?_))
          obtain ⟨er7, rfl⟩ := h9
          refine g_aload_n (k := 0) F 2 rfl dX10_isReached_24 ?_
          refine g_iload_n (k := 1) F 3 rfl dX10_isReached_25 ?_
          refine g_iload_n (k := 3) F 0 rfl dX10_isReached_26 ?_
          refine g_callV F (kX10_pointY Γ.1 _ q hq z hz hB h0 k (by omega) i (by omega)) okX10_pointY (qi94 hq) mw505 ⟨(Nat.le_of_ble_eq_true rfl), (Nat.le_of_ble_eq_true rfl)⟩ rfl rfl (Nat.le_of_ble_eq_true rfl) ⟨(Nat.le_of_ble_eq_true rfl), (Nat.le_of_ble_eq_true rfl)⟩ dX10_isReached_27 (toJ (fun r10 S11 h12 => ?_))
          obtain ⟨er10, rfl⟩ := h12
          refine g_callV F (kX10_reaches Γ.1 _ q hq z hz hB r7 r10 (by rw [er7]; exact (zP_b hB h0 hi9).1) (by rw [er10]; exact (zP_b hB h0 hi9).2)) okX10_reaches (qi94 hq) mw509 ⟨(Nat.le_of_ble_eq_true rfl), (Nat.le_of_ble_eq_true rfl)⟩ rfl rfl (Nat.le_of_ble_eq_true rfl) ⟨(Nat.le_of_ble_eq_true rfl), (Nat.le_of_ble_eq_true rfl)⟩ dX10_isReached_30 (toI (fun r13 S14 h15 => ?_))
          obtain ⟨er13, rfl⟩ := h15
          refine g_istore_n (k := 2) (L' := [(2, .int r13), (3, .int (nI i)), (0, .ref (q 94)), (1, .int (nI k))]) F dX10_isReached_33 (Nat.le_of_ble_eq_true rfl) rfl ?_
          obtain ⟨x16, ex16⟩ : ∃ y9 : Int32, y9 = (nI i) + 1 := ⟨_, rfl⟩
          refine g_iinc (k := 1) (v := x16) (L' := [(3, .int x16), (2, .int r13), (0, .ref (q 94)), (1, .int (nI k))]) F dX10_isReached_34 rfl (by rw [ex16]; rfl) (Nat.le_of_ble_eq_true rfl) rfl ?_
          refine g_goto (t := 4) F dX10_isReached_37 (by decide) ?_
          obtain rfl : x16 = nI (i + 1) := (ex16.trans (nI_1 _))
          refine g_sub (L' := [(3, .int (nI (i + 1))), (2, .int r13), (0, .ref (q 94)), (1, .int (nI k))]) [0, 1, 2, 3] rfl ?_
          exact ihlp1 (i + 1) (r13) (by omega) (by omega) (rk_step hb hi9 c6 (by rw [er7, er10] at er13; exact er13))
  exact lp1 (zN z k + 2) 0 1 (by omega) (by omega) (Or.inl ⟨rfl, fun j hj => absurd hj (Nat.not_lt_zero j)⟩)
