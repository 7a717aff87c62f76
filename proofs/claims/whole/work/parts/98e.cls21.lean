abbrev rmL : Room × Nat := ({ frames := 13, cells := 601024, slots := 7293034, locals := 508 }, 9)
set_option maxHeartbeats 4000000 in
set_option maxRecDepth 100000 in
theorem lc_0 {Γ : Ctx} {b L : Nat} {xs : Nat → Int32} (F : Fx Γ RL cL_law rmL) (hX : va_X b L xs (ks Γ) (ks Γ).heap) (hb : b < Γ.1.2.2.2.1) (hL : L ≤ 2560) (S : PS) (q : Nat → Nat) (hq : Shp S.1 S.2.1 q) (z : ZZ) (H : List ZZ) (l : Int32) (n : Nat) (tx : Nat → Int32) (hI : Iw (z, H, l, n, tx)) (hC : Cl S q (z, H, l, n, tx)) (hM : Mw S q (z, H, l, n, tx)) (c m : Nat) (hc : c ≤ 600000) (hm : m ≤ 7000000) (i : Nat) (hi : i + 5 ≤ L) (kk : ∀ (S' : PS) (w : WW) (c' m' : Nat), Shp S'.1 S'.2.1 q → Iw w → Cl S' q w → Mw S' q w → c' ≤ c + 3 → m' ≤ m + 18 → G Γ S' c' m' 1508 [(0, .ref b), (1, .ref (q 80)), (2, .ref (q 94)), (3, .ref (q 100)), (4, .int (nI i))] []) : G Γ S c m 156 [(0, .ref b), (1, .ref (q 80)), (2, .ref (q 94)), (3, .ref (q 100)), (4, .int (nI i))] [] := by
  refine g_aload_n (k := 1) F 1 rfl dL_law_156 ?_
  refine g_aload_n (k := 0) F 0 rfl dL_law_157 ?_
  refine g_iload F 4 rfl dL_law_158 ?_
  refine g_iconst (v := 1) F (by decide) dL_law_160 ?_
  refine g_iadd F dL_law_161 ?_
  refine g_rei (nI (i + 1)) (nadd rfl rfl) ?_
  refine g_sald (j := (i + 1)) F hX hb rfl (by omega) (by omega) dL_law_162 ?_
  refine g_aload_n (k := 0) F 0 rfl dL_law_163 ?_
  refine g_iload F 4 rfl dL_law_164 ?_
  refine g_iconst (v := 2) F (by decide) dL_law_166 ?_
  refine g_iadd F dL_law_167 ?_
  refine g_rei (nI (i + 2)) (nadd rfl rfl) ?_
  refine g_sald (j := (i + 2)) F hX hb rfl (by omega) (by omega) dL_law_168 ?_
  refine g_aload_n (k := 3) F 3 rfl dL_law_169 ?_
  refine g_callSW F (kL_setAnchor Γ.1 S q hq z H l n tx hI hC (xs (i + 1)) (xs (i + 2))) okL_setAnchor mw112 ⟨(Nat.le_of_ble_eq_true rfl), (Nat.le_of_ble_eq_true rfl)⟩ rfl rfl (Nat.le_of_ble_eq_true rfl) ⟨by show c + 3 ≤ 601024; omega, by show m + 18 ≤ 7293034; omega⟩ dL_law_170 (toI (fun r1 S2 h3 => ?_))
  obtain ⟨er1, o1, f1, c1⟩ := h3
  have q1 : Shp S2.1 S2.2.1 q := FrP.q f1 hq
  have m1 := Mo_x f1 hM
  refine g_istore (L' := [(5, .int r1), (0, .ref b), (1, .ref (q 80)), (2, .ref (q 94)), (3, .ref (q 100)), (4, .int (nI i))]) F dL_law_173 (Nat.le_of_ble_eq_true rfl) rfl ?_
  refine g_aload_n (k := 2) F 3 rfl dL_law_175 ?_
  refine g_aload_n (k := 0) F 1 rfl dL_law_176 ?_
  refine g_iload F 5 rfl dL_law_177 ?_
  refine g_iconst (v := 1) F (by decide) dL_law_179 ?_
  refine g_iadd F dL_law_180 ?_
  refine g_rei (nI (i + 1)) (nadd rfl rfl) ?_
  refine g_sald (j := (i + 1)) F hX hb rfl (by omega) (by omega) dL_law_181 ?_
  refine g_aload_n (k := 0) F 1 rfl dL_law_182 ?_
  refine g_iload F 5 rfl dL_law_183 ?_
  refine g_iconst (v := 2) F (by decide) dL_law_185 ?_
  refine g_iadd F dL_law_186 ?_
  refine g_rei (nI (i + 2)) (nadd rfl rfl) ?_
  refine g_sald (j := (i + 2)) F hX hb rfl (by omega) (by omega) dL_law_187 ?_
  refine g_callV F (kX10_setAnchor Γ.1 S2 q q1 z m1.1 hI.1.1 H l n tx m1 (xs (i + 1)) (xs (i + 2))) okX10_setAnchor (qi94 q1) mw151 ⟨(Nat.le_of_ble_eq_true rfl), (Nat.le_of_ble_eq_true rfl)⟩ rfl rfl (Nat.le_of_ble_eq_true rfl) ⟨by show (c + 3) + 0 ≤ 601024; omega, by show (m + 18) + 0 ≤ 7293034; omega⟩ dL_law_188 (toI (fun r4 S5 h6 => ?_))
  obtain ⟨er4, g4, t4, m4⟩ := h6
  have q4 : Shp S5.1 S5.2.1 q := Fr.q g4 q1
  have c4 := Cl_m g4 (by decide) c1
  refine g_istore (L' := [(6, .int r4), (5, .int r1), (0, .ref b), (1, .ref (q 80)), (2, .ref (q 94)), (3, .ref (q 100)), (4, .int (nI i))]) F dL_law_191 (Nat.le_of_ble_eq_true rfl) rfl ?_
  refine g_aload_n (k := 2) F 4 rfl dL_law_193 ?_
  refine g_callV F (kX10_thrown Γ.1 S5 q q4) okX10_thrown (qi94 q4) mw170 ⟨(Nat.le_of_ble_eq_true rfl), (Nat.le_of_ble_eq_true rfl)⟩ rfl rfl (Nat.le_of_ble_eq_true rfl) ⟨by show (c + 3) + 0 ≤ 601024; omega, by show (m + 18) + 0 ≤ 7293034; omega⟩ dL_law_194 (toI (fun r7 S8 h9 => ?_))
  obtain ⟨er7, rfl⟩ := h9
  refine g_iload F 1 rfl dL_law_197 ?_
  refine g_icmp_eq (t := 204) F dL_law_199 (by decide) (fun u10 => ?_) (fun u10 => ?_)
  · refine g_iload F 1 rfl dL_law_204 ?_
    refine g_if_ne (t := 221) F dL_law_206 (by decide) (fun u11 => ?_) (fun u11 => ?_)
    · refine g_goto (t := 1508) F dL_law_221 (by decide) ?_
      refine g_sub (L' := [(0, .ref b), (1, .ref (q 80)), (2, .ref (q 94)), (3, .ref (q 100)), (4, .int (nI i))]) [2, 3, 4, 5, 6] rfl ?_
      exact kk _ (oAnc (xs (i + 1)) (xs (i + 2)) (z, H, l, n, tx)).2.2 _ _ q4 (I_Anc hI) c4 m4 (by omega) (by omega)
    · refine g_aload_n (k := 3) F 5 rfl dL_law_209 ?_
      refine g_iconst (v := 0) F (by decide) dL_law_210 ?_
      refine g_lald (j := 0) F (qi100 q4) rfl (by rw [qn100 q4]; decide) (by rw [qn100 q4]; decide) dL_law_211 ?_
      refine g_iload F 0 rfl dL_law_212 ?_
      refine g_i2l F dL_law_214 ?_
      refine g_lcmp F dL_law_215 ?_
      refine g_if_eq (t := 221) F dL_law_216 (by decide) (fun u12 => ?_) (fun u12 => ?_)
      · refine g_goto (t := 1508) F dL_law_221 (by decide) ?_
        refine g_sub (L' := [(0, .ref b), (1, .ref (q 80)), (2, .ref (q 94)), (3, .ref (q 100)), (4, .int (nI i))]) [2, 3, 4, 5, 6] rfl ?_
        exact kk _ (oAnc (xs (i + 1)) (xs (i + 2)) (z, H, l, n, tx)).2.2 _ _ q4 (I_Anc hI) c4 m4 (by omega) (by omega)
      · refine absurd (lc_eq.mpr ?_) u12
        rw [(g4.2.2 100 (by decide) (by decide)).2]
        exact (o1 (er1.symm.trans u11)).trans (by rw [er4])
  · exact absurd (by rw [er7, t4, er1]) u10
set_option maxHeartbeats 4000000 in
set_option maxRecDepth 100000 in
theorem lc_1 {Γ : Ctx} {b L : Nat} {xs : Nat → Int32} (F : Fx Γ RL cL_law rmL) (hX : va_X b L xs (ks Γ) (ks Γ).heap) (hb : b < Γ.1.2.2.2.1) (hL : L ≤ 2560) (S : PS) (q : Nat → Nat) (hq : Shp S.1 S.2.1 q) (z : ZZ) (H : List ZZ) (l : Int32) (n : Nat) (tx : Nat → Int32) (hI : Iw (z, H, l, n, tx)) (hC : Cl S q (z, H, l, n, tx)) (hM : Mw S q (z, H, l, n, tx)) (c m : Nat) (hc : c ≤ 600000) (hm : m ≤ 7000000) (i : Nat) (hi : i + 5 ≤ L) (kk : ∀ (S' : PS) (w : WW) (c' m' : Nat), Shp S'.1 S'.2.1 q → Iw w → Cl S' q w → Mw S' q w → c' ≤ c + 3 → m' ≤ m + 18 → G Γ S' c' m' 1508 [(0, .ref b), (1, .ref (q 80)), (2, .ref (q 94)), (3, .ref (q 100)), (4, .int (nI i))] []) : G Γ S c m 224 [(0, .ref b), (1, .ref (q 80)), (2, .ref (q 94)), (3, .ref (q 100)), (4, .int (nI i))] [] := by
  refine g_aload_n (k := 1) F 1 rfl dL_law_224 ?_
  refine g_aload_n (k := 0) F 0 rfl dL_law_225 ?_
  refine g_iload F 4 rfl dL_law_226 ?_
  refine g_iconst (v := 1) F (by decide) dL_law_228 ?_
  refine g_iadd F dL_law_229 ?_
  refine g_rei (nI (i + 1)) (nadd rfl rfl) ?_
  refine g_sald (j := (i + 1)) F hX hb rfl (by omega) (by omega) dL_law_230 ?_
  refine g_aload_n (k := 0) F 0 rfl dL_law_231 ?_
  refine g_iload F 4 rfl dL_law_232 ?_
  refine g_iconst (v := 2) F (by decide) dL_law_234 ?_
  refine g_iadd F dL_law_235 ?_
  refine g_rei (nI (i + 2)) (nadd rfl rfl) ?_
  refine g_sald (j := (i + 2)) F hX hb rfl (by omega) (by omega) dL_law_236 ?_
  refine g_aload_n (k := 3) F 3 rfl dL_law_237 ?_
  refine g_callSW F (kL_set Γ.1 S q hq z H l n tx hI hC (xs (i + 1)) (xs (i + 2))) okL_set mw174 ⟨(Nat.le_of_ble_eq_true rfl), (Nat.le_of_ble_eq_true rfl)⟩ rfl rfl (Nat.le_of_ble_eq_true rfl) ⟨by show c + 3 ≤ 601024; omega, by show m + 18 ≤ 7293034; omega⟩ dL_law_238 (toI (fun r1 S2 h3 => ?_))
  obtain ⟨er1, o1, f1, c1⟩ := h3
  have q1 : Shp S2.1 S2.2.1 q := FrP.q f1 hq
  have m1 := Mo_x f1 hM
  refine g_istore (L' := [(5, .int r1), (0, .ref b), (1, .ref (q 80)), (2, .ref (q 94)), (3, .ref (q 100)), (4, .int (nI i))]) F dL_law_241 (Nat.le_of_ble_eq_true rfl) rfl ?_
  refine g_aload_n (k := 2) F 3 rfl dL_law_243 ?_
  refine g_aload_n (k := 0) F 1 rfl dL_law_244 ?_
  refine g_iload F 5 rfl dL_law_245 ?_
  refine g_iconst (v := 1) F (by decide) dL_law_247 ?_
  refine g_iadd F dL_law_248 ?_
  refine g_rei (nI (i + 1)) (nadd rfl rfl) ?_
  refine g_sald (j := (i + 1)) F hX hb rfl (by omega) (by omega) dL_law_249 ?_
  refine g_aload_n (k := 0) F 1 rfl dL_law_250 ?_
  refine g_iload F 5 rfl dL_law_251 ?_
  refine g_iconst (v := 2) F (by decide) dL_law_253 ?_
  refine g_iadd F dL_law_254 ?_
  refine g_rei (nI (i + 2)) (nadd rfl rfl) ?_
  refine g_sald (j := (i + 2)) F hX hb rfl (by omega) (by omega) dL_law_255 ?_
  refine g_callV F (kX10_set Γ.1 S2 q q1 z m1.1 hI.1.1 H l n tx m1 (xs (i + 1)) (xs (i + 2))) okX10_set (qi94 q1) mw192 ⟨(Nat.le_of_ble_eq_true rfl), (Nat.le_of_ble_eq_true rfl)⟩ rfl rfl (Nat.le_of_ble_eq_true rfl) ⟨by show (c + 3) + 0 ≤ 601024; omega, by show (m + 18) + 0 ≤ 7293034; omega⟩ dL_law_256 (toI (fun r4 S5 h6 => ?_))
  obtain ⟨er4, g4, t4, m4⟩ := h6
  have q4 : Shp S5.1 S5.2.1 q := Fr.q g4 q1
  have c4 := Cl_m g4 (by decide) c1
  refine g_istore (L' := [(6, .int r4), (5, .int r1), (0, .ref b), (1, .ref (q 80)), (2, .ref (q 94)), (3, .ref (q 100)), (4, .int (nI i))]) F dL_law_259 (Nat.le_of_ble_eq_true rfl) rfl ?_
  refine g_aload_n (k := 2) F 4 rfl dL_law_261 ?_
  refine g_callV F (kX10_thrown Γ.1 S5 q q4) okX10_thrown (qi94 q4) mw170 ⟨(Nat.le_of_ble_eq_true rfl), (Nat.le_of_ble_eq_true rfl)⟩ rfl rfl (Nat.le_of_ble_eq_true rfl) ⟨by show (c + 3) + 0 ≤ 601024; omega, by show (m + 18) + 0 ≤ 7293034; omega⟩ dL_law_262 (toI (fun r7 S8 h9 => ?_))
  obtain ⟨er7, rfl⟩ := h9
  refine g_iload F 1 rfl dL_law_265 ?_
  refine g_icmp_eq (t := 272) F dL_law_267 (by decide) (fun u10 => ?_) (fun u10 => ?_)
  · refine g_iload F 1 rfl dL_law_272 ?_
    refine g_if_ne (t := 289) F dL_law_274 (by decide) (fun u11 => ?_) (fun u11 => ?_)
    · refine g_goto (t := 1508) F dL_law_289 (by decide) ?_
      refine g_sub (L' := [(0, .ref b), (1, .ref (q 80)), (2, .ref (q 94)), (3, .ref (q 100)), (4, .int (nI i))]) [2, 3, 4, 5, 6] rfl ?_
      exact kk _ (oSet (xs (i + 1)) (xs (i + 2)) (z, H, l, n, tx)).2.2 _ _ q4 (I_Set hI) c4 m4 (by omega) (by omega)
    · refine g_aload_n (k := 3) F 5 rfl dL_law_277 ?_
      refine g_iconst (v := 0) F (by decide) dL_law_278 ?_
      refine g_lald (j := 0) F (qi100 q4) rfl (by rw [qn100 q4]; decide) (by rw [qn100 q4]; decide) dL_law_279 ?_
      refine g_iload F 0 rfl dL_law_280 ?_
      refine g_i2l F dL_law_282 ?_
      refine g_lcmp F dL_law_283 ?_
      refine g_if_eq (t := 289) F dL_law_284 (by decide) (fun u12 => ?_) (fun u12 => ?_)
      · refine g_goto (t := 1508) F dL_law_289 (by decide) ?_
        refine g_sub (L' := [(0, .ref b), (1, .ref (q 80)), (2, .ref (q 94)), (3, .ref (q 100)), (4, .int (nI i))]) [2, 3, 4, 5, 6] rfl ?_
        exact kk _ (oSet (xs (i + 1)) (xs (i + 2)) (z, H, l, n, tx)).2.2 _ _ q4 (I_Set hI) c4 m4 (by omega) (by omega)
      · refine absurd (lc_eq.mpr ?_) u12
        rw [(g4.2.2 100 (by decide) (by decide)).2]
        exact (o1 (er1.symm.trans u11)).trans (by rw [er4])
  · exact absurd (by rw [er7, t4, er1]) u10
set_option maxHeartbeats 4000000 in
set_option maxRecDepth 100000 in
theorem lc_2 {Γ : Ctx} {b L : Nat} {xs : Nat → Int32} (F : Fx Γ RL cL_law rmL) (hX : va_X b L xs (ks Γ) (ks Γ).heap) (hb : b < Γ.1.2.2.2.1) (hL : L ≤ 2560) (S : PS) (q : Nat → Nat) (hq : Shp S.1 S.2.1 q) (z : ZZ) (H : List ZZ) (l : Int32) (n : Nat) (tx : Nat → Int32) (hI : Iw (z, H, l, n, tx)) (hC : Cl S q (z, H, l, n, tx)) (hM : Mw S q (z, H, l, n, tx)) (c m : Nat) (hc : c ≤ 600000) (hm : m ≤ 7000000) (i : Nat) (hi : i + 5 ≤ L) (kk : ∀ (S' : PS) (w : WW) (c' m' : Nat), Shp S'.1 S'.2.1 q → Iw w → Cl S' q w → Mw S' q w → c' ≤ c + 3 → m' ≤ m + 18 → G Γ S' c' m' 1508 [(0, .ref b), (1, .ref (q 80)), (2, .ref (q 94)), (3, .ref (q 100)), (4, .int (nI i))] []) : G Γ S c m 292 [(0, .ref b), (1, .ref (q 80)), (2, .ref (q 94)), (3, .ref (q 100)), (4, .int (nI i))] [] := by
  refine g_aload_n (k := 1) F 1 rfl dL_law_292 ?_
  refine g_aload_n (k := 0) F 0 rfl dL_law_293 ?_
  refine g_iload F 4 rfl dL_law_294 ?_
  refine g_iconst (v := 1) F (by decide) dL_law_296 ?_
  refine g_iadd F dL_law_297 ?_
  refine g_rei (nI (i + 1)) (nadd rfl rfl) ?_
  refine g_sald (j := (i + 1)) F hX hb rfl (by omega) (by omega) dL_law_298 ?_
  refine g_aload_n (k := 3) F 3 rfl dL_law_299 ?_
  refine g_callSW F (kL_setTolerance Γ.1 S q hq z H l n tx hI hC (xs (i + 1))) okL_setTolerance mw210 ⟨(Nat.le_of_ble_eq_true rfl), (Nat.le_of_ble_eq_true rfl)⟩ rfl rfl (Nat.le_of_ble_eq_true rfl) ⟨by show c + 3 ≤ 601024; omega, by show m + 18 ≤ 7293034; omega⟩ dL_law_300 (toI (fun r1 S2 h3 => ?_))
  obtain ⟨er1, o1, f1, c1⟩ := h3
  have q1 : Shp S2.1 S2.2.1 q := FrP.q f1 hq
  have m1 := Mo_x f1 hM
  refine g_istore (L' := [(5, .int r1), (0, .ref b), (1, .ref (q 80)), (2, .ref (q 94)), (3, .ref (q 100)), (4, .int (nI i))]) F dL_law_303 (Nat.le_of_ble_eq_true rfl) rfl ?_
  refine g_aload_n (k := 2) F 3 rfl dL_law_305 ?_
  refine g_aload_n (k := 0) F 1 rfl dL_law_306 ?_
  refine g_iload F 5 rfl dL_law_307 ?_
  refine g_iconst (v := 1) F (by decide) dL_law_309 ?_
  refine g_iadd F dL_law_310 ?_
  refine g_rei (nI (i + 1)) (nadd rfl rfl) ?_
  refine g_sald (j := (i + 1)) F hX hb rfl (by omega) (by omega) dL_law_311 ?_
  refine g_callV F (kX10_setTolerance Γ.1 S2 q q1 z m1.1 hI.1.1 H l n tx m1 (xs (i + 1))) okX10_setTolerance (qi94 q1) mw218 ⟨(Nat.le_of_ble_eq_true rfl), (Nat.le_of_ble_eq_true rfl)⟩ rfl rfl (Nat.le_of_ble_eq_true rfl) ⟨by show (c + 3) + 0 ≤ 601024; omega, by show (m + 18) + 0 ≤ 7293034; omega⟩ dL_law_312 (toI (fun r4 S5 h6 => ?_))
  obtain ⟨er4, g4, t4, m4⟩ := h6
  have q4 : Shp S5.1 S5.2.1 q := Fr.q g4 q1
  have c4 := Cl_m g4 (by decide) c1
  refine g_istore (L' := [(6, .int r4), (5, .int r1), (0, .ref b), (1, .ref (q 80)), (2, .ref (q 94)), (3, .ref (q 100)), (4, .int (nI i))]) F dL_law_315 (Nat.le_of_ble_eq_true rfl) rfl ?_
  refine g_aload_n (k := 2) F 4 rfl dL_law_317 ?_
  refine g_callV F (kX10_thrown Γ.1 S5 q q4) okX10_thrown (qi94 q4) mw170 ⟨(Nat.le_of_ble_eq_true rfl), (Nat.le_of_ble_eq_true rfl)⟩ rfl rfl (Nat.le_of_ble_eq_true rfl) ⟨by show (c + 3) + 0 ≤ 601024; omega, by show (m + 18) + 0 ≤ 7293034; omega⟩ dL_law_318 (toI (fun r7 S8 h9 => ?_))
  obtain ⟨er7, rfl⟩ := h9
  refine g_iload F 1 rfl dL_law_321 ?_
  refine g_icmp_eq (t := 328) F dL_law_323 (by decide) (fun u10 => ?_) (fun u10 => ?_)
  · refine g_iload F 1 rfl dL_law_328 ?_
    refine g_if_ne (t := 345) F dL_law_330 (by decide) (fun u11 => ?_) (fun u11 => ?_)
    · refine g_goto (t := 1508) F dL_law_345 (by decide) ?_
      refine g_sub (L' := [(0, .ref b), (1, .ref (q 80)), (2, .ref (q 94)), (3, .ref (q 100)), (4, .int (nI i))]) [2, 3, 4, 5, 6] rfl ?_
      exact kk _ (oTol (xs (i + 1)) (z, H, l, n, tx)).2.2 _ _ q4 (I_Tol hI) c4 m4 (by omega) (by omega)
    · refine g_aload_n (k := 3) F 5 rfl dL_law_333 ?_
      refine g_iconst (v := 0) F (by decide) dL_law_334 ?_
      refine g_lald (j := 0) F (qi100 q4) rfl (by rw [qn100 q4]; decide) (by rw [qn100 q4]; decide) dL_law_335 ?_
      refine g_iload F 0 rfl dL_law_336 ?_
      refine g_i2l F dL_law_338 ?_
      refine g_lcmp F dL_law_339 ?_
      refine g_if_eq (t := 345) F dL_law_340 (by decide) (fun u12 => ?_) (fun u12 => ?_)
      · refine g_goto (t := 1508) F dL_law_345 (by decide) ?_
        refine g_sub (L' := [(0, .ref b), (1, .ref (q 80)), (2, .ref (q 94)), (3, .ref (q 100)), (4, .int (nI i))]) [2, 3, 4, 5, 6] rfl ?_
        exact kk _ (oTol (xs (i + 1)) (z, H, l, n, tx)).2.2 _ _ q4 (I_Tol hI) c4 m4 (by omega) (by omega)
      · refine absurd (lc_eq.mpr ?_) u12
        rw [(g4.2.2 100 (by decide) (by decide)).2]
        exact (o1 (er1.symm.trans u11)).trans (by rw [er4])
  · exact absurd (by rw [er7, t4, er1]) u10
set_option maxHeartbeats 4000000 in
set_option maxRecDepth 100000 in
theorem lc_3 {Γ : Ctx} {b L : Nat} {xs : Nat → Int32} (F : Fx Γ RL cL_law rmL) (hX : va_X b L xs (ks Γ) (ks Γ).heap) (hb : b < Γ.1.2.2.2.1) (hL : L ≤ 2560) (S : PS) (q : Nat → Nat) (hq : Shp S.1 S.2.1 q) (z : ZZ) (H : List ZZ) (l : Int32) (n : Nat) (tx : Nat → Int32) (hI : Iw (z, H, l, n, tx)) (hC : Cl S q (z, H, l, n, tx)) (hM : Mw S q (z, H, l, n, tx)) (c m : Nat) (hc : c ≤ 600000) (hm : m ≤ 7000000) (i : Nat) (hi : i + 5 ≤ L) (kk : ∀ (S' : PS) (w : WW) (c' m' : Nat), Shp S'.1 S'.2.1 q → Iw w → Cl S' q w → Mw S' q w → c' ≤ c + 3 → m' ≤ m + 18 → G Γ S' c' m' 1508 [(0, .ref b), (1, .ref (q 80)), (2, .ref (q 94)), (3, .ref (q 100)), (4, .int (nI i))] []) : G Γ S c m 348 [(0, .ref b), (1, .ref (q 80)), (2, .ref (q 94)), (3, .ref (q 100)), (4, .int (nI i))] [] := by
  refine g_aload_n (k := 1) F 1 rfl dL_law_348 ?_
  refine g_aload_n (k := 0) F 0 rfl dL_law_349 ?_
  refine g_iload F 4 rfl dL_law_350 ?_
  refine g_iconst (v := 1) F (by decide) dL_law_352 ?_
  refine g_iadd F dL_law_353 ?_
  refine g_rei (nI (i + 1)) (nadd rfl rfl) ?_
  refine g_sald (j := (i + 1)) F hX hb rfl (by omega) (by omega) dL_law_354 ?_
  refine g_aload_n (k := 0) F 0 rfl dL_law_355 ?_
  refine g_iload F 4 rfl dL_law_356 ?_
  refine g_iconst (v := 2) F (by decide) dL_law_358 ?_
  refine g_iadd F dL_law_359 ?_
  refine g_rei (nI (i + 2)) (nadd rfl rfl) ?_
  refine g_sald (j := (i + 2)) F hX hb rfl (by omega) (by omega) dL_law_360 ?_
  refine g_aload_n (k := 0) F 0 rfl dL_law_361 ?_
  refine g_iload F 4 rfl dL_law_362 ?_
  refine g_iconst (v := 3) F (by decide) dL_law_364 ?_
  refine g_iadd F dL_law_365 ?_
  refine g_rei (nI (i + 3)) (nadd rfl rfl) ?_
  refine g_sald (j := (i + 3)) F hX hb rfl (by omega) (by omega) dL_law_366 ?_
  refine g_aload_n (k := 3) F 3 rfl dL_law_367 ?_
  refine g_callSW F (kL_insert Γ.1 S q hq z H l n tx hI hC (xs (i + 1)) (xs (i + 2)) (xs (i + 3))) okL_insert mw223 ⟨(Nat.le_of_ble_eq_true rfl), (Nat.le_of_ble_eq_true rfl)⟩ rfl rfl (Nat.le_of_ble_eq_true rfl) ⟨by show c + 3 ≤ 601024; omega, by show m + 18 ≤ 7293034; omega⟩ dL_law_368 (toI (fun r1 S2 h3 => ?_))
  obtain ⟨er1, o1, f1, c1⟩ := h3
  have q1 : Shp S2.1 S2.2.1 q := FrP.q f1 hq
  have m1 := Mo_x f1 hM
  refine g_istore (L' := [(5, .int r1), (0, .ref b), (1, .ref (q 80)), (2, .ref (q 94)), (3, .ref (q 100)), (4, .int (nI i))]) F dL_law_371 (Nat.le_of_ble_eq_true rfl) rfl ?_
  refine g_aload_n (k := 2) F 3 rfl dL_law_373 ?_
  refine g_aload_n (k := 0) F 1 rfl dL_law_374 ?_
  refine g_iload F 5 rfl dL_law_375 ?_
  refine g_iconst (v := 1) F (by decide) dL_law_377 ?_
  refine g_iadd F dL_law_378 ?_
  refine g_rei (nI (i + 1)) (nadd rfl rfl) ?_
  refine g_sald (j := (i + 1)) F hX hb rfl (by omega) (by omega) dL_law_379 ?_
  refine g_aload_n (k := 0) F 1 rfl dL_law_380 ?_
  refine g_iload F 5 rfl dL_law_381 ?_
  refine g_iconst (v := 2) F (by decide) dL_law_383 ?_
  refine g_iadd F dL_law_384 ?_
  refine g_rei (nI (i + 2)) (nadd rfl rfl) ?_
  refine g_sald (j := (i + 2)) F hX hb rfl (by omega) (by omega) dL_law_385 ?_
  refine g_aload_n (k := 0) F 1 rfl dL_law_386 ?_
  refine g_iload F 5 rfl dL_law_387 ?_
  refine g_iconst (v := 3) F (by decide) dL_law_389 ?_
  refine g_iadd F dL_law_390 ?_
  refine g_rei (nI (i + 3)) (nadd rfl rfl) ?_
  refine g_sald (j := (i + 3)) F hX hb rfl (by omega) (by omega) dL_law_391 ?_
  refine g_callV F (kX10_insert Γ.1 S2 q q1 z m1.1 hI.1.1 H l n tx m1 (xs (i + 1)) (xs (i + 2)) (xs (i + 3))) okX10_insert (qi94 q1) mw243 ⟨(Nat.le_of_ble_eq_true rfl), (Nat.le_of_ble_eq_true rfl)⟩ rfl rfl (Nat.le_of_ble_eq_true rfl) ⟨by show (c + 3) + 0 ≤ 601024; omega, by show (m + 18) + 0 ≤ 7293034; omega⟩ dL_law_392 (toI (fun r4 S5 h6 => ?_))
  obtain ⟨er4, g4, t4, m4⟩ := h6
  have q4 : Shp S5.1 S5.2.1 q := Fr.q g4 q1
  have c4 := Cl_m g4 (by decide) c1
  refine g_istore (L' := [(6, .int r4), (5, .int r1), (0, .ref b), (1, .ref (q 80)), (2, .ref (q 94)), (3, .ref (q 100)), (4, .int (nI i))]) F dL_law_395 (Nat.le_of_ble_eq_true rfl) rfl ?_
  refine g_aload_n (k := 2) F 4 rfl dL_law_397 ?_
  refine g_callV F (kX10_thrown Γ.1 S5 q q4) okX10_thrown (qi94 q4) mw170 ⟨(Nat.le_of_ble_eq_true rfl), (Nat.le_of_ble_eq_true rfl)⟩ rfl rfl (Nat.le_of_ble_eq_true rfl) ⟨by show (c + 3) + 0 ≤ 601024; omega, by show (m + 18) + 0 ≤ 7293034; omega⟩ dL_law_398 (toI (fun r7 S8 h9 => ?_))
  obtain ⟨er7, rfl⟩ := h9
  refine g_iload F 1 rfl dL_law_401 ?_
  refine g_icmp_eq (t := 408) F dL_law_403 (by decide) (fun u10 => ?_) (fun u10 => ?_)
  · refine g_iload F 1 rfl dL_law_408 ?_
    refine g_if_ne (t := 425) F dL_law_410 (by decide) (fun u11 => ?_) (fun u11 => ?_)
    · refine g_goto (t := 1508) F dL_law_425 (by decide) ?_
      refine g_sub (L' := [(0, .ref b), (1, .ref (q 80)), (2, .ref (q 94)), (3, .ref (q 100)), (4, .int (nI i))]) [2, 3, 4, 5, 6] rfl ?_
      exact kk _ (oIns (xs (i + 1)) (xs (i + 2)) (xs (i + 3)) (z, H, l, n, tx)).2.2 _ _ q4 (I_Ins hI) c4 m4 (by omega) (by omega)
    · refine g_aload_n (k := 3) F 5 rfl dL_law_413 ?_
      refine g_iconst (v := 0) F (by decide) dL_law_414 ?_
      refine g_lald (j := 0) F (qi100 q4) rfl (by rw [qn100 q4]; decide) (by rw [qn100 q4]; decide) dL_law_415 ?_
      refine g_iload F 0 rfl dL_law_416 ?_
      refine g_i2l F dL_law_418 ?_
      refine g_lcmp F dL_law_419 ?_
      refine g_if_eq (t := 425) F dL_law_420 (by decide) (fun u12 => ?_) (fun u12 => ?_)
      · refine g_goto (t := 1508) F dL_law_425 (by decide) ?_
        refine g_sub (L' := [(0, .ref b), (1, .ref (q 80)), (2, .ref (q 94)), (3, .ref (q 100)), (4, .int (nI i))]) [2, 3, 4, 5, 6] rfl ?_
        exact kk _ (oIns (xs (i + 1)) (xs (i + 2)) (xs (i + 3)) (z, H, l, n, tx)).2.2 _ _ q4 (I_Ins hI) c4 m4 (by omega) (by omega)
      · refine absurd (lc_eq.mpr ?_) u12
        rw [(g4.2.2 100 (by decide) (by decide)).2]
        exact (o1 (er1.symm.trans u11)).trans (by rw [er4])
  · exact absurd (by rw [er7, t4, er1]) u10
set_option maxHeartbeats 4000000 in
set_option maxRecDepth 100000 in
theorem lc_4 {Γ : Ctx} {b L : Nat} {xs : Nat → Int32} (F : Fx Γ RL cL_law rmL) (hX : va_X b L xs (ks Γ) (ks Γ).heap) (hb : b < Γ.1.2.2.2.1) (hL : L ≤ 2560) (S : PS) (q : Nat → Nat) (hq : Shp S.1 S.2.1 q) (z : ZZ) (H : List ZZ) (l : Int32) (n : Nat) (tx : Nat → Int32) (hI : Iw (z, H, l, n, tx)) (hC : Cl S q (z, H, l, n, tx)) (hM : Mw S q (z, H, l, n, tx)) (c m : Nat) (hc : c ≤ 600000) (hm : m ≤ 7000000) (i : Nat) (hi : i + 5 ≤ L) (kk : ∀ (S' : PS) (w : WW) (c' m' : Nat), Shp S'.1 S'.2.1 q → Iw w → Cl S' q w → Mw S' q w → c' ≤ c + 3 → m' ≤ m + 18 → G Γ S' c' m' 1508 [(0, .ref b), (1, .ref (q 80)), (2, .ref (q 94)), (3, .ref (q 100)), (4, .int (nI i))] []) : G Γ S c m 428 [(0, .ref b), (1, .ref (q 80)), (2, .ref (q 94)), (3, .ref (q 100)), (4, .int (nI i))] [] := by
  refine g_aload_n (k := 1) F 1 rfl dL_law_428 ?_
  refine g_aload_n (k := 0) F 0 rfl dL_law_429 ?_
  refine g_iload F 4 rfl dL_law_430 ?_
  refine g_iconst (v := 1) F (by decide) dL_law_432 ?_
  refine g_iadd F dL_law_433 ?_
  refine g_rei (nI (i + 1)) (nadd rfl rfl) ?_
  refine g_sald (j := (i + 1)) F hX hb rfl (by omega) (by omega) dL_law_434 ?_
  refine g_aload_n (k := 0) F 0 rfl dL_law_435 ?_
  refine g_iload F 4 rfl dL_law_436 ?_
  refine g_iconst (v := 2) F (by decide) dL_law_438 ?_
  refine g_iadd F dL_law_439 ?_
  refine g_rei (nI (i + 2)) (nadd rfl rfl) ?_
  refine g_sald (j := (i + 2)) F hX hb rfl (by omega) (by omega) dL_law_440 ?_
  refine g_aload_n (k := 0) F 0 rfl dL_law_441 ?_
  refine g_iload F 4 rfl dL_law_442 ?_
  refine g_iconst (v := 3) F (by decide) dL_law_444 ?_
  refine g_iadd F dL_law_445 ?_
  refine g_rei (nI (i + 3)) (nadd rfl rfl) ?_
  refine g_sald (j := (i + 3)) F hX hb rfl (by omega) (by omega) dL_law_446 ?_
  refine g_aload_n (k := 3) F 3 rfl dL_law_447 ?_
  refine g_callSW F (kL_move Γ.1 S q hq z H l n tx hI hC (xs (i + 1)) (xs (i + 2)) (xs (i + 3))) okL_move mw259 ⟨(Nat.le_of_ble_eq_true rfl), (Nat.le_of_ble_eq_true rfl)⟩ rfl rfl (Nat.le_of_ble_eq_true rfl) ⟨by show c + 3 ≤ 601024; omega, by show m + 18 ≤ 7293034; omega⟩ dL_law_448 (toI (fun r1 S2 h3 => ?_))
  obtain ⟨er1, o1, f1, c1⟩ := h3
  have q1 : Shp S2.1 S2.2.1 q := FrP.q f1 hq
  have m1 := Mo_x f1 hM
  refine g_istore (L' := [(5, .int r1), (0, .ref b), (1, .ref (q 80)), (2, .ref (q 94)), (3, .ref (q 100)), (4, .int (nI i))]) F dL_law_451 (Nat.le_of_ble_eq_true rfl) rfl ?_
  refine g_aload_n (k := 2) F 3 rfl dL_law_453 ?_
  refine g_aload_n (k := 0) F 1 rfl dL_law_454 ?_
  refine g_iload F 5 rfl dL_law_455 ?_
  refine g_iconst (v := 1) F (by decide) dL_law_457 ?_
  refine g_iadd F dL_law_458 ?_
  refine g_rei (nI (i + 1)) (nadd rfl rfl) ?_
  refine g_sald (j := (i + 1)) F hX hb rfl (by omega) (by omega) dL_law_459 ?_
  refine g_aload_n (k := 0) F 1 rfl dL_law_460 ?_
  refine g_iload F 5 rfl dL_law_461 ?_
  refine g_iconst (v := 2) F (by decide) dL_law_463 ?_
  refine g_iadd F dL_law_464 ?_
  refine g_rei (nI (i + 2)) (nadd rfl rfl) ?_
  refine g_sald (j := (i + 2)) F hX hb rfl (by omega) (by omega) dL_law_465 ?_
  refine g_aload_n (k := 0) F 1 rfl dL_law_466 ?_
  refine g_iload F 5 rfl dL_law_467 ?_
  refine g_iconst (v := 3) F (by decide) dL_law_469 ?_
  refine g_iadd F dL_law_470 ?_
  refine g_rei (nI (i + 3)) (nadd rfl rfl) ?_
  refine g_sald (j := (i + 3)) F hX hb rfl (by omega) (by omega) dL_law_471 ?_
  refine g_callV F (kX10_move Γ.1 S2 q q1 z m1.1 hI.1.1 H l n tx m1 (xs (i + 1)) (xs (i + 2)) (xs (i + 3))) okX10_move (qi94 q1) mw270 ⟨(Nat.le_of_ble_eq_true rfl), (Nat.le_of_ble_eq_true rfl)⟩ rfl rfl (Nat.le_of_ble_eq_true rfl) ⟨by show (c + 3) + 0 ≤ 601024; omega, by show (m + 18) + 0 ≤ 7293034; omega⟩ dL_law_472 (toI (fun r4 S5 h6 => ?_))
  obtain ⟨er4, g4, t4, m4⟩ := h6
  have q4 : Shp S5.1 S5.2.1 q := Fr.q g4 q1
  have c4 := Cl_m g4 (by decide) c1
  refine g_istore (L' := [(6, .int r4), (5, .int r1), (0, .ref b), (1, .ref (q 80)), (2, .ref (q 94)), (3, .ref (q 100)), (4, .int (nI i))]) F dL_law_475 (Nat.le_of_ble_eq_true rfl) rfl ?_
  refine g_aload_n (k := 2) F 4 rfl dL_law_477 ?_
  refine g_callV F (kX10_thrown Γ.1 S5 q q4) okX10_thrown (qi94 q4) mw170 ⟨(Nat.le_of_ble_eq_true rfl), (Nat.le_of_ble_eq_true rfl)⟩ rfl rfl (Nat.le_of_ble_eq_true rfl) ⟨by show (c + 3) + 0 ≤ 601024; omega, by show (m + 18) + 0 ≤ 7293034; omega⟩ dL_law_478 (toI (fun r7 S8 h9 => ?_))
  obtain ⟨er7, rfl⟩ := h9
  refine g_iload F 1 rfl dL_law_481 ?_
  refine g_icmp_eq (t := 488) F dL_law_483 (by decide) (fun u10 => ?_) (fun u10 => ?_)
  · refine g_iload F 1 rfl dL_law_488 ?_
    refine g_if_ne (t := 505) F dL_law_490 (by decide) (fun u11 => ?_) (fun u11 => ?_)
    · refine g_goto (t := 1508) F dL_law_505 (by decide) ?_
      refine g_sub (L' := [(0, .ref b), (1, .ref (q 80)), (2, .ref (q 94)), (3, .ref (q 100)), (4, .int (nI i))]) [2, 3, 4, 5, 6] rfl ?_
      exact kk _ (oMov (xs (i + 1)) (xs (i + 2)) (xs (i + 3)) (z, H, l, n, tx)).2.2 _ _ q4 (I_Mov hI) c4 m4 (by omega) (by omega)
    · refine g_aload_n (k := 3) F 5 rfl dL_law_493 ?_
      refine g_iconst (v := 0) F (by decide) dL_law_494 ?_
      refine g_lald (j := 0) F (qi100 q4) rfl (by rw [qn100 q4]; decide) (by rw [qn100 q4]; decide) dL_law_495 ?_
      refine g_iload F 0 rfl dL_law_496 ?_
      refine g_i2l F dL_law_498 ?_
      refine g_lcmp F dL_law_499 ?_
      refine g_if_eq (t := 505) F dL_law_500 (by decide) (fun u12 => ?_) (fun u12 => ?_)
      · refine g_goto (t := 1508) F dL_law_505 (by decide) ?_
        refine g_sub (L' := [(0, .ref b), (1, .ref (q 80)), (2, .ref (q 94)), (3, .ref (q 100)), (4, .int (nI i))]) [2, 3, 4, 5, 6] rfl ?_
        exact kk _ (oMov (xs (i + 1)) (xs (i + 2)) (xs (i + 3)) (z, H, l, n, tx)).2.2 _ _ q4 (I_Mov hI) c4 m4 (by omega) (by omega)
      · refine absurd (lc_eq.mpr ?_) u12
        rw [(g4.2.2 100 (by decide) (by decide)).2]
        exact (o1 (er1.symm.trans u11)).trans (by rw [er4])
  · exact absurd (by rw [er7, t4, er1]) u10
set_option maxHeartbeats 4000000 in
set_option maxRecDepth 100000 in
theorem lc_5 {Γ : Ctx} {b L : Nat} {xs : Nat → Int32} (F : Fx Γ RL cL_law rmL) (hX : va_X b L xs (ks Γ) (ks Γ).heap) (hb : b < Γ.1.2.2.2.1) (hL : L ≤ 2560) (S : PS) (q : Nat → Nat) (hq : Shp S.1 S.2.1 q) (z : ZZ) (H : List ZZ) (l : Int32) (n : Nat) (tx : Nat → Int32) (hI : Iw (z, H, l, n, tx)) (hC : Cl S q (z, H, l, n, tx)) (hM : Mw S q (z, H, l, n, tx)) (c m : Nat) (hc : c ≤ 600000) (hm : m ≤ 7000000) (i : Nat) (hi : i + 5 ≤ L) (kk : ∀ (S' : PS) (w : WW) (c' m' : Nat), Shp S'.1 S'.2.1 q → Iw w → Cl S' q w → Mw S' q w → c' ≤ c + 3 → m' ≤ m + 18 → G Γ S' c' m' 1508 [(0, .ref b), (1, .ref (q 80)), (2, .ref (q 94)), (3, .ref (q 100)), (4, .int (nI i))] []) : G Γ S c m 508 [(0, .ref b), (1, .ref (q 80)), (2, .ref (q 94)), (3, .ref (q 100)), (4, .int (nI i))] [] := by
  refine g_aload_n (k := 1) F 1 rfl dL_law_508 ?_
  refine g_aload_n (k := 0) F 0 rfl dL_law_509 ?_
  refine g_iload F 4 rfl dL_law_510 ?_
  refine g_iconst (v := 1) F (by decide) dL_law_512 ?_
  refine g_iadd F dL_law_513 ?_
  refine g_rei (nI (i + 1)) (nadd rfl rfl) ?_
  refine g_sald (j := (i + 1)) F hX hb rfl (by omega) (by omega) dL_law_514 ?_
  refine g_aload_n (k := 3) F 3 rfl dL_law_515 ?_
  refine g_callSW F (kL_remove Γ.1 S q hq z H l n tx hI hC (xs (i + 1))) okL_remove mw278 ⟨(Nat.le_of_ble_eq_true rfl), (Nat.le_of_ble_eq_true rfl)⟩ rfl rfl (Nat.le_of_ble_eq_true rfl) ⟨by show c + 3 ≤ 601024; omega, by show m + 18 ≤ 7293034; omega⟩ dL_law_516 (toI (fun r1 S2 h3 => ?_))
  obtain ⟨er1, o1, f1, c1⟩ := h3
  have q1 : Shp S2.1 S2.2.1 q := FrP.q f1 hq
  have m1 := Mo_x f1 hM
  refine g_istore (L' := [(5, .int r1), (0, .ref b), (1, .ref (q 80)), (2, .ref (q 94)), (3, .ref (q 100)), (4, .int (nI i))]) F dL_law_519 (Nat.le_of_ble_eq_true rfl) rfl ?_
  refine g_aload_n (k := 2) F 3 rfl dL_law_521 ?_
  refine g_aload_n (k := 0) F 1 rfl dL_law_522 ?_
  refine g_iload F 5 rfl dL_law_523 ?_
  refine g_iconst (v := 1) F (by decide) dL_law_525 ?_
  refine g_iadd F dL_law_526 ?_
  refine g_rei (nI (i + 1)) (nadd rfl rfl) ?_
  refine g_sald (j := (i + 1)) F hX hb rfl (by omega) (by omega) dL_law_527 ?_
  refine g_callV F (kX10_remove Γ.1 S2 q q1 z m1.1 hI.1.1 H l n tx m1 (xs (i + 1))) okX10_remove (qi94 q1) mw288 ⟨(Nat.le_of_ble_eq_true rfl), (Nat.le_of_ble_eq_true rfl)⟩ rfl rfl (Nat.le_of_ble_eq_true rfl) ⟨by show (c + 3) + 0 ≤ 601024; omega, by show (m + 18) + 0 ≤ 7293034; omega⟩ dL_law_528 (toI (fun r4 S5 h6 => ?_))
  obtain ⟨er4, g4, t4, m4⟩ := h6
  have q4 : Shp S5.1 S5.2.1 q := Fr.q g4 q1
  have c4 := Cl_m g4 (by decide) c1
  refine g_istore (L' := [(6, .int r4), (5, .int r1), (0, .ref b), (1, .ref (q 80)), (2, .ref (q 94)), (3, .ref (q 100)), (4, .int (nI i))]) F dL_law_531 (Nat.le_of_ble_eq_true rfl) rfl ?_
  refine g_aload_n (k := 2) F 4 rfl dL_law_533 ?_
  refine g_callV F (kX10_thrown Γ.1 S5 q q4) okX10_thrown (qi94 q4) mw170 ⟨(Nat.le_of_ble_eq_true rfl), (Nat.le_of_ble_eq_true rfl)⟩ rfl rfl (Nat.le_of_ble_eq_true rfl) ⟨by show (c + 3) + 0 ≤ 601024; omega, by show (m + 18) + 0 ≤ 7293034; omega⟩ dL_law_534 (toI (fun r7 S8 h9 => ?_))
  obtain ⟨er7, rfl⟩ := h9
  refine g_iload F 1 rfl dL_law_537 ?_
  refine g_icmp_eq (t := 544) F dL_law_539 (by decide) (fun u10 => ?_) (fun u10 => ?_)
  · refine g_iload F 1 rfl dL_law_544 ?_
    refine g_if_ne (t := 561) F dL_law_546 (by decide) (fun u11 => ?_) (fun u11 => ?_)
    · refine g_goto (t := 1508) F dL_law_561 (by decide) ?_
      refine g_sub (L' := [(0, .ref b), (1, .ref (q 80)), (2, .ref (q 94)), (3, .ref (q 100)), (4, .int (nI i))]) [2, 3, 4, 5, 6] rfl ?_
      exact kk _ (oRem (xs (i + 1)) (z, H, l, n, tx)).2.2 _ _ q4 (I_Rem hI) c4 m4 (by omega) (by omega)
    · refine g_aload_n (k := 3) F 5 rfl dL_law_549 ?_
      refine g_iconst (v := 0) F (by decide) dL_law_550 ?_
      refine g_lald (j := 0) F (qi100 q4) rfl (by rw [qn100 q4]; decide) (by rw [qn100 q4]; decide) dL_law_551 ?_
      refine g_iload F 0 rfl dL_law_552 ?_
      refine g_i2l F dL_law_554 ?_
      refine g_lcmp F dL_law_555 ?_
      refine g_if_eq (t := 561) F dL_law_556 (by decide) (fun u12 => ?_) (fun u12 => ?_)
      · refine g_goto (t := 1508) F dL_law_561 (by decide) ?_
        refine g_sub (L' := [(0, .ref b), (1, .ref (q 80)), (2, .ref (q 94)), (3, .ref (q 100)), (4, .int (nI i))]) [2, 3, 4, 5, 6] rfl ?_
        exact kk _ (oRem (xs (i + 1)) (z, H, l, n, tx)).2.2 _ _ q4 (I_Rem hI) c4 m4 (by omega) (by omega)
      · refine absurd (lc_eq.mpr ?_) u12
        rw [(g4.2.2 100 (by decide) (by decide)).2]
        exact (o1 (er1.symm.trans u11)).trans (by rw [er4])
  · exact absurd (by rw [er7, t4, er1]) u10
set_option maxHeartbeats 4000000 in
set_option maxRecDepth 100000 in
theorem lc_6 {Γ : Ctx} {b L : Nat} {xs : Nat → Int32} (F : Fx Γ RL cL_law rmL) (hX : va_X b L xs (ks Γ) (ks Γ).heap) (hb : b < Γ.1.2.2.2.1) (hL : L ≤ 2560) (S : PS) (q : Nat → Nat) (hq : Shp S.1 S.2.1 q) (z : ZZ) (H : List ZZ) (l : Int32) (n : Nat) (tx : Nat → Int32) (hI : Iw (z, H, l, n, tx)) (hC : Cl S q (z, H, l, n, tx)) (hM : Mw S q (z, H, l, n, tx)) (c m : Nat) (hc : c ≤ 600000) (hm : m ≤ 7000000) (i : Nat) (hi : i + 5 ≤ L) (kk : ∀ (S' : PS) (w : WW) (c' m' : Nat), Shp S'.1 S'.2.1 q → Iw w → Cl S' q w → Mw S' q w → c' ≤ c + 3 → m' ≤ m + 18 → G Γ S' c' m' 1508 [(0, .ref b), (1, .ref (q 80)), (2, .ref (q 94)), (3, .ref (q 100)), (4, .int (nI i))] []) : G Γ S c m 564 [(0, .ref b), (1, .ref (q 80)), (2, .ref (q 94)), (3, .ref (q 100)), (4, .int (nI i))] [] := by
  refine g_aload_n (k := 1) F 1 rfl dL_law_564 ?_
  refine g_aload_n (k := 0) F 0 rfl dL_law_565 ?_
  refine g_iload F 4 rfl dL_law_566 ?_
  refine g_iconst (v := 1) F (by decide) dL_law_568 ?_
  refine g_iadd F dL_law_569 ?_
  refine g_rei (nI (i + 1)) (nadd rfl rfl) ?_
  refine g_sald (j := (i + 1)) F hX hb rfl (by omega) (by omega) dL_law_570 ?_
  refine g_aload_n (k := 0) F 0 rfl dL_law_571 ?_
  refine g_iload F 4 rfl dL_law_572 ?_
  refine g_iconst (v := 2) F (by decide) dL_law_574 ?_
  refine g_iadd F dL_law_575 ?_
  refine g_rei (nI (i + 2)) (nadd rfl rfl) ?_
  refine g_sald (j := (i + 2)) F hX hb rfl (by omega) (by omega) dL_law_576 ?_
  refine g_aload_n (k := 3) F 3 rfl dL_law_577 ?_
  refine g_callSW F (kL_setSlip Γ.1 S q hq z H l n tx hI hC (xs (i + 1)) (xs (i + 2))) okL_setSlip mw292 ⟨(Nat.le_of_ble_eq_true rfl), (Nat.le_of_ble_eq_true rfl)⟩ rfl rfl (Nat.le_of_ble_eq_true rfl) ⟨by show c + 3 ≤ 601024; omega, by show m + 18 ≤ 7293034; omega⟩ dL_law_578 (toI (fun r1 S2 h3 => ?_))
  obtain ⟨er1, o1, f1, c1⟩ := h3
  have q1 : Shp S2.1 S2.2.1 q := FrP.q f1 hq
  have m1 := Mo_x f1 hM
  refine g_istore (L' := [(5, .int r1), (0, .ref b), (1, .ref (q 80)), (2, .ref (q 94)), (3, .ref (q 100)), (4, .int (nI i))]) F dL_law_581 (Nat.le_of_ble_eq_true rfl) rfl ?_
  refine g_aload_n (k := 2) F 3 rfl dL_law_583 ?_
  refine g_aload_n (k := 0) F 1 rfl dL_law_584 ?_
  refine g_iload F 5 rfl dL_law_585 ?_
  refine g_iconst (v := 1) F (by decide) dL_law_587 ?_
  refine g_iadd F dL_law_588 ?_
  refine g_rei (nI (i + 1)) (nadd rfl rfl) ?_
  refine g_sald (j := (i + 1)) F hX hb rfl (by omega) (by omega) dL_law_589 ?_
  refine g_aload_n (k := 0) F 1 rfl dL_law_590 ?_
  refine g_iload F 5 rfl dL_law_591 ?_
  refine g_iconst (v := 2) F (by decide) dL_law_593 ?_
  refine g_iadd F dL_law_594 ?_
  refine g_rei (nI (i + 2)) (nadd rfl rfl) ?_
  refine g_sald (j := (i + 2)) F hX hb rfl (by omega) (by omega) dL_law_595 ?_
  refine g_callV F (kX10_setSlip Γ.1 S2 q q1 z m1.1 hI.1.1 H l n tx m1 (xs (i + 1)) (xs (i + 2))) okX10_setSlip (qi94 q1) mw299 ⟨(Nat.le_of_ble_eq_true rfl), (Nat.le_of_ble_eq_true rfl)⟩ rfl rfl (Nat.le_of_ble_eq_true rfl) ⟨by show (c + 3) + 0 ≤ 601024; omega, by show (m + 18) + 0 ≤ 7293034; omega⟩ dL_law_596 (toI (fun r4 S5 h6 => ?_))
  obtain ⟨er4, g4, t4, m4⟩ := h6
  have q4 : Shp S5.1 S5.2.1 q := Fr.q g4 q1
  have c4 := Cl_m g4 (by decide) c1
  refine g_istore (L' := [(6, .int r4), (5, .int r1), (0, .ref b), (1, .ref (q 80)), (2, .ref (q 94)), (3, .ref (q 100)), (4, .int (nI i))]) F dL_law_599 (Nat.le_of_ble_eq_true rfl) rfl ?_
  refine g_aload_n (k := 2) F 4 rfl dL_law_601 ?_
  refine g_callV F (kX10_thrown Γ.1 S5 q q4) okX10_thrown (qi94 q4) mw170 ⟨(Nat.le_of_ble_eq_true rfl), (Nat.le_of_ble_eq_true rfl)⟩ rfl rfl (Nat.le_of_ble_eq_true rfl) ⟨by show (c + 3) + 0 ≤ 601024; omega, by show (m + 18) + 0 ≤ 7293034; omega⟩ dL_law_602 (toI (fun r7 S8 h9 => ?_))
  obtain ⟨er7, rfl⟩ := h9
  refine g_iload F 1 rfl dL_law_605 ?_
  refine g_icmp_eq (t := 612) F dL_law_607 (by decide) (fun u10 => ?_) (fun u10 => ?_)
  · refine g_iload F 1 rfl dL_law_612 ?_
    refine g_if_ne (t := 629) F dL_law_614 (by decide) (fun u11 => ?_) (fun u11 => ?_)
    · refine g_goto (t := 1508) F dL_law_629 (by decide) ?_
      refine g_sub (L' := [(0, .ref b), (1, .ref (q 80)), (2, .ref (q 94)), (3, .ref (q 100)), (4, .int (nI i))]) [2, 3, 4, 5, 6] rfl ?_
      exact kk _ (oSlp (xs (i + 1)) (xs (i + 2)) (z, H, l, n, tx)).2.2 _ _ q4 (I_Slp hI) c4 m4 (by omega) (by omega)
    · refine g_aload_n (k := 3) F 5 rfl dL_law_617 ?_
      refine g_iconst (v := 0) F (by decide) dL_law_618 ?_
      refine g_lald (j := 0) F (qi100 q4) rfl (by rw [qn100 q4]; decide) (by rw [qn100 q4]; decide) dL_law_619 ?_
      refine g_iload F 0 rfl dL_law_620 ?_
      refine g_i2l F dL_law_622 ?_
      refine g_lcmp F dL_law_623 ?_
      refine g_if_eq (t := 629) F dL_law_624 (by decide) (fun u12 => ?_) (fun u12 => ?_)
      · refine g_goto (t := 1508) F dL_law_629 (by decide) ?_
        refine g_sub (L' := [(0, .ref b), (1, .ref (q 80)), (2, .ref (q 94)), (3, .ref (q 100)), (4, .int (nI i))]) [2, 3, 4, 5, 6] rfl ?_
        exact kk _ (oSlp (xs (i + 1)) (xs (i + 2)) (z, H, l, n, tx)).2.2 _ _ q4 (I_Slp hI) c4 m4 (by omega) (by omega)
      · refine absurd (lc_eq.mpr ?_) u12
        rw [(g4.2.2 100 (by decide) (by decide)).2]
        exact (o1 (er1.symm.trans u11)).trans (by rw [er4])
  · exact absurd (by rw [er7, t4, er1]) u10
set_option maxHeartbeats 4000000 in
set_option maxRecDepth 100000 in
theorem lc_7 {Γ : Ctx} {b L : Nat} {xs : Nat → Int32} (F : Fx Γ RL cL_law rmL) (hX : va_X b L xs (ks Γ) (ks Γ).heap) (hb : b < Γ.1.2.2.2.1) (hL : L ≤ 2560) (S : PS) (q : Nat → Nat) (hq : Shp S.1 S.2.1 q) (z : ZZ) (H : List ZZ) (l : Int32) (n : Nat) (tx : Nat → Int32) (hI : Iw (z, H, l, n, tx)) (hC : Cl S q (z, H, l, n, tx)) (hM : Mw S q (z, H, l, n, tx)) (c m : Nat) (hc : c ≤ 600000) (hm : m ≤ 7000000) (i : Nat) (hi : i + 5 ≤ L) (kk : ∀ (S' : PS) (w : WW) (c' m' : Nat), Shp S'.1 S'.2.1 q → Iw w → Cl S' q w → Mw S' q w → c' ≤ c + 3 → m' ≤ m + 18 → G Γ S' c' m' 1508 [(0, .ref b), (1, .ref (q 80)), (2, .ref (q 94)), (3, .ref (q 100)), (4, .int (nI i))] []) : G Γ S c m 632 [(0, .ref b), (1, .ref (q 80)), (2, .ref (q 94)), (3, .ref (q 100)), (4, .int (nI i))] [] := by
  refine g_aload_n (k := 1) F 1 rfl dL_law_632 ?_
  refine g_aload_n (k := 0) F 0 rfl dL_law_633 ?_
  refine g_iload F 4 rfl dL_law_634 ?_
  refine g_iconst (v := 1) F (by decide) dL_law_636 ?_
  refine g_iadd F dL_law_637 ?_
  refine g_rei (nI (i + 1)) (nadd rfl rfl) ?_
  refine g_sald (j := (i + 1)) F hX hb rfl (by omega) (by omega) dL_law_638 ?_
  refine g_aload_n (k := 0) F 0 rfl dL_law_639 ?_
  refine g_iload F 4 rfl dL_law_640 ?_
  refine g_iconst (v := 2) F (by decide) dL_law_642 ?_
  refine g_iadd F dL_law_643 ?_
  refine g_rei (nI (i + 2)) (nadd rfl rfl) ?_
  refine g_sald (j := (i + 2)) F hX hb rfl (by omega) (by omega) dL_law_644 ?_
  refine g_if_eq (t := 652) F dL_law_645 (by decide) (fun u1 => ?_) (fun u1 => ?_)
  · refine g_iconst (v := 0) F (by decide) dL_law_652 ?_
    refine g_aload_n (k := 3) F 3 rfl dL_law_653 ?_
    refine g_callSW F (kL_run Γ.1 S q hq z H l n tx hI hC (xs (i + 1)) false) okL_run mw304 ⟨(Nat.le_of_ble_eq_true rfl), (Nat.le_of_ble_eq_true rfl)⟩ rfl rfl (Nat.le_of_ble_eq_true rfl) ⟨by show c + 3 ≤ 601024; omega, by show m + 18 ≤ 7293034; omega⟩ dL_law_654 (toI (fun r2 S3 h4 => ?_))
    obtain ⟨er2, o2, f2, c2⟩ := h4
    have q2 : Shp S3.1 S3.2.1 q := FrP.q f2 hq
    have m2 := Mo_x f2 hM
    refine g_istore (L' := [(5, .int r2), (0, .ref b), (1, .ref (q 80)), (2, .ref (q 94)), (3, .ref (q 100)), (4, .int (nI i))]) F dL_law_657 (Nat.le_of_ble_eq_true rfl) rfl ?_
    refine g_aload_n (k := 2) F 3 rfl dL_law_659 ?_
    refine g_aload_n (k := 0) F 1 rfl dL_law_660 ?_
    refine g_iload F 5 rfl dL_law_661 ?_
    refine g_iconst (v := 1) F (by decide) dL_law_663 ?_
    refine g_iadd F dL_law_664 ?_
    refine g_rei (nI (i + 1)) (nadd rfl rfl) ?_
    refine g_sald (j := (i + 1)) F hX hb rfl (by omega) (by omega) dL_law_665 ?_
    refine g_aload_n (k := 0) F 1 rfl dL_law_666 ?_
    refine g_iload F 5 rfl dL_law_667 ?_
    refine g_iconst (v := 2) F (by decide) dL_law_669 ?_
    refine g_iadd F dL_law_670 ?_
    refine g_rei (nI (i + 2)) (nadd rfl rfl) ?_
    refine g_sald (j := (i + 2)) F hX hb rfl (by omega) (by omega) dL_law_671 ?_
    refine g_if_eq (t := 679) F dL_law_672 (by decide) (fun u5 => ?_) (fun u5 => ?_)
    · refine g_iconst (v := 0) F (by decide) dL_law_679 ?_
      refine g_callV F (kX10_run Γ.1 S3 q q2 z m2.1 hI.1.1 H l n tx m2 (xs (i + 1)) false) okX10_run (qi94 q2) mw448 ⟨(Nat.le_of_ble_eq_true rfl), (Nat.le_of_ble_eq_true rfl)⟩ rfl rfl (Nat.le_of_ble_eq_true rfl) ⟨by show (c + 3) + 0 ≤ 601024; omega, by show (m + 18) + 0 ≤ 7293034; omega⟩ dL_law_680 (toI (fun r6 S7 h8 => ?_))
      obtain ⟨er6, g6, t6, m6⟩ := h8
      have q6 : Shp S7.1 S7.2.1 q := Fr.q g6 q2
      have c6 := Cl_m g6 (by decide) c2
      refine g_istore (L' := [(6, .int r6), (5, .int r2), (0, .ref b), (1, .ref (q 80)), (2, .ref (q 94)), (3, .ref (q 100)), (4, .int (nI i))]) F dL_law_683 (Nat.le_of_ble_eq_true rfl) rfl ?_
      refine g_aload_n (k := 2) F 4 rfl dL_law_685 ?_
      refine g_callV F (kX10_thrown Γ.1 S7 q q6) okX10_thrown (qi94 q6) mw170 ⟨(Nat.le_of_ble_eq_true rfl), (Nat.le_of_ble_eq_true rfl)⟩ rfl rfl (Nat.le_of_ble_eq_true rfl) ⟨by show (c + 3) + 0 ≤ 601024; omega, by show (m + 18) + 0 ≤ 7293034; omega⟩ dL_law_686 (toI (fun r9 S10 h11 => ?_))
      obtain ⟨er9, rfl⟩ := h11
      refine g_iload F 1 rfl dL_law_689 ?_
      refine g_icmp_eq (t := 696) F dL_law_691 (by decide) (fun u12 => ?_) (fun u12 => ?_)
      · refine g_iload F 1 rfl dL_law_696 ?_
        refine g_if_ne (t := 713) F dL_law_698 (by decide) (fun u13 => ?_) (fun u13 => ?_)
        · refine g_goto (t := 1508) F dL_law_713 (by decide) ?_
          refine g_sub (L' := [(0, .ref b), (1, .ref (q 80)), (2, .ref (q 94)), (3, .ref (q 100)), (4, .int (nI i))]) [2, 3, 4, 5, 6] rfl ?_
          exact kk _ (oRun (xs (i + 1)) false (z, H, l, n, tx)).2.2 _ _ q6 (I_Run hI) c6 m6 (by omega) (by omega)
        · refine g_aload_n (k := 3) F 5 rfl dL_law_701 ?_
          refine g_iconst (v := 0) F (by decide) dL_law_702 ?_
          refine g_lald (j := 0) F (qi100 q6) rfl (by rw [qn100 q6]; decide) (by rw [qn100 q6]; decide) dL_law_703 ?_
          refine g_iload F 0 rfl dL_law_704 ?_
          refine g_i2l F dL_law_706 ?_
          refine g_lcmp F dL_law_707 ?_
          refine g_if_eq (t := 713) F dL_law_708 (by decide) (fun u14 => ?_) (fun u14 => ?_)
          · refine g_goto (t := 1508) F dL_law_713 (by decide) ?_
            refine g_sub (L' := [(0, .ref b), (1, .ref (q 80)), (2, .ref (q 94)), (3, .ref (q 100)), (4, .int (nI i))]) [2, 3, 4, 5, 6] rfl ?_
            exact kk _ (oRun (xs (i + 1)) false (z, H, l, n, tx)).2.2 _ _ q6 (I_Run hI) c6 m6 (by omega) (by omega)
          · refine absurd (lc_eq.mpr ?_) u14
            rw [(g6.2.2 100 (by decide) (by decide)).2]
            exact (o2 (er2.symm.trans u13)).trans (by rw [er6])
      · exact absurd (by rw [er9, t6, er2]) u12
    · exact absurd u1 u5
  · refine g_iconst (v := 1) F (by decide) dL_law_648 ?_
    refine g_goto (t := 653) F dL_law_649 (by decide) ?_
    refine g_aload_n (k := 3) F 3 rfl dL_law_653 ?_
    refine g_callSW F (kL_run Γ.1 S q hq z H l n tx hI hC (xs (i + 1)) true) okL_run mw304 ⟨(Nat.le_of_ble_eq_true rfl), (Nat.le_of_ble_eq_true rfl)⟩ rfl rfl (Nat.le_of_ble_eq_true rfl) ⟨by show c + 3 ≤ 601024; omega, by show m + 18 ≤ 7293034; omega⟩ dL_law_654 (toI (fun r15 S16 h17 => ?_))
    obtain ⟨er15, o15, f15, c15⟩ := h17
    have q15 : Shp S16.1 S16.2.1 q := FrP.q f15 hq
    have m15 := Mo_x f15 hM
    refine g_istore (L' := [(5, .int r15), (0, .ref b), (1, .ref (q 80)), (2, .ref (q 94)), (3, .ref (q 100)), (4, .int (nI i))]) F dL_law_657 (Nat.le_of_ble_eq_true rfl) rfl ?_
    refine g_aload_n (k := 2) F 3 rfl dL_law_659 ?_
    refine g_aload_n (k := 0) F 1 rfl dL_law_660 ?_
    refine g_iload F 5 rfl dL_law_661 ?_
    refine g_iconst (v := 1) F (by decide) dL_law_663 ?_
    refine g_iadd F dL_law_664 ?_
    refine g_rei (nI (i + 1)) (nadd rfl rfl) ?_
    refine g_sald (j := (i + 1)) F hX hb rfl (by omega) (by omega) dL_law_665 ?_
    refine g_aload_n (k := 0) F 1 rfl dL_law_666 ?_
    refine g_iload F 5 rfl dL_law_667 ?_
    refine g_iconst (v := 2) F (by decide) dL_law_669 ?_
    refine g_iadd F dL_law_670 ?_
    refine g_rei (nI (i + 2)) (nadd rfl rfl) ?_
    refine g_sald (j := (i + 2)) F hX hb rfl (by omega) (by omega) dL_law_671 ?_
    refine g_if_eq (t := 679) F dL_law_672 (by decide) (fun u18 => ?_) (fun u18 => ?_)
    · exact absurd u18 u1
    · refine g_iconst (v := 1) F (by decide) dL_law_675 ?_
      refine g_goto (t := 680) F dL_law_676 (by decide) ?_
      refine g_callV F (kX10_run Γ.1 S16 q q15 z m15.1 hI.1.1 H l n tx m15 (xs (i + 1)) true) okX10_run (qi94 q15) mw448 ⟨(Nat.le_of_ble_eq_true rfl), (Nat.le_of_ble_eq_true rfl)⟩ rfl rfl (Nat.le_of_ble_eq_true rfl) ⟨by show (c + 3) + 0 ≤ 601024; omega, by show (m + 18) + 0 ≤ 7293034; omega⟩ dL_law_680 (toI (fun r19 S20 h21 => ?_))
      obtain ⟨er19, g19, t19, m19⟩ := h21
      have q19 : Shp S20.1 S20.2.1 q := Fr.q g19 q15
      have c19 := Cl_m g19 (by decide) c15
      refine g_istore (L' := [(6, .int r19), (5, .int r15), (0, .ref b), (1, .ref (q 80)), (2, .ref (q 94)), (3, .ref (q 100)), (4, .int (nI i))]) F dL_law_683 (Nat.le_of_ble_eq_true rfl) rfl ?_
      refine g_aload_n (k := 2) F 4 rfl dL_law_685 ?_
      refine g_callV F (kX10_thrown Γ.1 S20 q q19) okX10_thrown (qi94 q19) mw170 ⟨(Nat.le_of_ble_eq_true rfl), (Nat.le_of_ble_eq_true rfl)⟩ rfl rfl (Nat.le_of_ble_eq_true rfl) ⟨by show (c + 3) + 0 ≤ 601024; omega, by show (m + 18) + 0 ≤ 7293034; omega⟩ dL_law_686 (toI (fun r22 S23 h24 => ?_))
      obtain ⟨er22, rfl⟩ := h24
      refine g_iload F 1 rfl dL_law_689 ?_
      refine g_icmp_eq (t := 696) F dL_law_691 (by decide) (fun u25 => ?_) (fun u25 => ?_)
      · refine g_iload F 1 rfl dL_law_696 ?_
        refine g_if_ne (t := 713) F dL_law_698 (by decide) (fun u26 => ?_) (fun u26 => ?_)
        · refine g_goto (t := 1508) F dL_law_713 (by decide) ?_
          refine g_sub (L' := [(0, .ref b), (1, .ref (q 80)), (2, .ref (q 94)), (3, .ref (q 100)), (4, .int (nI i))]) [2, 3, 4, 5, 6] rfl ?_
          exact kk _ (oRun (xs (i + 1)) true (z, H, l, n, tx)).2.2 _ _ q19 (I_Run hI) c19 m19 (by omega) (by omega)
        · refine g_aload_n (k := 3) F 5 rfl dL_law_701 ?_
          refine g_iconst (v := 0) F (by decide) dL_law_702 ?_
          refine g_lald (j := 0) F (qi100 q19) rfl (by rw [qn100 q19]; decide) (by rw [qn100 q19]; decide) dL_law_703 ?_
          refine g_iload F 0 rfl dL_law_704 ?_
          refine g_i2l F dL_law_706 ?_
          refine g_lcmp F dL_law_707 ?_
          refine g_if_eq (t := 713) F dL_law_708 (by decide) (fun u27 => ?_) (fun u27 => ?_)
          · refine g_goto (t := 1508) F dL_law_713 (by decide) ?_
            refine g_sub (L' := [(0, .ref b), (1, .ref (q 80)), (2, .ref (q 94)), (3, .ref (q 100)), (4, .int (nI i))]) [2, 3, 4, 5, 6] rfl ?_
            exact kk _ (oRun (xs (i + 1)) true (z, H, l, n, tx)).2.2 _ _ q19 (I_Run hI) c19 m19 (by omega) (by omega)
          · refine absurd (lc_eq.mpr ?_) u27
            rw [(g19.2.2 100 (by decide) (by decide)).2]
            exact (o15 (er15.symm.trans u26)).trans (by rw [er19])
      · exact absurd (by rw [er22, t19, er15]) u25
set_option maxHeartbeats 4000000 in
set_option maxRecDepth 100000 in
theorem lc_8 {Γ : Ctx} {b L : Nat} {xs : Nat → Int32} (F : Fx Γ RL cL_law rmL) (hX : va_X b L xs (ks Γ) (ks Γ).heap) (hb : b < Γ.1.2.2.2.1) (hL : L ≤ 2560) (S : PS) (q : Nat → Nat) (hq : Shp S.1 S.2.1 q) (z : ZZ) (H : List ZZ) (l : Int32) (n : Nat) (tx : Nat → Int32) (hI : Iw (z, H, l, n, tx)) (hC : Cl S q (z, H, l, n, tx)) (hM : Mw S q (z, H, l, n, tx)) (c m : Nat) (hc : c ≤ 600000) (hm : m ≤ 7000000) (i : Nat) (hi : i + 5 ≤ L) (kk : ∀ (S' : PS) (w : WW) (c' m' : Nat), Shp S'.1 S'.2.1 q → Iw w → Cl S' q w → Mw S' q w → c' ≤ c + 3 → m' ≤ m + 18 → G Γ S' c' m' 1508 [(0, .ref b), (1, .ref (q 80)), (2, .ref (q 94)), (3, .ref (q 100)), (4, .int (nI i))] []) : G Γ S c m 716 [(0, .ref b), (1, .ref (q 80)), (2, .ref (q 94)), (3, .ref (q 100)), (4, .int (nI i))] [] := by
  refine g_aload_n (k := 1) F 1 rfl dL_law_716 ?_
  refine g_callV F (kX9_runAll Γ.1 S q hq z H l n tx hI.1.1 hC) okX9_runAll (qi80 hq) mw555 ⟨(Nat.le_of_ble_eq_true rfl), (Nat.le_of_ble_eq_true rfl)⟩ rfl rfl (Nat.le_of_ble_eq_true rfl) ⟨by show c + 0 ≤ 601024; omega, by show m + 0 ≤ 7293034; omega⟩ dL_law_717 (toI (fun r1 S2 h3 => ?_))
  obtain ⟨z1, er1, f1, c1⟩ := h3
  have q1 : Shp S2.1 S2.2.1 q := FrP.q f1 hq
  have m1 := Mo_x (P_x f1) hM
  refine g_aload_n (k := 2) F 2 rfl dL_law_720 ?_
  refine g_callV F (kX10_runAll Γ.1 S2 q q1 z m1.1 hI.1.1 H l n tx m1) okX10_runAll (qi94 q1) mw559 ⟨(Nat.le_of_ble_eq_true rfl), (Nat.le_of_ble_eq_true rfl)⟩ rfl rfl (Nat.le_of_ble_eq_true rfl) ⟨by show c + 0 ≤ 601024; omega, by show m + 0 ≤ 7293034; omega⟩ dL_law_721 (toI (fun r4 S5 h6 => ?_))
  obtain ⟨er4, g4, t4, m4⟩ := h6
  have q4 : Shp S5.1 S5.2.1 q := Fr.q g4 q1
  have c4 := Cl_m g4 (by decide) c1
  refine g_icmp_eq (t := 1508) F dL_law_724 (by decide) (fun u7 => ?_) (fun u7 => ?_)
  · exact kk _ (oRal (z, H, l, n, tx)).2.2 _ _ q4 (I_Ral hI) c4 m4 (by omega) (by omega)
  · exact absurd (by rw [er1, er4]) u7
set_option maxHeartbeats 4000000 in
set_option maxRecDepth 100000 in
theorem lc_9 {Γ : Ctx} {b L : Nat} {xs : Nat → Int32} (F : Fx Γ RL cL_law rmL) (hX : va_X b L xs (ks Γ) (ks Γ).heap) (hb : b < Γ.1.2.2.2.1) (hL : L ≤ 2560) (S : PS) (q : Nat → Nat) (hq : Shp S.1 S.2.1 q) (z : ZZ) (H : List ZZ) (l : Int32) (n : Nat) (tx : Nat → Int32) (hI : Iw (z, H, l, n, tx)) (hC : Cl S q (z, H, l, n, tx)) (hM : Mw S q (z, H, l, n, tx)) (c m : Nat) (hc : c ≤ 600000) (hm : m ≤ 7000000) (i : Nat) (hi : i + 5 ≤ L) (kk : ∀ (S' : PS) (w : WW) (c' m' : Nat), Shp S'.1 S'.2.1 q → Iw w → Cl S' q w → Mw S' q w → c' ≤ c + 3 → m' ≤ m + 18 → G Γ S' c' m' 1508 [(0, .ref b), (1, .ref (q 80)), (2, .ref (q 94)), (3, .ref (q 100)), (4, .int (nI i))] []) : G Γ S c m 729 [(0, .ref b), (1, .ref (q 80)), (2, .ref (q 94)), (3, .ref (q 100)), (4, .int (nI i))] [] := by
  refine g_aload_n (k := 1) F 1 rfl dL_law_729 ?_
  refine g_callV F (kX9_forget Γ.1 S q hq z H l n tx hI.1.1 hC) okX9_forget (qi80 hq) mw563 ⟨(Nat.le_of_ble_eq_true rfl), (Nat.le_of_ble_eq_true rfl)⟩ rfl rfl (Nat.le_of_ble_eq_true rfl) ⟨by show c + 0 ≤ 601024; omega, by show m + 0 ≤ 7293034; omega⟩ dL_law_730 (toI (fun r1 S2 h3 => ?_))
  obtain ⟨z1, er1, f1, c1⟩ := h3
  have q1 : Shp S2.1 S2.2.1 q := FrP.q f1 hq
  have m1 := Mo_x (P_x f1) hM
  refine g_aload_n (k := 2) F 2 rfl dL_law_733 ?_
  refine g_callV F (kX10_forget Γ.1 S2 q q1 z m1.1 hI.1.1 H l n tx m1) okX10_forget (qi94 q1) mw567 ⟨(Nat.le_of_ble_eq_true rfl), (Nat.le_of_ble_eq_true rfl)⟩ rfl rfl (Nat.le_of_ble_eq_true rfl) ⟨by show c + 0 ≤ 601024; omega, by show m + 0 ≤ 7293034; omega⟩ dL_law_734 (toI (fun r4 S5 h6 => ?_))
  obtain ⟨er4, g4, t4, m4⟩ := h6
  have q4 : Shp S5.1 S5.2.1 q := Fr.q g4 q1
  have c4 := Cl_m g4 (by decide) c1
  refine g_icmp_eq (t := 1508) F dL_law_737 (by decide) (fun u7 => ?_) (fun u7 => ?_)
  · exact kk _ (oFor (z, H, l, n, tx)).2.2 _ _ q4 (I_For hI) c4 m4 (by omega) (by omega)
  · exact absurd (by rw [er1, er4]) u7
set_option maxHeartbeats 4000000 in
set_option maxRecDepth 100000 in
theorem lc_10 {Γ : Ctx} {b L : Nat} {xs : Nat → Int32} (F : Fx Γ RL cL_law rmL) (hX : va_X b L xs (ks Γ) (ks Γ).heap) (hb : b < Γ.1.2.2.2.1) (hL : L ≤ 2560) (S : PS) (q : Nat → Nat) (hq : Shp S.1 S.2.1 q) (z : ZZ) (H : List ZZ) (l : Int32) (n : Nat) (tx : Nat → Int32) (hI : Iw (z, H, l, n, tx)) (hC : Cl S q (z, H, l, n, tx)) (hM : Mw S q (z, H, l, n, tx)) (c m : Nat) (hc : c ≤ 600000) (hm : m ≤ 7000000) (i : Nat) (hi : i + 5 ≤ L) (kk : ∀ (S' : PS) (w : WW) (c' m' : Nat), Shp S'.1 S'.2.1 q → Iw w → Cl S' q w → Mw S' q w → c' ≤ c + 3 → m' ≤ m + 18 → G Γ S' c' m' 1508 [(0, .ref b), (1, .ref (q 80)), (2, .ref (q 94)), (3, .ref (q 100)), (4, .int (nI i))] []) : G Γ S c m 742 [(0, .ref b), (1, .ref (q 80)), (2, .ref (q 94)), (3, .ref (q 100)), (4, .int (nI i))] [] := by
  refine g_aload_n (k := 1) F 1 rfl dL_law_742 ?_
  refine g_aload_n (k := 0) F 0 rfl dL_law_743 ?_
  refine g_iload F 4 rfl dL_law_744 ?_
  refine g_iconst (v := 1) F (by decide) dL_law_746 ?_
  refine g_iadd F dL_law_747 ?_
  refine g_rei (nI (i + 1)) (nadd rfl rfl) ?_
  refine g_sald (j := (i + 1)) F hX hb rfl (by omega) (by omega) dL_law_748 ?_
  refine g_aload_n (k := 3) F 3 rfl dL_law_749 ?_
  refine g_callSW F (kL_append Γ.1 S q hq z H l n tx hI hC (xs (i + 1))) okL_append mw571 ⟨(Nat.le_of_ble_eq_true rfl), (Nat.le_of_ble_eq_true rfl)⟩ rfl rfl (Nat.le_of_ble_eq_true rfl) ⟨by show c + 3 ≤ 601024; omega, by show m + 18 ≤ 7293034; omega⟩ dL_law_750 (toI (fun r1 S2 h3 => ?_))
  obtain ⟨er1, o1, f1, c1⟩ := h3
  have q1 : Shp S2.1 S2.2.1 q := FrP.q f1 hq
  have m1 := Mo_x f1 hM
  refine g_istore (L' := [(5, .int r1), (0, .ref b), (1, .ref (q 80)), (2, .ref (q 94)), (3, .ref (q 100)), (4, .int (nI i))]) F dL_law_753 (Nat.le_of_ble_eq_true rfl) rfl ?_
  refine g_aload_n (k := 2) F 3 rfl dL_law_755 ?_
  refine g_aload_n (k := 0) F 1 rfl dL_law_756 ?_
  refine g_iload F 5 rfl dL_law_757 ?_
  refine g_iconst (v := 1) F (by decide) dL_law_759 ?_
  refine g_iadd F dL_law_760 ?_
  refine g_rei (nI (i + 1)) (nadd rfl rfl) ?_
  refine g_sald (j := (i + 1)) F hX hb rfl (by omega) (by omega) dL_law_761 ?_
  refine g_callV F (kX10_append Γ.1 S2 q q1 z m1.1 hI.1.1 H l n tx m1 hI.2.2.2 (xs (i + 1))) okX10_append (qi94 q1) mw579 ⟨(Nat.le_of_ble_eq_true rfl), (Nat.le_of_ble_eq_true rfl)⟩ rfl rfl (Nat.le_of_ble_eq_true rfl) ⟨by show (c + 3) + 0 ≤ 601024; omega, by show (m + 18) + 0 ≤ 7293034; omega⟩ dL_law_762 (toI (fun r4 S5 h6 => ?_))
  obtain ⟨er4, g4, t4, m4⟩ := h6
  have q4 : Shp S5.1 S5.2.1 q := Fr.q g4 q1
  have c4 := Cl_m g4 (by decide) c1
  refine g_istore (L' := [(6, .int r4), (5, .int r1), (0, .ref b), (1, .ref (q 80)), (2, .ref (q 94)), (3, .ref (q 100)), (4, .int (nI i))]) F dL_law_765 (Nat.le_of_ble_eq_true rfl) rfl ?_
  refine g_aload_n (k := 2) F 4 rfl dL_law_767 ?_
  refine g_callV F (kX10_thrown Γ.1 S5 q q4) okX10_thrown (qi94 q4) mw170 ⟨(Nat.le_of_ble_eq_true rfl), (Nat.le_of_ble_eq_true rfl)⟩ rfl rfl (Nat.le_of_ble_eq_true rfl) ⟨by show (c + 3) + 0 ≤ 601024; omega, by show (m + 18) + 0 ≤ 7293034; omega⟩ dL_law_768 (toI (fun r7 S8 h9 => ?_))
  obtain ⟨er7, rfl⟩ := h9
  refine g_iload F 1 rfl dL_law_771 ?_
  refine g_icmp_eq (t := 778) F dL_law_773 (by decide) (fun u10 => ?_) (fun u10 => ?_)
  · refine g_iload F 1 rfl dL_law_778 ?_
    refine g_if_ne (t := 795) F dL_law_780 (by decide) (fun u11 => ?_) (fun u11 => ?_)
    · refine g_goto (t := 1508) F dL_law_795 (by decide) ?_
      refine g_sub (L' := [(0, .ref b), (1, .ref (q 80)), (2, .ref (q 94)), (3, .ref (q 100)), (4, .int (nI i))]) [2, 3, 4, 5, 6] rfl ?_
      exact kk _ (oApp (xs (i + 1)) (z, H, l, n, tx)).2.2 _ _ q4 (I_App hI) c4 m4 (by omega) (by omega)
    · refine g_aload_n (k := 3) F 5 rfl dL_law_783 ?_
      refine g_iconst (v := 0) F (by decide) dL_law_784 ?_
      refine g_lald (j := 0) F (qi100 q4) rfl (by rw [qn100 q4]; decide) (by rw [qn100 q4]; decide) dL_law_785 ?_
      refine g_iload F 0 rfl dL_law_786 ?_
      refine g_i2l F dL_law_788 ?_
      refine g_lcmp F dL_law_789 ?_
      refine g_if_eq (t := 795) F dL_law_790 (by decide) (fun u12 => ?_) (fun u12 => ?_)
      · refine g_goto (t := 1508) F dL_law_795 (by decide) ?_
        refine g_sub (L' := [(0, .ref b), (1, .ref (q 80)), (2, .ref (q 94)), (3, .ref (q 100)), (4, .int (nI i))]) [2, 3, 4, 5, 6] rfl ?_
        exact kk _ (oApp (xs (i + 1)) (z, H, l, n, tx)).2.2 _ _ q4 (I_App hI) c4 m4 (by omega) (by omega)
      · refine absurd (lc_eq.mpr ?_) u12
        rw [(g4.2.2 100 (by decide) (by decide)).2]
        exact (o1 (er1.symm.trans u11)).trans (by rw [er4])
  · exact absurd (by rw [er7, t4, er1]) u10
set_option maxHeartbeats 4000000 in
set_option maxRecDepth 100000 in
theorem lc_11 {Γ : Ctx} {b L : Nat} {xs : Nat → Int32} (F : Fx Γ RL cL_law rmL) (hX : va_X b L xs (ks Γ) (ks Γ).heap) (hb : b < Γ.1.2.2.2.1) (hL : L ≤ 2560) (S : PS) (q : Nat → Nat) (hq : Shp S.1 S.2.1 q) (z : ZZ) (H : List ZZ) (l : Int32) (n : Nat) (tx : Nat → Int32) (hI : Iw (z, H, l, n, tx)) (hC : Cl S q (z, H, l, n, tx)) (hM : Mw S q (z, H, l, n, tx)) (c m : Nat) (hc : c ≤ 600000) (hm : m ≤ 7000000) (i : Nat) (hi : i + 5 ≤ L) (kk : ∀ (S' : PS) (w : WW) (c' m' : Nat), Shp S'.1 S'.2.1 q → Iw w → Cl S' q w → Mw S' q w → c' ≤ c + 3 → m' ≤ m + 18 → G Γ S' c' m' 1508 [(0, .ref b), (1, .ref (q 80)), (2, .ref (q 94)), (3, .ref (q 100)), (4, .int (nI i))] []) : G Γ S c m 798 [(0, .ref b), (1, .ref (q 80)), (2, .ref (q 94)), (3, .ref (q 100)), (4, .int (nI i))] [] := by
  refine g_aload_n (k := 1) F 1 rfl dL_law_798 ?_
  refine g_callV F (kX9_clearBuffer Γ.1 S q hq z H l n tx hI.1.1 hC) okX9_clearBuffer (qi80 hq) mw586 ⟨(Nat.le_of_ble_eq_true rfl), (Nat.le_of_ble_eq_true rfl)⟩ rfl rfl (Nat.le_of_ble_eq_true rfl) ⟨by show c + 0 ≤ 601024; omega, by show m + 0 ≤ 7293034; omega⟩ dL_law_799 (toI (fun r1 S2 h3 => ?_))
  obtain ⟨z1, er1, f1, c1⟩ := h3
  have q1 : Shp S2.1 S2.2.1 q := FrP.q f1 hq
  have m1 := Mo_x (P_x f1) hM
  refine g_aload_n (k := 2) F 2 rfl dL_law_802 ?_
  refine g_callV F (kX10_clearBuffer Γ.1 S2 q q1 z m1.1 hI.1.1 H l n tx m1) okX10_clearBuffer (qi94 q1) mw590 ⟨(Nat.le_of_ble_eq_true rfl), (Nat.le_of_ble_eq_true rfl)⟩ rfl rfl (Nat.le_of_ble_eq_true rfl) ⟨by show c + 0 ≤ 601024; omega, by show m + 0 ≤ 7293034; omega⟩ dL_law_803 (toI (fun r4 S5 h6 => ?_))
  obtain ⟨er4, g4, t4, m4⟩ := h6
  have q4 : Shp S5.1 S5.2.1 q := Fr.q g4 q1
  have c4 := Cl_m g4 (by decide) c1
  refine g_icmp_eq (t := 1508) F dL_law_806 (by decide) (fun u7 => ?_) (fun u7 => ?_)
  · exact kk _ (oClr (z, H, l, n, tx)).2.2 _ _ q4 (I_Clr hI) c4 m4 (by omega) (by omega)
  · exact absurd (by rw [er1, er4]) u7
set_option maxHeartbeats 4000000 in
set_option maxRecDepth 100000 in
theorem lc_12 {Γ : Ctx} {b L : Nat} {xs : Nat → Int32} (F : Fx Γ RL cL_law rmL) (hX : va_X b L xs (ks Γ) (ks Γ).heap) (hb : b < Γ.1.2.2.2.1) (hL : L ≤ 2560) (S : PS) (q : Nat → Nat) (hq : Shp S.1 S.2.1 q) (z : ZZ) (H : List ZZ) (l : Int32) (n : Nat) (tx : Nat → Int32) (hI : Iw (z, H, l, n, tx)) (hC : Cl S q (z, H, l, n, tx)) (hM : Mw S q (z, H, l, n, tx)) (c m : Nat) (hc : c ≤ 600000) (hm : m ≤ 7000000) (i : Nat) (hi : i + 5 ≤ L) (kk : ∀ (S' : PS) (w : WW) (c' m' : Nat), Shp S'.1 S'.2.1 q → Iw w → Cl S' q w → Mw S' q w → c' ≤ c + 3 → m' ≤ m + 18 → G Γ S' c' m' 1508 [(0, .ref b), (1, .ref (q 80)), (2, .ref (q 94)), (3, .ref (q 100)), (4, .int (nI i))] []) : G Γ S c m 811 [(0, .ref b), (1, .ref (q 80)), (2, .ref (q 94)), (3, .ref (q 100)), (4, .int (nI i))] [] := by
  refine g_aload_n (k := 1) F 1 rfl dL_law_811 ?_
  refine g_callV F (kX9_firstError Γ.1 S q hq z H l n tx hI.1.1 hC hI.2.2.2) okX9_firstError (qi80 hq) mw594 ⟨(Nat.le_of_ble_eq_true rfl), (Nat.le_of_ble_eq_true rfl)⟩ rfl rfl (Nat.le_of_ble_eq_true rfl) ⟨by show c + 0 ≤ 601024; omega, by show m + 0 ≤ 7293034; omega⟩ dL_law_812 (toI (fun r1 S2 h3 => ?_))
  obtain ⟨z1, er1, f1, c1⟩ := h3
  have q1 : Shp S2.1 S2.2.1 q := FrP.q f1 hq
  have m1 := Mo_x (P_x f1) hM
  refine g_aload_n (k := 2) F 2 rfl dL_law_815 ?_
  refine g_callV F (kX10_firstError Γ.1 S2 q q1 z m1.1 hI.1.1 H l n tx m1 hI.2.2.2) okX10_firstError (qi94 q1) mw634 ⟨(Nat.le_of_ble_eq_true rfl), (Nat.le_of_ble_eq_true rfl)⟩ rfl rfl (Nat.le_of_ble_eq_true rfl) ⟨by show c + 0 ≤ 601024; omega, by show m + 0 ≤ 7293034; omega⟩ dL_law_816 (toI (fun r4 S5 h6 => ?_))
  obtain ⟨er4, g4, t4, m4⟩ := h6
  have q4 : Shp S5.1 S5.2.1 q := Fr.q g4 q1
  have c4 := Cl_m g4 (by decide) c1
  refine g_icmp_eq (t := 1508) F dL_law_819 (by decide) (fun u7 => ?_) (fun u7 => ?_)
  · exact kk _ (oFst (z, H, l, n, tx)).2.2 _ _ q4 (show Iw _ from hI) c4 m4 (by omega) (by omega)
  · exact absurd (by rw [er1, er4]) u7
set_option maxHeartbeats 4000000 in
set_option maxRecDepth 100000 in
theorem lc_13 {Γ : Ctx} {b L : Nat} {xs : Nat → Int32} (F : Fx Γ RL cL_law rmL) (hX : va_X b L xs (ks Γ) (ks Γ).heap) (hb : b < Γ.1.2.2.2.1) (hL : L ≤ 2560) (S : PS) (q : Nat → Nat) (hq : Shp S.1 S.2.1 q) (z : ZZ) (H : List ZZ) (l : Int32) (n : Nat) (tx : Nat → Int32) (hI : Iw (z, H, l, n, tx)) (hC : Cl S q (z, H, l, n, tx)) (hM : Mw S q (z, H, l, n, tx)) (c m : Nat) (hc : c ≤ 600000) (hm : m ≤ 7000000) (i : Nat) (hi : i + 5 ≤ L) (kk : ∀ (S' : PS) (w : WW) (c' m' : Nat), Shp S'.1 S'.2.1 q → Iw w → Cl S' q w → Mw S' q w → c' ≤ c + 3 → m' ≤ m + 18 → G Γ S' c' m' 1508 [(0, .ref b), (1, .ref (q 80)), (2, .ref (q 94)), (3, .ref (q 100)), (4, .int (nI i))] []) : G Γ S c m 824 [(0, .ref b), (1, .ref (q 80)), (2, .ref (q 94)), (3, .ref (q 100)), (4, .int (nI i))] [] := by
  refine g_aload_n (k := 1) F 1 rfl dL_law_824 ?_
  refine g_aload_n (k := 3) F 3 rfl dL_law_825 ?_
  refine g_callSW F (kL_load Γ.1 S q hq z H l n tx hI hC) okL_load mw661 ⟨(Nat.le_of_ble_eq_true rfl), (Nat.le_of_ble_eq_true rfl)⟩ rfl rfl (Nat.le_of_ble_eq_true rfl) ⟨by show c + 3 ≤ 601024; omega, by show m + 18 ≤ 7293034; omega⟩ dL_law_826 (toI (fun r1 S2 h3 => ?_))
  obtain ⟨er1, o1, f1, c1⟩ := h3
  have q1 : Shp S2.1 S2.2.1 q := FrP.q f1 hq
  have m1 := Mo_x f1 hM
  refine g_istore (L' := [(5, .int r1), (0, .ref b), (1, .ref (q 80)), (2, .ref (q 94)), (3, .ref (q 100)), (4, .int (nI i))]) F dL_law_829 (Nat.le_of_ble_eq_true rfl) rfl ?_
  refine g_aload_n (k := 2) F 3 rfl dL_law_831 ?_
  refine g_callV F (kX10_load Γ.1 S2 q q1 z m1.1 hI.1.1 H l n tx m1 hI.2.2.2) okX10_load (qi94 q1) mw674 ⟨(Nat.le_of_ble_eq_true rfl), (Nat.le_of_ble_eq_true rfl)⟩ rfl rfl (Nat.le_of_ble_eq_true rfl) ⟨by show (c + 3) + 0 ≤ 601024; omega, by show (m + 18) + 0 ≤ 7293034; omega⟩ dL_law_832 (toI (fun r4 S5 h6 => ?_))
  obtain ⟨er4, g4, t4, m4⟩ := h6
  have q4 : Shp S5.1 S5.2.1 q := Fr.q g4 q1
  have c4 := Cl_m g4 (by decide) c1
  refine g_istore (L' := [(6, .int r4), (5, .int r1), (0, .ref b), (1, .ref (q 80)), (2, .ref (q 94)), (3, .ref (q 100)), (4, .int (nI i))]) F dL_law_835 (Nat.le_of_ble_eq_true rfl) rfl ?_
  refine g_aload_n (k := 2) F 4 rfl dL_law_837 ?_
  refine g_callV F (kX10_thrown Γ.1 S5 q q4) okX10_thrown (qi94 q4) mw170 ⟨(Nat.le_of_ble_eq_true rfl), (Nat.le_of_ble_eq_true rfl)⟩ rfl rfl (Nat.le_of_ble_eq_true rfl) ⟨by show (c + 3) + 0 ≤ 601024; omega, by show (m + 18) + 0 ≤ 7293034; omega⟩ dL_law_838 (toI (fun r7 S8 h9 => ?_))
  obtain ⟨er7, rfl⟩ := h9
  refine g_iload F 1 rfl dL_law_841 ?_
  refine g_icmp_eq (t := 848) F dL_law_843 (by decide) (fun u10 => ?_) (fun u10 => ?_)
  · refine g_iload F 1 rfl dL_law_848 ?_
    refine g_if_ne (t := 865) F dL_law_850 (by decide) (fun u11 => ?_) (fun u11 => ?_)
    · refine g_goto (t := 1508) F dL_law_865 (by decide) ?_
      refine g_sub (L' := [(0, .ref b), (1, .ref (q 80)), (2, .ref (q 94)), (3, .ref (q 100)), (4, .int (nI i))]) [2, 3, 4, 5, 6] rfl ?_
      exact kk _ (oLod (z, H, l, n, tx)).2.2 _ _ q4 (I_Lod hI) c4 m4 (by omega) (by omega)
    · refine g_aload_n (k := 3) F 5 rfl dL_law_853 ?_
      refine g_iconst (v := 0) F (by decide) dL_law_854 ?_
      refine g_lald (j := 0) F (qi100 q4) rfl (by rw [qn100 q4]; decide) (by rw [qn100 q4]; decide) dL_law_855 ?_
      refine g_iload F 0 rfl dL_law_856 ?_
      refine g_i2l F dL_law_858 ?_
      refine g_lcmp F dL_law_859 ?_
      refine g_if_eq (t := 865) F dL_law_860 (by decide) (fun u12 => ?_) (fun u12 => ?_)
      · refine g_goto (t := 1508) F dL_law_865 (by decide) ?_
        refine g_sub (L' := [(0, .ref b), (1, .ref (q 80)), (2, .ref (q 94)), (3, .ref (q 100)), (4, .int (nI i))]) [2, 3, 4, 5, 6] rfl ?_
        exact kk _ (oLod (z, H, l, n, tx)).2.2 _ _ q4 (I_Lod hI) c4 m4 (by omega) (by omega)
      · refine absurd (lc_eq.mpr ?_) u12
        rw [(g4.2.2 100 (by decide) (by decide)).2]
        exact (o1 (er1.symm.trans u11)).trans (by rw [er4])
  · exact absurd (by rw [er7, t4, er1]) u10
set_option maxHeartbeats 4000000 in
set_option maxRecDepth 100000 in
theorem lc_14 {Γ : Ctx} {b L : Nat} {xs : Nat → Int32} (F : Fx Γ RL cL_law rmL) (hX : va_X b L xs (ks Γ) (ks Γ).heap) (hb : b < Γ.1.2.2.2.1) (hL : L ≤ 2560) (S : PS) (q : Nat → Nat) (hq : Shp S.1 S.2.1 q) (z : ZZ) (H : List ZZ) (l : Int32) (n : Nat) (tx : Nat → Int32) (hI : Iw (z, H, l, n, tx)) (hC : Cl S q (z, H, l, n, tx)) (hM : Mw S q (z, H, l, n, tx)) (c m : Nat) (hc : c ≤ 600000) (hm : m ≤ 7000000) (i : Nat) (hi : i + 5 ≤ L) (kk : ∀ (S' : PS) (w : WW) (c' m' : Nat), Shp S'.1 S'.2.1 q → Iw w → Cl S' q w → Mw S' q w → c' ≤ c + 3 → m' ≤ m + 18 → G Γ S' c' m' 1508 [(0, .ref b), (1, .ref (q 80)), (2, .ref (q 94)), (3, .ref (q 100)), (4, .int (nI i))] []) : G Γ S c m 868 [(0, .ref b), (1, .ref (q 80)), (2, .ref (q 94)), (3, .ref (q 100)), (4, .int (nI i))] [] := by
  refine g_aload_n (k := 1) F 1 rfl dL_law_868 ?_
  refine g_aload_n (k := 3) F 3 rfl dL_law_869 ?_
  refine g_callSW F (kL_undo Γ.1 S q hq z H l n tx hI hC) okL_undo mw678 ⟨(Nat.le_of_ble_eq_true rfl), (Nat.le_of_ble_eq_true rfl)⟩ rfl rfl (Nat.le_of_ble_eq_true rfl) ⟨by show c + 3 ≤ 601024; omega, by show m + 18 ≤ 7293034; omega⟩ dL_law_870 (toI (fun r1 S2 h3 => ?_))
  obtain ⟨er1, o1, f1, c1⟩ := h3
  have q1 : Shp S2.1 S2.2.1 q := FrP.q f1 hq
  have m1 := Mo_x f1 hM
  refine g_istore (L' := [(5, .int r1), (0, .ref b), (1, .ref (q 80)), (2, .ref (q 94)), (3, .ref (q 100)), (4, .int (nI i))]) F dL_law_873 (Nat.le_of_ble_eq_true rfl) rfl ?_
  refine g_aload_n (k := 2) F 3 rfl dL_law_875 ?_
  refine g_callV F (kX10_undo Γ.1 S2 q q1 z m1.1 hI.1.1 H l n tx m1 hI.1.2 (fun y hy => (hI.2.1 y hy).2)) okX10_undo (qi94 q1) mw688 ⟨(Nat.le_of_ble_eq_true rfl), (Nat.le_of_ble_eq_true rfl)⟩ rfl rfl (Nat.le_of_ble_eq_true rfl) ⟨by show (c + 3) + 0 ≤ 601024; omega, by show (m + 18) + 0 ≤ 7293034; omega⟩ dL_law_876 (toI (fun r4 S5 h6 => ?_))
  obtain ⟨er4, g4, t4, m4⟩ := h6
  have q4 : Shp S5.1 S5.2.1 q := Fr.q g4 q1
  have c4 := Cl_m g4 (by decide) c1
  refine g_istore (L' := [(6, .int r4), (5, .int r1), (0, .ref b), (1, .ref (q 80)), (2, .ref (q 94)), (3, .ref (q 100)), (4, .int (nI i))]) F dL_law_879 (Nat.le_of_ble_eq_true rfl) rfl ?_
  refine g_aload_n (k := 2) F 4 rfl dL_law_881 ?_
  refine g_callV F (kX10_thrown Γ.1 S5 q q4) okX10_thrown (qi94 q4) mw170 ⟨(Nat.le_of_ble_eq_true rfl), (Nat.le_of_ble_eq_true rfl)⟩ rfl rfl (Nat.le_of_ble_eq_true rfl) ⟨by show (c + 3) + 0 ≤ 601024; omega, by show (m + 18) + 0 ≤ 7293034; omega⟩ dL_law_882 (toI (fun r7 S8 h9 => ?_))
  obtain ⟨er7, rfl⟩ := h9
  refine g_iload F 1 rfl dL_law_885 ?_
  refine g_icmp_eq (t := 892) F dL_law_887 (by decide) (fun u10 => ?_) (fun u10 => ?_)
  · refine g_iload F 1 rfl dL_law_892 ?_
    refine g_if_ne (t := 909) F dL_law_894 (by decide) (fun u11 => ?_) (fun u11 => ?_)
    · refine g_goto (t := 1508) F dL_law_909 (by decide) ?_
      refine g_sub (L' := [(0, .ref b), (1, .ref (q 80)), (2, .ref (q 94)), (3, .ref (q 100)), (4, .int (nI i))]) [2, 3, 4, 5, 6] rfl ?_
      exact kk _ (oUnd (z, H, l, n, tx)).2.2 _ _ q4 (I_Und hI) c4 m4 (by omega) (by omega)
    · refine g_aload_n (k := 3) F 5 rfl dL_law_897 ?_
      refine g_iconst (v := 0) F (by decide) dL_law_898 ?_
      refine g_lald (j := 0) F (qi100 q4) rfl (by rw [qn100 q4]; decide) (by rw [qn100 q4]; decide) dL_law_899 ?_
      refine g_iload F 0 rfl dL_law_900 ?_
      refine g_i2l F dL_law_902 ?_
      refine g_lcmp F dL_law_903 ?_
      refine g_if_eq (t := 909) F dL_law_904 (by decide) (fun u12 => ?_) (fun u12 => ?_)
      · refine g_goto (t := 1508) F dL_law_909 (by decide) ?_
        refine g_sub (L' := [(0, .ref b), (1, .ref (q 80)), (2, .ref (q 94)), (3, .ref (q 100)), (4, .int (nI i))]) [2, 3, 4, 5, 6] rfl ?_
        exact kk _ (oUnd (z, H, l, n, tx)).2.2 _ _ q4 (I_Und hI) c4 m4 (by omega) (by omega)
      · refine absurd (lc_eq.mpr ?_) u12
        rw [(g4.2.2 100 (by decide) (by decide)).2]
        exact (o1 (er1.symm.trans u11)).trans (by rw [er4])
  · exact absurd (by rw [er7, t4, er1]) u10
set_option maxHeartbeats 4000000 in
set_option maxRecDepth 100000 in
theorem lc_15 {Γ : Ctx} {b L : Nat} {xs : Nat → Int32} (F : Fx Γ RL cL_law rmL) (hX : va_X b L xs (ks Γ) (ks Γ).heap) (hb : b < Γ.1.2.2.2.1) (hL : L ≤ 2560) (S : PS) (q : Nat → Nat) (hq : Shp S.1 S.2.1 q) (z : ZZ) (H : List ZZ) (l : Int32) (n : Nat) (tx : Nat → Int32) (hI : Iw (z, H, l, n, tx)) (hC : Cl S q (z, H, l, n, tx)) (hM : Mw S q (z, H, l, n, tx)) (c m : Nat) (hc : c ≤ 600000) (hm : m ≤ 7000000) (i : Nat) (hi : i + 5 ≤ L) (kk : ∀ (S' : PS) (w : WW) (c' m' : Nat), Shp S'.1 S'.2.1 q → Iw w → Cl S' q w → Mw S' q w → c' ≤ c + 3 → m' ≤ m + 18 → G Γ S' c' m' 1508 [(0, .ref b), (1, .ref (q 80)), (2, .ref (q 94)), (3, .ref (q 100)), (4, .int (nI i))] []) : G Γ S c m 912 [(0, .ref b), (1, .ref (q 80)), (2, .ref (q 94)), (3, .ref (q 100)), (4, .int (nI i))] [] := by
  refine g_aload_n (k := 1) F 1 rfl dL_law_912 ?_
  refine g_callV F (kX9_reason Γ.1 S q hq z H l n tx hI.1.1 hC) okX9_reason (qi80 hq) mw692 ⟨(Nat.le_of_ble_eq_true rfl), (Nat.le_of_ble_eq_true rfl)⟩ rfl rfl (Nat.le_of_ble_eq_true rfl) ⟨by show c + 0 ≤ 601024; omega, by show m + 0 ≤ 7293034; omega⟩ dL_law_913 (toI (fun r1 S2 h3 => ?_))
  obtain ⟨z1, er1, f1, c1⟩ := h3
  have q1 : Shp S2.1 S2.2.1 q := FrP.q f1 hq
  have m1 := Mo_x (P_x f1) hM
  refine g_aload_n (k := 2) F 2 rfl dL_law_916 ?_
  refine g_callV F (kX10_reason Γ.1 S2 q q1 z m1.1 hI.1.1 H l n tx m1) okX10_reason (qi94 q1) mw696 ⟨(Nat.le_of_ble_eq_true rfl), (Nat.le_of_ble_eq_true rfl)⟩ rfl rfl (Nat.le_of_ble_eq_true rfl) ⟨by show c + 0 ≤ 601024; omega, by show m + 0 ≤ 7293034; omega⟩ dL_law_917 (toI (fun r4 S5 h6 => ?_))
  obtain ⟨er4, g4, t4, m4⟩ := h6
  have q4 : Shp S5.1 S5.2.1 q := Fr.q g4 q1
  have c4 := Cl_m g4 (by decide) c1
  refine g_icmp_eq (t := 1508) F dL_law_920 (by decide) (fun u7 => ?_) (fun u7 => ?_)
  · exact kk _ (oRea (z, H, l, n, tx)).2.2 _ _ q4 (show Iw _ from hI) c4 m4 (by omega) (by omega)
  · exact absurd (by rw [er1, er4]) u7
set_option maxHeartbeats 4000000 in
set_option maxRecDepth 100000 in
theorem lc_16 {Γ : Ctx} {b L : Nat} {xs : Nat → Int32} (F : Fx Γ RL cL_law rmL) (hX : va_X b L xs (ks Γ) (ks Γ).heap) (hb : b < Γ.1.2.2.2.1) (hL : L ≤ 2560) (S : PS) (q : Nat → Nat) (hq : Shp S.1 S.2.1 q) (z : ZZ) (H : List ZZ) (l : Int32) (n : Nat) (tx : Nat → Int32) (hI : Iw (z, H, l, n, tx)) (hC : Cl S q (z, H, l, n, tx)) (hM : Mw S q (z, H, l, n, tx)) (c m : Nat) (hc : c ≤ 600000) (hm : m ≤ 7000000) (i : Nat) (hi : i + 5 ≤ L) (kk : ∀ (S' : PS) (w : WW) (c' m' : Nat), Shp S'.1 S'.2.1 q → Iw w → Cl S' q w → Mw S' q w → c' ≤ c + 3 → m' ≤ m + 18 → G Γ S' c' m' 1508 [(0, .ref b), (1, .ref (q 80)), (2, .ref (q 94)), (3, .ref (q 100)), (4, .int (nI i))] []) : G Γ S c m 925 [(0, .ref b), (1, .ref (q 80)), (2, .ref (q 94)), (3, .ref (q 100)), (4, .int (nI i))] [] := by
  refine g_aload_n (k := 1) F 1 rfl dL_law_925 ?_
  refine g_aload_n (k := 0) F 0 rfl dL_law_926 ?_
  refine g_iload F 4 rfl dL_law_927 ?_
  refine g_iconst (v := 1) F (by decide) dL_law_929 ?_
  refine g_iadd F dL_law_930 ?_
  refine g_rei (nI (i + 1)) (nadd rfl rfl) ?_
  refine g_sald (j := (i + 1)) F hX hb rfl (by omega) (by omega) dL_law_931 ?_
  refine g_aload_n (k := 0) F 0 rfl dL_law_932 ?_
  refine g_iload F 4 rfl dL_law_933 ?_
  refine g_iconst (v := 2) F (by decide) dL_law_935 ?_
  refine g_iadd F dL_law_936 ?_
  refine g_rei (nI (i + 2)) (nadd rfl rfl) ?_
  refine g_sald (j := (i + 2)) F hX hb rfl (by omega) (by omega) dL_law_937 ?_
  refine g_aload_n (k := 3) F 3 rfl dL_law_938 ?_
  refine g_callSW F (kL_corner Γ.1 S q hq z H l n tx hI hC (xs (i + 1)) (xs (i + 2))) okL_corner mw700 ⟨(Nat.le_of_ble_eq_true rfl), (Nat.le_of_ble_eq_true rfl)⟩ rfl rfl (Nat.le_of_ble_eq_true rfl) ⟨by show c + 3 ≤ 601024; omega, by show m + 18 ≤ 7293034; omega⟩ dL_law_939 (toI (fun r1 S2 h3 => ?_))
  obtain ⟨er1, o1, f1, c1⟩ := h3
  have q1 : Shp S2.1 S2.2.1 q := FrP.q f1 hq
  have m1 := Mo_x f1 hM
  refine g_istore (L' := [(5, .int r1), (0, .ref b), (1, .ref (q 80)), (2, .ref (q 94)), (3, .ref (q 100)), (4, .int (nI i))]) F dL_law_942 (Nat.le_of_ble_eq_true rfl) rfl ?_
  refine g_aload_n (k := 2) F 3 rfl dL_law_944 ?_
  refine g_aload_n (k := 0) F 1 rfl dL_law_945 ?_
  refine g_iload F 5 rfl dL_law_946 ?_
  refine g_iconst (v := 1) F (by decide) dL_law_948 ?_
  refine g_iadd F dL_law_949 ?_
  refine g_rei (nI (i + 1)) (nadd rfl rfl) ?_
  refine g_sald (j := (i + 1)) F hX hb rfl (by omega) (by omega) dL_law_950 ?_
  refine g_aload_n (k := 0) F 1 rfl dL_law_951 ?_
  refine g_iload F 5 rfl dL_law_952 ?_
  refine g_iconst (v := 2) F (by decide) dL_law_954 ?_
  refine g_iadd F dL_law_955 ?_
  refine g_rei (nI (i + 2)) (nadd rfl rfl) ?_
  refine g_sald (j := (i + 2)) F hX hb rfl (by omega) (by omega) dL_law_956 ?_
  refine g_callV F (kX10_corner Γ.1 S2 q q1 z m1.1 hI.1.1 H l n tx m1 (xs (i + 1)) (xs (i + 2))) okX10_corner (qi94 q1) mw721 ⟨(Nat.le_of_ble_eq_true rfl), (Nat.le_of_ble_eq_true rfl)⟩ rfl rfl (Nat.le_of_ble_eq_true rfl) ⟨by show (c + 3) + 0 ≤ 601024; omega, by show (m + 18) + 0 ≤ 7293034; omega⟩ dL_law_957 (toJ (fun r4 S5 h6 => ?_))
  obtain ⟨er4, g4, t4, m4⟩ := h6
  have q4 : Shp S5.1 S5.2.1 q := Fr.q g4 q1
  have c4 := Cl_m g4 (by decide) c1
  refine g_lstore (L' := [(6, .long r4), (5, .int r1), (0, .ref b), (1, .ref (q 80)), (2, .ref (q 94)), (3, .ref (q 100)), (4, .int (nI i))]) F dL_law_960 (Nat.le_of_ble_eq_true rfl) rfl ?_
  refine g_aload_n (k := 2) F 4 rfl dL_law_962 ?_
  refine g_callV F (kX10_thrown Γ.1 S5 q q4) okX10_thrown (qi94 q4) mw170 ⟨(Nat.le_of_ble_eq_true rfl), (Nat.le_of_ble_eq_true rfl)⟩ rfl rfl (Nat.le_of_ble_eq_true rfl) ⟨by show (c + 3) + 0 ≤ 601024; omega, by show (m + 18) + 0 ≤ 7293034; omega⟩ dL_law_963 (toI (fun r7 S8 h9 => ?_))
  obtain ⟨er7, rfl⟩ := h9
  refine g_iload F 1 rfl dL_law_966 ?_
  refine g_icmp_eq (t := 973) F dL_law_968 (by decide) (fun u10 => ?_) (fun u10 => ?_)
  · refine g_iload F 1 rfl dL_law_973 ?_
    refine g_if_ne (t := 989) F dL_law_975 (by decide) (fun u11 => ?_) (fun u11 => ?_)
    · refine g_goto (t := 1508) F dL_law_989 (by decide) ?_
      refine g_sub (L' := [(0, .ref b), (1, .ref (q 80)), (2, .ref (q 94)), (3, .ref (q 100)), (4, .int (nI i))]) [2, 3, 4, 5, 6] rfl ?_
      exact kk _ (z, H, l, n, tx) _ _ q4 (hI) c4 m4 (by omega) (by omega)
    · refine g_aload_n (k := 3) F 5 rfl dL_law_978 ?_
      refine g_iconst (v := 0) F (by decide) dL_law_979 ?_
      refine g_lald (j := 0) F (qi100 q4) rfl (by rw [qn100 q4]; decide) (by rw [qn100 q4]; decide) dL_law_980 ?_
      refine g_lload F 0 rfl dL_law_981 ?_
      refine g_lcmp F dL_law_983 ?_
      refine g_if_eq (t := 989) F dL_law_984 (by decide) (fun u12 => ?_) (fun u12 => ?_)
      · refine g_goto (t := 1508) F dL_law_989 (by decide) ?_
        refine g_sub (L' := [(0, .ref b), (1, .ref (q 80)), (2, .ref (q 94)), (3, .ref (q 100)), (4, .int (nI i))]) [2, 3, 4, 5, 6] rfl ?_
        exact kk _ (z, H, l, n, tx) _ _ q4 (hI) c4 m4 (by omega) (by omega)
      · refine absurd (lc_eq.mpr ?_) u12
        rw [(g4.2.2 100 (by decide) (by decide)).2]
        exact (o1 (er1.symm.trans u11)).trans (by rw [er4])
  · exact absurd (by rw [er7, t4, er1]) u10
set_option maxHeartbeats 4000000 in
set_option maxRecDepth 100000 in
theorem lc_17 {Γ : Ctx} {b L : Nat} {xs : Nat → Int32} (F : Fx Γ RL cL_law rmL) (hX : va_X b L xs (ks Γ) (ks Γ).heap) (hb : b < Γ.1.2.2.2.1) (hL : L ≤ 2560) (S : PS) (q : Nat → Nat) (hq : Shp S.1 S.2.1 q) (z : ZZ) (H : List ZZ) (l : Int32) (n : Nat) (tx : Nat → Int32) (hI : Iw (z, H, l, n, tx)) (hC : Cl S q (z, H, l, n, tx)) (hM : Mw S q (z, H, l, n, tx)) (c m : Nat) (hc : c ≤ 600000) (hm : m ≤ 7000000) (i : Nat) (hi : i + 5 ≤ L) (kk : ∀ (S' : PS) (w : WW) (c' m' : Nat), Shp S'.1 S'.2.1 q → Iw w → Cl S' q w → Mw S' q w → c' ≤ c + 3 → m' ≤ m + 18 → G Γ S' c' m' 1508 [(0, .ref b), (1, .ref (q 80)), (2, .ref (q 94)), (3, .ref (q 100)), (4, .int (nI i))] []) : G Γ S c m 992 [(0, .ref b), (1, .ref (q 80)), (2, .ref (q 94)), (3, .ref (q 100)), (4, .int (nI i))] [] := by
  refine g_aload_n (k := 1) F 1 rfl dL_law_992 ?_
  refine g_aload_n (k := 0) F 0 rfl dL_law_993 ?_
  refine g_iload F 4 rfl dL_law_994 ?_
  refine g_iconst (v := 1) F (by decide) dL_law_996 ?_
  refine g_iadd F dL_law_997 ?_
  refine g_rei (nI (i + 1)) (nadd rfl rfl) ?_
  refine g_sald (j := (i + 1)) F hX hb rfl (by omega) (by omega) dL_law_998 ?_
  refine g_aload_n (k := 0) F 0 rfl dL_law_999 ?_
  refine g_iload F 4 rfl dL_law_1000 ?_
  refine g_iconst (v := 2) F (by decide) dL_law_1002 ?_
  refine g_iadd F dL_law_1003 ?_
  refine g_rei (nI (i + 2)) (nadd rfl rfl) ?_
  refine g_sald (j := (i + 2)) F hX hb rfl (by omega) (by omega) dL_law_1004 ?_
  refine g_aload_n (k := 3) F 3 rfl dL_law_1005 ?_
  refine g_callSW F (kL_made Γ.1 S q hq z H l n tx hI hC (xs (i + 1)) (xs (i + 2))) okL_made mw734 ⟨(Nat.le_of_ble_eq_true rfl), (Nat.le_of_ble_eq_true rfl)⟩ rfl rfl (Nat.le_of_ble_eq_true rfl) ⟨by show c + 3 ≤ 601024; omega, by show m + 18 ≤ 7293034; omega⟩ dL_law_1006 (toI (fun r1 S2 h3 => ?_))
  obtain ⟨er1, o1, f1, c1⟩ := h3
  have q1 : Shp S2.1 S2.2.1 q := FrP.q f1 hq
  have m1 := Mo_x f1 hM
  refine g_istore (L' := [(5, .int r1), (0, .ref b), (1, .ref (q 80)), (2, .ref (q 94)), (3, .ref (q 100)), (4, .int (nI i))]) F dL_law_1009 (Nat.le_of_ble_eq_true rfl) rfl ?_
  refine g_aload_n (k := 2) F 3 rfl dL_law_1011 ?_
  refine g_aload_n (k := 0) F 1 rfl dL_law_1012 ?_
  refine g_iload F 5 rfl dL_law_1013 ?_
  refine g_iconst (v := 1) F (by decide) dL_law_1015 ?_
  refine g_iadd F dL_law_1016 ?_
  refine g_rei (nI (i + 1)) (nadd rfl rfl) ?_
  refine g_sald (j := (i + 1)) F hX hb rfl (by omega) (by omega) dL_law_1017 ?_
  refine g_aload_n (k := 0) F 1 rfl dL_law_1018 ?_
  refine g_iload F 5 rfl dL_law_1019 ?_
  refine g_iconst (v := 2) F (by decide) dL_law_1021 ?_
  refine g_iadd F dL_law_1022 ?_
  refine g_rei (nI (i + 2)) (nadd rfl rfl) ?_
  refine g_sald (j := (i + 2)) F hX hb rfl (by omega) (by omega) dL_law_1023 ?_
  refine g_callV F (kX10_made Γ.1 S2 q q1 z m1.1 hI.1.1 H l n tx m1 (xs (i + 1)) (xs (i + 2))) okX10_made (qi94 q1) mw791 ⟨(Nat.le_of_ble_eq_true rfl), (Nat.le_of_ble_eq_true rfl)⟩ rfl rfl (Nat.le_of_ble_eq_true rfl) ⟨by show (c + 3) + 0 ≤ 601024; omega, by show (m + 18) + 0 ≤ 7293034; omega⟩ dL_law_1024 (toJ (fun r4 S5 h6 => ?_))
  obtain ⟨er4, g4, t4, m4⟩ := h6
  have q4 : Shp S5.1 S5.2.1 q := Fr.q g4 q1
  have c4 := Cl_m g4 (by decide) c1
  refine g_lstore (L' := [(6, .long r4), (5, .int r1), (0, .ref b), (1, .ref (q 80)), (2, .ref (q 94)), (3, .ref (q 100)), (4, .int (nI i))]) F dL_law_1027 (Nat.le_of_ble_eq_true rfl) rfl ?_
  refine g_aload_n (k := 2) F 4 rfl dL_law_1029 ?_
  refine g_callV F (kX10_thrown Γ.1 S5 q q4) okX10_thrown (qi94 q4) mw170 ⟨(Nat.le_of_ble_eq_true rfl), (Nat.le_of_ble_eq_true rfl)⟩ rfl rfl (Nat.le_of_ble_eq_true rfl) ⟨by show (c + 3) + 0 ≤ 601024; omega, by show (m + 18) + 0 ≤ 7293034; omega⟩ dL_law_1030 (toI (fun r7 S8 h9 => ?_))
  obtain ⟨er7, rfl⟩ := h9
  refine g_iload F 1 rfl dL_law_1033 ?_
  refine g_icmp_eq (t := 1040) F dL_law_1035 (by decide) (fun u10 => ?_) (fun u10 => ?_)
  · refine g_iload F 1 rfl dL_law_1040 ?_
    refine g_if_ne (t := 1056) F dL_law_1042 (by decide) (fun u11 => ?_) (fun u11 => ?_)
    · refine g_goto (t := 1508) F dL_law_1056 (by decide) ?_
      refine g_sub (L' := [(0, .ref b), (1, .ref (q 80)), (2, .ref (q 94)), (3, .ref (q 100)), (4, .int (nI i))]) [2, 3, 4, 5, 6] rfl ?_
      exact kk _ (z, H, l, n, tx) _ _ q4 (hI) c4 m4 (by omega) (by omega)
    · refine g_aload_n (k := 3) F 5 rfl dL_law_1045 ?_
      refine g_iconst (v := 0) F (by decide) dL_law_1046 ?_
      refine g_lald (j := 0) F (qi100 q4) rfl (by rw [qn100 q4]; decide) (by rw [qn100 q4]; decide) dL_law_1047 ?_
      refine g_lload F 0 rfl dL_law_1048 ?_
      refine g_lcmp F dL_law_1050 ?_
      refine g_if_eq (t := 1056) F dL_law_1051 (by decide) (fun u12 => ?_) (fun u12 => ?_)
      · refine g_goto (t := 1508) F dL_law_1056 (by decide) ?_
        refine g_sub (L' := [(0, .ref b), (1, .ref (q 80)), (2, .ref (q 94)), (3, .ref (q 100)), (4, .int (nI i))]) [2, 3, 4, 5, 6] rfl ?_
        exact kk _ (z, H, l, n, tx) _ _ q4 (hI) c4 m4 (by omega) (by omega)
      · refine absurd (lc_eq.mpr ?_) u12
        rw [(g4.2.2 100 (by decide) (by decide)).2]
        exact (o1 (er1.symm.trans u11)).trans (by rw [er4])
  · exact absurd (by rw [er7, t4, er1]) u10
set_option maxHeartbeats 4000000 in
set_option maxRecDepth 100000 in
theorem lc_18 {Γ : Ctx} {b L : Nat} {xs : Nat → Int32} (F : Fx Γ RL cL_law rmL) (hX : va_X b L xs (ks Γ) (ks Γ).heap) (hb : b < Γ.1.2.2.2.1) (hL : L ≤ 2560) (S : PS) (q : Nat → Nat) (hq : Shp S.1 S.2.1 q) (z : ZZ) (H : List ZZ) (l : Int32) (n : Nat) (tx : Nat → Int32) (hI : Iw (z, H, l, n, tx)) (hC : Cl S q (z, H, l, n, tx)) (hM : Mw S q (z, H, l, n, tx)) (c m : Nat) (hc : c ≤ 600000) (hm : m ≤ 7000000) (i : Nat) (hi : i + 5 ≤ L) (kk : ∀ (S' : PS) (w : WW) (c' m' : Nat), Shp S'.1 S'.2.1 q → Iw w → Cl S' q w → Mw S' q w → c' ≤ c + 3 → m' ≤ m + 18 → G Γ S' c' m' 1508 [(0, .ref b), (1, .ref (q 80)), (2, .ref (q 94)), (3, .ref (q 100)), (4, .int (nI i))] []) : G Γ S c m 1059 [(0, .ref b), (1, .ref (q 80)), (2, .ref (q 94)), (3, .ref (q 100)), (4, .int (nI i))] [] := by
  refine g_aload_n (k := 1) F 1 rfl dL_law_1059 ?_
  refine g_aload_n (k := 0) F 0 rfl dL_law_1060 ?_
  refine g_iload F 4 rfl dL_law_1061 ?_
  refine g_iconst (v := 1) F (by decide) dL_law_1063 ?_
  refine g_iadd F dL_law_1064 ?_
  refine g_rei (nI (i + 1)) (nadd rfl rfl) ?_
  refine g_sald (j := (i + 1)) F hX hb rfl (by omega) (by omega) dL_law_1065 ?_
  refine g_aload_n (k := 0) F 0 rfl dL_law_1066 ?_
  refine g_iload F 4 rfl dL_law_1067 ?_
  refine g_iconst (v := 2) F (by decide) dL_law_1069 ?_
  refine g_iadd F dL_law_1070 ?_
  refine g_rei (nI (i + 2)) (nadd rfl rfl) ?_
  refine g_sald (j := (i + 2)) F hX hb rfl (by omega) (by omega) dL_law_1071 ?_
  refine g_aload_n (k := 0) F 0 rfl dL_law_1072 ?_
  refine g_iload F 4 rfl dL_law_1073 ?_
  refine g_iconst (v := 3) F (by decide) dL_law_1075 ?_
  refine g_iadd F dL_law_1076 ?_
  refine g_rei (nI (i + 3)) (nadd rfl rfl) ?_
  refine g_sald (j := (i + 3)) F hX hb rfl (by omega) (by omega) dL_law_1077 ?_
  refine g_aload_n (k := 3) F 3 rfl dL_law_1078 ?_
  refine g_callSW F (kL_elbow Γ.1 S q hq z H l n tx hI hC (xs (i + 1)) (xs (i + 2)) (xs (i + 3))) okL_elbow mw826 ⟨(Nat.le_of_ble_eq_true rfl), (Nat.le_of_ble_eq_true rfl)⟩ rfl rfl (Nat.le_of_ble_eq_true rfl) ⟨by show c + 3 ≤ 601024; omega, by show m + 18 ≤ 7293034; omega⟩ dL_law_1079 (toI (fun r1 S2 h3 => ?_))
  obtain ⟨er1, o1, f1, c1⟩ := h3
  have q1 : Shp S2.1 S2.2.1 q := FrP.q f1 hq
  have m1 := Mo_x f1 hM
  refine g_istore (L' := [(5, .int r1), (0, .ref b), (1, .ref (q 80)), (2, .ref (q 94)), (3, .ref (q 100)), (4, .int (nI i))]) F dL_law_1082 (Nat.le_of_ble_eq_true rfl) rfl ?_
  refine g_aload_n (k := 2) F 3 rfl dL_law_1084 ?_
  refine g_aload_n (k := 0) F 1 rfl dL_law_1085 ?_
  refine g_iload F 5 rfl dL_law_1086 ?_
  refine g_iconst (v := 1) F (by decide) dL_law_1088 ?_
  refine g_iadd F dL_law_1089 ?_
  refine g_rei (nI (i + 1)) (nadd rfl rfl) ?_
  refine g_sald (j := (i + 1)) F hX hb rfl (by omega) (by omega) dL_law_1090 ?_
  refine g_aload_n (k := 0) F 1 rfl dL_law_1091 ?_
  refine g_iload F 5 rfl dL_law_1092 ?_
  refine g_iconst (v := 2) F (by decide) dL_law_1094 ?_
  refine g_iadd F dL_law_1095 ?_
  refine g_rei (nI (i + 2)) (nadd rfl rfl) ?_
  refine g_sald (j := (i + 2)) F hX hb rfl (by omega) (by omega) dL_law_1096 ?_
  refine g_aload_n (k := 0) F 1 rfl dL_law_1097 ?_
  refine g_iload F 5 rfl dL_law_1098 ?_
  refine g_iconst (v := 3) F (by decide) dL_law_1100 ?_
  refine g_iadd F dL_law_1101 ?_
  refine g_rei (nI (i + 3)) (nadd rfl rfl) ?_
  refine g_sald (j := (i + 3)) F hX hb rfl (by omega) (by omega) dL_law_1102 ?_
  refine g_callV F (kX10_elbow Γ.1 S2 q q1 z m1.1 hI.1.1 H l n tx m1 (xs (i + 1)) (xs (i + 2)) (xs (i + 3))) okX10_elbow (qi94 q1) mw834 ⟨(Nat.le_of_ble_eq_true rfl), (Nat.le_of_ble_eq_true rfl)⟩ rfl rfl (Nat.le_of_ble_eq_true rfl) ⟨by show (c + 3) + 0 ≤ 601024; omega, by show (m + 18) + 0 ≤ 7293034; omega⟩ dL_law_1103 (toJ (fun r4 S5 h6 => ?_))
  obtain ⟨er4, g4, t4, m4⟩ := h6
  have q4 : Shp S5.1 S5.2.1 q := Fr.q g4 q1
  have c4 := Cl_m g4 (by decide) c1
  refine g_lstore (L' := [(6, .long r4), (5, .int r1), (0, .ref b), (1, .ref (q 80)), (2, .ref (q 94)), (3, .ref (q 100)), (4, .int (nI i))]) F dL_law_1106 (Nat.le_of_ble_eq_true rfl) rfl ?_
  refine g_aload_n (k := 2) F 4 rfl dL_law_1108 ?_
  refine g_callV F (kX10_thrown Γ.1 S5 q q4) okX10_thrown (qi94 q4) mw170 ⟨(Nat.le_of_ble_eq_true rfl), (Nat.le_of_ble_eq_true rfl)⟩ rfl rfl (Nat.le_of_ble_eq_true rfl) ⟨by show (c + 3) + 0 ≤ 601024; omega, by show (m + 18) + 0 ≤ 7293034; omega⟩ dL_law_1109 (toI (fun r7 S8 h9 => ?_))
  obtain ⟨er7, rfl⟩ := h9
  refine g_iload F 1 rfl dL_law_1112 ?_
  refine g_icmp_eq (t := 1119) F dL_law_1114 (by decide) (fun u10 => ?_) (fun u10 => ?_)
  · refine g_iload F 1 rfl dL_law_1119 ?_
    refine g_if_ne (t := 1135) F dL_law_1121 (by decide) (fun u11 => ?_) (fun u11 => ?_)
    · refine g_goto (t := 1508) F dL_law_1135 (by decide) ?_
      refine g_sub (L' := [(0, .ref b), (1, .ref (q 80)), (2, .ref (q 94)), (3, .ref (q 100)), (4, .int (nI i))]) [2, 3, 4, 5, 6] rfl ?_
      exact kk _ (z, H, l, n, tx) _ _ q4 (hI) c4 m4 (by omega) (by omega)
    · refine g_aload_n (k := 3) F 5 rfl dL_law_1124 ?_
      refine g_iconst (v := 0) F (by decide) dL_law_1125 ?_
      refine g_lald (j := 0) F (qi100 q4) rfl (by rw [qn100 q4]; decide) (by rw [qn100 q4]; decide) dL_law_1126 ?_
      refine g_lload F 0 rfl dL_law_1127 ?_
      refine g_lcmp F dL_law_1129 ?_
      refine g_if_eq (t := 1135) F dL_law_1130 (by decide) (fun u12 => ?_) (fun u12 => ?_)
      · refine g_goto (t := 1508) F dL_law_1135 (by decide) ?_
        refine g_sub (L' := [(0, .ref b), (1, .ref (q 80)), (2, .ref (q 94)), (3, .ref (q 100)), (4, .int (nI i))]) [2, 3, 4, 5, 6] rfl ?_
        exact kk _ (z, H, l, n, tx) _ _ q4 (hI) c4 m4 (by omega) (by omega)
      · refine absurd (lc_eq.mpr ?_) u12
        rw [(g4.2.2 100 (by decide) (by decide)).2]
        exact (o1 (er1.symm.trans u11)).trans (by rw [er4])
  · exact absurd (by rw [er7, t4, er1]) u10
set_option maxHeartbeats 4000000 in
set_option maxRecDepth 100000 in
theorem lc_19 {Γ : Ctx} {b L : Nat} {xs : Nat → Int32} (F : Fx Γ RL cL_law rmL) (hX : va_X b L xs (ks Γ) (ks Γ).heap) (hb : b < Γ.1.2.2.2.1) (hL : L ≤ 2560) (S : PS) (q : Nat → Nat) (hq : Shp S.1 S.2.1 q) (z : ZZ) (H : List ZZ) (l : Int32) (n : Nat) (tx : Nat → Int32) (hI : Iw (z, H, l, n, tx)) (hC : Cl S q (z, H, l, n, tx)) (hM : Mw S q (z, H, l, n, tx)) (c m : Nat) (hc : c ≤ 600000) (hm : m ≤ 7000000) (i : Nat) (hi : i + 5 ≤ L) (kk : ∀ (S' : PS) (w : WW) (c' m' : Nat), Shp S'.1 S'.2.1 q → Iw w → Cl S' q w → Mw S' q w → c' ≤ c + 3 → m' ≤ m + 18 → G Γ S' c' m' 1508 [(0, .ref b), (1, .ref (q 80)), (2, .ref (q 94)), (3, .ref (q 100)), (4, .int (nI i))] []) : G Γ S c m 1138 [(0, .ref b), (1, .ref (q 80)), (2, .ref (q 94)), (3, .ref (q 100)), (4, .int (nI i))] [] := by
  refine g_aload_n (k := 1) F 1 rfl dL_law_1138 ?_
  refine g_aload_n (k := 0) F 0 rfl dL_law_1139 ?_
  refine g_iload F 4 rfl dL_law_1140 ?_
  refine g_iconst (v := 1) F (by decide) dL_law_1142 ?_
  refine g_iadd F dL_law_1143 ?_
  refine g_rei (nI (i + 1)) (nadd rfl rfl) ?_
  refine g_sald (j := (i + 1)) F hX hb rfl (by omega) (by omega) dL_law_1144 ?_
  refine g_aload_n (k := 3) F 3 rfl dL_law_1145 ?_
  refine g_callSW F (kL_count Γ.1 S q hq z H l n tx hI hC (xs (i + 1))) okL_count mw844 ⟨(Nat.le_of_ble_eq_true rfl), (Nat.le_of_ble_eq_true rfl)⟩ rfl rfl (Nat.le_of_ble_eq_true rfl) ⟨by show c + 3 ≤ 601024; omega, by show m + 18 ≤ 7293034; omega⟩ dL_law_1146 (toI (fun r1 S2 h3 => ?_))
  obtain ⟨er1, o1, f1, c1⟩ := h3
  have q1 : Shp S2.1 S2.2.1 q := FrP.q f1 hq
  have m1 := Mo_x f1 hM
  refine g_istore (L' := [(5, .int r1), (0, .ref b), (1, .ref (q 80)), (2, .ref (q 94)), (3, .ref (q 100)), (4, .int (nI i))]) F dL_law_1149 (Nat.le_of_ble_eq_true rfl) rfl ?_
  refine g_aload_n (k := 2) F 3 rfl dL_law_1151 ?_
  refine g_aload_n (k := 0) F 1 rfl dL_law_1152 ?_
  refine g_iload F 5 rfl dL_law_1153 ?_
  refine g_iconst (v := 1) F (by decide) dL_law_1155 ?_
  refine g_iadd F dL_law_1156 ?_
  refine g_rei (nI (i + 1)) (nadd rfl rfl) ?_
  refine g_sald (j := (i + 1)) F hX hb rfl (by omega) (by omega) dL_law_1157 ?_
  refine g_callV F (kX10_count Γ.1 S2 q q1 z m1.1 hI.1.1 H l n tx m1 (xs (i + 1))) okX10_count (qi94 q1) mw871 ⟨(Nat.le_of_ble_eq_true rfl), (Nat.le_of_ble_eq_true rfl)⟩ rfl rfl (Nat.le_of_ble_eq_true rfl) ⟨by show (c + 3) + 0 ≤ 601024; omega, by show (m + 18) + 0 ≤ 7293034; omega⟩ dL_law_1158 (toJ (fun r4 S5 h6 => ?_))
  obtain ⟨er4, g4, t4, m4⟩ := h6
  have q4 : Shp S5.1 S5.2.1 q := Fr.q g4 q1
  have c4 := Cl_m g4 (by decide) c1
  refine g_lstore (L' := [(6, .long r4), (5, .int r1), (0, .ref b), (1, .ref (q 80)), (2, .ref (q 94)), (3, .ref (q 100)), (4, .int (nI i))]) F dL_law_1161 (Nat.le_of_ble_eq_true rfl) rfl ?_
  refine g_aload_n (k := 2) F 4 rfl dL_law_1163 ?_
  refine g_callV F (kX10_thrown Γ.1 S5 q q4) okX10_thrown (qi94 q4) mw170 ⟨(Nat.le_of_ble_eq_true rfl), (Nat.le_of_ble_eq_true rfl)⟩ rfl rfl (Nat.le_of_ble_eq_true rfl) ⟨by show (c + 3) + 0 ≤ 601024; omega, by show (m + 18) + 0 ≤ 7293034; omega⟩ dL_law_1164 (toI (fun r7 S8 h9 => ?_))
  obtain ⟨er7, rfl⟩ := h9
  refine g_iload F 1 rfl dL_law_1167 ?_
  refine g_icmp_eq (t := 1174) F dL_law_1169 (by decide) (fun u10 => ?_) (fun u10 => ?_)
  · refine g_iload F 1 rfl dL_law_1174 ?_
    refine g_if_ne (t := 1190) F dL_law_1176 (by decide) (fun u11 => ?_) (fun u11 => ?_)
    · refine g_goto (t := 1508) F dL_law_1190 (by decide) ?_
      refine g_sub (L' := [(0, .ref b), (1, .ref (q 80)), (2, .ref (q 94)), (3, .ref (q 100)), (4, .int (nI i))]) [2, 3, 4, 5, 6] rfl ?_
      exact kk _ (z, H, l, n, tx) _ _ q4 (hI) c4 m4 (by omega) (by omega)
    · refine g_aload_n (k := 3) F 5 rfl dL_law_1179 ?_
      refine g_iconst (v := 0) F (by decide) dL_law_1180 ?_
      refine g_lald (j := 0) F (qi100 q4) rfl (by rw [qn100 q4]; decide) (by rw [qn100 q4]; decide) dL_law_1181 ?_
      refine g_lload F 0 rfl dL_law_1182 ?_
      refine g_lcmp F dL_law_1184 ?_
      refine g_if_eq (t := 1190) F dL_law_1185 (by decide) (fun u12 => ?_) (fun u12 => ?_)
      · refine g_goto (t := 1508) F dL_law_1190 (by decide) ?_
        refine g_sub (L' := [(0, .ref b), (1, .ref (q 80)), (2, .ref (q 94)), (3, .ref (q 100)), (4, .int (nI i))]) [2, 3, 4, 5, 6] rfl ?_
        exact kk _ (z, H, l, n, tx) _ _ q4 (hI) c4 m4 (by omega) (by omega)
      · refine absurd (lc_eq.mpr ?_) u12
        rw [(g4.2.2 100 (by decide) (by decide)).2]
        exact (o1 (er1.symm.trans u11)).trans (by rw [er4])
  · exact absurd (by rw [er7, t4, er1]) u10
set_option maxHeartbeats 4000000 in
set_option maxRecDepth 100000 in
theorem lc_20 {Γ : Ctx} {b L : Nat} {xs : Nat → Int32} (F : Fx Γ RL cL_law rmL) (hX : va_X b L xs (ks Γ) (ks Γ).heap) (hb : b < Γ.1.2.2.2.1) (hL : L ≤ 2560) (S : PS) (q : Nat → Nat) (hq : Shp S.1 S.2.1 q) (z : ZZ) (H : List ZZ) (l : Int32) (n : Nat) (tx : Nat → Int32) (hI : Iw (z, H, l, n, tx)) (hC : Cl S q (z, H, l, n, tx)) (hM : Mw S q (z, H, l, n, tx)) (c m : Nat) (hc : c ≤ 600000) (hm : m ≤ 7000000) (i : Nat) (hi : i + 5 ≤ L) (kk : ∀ (S' : PS) (w : WW) (c' m' : Nat), Shp S'.1 S'.2.1 q → Iw w → Cl S' q w → Mw S' q w → c' ≤ c + 3 → m' ≤ m + 18 → G Γ S' c' m' 1508 [(0, .ref b), (1, .ref (q 80)), (2, .ref (q 94)), (3, .ref (q 100)), (4, .int (nI i))] []) : G Γ S c m 1193 [(0, .ref b), (1, .ref (q 80)), (2, .ref (q 94)), (3, .ref (q 100)), (4, .int (nI i))] [] := by
  refine g_aload_n (k := 1) F 1 rfl dL_law_1193 ?_
  refine g_aload_n (k := 0) F 0 rfl dL_law_1194 ?_
  refine g_iload F 4 rfl dL_law_1195 ?_
  refine g_iconst (v := 1) F (by decide) dL_law_1197 ?_
  refine g_iadd F dL_law_1198 ?_
  refine g_rei (nI (i + 1)) (nadd rfl rfl) ?_
  refine g_sald (j := (i + 1)) F hX hb rfl (by omega) (by omega) dL_law_1199 ?_
  refine g_aload_n (k := 3) F 3 rfl dL_law_1200 ?_
  refine g_callSW F (kL_setting Γ.1 S q hq z H l n tx hI hC (xs (i + 1))) okL_setting mw900 ⟨(Nat.le_of_ble_eq_true rfl), (Nat.le_of_ble_eq_true rfl)⟩ rfl rfl (Nat.le_of_ble_eq_true rfl) ⟨by show c + 3 ≤ 601024; omega, by show m + 18 ≤ 7293034; omega⟩ dL_law_1201 (toI (fun r1 S2 h3 => ?_))
  obtain ⟨er1, o1, f1, c1⟩ := h3
  have q1 : Shp S2.1 S2.2.1 q := FrP.q f1 hq
  have m1 := Mo_x f1 hM
  refine g_istore (L' := [(5, .int r1), (0, .ref b), (1, .ref (q 80)), (2, .ref (q 94)), (3, .ref (q 100)), (4, .int (nI i))]) F dL_law_1204 (Nat.le_of_ble_eq_true rfl) rfl ?_
  refine g_aload_n (k := 2) F 3 rfl dL_law_1206 ?_
  refine g_aload_n (k := 0) F 1 rfl dL_law_1207 ?_
  refine g_iload F 5 rfl dL_law_1208 ?_
  refine g_iconst (v := 1) F (by decide) dL_law_1210 ?_
  refine g_iadd F dL_law_1211 ?_
  refine g_rei (nI (i + 1)) (nadd rfl rfl) ?_
  refine g_sald (j := (i + 1)) F hX hb rfl (by omega) (by omega) dL_law_1212 ?_
  refine g_callV F (kX10_setting Γ.1 S2 q q1 z m1.1 hI.1.1 H l n tx m1 (xs (i + 1))) okX10_setting (qi94 q1) mw907 ⟨(Nat.le_of_ble_eq_true rfl), (Nat.le_of_ble_eq_true rfl)⟩ rfl rfl (Nat.le_of_ble_eq_true rfl) ⟨by show (c + 3) + 0 ≤ 601024; omega, by show (m + 18) + 0 ≤ 7293034; omega⟩ dL_law_1213 (toI (fun r4 S5 h6 => ?_))
  obtain ⟨er4, g4, t4, m4⟩ := h6
  have q4 : Shp S5.1 S5.2.1 q := Fr.q g4 q1
  have c4 := Cl_m g4 (by decide) c1
  refine g_istore (L' := [(6, .int r4), (5, .int r1), (0, .ref b), (1, .ref (q 80)), (2, .ref (q 94)), (3, .ref (q 100)), (4, .int (nI i))]) F dL_law_1216 (Nat.le_of_ble_eq_true rfl) rfl ?_
  refine g_aload_n (k := 2) F 4 rfl dL_law_1218 ?_
  refine g_callV F (kX10_thrown Γ.1 S5 q q4) okX10_thrown (qi94 q4) mw170 ⟨(Nat.le_of_ble_eq_true rfl), (Nat.le_of_ble_eq_true rfl)⟩ rfl rfl (Nat.le_of_ble_eq_true rfl) ⟨by show (c + 3) + 0 ≤ 601024; omega, by show (m + 18) + 0 ≤ 7293034; omega⟩ dL_law_1219 (toI (fun r7 S8 h9 => ?_))
  obtain ⟨er7, rfl⟩ := h9
  refine g_iload F 1 rfl dL_law_1222 ?_
  refine g_icmp_eq (t := 1229) F dL_law_1224 (by decide) (fun u10 => ?_) (fun u10 => ?_)
  · refine g_iload F 1 rfl dL_law_1229 ?_
    refine g_if_ne (t := 1246) F dL_law_1231 (by decide) (fun u11 => ?_) (fun u11 => ?_)
    · refine g_goto (t := 1508) F dL_law_1246 (by decide) ?_
      refine g_sub (L' := [(0, .ref b), (1, .ref (q 80)), (2, .ref (q 94)), (3, .ref (q 100)), (4, .int (nI i))]) [2, 3, 4, 5, 6] rfl ?_
      exact kk _ (z, H, l, n, tx) _ _ q4 (hI) c4 m4 (by omega) (by omega)
    · refine g_aload_n (k := 3) F 5 rfl dL_law_1234 ?_
      refine g_iconst (v := 0) F (by decide) dL_law_1235 ?_
      refine g_lald (j := 0) F (qi100 q4) rfl (by rw [qn100 q4]; decide) (by rw [qn100 q4]; decide) dL_law_1236 ?_
      refine g_iload F 0 rfl dL_law_1237 ?_
      refine g_i2l F dL_law_1239 ?_
      refine g_lcmp F dL_law_1240 ?_
      refine g_if_eq (t := 1246) F dL_law_1241 (by decide) (fun u12 => ?_) (fun u12 => ?_)
      · refine g_goto (t := 1508) F dL_law_1246 (by decide) ?_
        refine g_sub (L' := [(0, .ref b), (1, .ref (q 80)), (2, .ref (q 94)), (3, .ref (q 100)), (4, .int (nI i))]) [2, 3, 4, 5, 6] rfl ?_
        exact kk _ (z, H, l, n, tx) _ _ q4 (hI) c4 m4 (by omega) (by omega)
      · refine absurd (lc_eq.mpr ?_) u12
        rw [(g4.2.2 100 (by decide) (by decide)).2]
        exact (o1 (er1.symm.trans u11)).trans (by rw [er4])
  · exact absurd (by rw [er7, t4, er1]) u10
set_option maxHeartbeats 4000000 in
set_option maxRecDepth 100000 in
theorem lc_21 {Γ : Ctx} {b L : Nat} {xs : Nat → Int32} (F : Fx Γ RL cL_law rmL) (hX : va_X b L xs (ks Γ) (ks Γ).heap) (hb : b < Γ.1.2.2.2.1) (hL : L ≤ 2560) (S : PS) (q : Nat → Nat) (hq : Shp S.1 S.2.1 q) (z : ZZ) (H : List ZZ) (l : Int32) (n : Nat) (tx : Nat → Int32) (hI : Iw (z, H, l, n, tx)) (hC : Cl S q (z, H, l, n, tx)) (hM : Mw S q (z, H, l, n, tx)) (c m : Nat) (hc : c ≤ 600000) (hm : m ≤ 7000000) (i : Nat) (hi : i + 5 ≤ L) (kk : ∀ (S' : PS) (w : WW) (c' m' : Nat), Shp S'.1 S'.2.1 q → Iw w → Cl S' q w → Mw S' q w → c' ≤ c + 3 → m' ≤ m + 18 → G Γ S' c' m' 1508 [(0, .ref b), (1, .ref (q 80)), (2, .ref (q 94)), (3, .ref (q 100)), (4, .int (nI i))] []) : G Γ S c m 1249 [(0, .ref b), (1, .ref (q 80)), (2, .ref (q 94)), (3, .ref (q 100)), (4, .int (nI i))] [] := by
  refine g_aload_n (k := 1) F 1 rfl dL_law_1249 ?_
  refine g_aload_n (k := 0) F 0 rfl dL_law_1250 ?_
  refine g_iload F 4 rfl dL_law_1251 ?_
  refine g_iconst (v := 1) F (by decide) dL_law_1253 ?_
  refine g_iadd F dL_law_1254 ?_
  refine g_rei (nI (i + 1)) (nadd rfl rfl) ?_
  refine g_sald (j := (i + 1)) F hX hb rfl (by omega) (by omega) dL_law_1255 ?_
  refine g_aload_n (k := 0) F 0 rfl dL_law_1256 ?_
  refine g_iload F 4 rfl dL_law_1257 ?_
  refine g_iconst (v := 2) F (by decide) dL_law_1259 ?_
  refine g_iadd F dL_law_1260 ?_
  refine g_rei (nI (i + 2)) (nadd rfl rfl) ?_
  refine g_sald (j := (i + 2)) F hX hb rfl (by omega) (by omega) dL_law_1261 ?_
  refine g_if_eq (t := 1269) F dL_law_1262 (by decide) (fun u1 => ?_) (fun u1 => ?_)
  · refine g_iconst (v := 0) F (by decide) dL_law_1269 ?_
    refine g_aload_n (k := 3) F 3 rfl dL_law_1270 ?_
    refine g_callSW F (kL_why Γ.1 S q hq z H l n tx hI hC (xs (i + 1)) false) okL_why mw911 ⟨(Nat.le_of_ble_eq_true rfl), (Nat.le_of_ble_eq_true rfl)⟩ rfl rfl (Nat.le_of_ble_eq_true rfl) ⟨by show c + 3 ≤ 601024; omega, by show m + 18 ≤ 7293034; omega⟩ dL_law_1271 (toI (fun r2 S3 h4 => ?_))
    obtain ⟨er2, o2, f2, c2⟩ := h4
    have q2 : Shp S3.1 S3.2.1 q := FrP.q f2 hq
    have m2 := Mo_x f2 hM
    refine g_istore (L' := [(5, .int r2), (0, .ref b), (1, .ref (q 80)), (2, .ref (q 94)), (3, .ref (q 100)), (4, .int (nI i))]) F dL_law_1274 (Nat.le_of_ble_eq_true rfl) rfl ?_
    refine g_aload_n (k := 2) F 3 rfl dL_law_1276 ?_
    refine g_aload_n (k := 0) F 1 rfl dL_law_1277 ?_
    refine g_iload F 5 rfl dL_law_1278 ?_
    refine g_iconst (v := 1) F (by decide) dL_law_1280 ?_
    refine g_iadd F dL_law_1281 ?_
    refine g_rei (nI (i + 1)) (nadd rfl rfl) ?_
    refine g_sald (j := (i + 1)) F hX hb rfl (by omega) (by omega) dL_law_1282 ?_
    refine g_aload_n (k := 0) F 1 rfl dL_law_1283 ?_
    refine g_iload F 5 rfl dL_law_1284 ?_
    refine g_iconst (v := 2) F (by decide) dL_law_1286 ?_
    refine g_iadd F dL_law_1287 ?_
    refine g_rei (nI (i + 2)) (nadd rfl rfl) ?_
    refine g_sald (j := (i + 2)) F hX hb rfl (by omega) (by omega) dL_law_1288 ?_
    refine g_if_eq (t := 1296) F dL_law_1289 (by decide) (fun u5 => ?_) (fun u5 => ?_)
    · refine g_iconst (v := 0) F (by decide) dL_law_1296 ?_
      refine g_callV F (kX10_why Γ.1 S3 q q2 z m2.1 hI.1.1 H l n tx m2 (xs (i + 1)) _) okX10_why (qi94 q2) mw918 ⟨(Nat.le_of_ble_eq_true rfl), (Nat.le_of_ble_eq_true rfl)⟩ rfl rfl (Nat.le_of_ble_eq_true rfl) ⟨by show (c + 3) + 0 ≤ 601024; omega, by show (m + 18) + 0 ≤ 7293034; omega⟩ dL_law_1297 (toI (fun r6 S7 h8 => ?_))
      obtain ⟨er6, g6, t6, m6⟩ := h8
      have q6 : Shp S7.1 S7.2.1 q := Fr.q g6 q2
      have c6 := Cl_m g6 (by decide) c2
      refine g_istore (L' := [(6, .int r6), (5, .int r2), (0, .ref b), (1, .ref (q 80)), (2, .ref (q 94)), (3, .ref (q 100)), (4, .int (nI i))]) F dL_law_1300 (Nat.le_of_ble_eq_true rfl) rfl ?_
      refine g_aload_n (k := 2) F 4 rfl dL_law_1302 ?_
      refine g_callV F (kX10_thrown Γ.1 S7 q q6) okX10_thrown (qi94 q6) mw170 ⟨(Nat.le_of_ble_eq_true rfl), (Nat.le_of_ble_eq_true rfl)⟩ rfl rfl (Nat.le_of_ble_eq_true rfl) ⟨by show (c + 3) + 0 ≤ 601024; omega, by show (m + 18) + 0 ≤ 7293034; omega⟩ dL_law_1303 (toI (fun r9 S10 h11 => ?_))
      obtain ⟨er9, rfl⟩ := h11
      refine g_iload F 1 rfl dL_law_1306 ?_
      refine g_icmp_eq (t := 1313) F dL_law_1308 (by decide) (fun u12 => ?_) (fun u12 => ?_)
      · refine g_iload F 1 rfl dL_law_1313 ?_
        refine g_if_ne (t := 1330) F dL_law_1315 (by decide) (fun u13 => ?_) (fun u13 => ?_)
        · refine g_goto (t := 1508) F dL_law_1330 (by decide) ?_
          refine g_sub (L' := [(0, .ref b), (1, .ref (q 80)), (2, .ref (q 94)), (3, .ref (q 100)), (4, .int (nI i))]) [2, 3, 4, 5, 6] rfl ?_
          exact kk _ (z, H, l, n, tx) _ _ q6 (hI) c6 m6 (by omega) (by omega)
        · refine g_aload_n (k := 3) F 5 rfl dL_law_1318 ?_
          refine g_iconst (v := 0) F (by decide) dL_law_1319 ?_
          refine g_lald (j := 0) F (qi100 q6) rfl (by rw [qn100 q6]; decide) (by rw [qn100 q6]; decide) dL_law_1320 ?_
          refine g_iload F 0 rfl dL_law_1321 ?_
          refine g_i2l F dL_law_1323 ?_
          refine g_lcmp F dL_law_1324 ?_
          refine g_if_eq (t := 1330) F dL_law_1325 (by decide) (fun u14 => ?_) (fun u14 => ?_)
          · refine g_goto (t := 1508) F dL_law_1330 (by decide) ?_
            refine g_sub (L' := [(0, .ref b), (1, .ref (q 80)), (2, .ref (q 94)), (3, .ref (q 100)), (4, .int (nI i))]) [2, 3, 4, 5, 6] rfl ?_
            exact kk _ (z, H, l, n, tx) _ _ q6 (hI) c6 m6 (by omega) (by omega)
          · refine absurd (lc_eq.mpr ?_) u14
            rw [(g6.2.2 100 (by decide) (by decide)).2]
            exact (o2 (er2.symm.trans u13)).trans (by rw [er6])
      · exact absurd (by rw [er9, t6, er2]) u12
    · exact absurd u1 u5
  · refine g_iconst (v := 1) F (by decide) dL_law_1265 ?_
    refine g_goto (t := 1270) F dL_law_1266 (by decide) ?_
    refine g_aload_n (k := 3) F 3 rfl dL_law_1270 ?_
    refine g_callSW F (kL_why Γ.1 S q hq z H l n tx hI hC (xs (i + 1)) true) okL_why mw911 ⟨(Nat.le_of_ble_eq_true rfl), (Nat.le_of_ble_eq_true rfl)⟩ rfl rfl (Nat.le_of_ble_eq_true rfl) ⟨by show c + 3 ≤ 601024; omega, by show m + 18 ≤ 7293034; omega⟩ dL_law_1271 (toI (fun r15 S16 h17 => ?_))
    obtain ⟨er15, o15, f15, c15⟩ := h17
    have q15 : Shp S16.1 S16.2.1 q := FrP.q f15 hq
    have m15 := Mo_x f15 hM
    refine g_istore (L' := [(5, .int r15), (0, .ref b), (1, .ref (q 80)), (2, .ref (q 94)), (3, .ref (q 100)), (4, .int (nI i))]) F dL_law_1274 (Nat.le_of_ble_eq_true rfl) rfl ?_
    refine g_aload_n (k := 2) F 3 rfl dL_law_1276 ?_
    refine g_aload_n (k := 0) F 1 rfl dL_law_1277 ?_
    refine g_iload F 5 rfl dL_law_1278 ?_
    refine g_iconst (v := 1) F (by decide) dL_law_1280 ?_
    refine g_iadd F dL_law_1281 ?_
    refine g_rei (nI (i + 1)) (nadd rfl rfl) ?_
    refine g_sald (j := (i + 1)) F hX hb rfl (by omega) (by omega) dL_law_1282 ?_
    refine g_aload_n (k := 0) F 1 rfl dL_law_1283 ?_
    refine g_iload F 5 rfl dL_law_1284 ?_
    refine g_iconst (v := 2) F (by decide) dL_law_1286 ?_
    refine g_iadd F dL_law_1287 ?_
    refine g_rei (nI (i + 2)) (nadd rfl rfl) ?_
    refine g_sald (j := (i + 2)) F hX hb rfl (by omega) (by omega) dL_law_1288 ?_
    refine g_if_eq (t := 1296) F dL_law_1289 (by decide) (fun u18 => ?_) (fun u18 => ?_)
    · exact absurd u18 u1
    · refine g_iconst (v := 1) F (by decide) dL_law_1292 ?_
      refine g_goto (t := 1297) F dL_law_1293 (by decide) ?_
      refine g_callV F (kX10_why Γ.1 S16 q q15 z m15.1 hI.1.1 H l n tx m15 (xs (i + 1)) _) okX10_why (qi94 q15) mw918 ⟨(Nat.le_of_ble_eq_true rfl), (Nat.le_of_ble_eq_true rfl)⟩ rfl rfl (Nat.le_of_ble_eq_true rfl) ⟨by show (c + 3) + 0 ≤ 601024; omega, by show (m + 18) + 0 ≤ 7293034; omega⟩ dL_law_1297 (toI (fun r19 S20 h21 => ?_))
      obtain ⟨er19, g19, t19, m19⟩ := h21
      have q19 : Shp S20.1 S20.2.1 q := Fr.q g19 q15
      have c19 := Cl_m g19 (by decide) c15
      refine g_istore (L' := [(6, .int r19), (5, .int r15), (0, .ref b), (1, .ref (q 80)), (2, .ref (q 94)), (3, .ref (q 100)), (4, .int (nI i))]) F dL_law_1300 (Nat.le_of_ble_eq_true rfl) rfl ?_
      refine g_aload_n (k := 2) F 4 rfl dL_law_1302 ?_
      refine g_callV F (kX10_thrown Γ.1 S20 q q19) okX10_thrown (qi94 q19) mw170 ⟨(Nat.le_of_ble_eq_true rfl), (Nat.le_of_ble_eq_true rfl)⟩ rfl rfl (Nat.le_of_ble_eq_true rfl) ⟨by show (c + 3) + 0 ≤ 601024; omega, by show (m + 18) + 0 ≤ 7293034; omega⟩ dL_law_1303 (toI (fun r22 S23 h24 => ?_))
      obtain ⟨er22, rfl⟩ := h24
      refine g_iload F 1 rfl dL_law_1306 ?_
      refine g_icmp_eq (t := 1313) F dL_law_1308 (by decide) (fun u25 => ?_) (fun u25 => ?_)
      · refine g_iload F 1 rfl dL_law_1313 ?_
        refine g_if_ne (t := 1330) F dL_law_1315 (by decide) (fun u26 => ?_) (fun u26 => ?_)
        · refine g_goto (t := 1508) F dL_law_1330 (by decide) ?_
          refine g_sub (L' := [(0, .ref b), (1, .ref (q 80)), (2, .ref (q 94)), (3, .ref (q 100)), (4, .int (nI i))]) [2, 3, 4, 5, 6] rfl ?_
          exact kk _ (z, H, l, n, tx) _ _ q19 (hI) c19 m19 (by omega) (by omega)
        · refine g_aload_n (k := 3) F 5 rfl dL_law_1318 ?_
          refine g_iconst (v := 0) F (by decide) dL_law_1319 ?_
          refine g_lald (j := 0) F (qi100 q19) rfl (by rw [qn100 q19]; decide) (by rw [qn100 q19]; decide) dL_law_1320 ?_
          refine g_iload F 0 rfl dL_law_1321 ?_
          refine g_i2l F dL_law_1323 ?_
          refine g_lcmp F dL_law_1324 ?_
          refine g_if_eq (t := 1330) F dL_law_1325 (by decide) (fun u27 => ?_) (fun u27 => ?_)
          · refine g_goto (t := 1508) F dL_law_1330 (by decide) ?_
            refine g_sub (L' := [(0, .ref b), (1, .ref (q 80)), (2, .ref (q 94)), (3, .ref (q 100)), (4, .int (nI i))]) [2, 3, 4, 5, 6] rfl ?_
            exact kk _ (z, H, l, n, tx) _ _ q19 (hI) c19 m19 (by omega) (by omega)
          · refine absurd (lc_eq.mpr ?_) u27
            rw [(g19.2.2 100 (by decide) (by decide)).2]
            exact (o15 (er15.symm.trans u26)).trans (by rw [er19])
      · exact absurd (by rw [er22, t19, er15]) u25
set_option maxHeartbeats 4000000 in
set_option maxRecDepth 100000 in
theorem lc_22 {Γ : Ctx} {b L : Nat} {xs : Nat → Int32} (F : Fx Γ RL cL_law rmL) (hX : va_X b L xs (ks Γ) (ks Γ).heap) (hb : b < Γ.1.2.2.2.1) (hL : L ≤ 2560) (S : PS) (q : Nat → Nat) (hq : Shp S.1 S.2.1 q) (z : ZZ) (H : List ZZ) (l : Int32) (n : Nat) (tx : Nat → Int32) (hI : Iw (z, H, l, n, tx)) (hC : Cl S q (z, H, l, n, tx)) (hM : Mw S q (z, H, l, n, tx)) (c m : Nat) (hc : c ≤ 600000) (hm : m ≤ 7000000) (i : Nat) (hi : i + 5 ≤ L) (kk : ∀ (S' : PS) (w : WW) (c' m' : Nat), Shp S'.1 S'.2.1 q → Iw w → Cl S' q w → Mw S' q w → c' ≤ c + 3 → m' ≤ m + 18 → G Γ S' c' m' 1508 [(0, .ref b), (1, .ref (q 80)), (2, .ref (q 94)), (3, .ref (q 100)), (4, .int (nI i))] []) : G Γ S c m 1333 [(0, .ref b), (1, .ref (q 80)), (2, .ref (q 94)), (3, .ref (q 100)), (4, .int (nI i))] [] := by
  refine g_aload_n (k := 1) F 1 rfl dL_law_1333 ?_
  refine g_aload_n (k := 0) F 0 rfl dL_law_1334 ?_
  refine g_iload F 4 rfl dL_law_1335 ?_
  refine g_iconst (v := 1) F (by decide) dL_law_1337 ?_
  refine g_iadd F dL_law_1338 ?_
  refine g_rei (nI (i + 1)) (nadd rfl rfl) ?_
  refine g_sald (j := (i + 1)) F hX hb rfl (by omega) (by omega) dL_law_1339 ?_
  refine g_aload_n (k := 0) F 0 rfl dL_law_1340 ?_
  refine g_iload F 4 rfl dL_law_1341 ?_
  refine g_iconst (v := 2) F (by decide) dL_law_1343 ?_
  refine g_iadd F dL_law_1344 ?_
  refine g_rei (nI (i + 2)) (nadd rfl rfl) ?_
  refine g_sald (j := (i + 2)) F hX hb rfl (by omega) (by omega) dL_law_1345 ?_
  refine g_if_eq (t := 1353) F dL_law_1346 (by decide) (fun u1 => ?_) (fun u1 => ?_)
  · refine g_iconst (v := 0) F (by decide) dL_law_1353 ?_
    refine g_aload_n (k := 0) F 0 rfl dL_law_1354 ?_
    refine g_iload F 4 rfl dL_law_1355 ?_
    refine g_iconst (v := 3) F (by decide) dL_law_1357 ?_
    refine g_iadd F dL_law_1358 ?_
    refine g_rei (nI (i + 3)) (nadd rfl rfl) ?_
    refine g_sald (j := (i + 3)) F hX hb rfl (by omega) (by omega) dL_law_1359 ?_
    refine g_aload_n (k := 0) F 0 rfl dL_law_1360 ?_
    refine g_iload F 4 rfl dL_law_1361 ?_
    refine g_iconst (v := 4) F (by decide) dL_law_1363 ?_
    refine g_iadd F dL_law_1364 ?_
    refine g_rei (nI (i + 4)) (nadd rfl rfl) ?_
    refine g_sald (j := (i + 4)) F hX hb rfl (by omega) (by omega) dL_law_1365 ?_
    refine g_aload_n (k := 3) F 3 rfl dL_law_1366 ?_
    refine g_callSW F (kL_ifSet Γ.1 S q hq z H l n tx hI hC (xs (i + 1)) false (xs (i + 3)) (xs (i + 4))) okL_ifSet mw922 ⟨(Nat.le_of_ble_eq_true rfl), (Nat.le_of_ble_eq_true rfl)⟩ rfl rfl (Nat.le_of_ble_eq_true rfl) ⟨by show c + 3 ≤ 601024; omega, by show m + 18 ≤ 7293034; omega⟩ dL_law_1367 (toI (fun r2 S3 h4 => ?_))
    obtain ⟨er2, o2, f2, c2⟩ := h4
    have q2 : Shp S3.1 S3.2.1 q := FrP.q f2 hq
    have m2 := Mo_x f2 hM
    refine g_istore (L' := [(5, .int r2), (0, .ref b), (1, .ref (q 80)), (2, .ref (q 94)), (3, .ref (q 100)), (4, .int (nI i))]) F dL_law_1370 (Nat.le_of_ble_eq_true rfl) rfl ?_
    refine g_aload_n (k := 2) F 3 rfl dL_law_1372 ?_
    refine g_aload_n (k := 0) F 1 rfl dL_law_1373 ?_
    refine g_iload F 5 rfl dL_law_1374 ?_
    refine g_iconst (v := 1) F (by decide) dL_law_1376 ?_
    refine g_iadd F dL_law_1377 ?_
    refine g_rei (nI (i + 1)) (nadd rfl rfl) ?_
    refine g_sald (j := (i + 1)) F hX hb rfl (by omega) (by omega) dL_law_1378 ?_
    refine g_aload_n (k := 0) F 1 rfl dL_law_1379 ?_
    refine g_iload F 5 rfl dL_law_1380 ?_
    refine g_iconst (v := 2) F (by decide) dL_law_1382 ?_
    refine g_iadd F dL_law_1383 ?_
    refine g_rei (nI (i + 2)) (nadd rfl rfl) ?_
    refine g_sald (j := (i + 2)) F hX hb rfl (by omega) (by omega) dL_law_1384 ?_
    refine g_if_eq (t := 1392) F dL_law_1385 (by decide) (fun u5 => ?_) (fun u5 => ?_)
    · refine g_iconst (v := 0) F (by decide) dL_law_1392 ?_
      refine g_aload_n (k := 0) F 1 rfl dL_law_1393 ?_
      refine g_iload F 5 rfl dL_law_1394 ?_
      refine g_iconst (v := 3) F (by decide) dL_law_1396 ?_
      refine g_iadd F dL_law_1397 ?_
      refine g_rei (nI (i + 3)) (nadd rfl rfl) ?_
      refine g_sald (j := (i + 3)) F hX hb rfl (by omega) (by omega) dL_law_1398 ?_
      refine g_aload_n (k := 0) F 1 rfl dL_law_1399 ?_
      refine g_iload F 5 rfl dL_law_1400 ?_
      refine g_iconst (v := 4) F (by decide) dL_law_1402 ?_
      refine g_iadd F dL_law_1403 ?_
      refine g_rei (nI (i + 4)) (nadd rfl rfl) ?_
      refine g_sald (j := (i + 4)) F hX hb rfl (by omega) (by omega) dL_law_1404 ?_
      refine g_callV F (kX10_ifSet Γ.1 S3 q q2 z m2.1 hI.1.1 H l n tx m2 (xs (i + 1)) false (xs (i + 3)) (xs (i + 4))) okX10_ifSet (qi94 q2) mw929 ⟨(Nat.le_of_ble_eq_true rfl), (Nat.le_of_ble_eq_true rfl)⟩ rfl rfl (Nat.le_of_ble_eq_true rfl) ⟨by show (c + 3) + 0 ≤ 601024; omega, by show (m + 18) + 0 ≤ 7293034; omega⟩ dL_law_1405 (toJ (fun r6 S7 h8 => ?_))
      obtain ⟨er6, g6, t6, m6⟩ := h8
      have q6 : Shp S7.1 S7.2.1 q := Fr.q g6 q2
      have c6 := Cl_m g6 (by decide) c2
      refine g_lstore (L' := [(6, .long r6), (5, .int r2), (0, .ref b), (1, .ref (q 80)), (2, .ref (q 94)), (3, .ref (q 100)), (4, .int (nI i))]) F dL_law_1408 (Nat.le_of_ble_eq_true rfl) rfl ?_
      refine g_aload_n (k := 2) F 4 rfl dL_law_1410 ?_
      refine g_callV F (kX10_thrown Γ.1 S7 q q6) okX10_thrown (qi94 q6) mw170 ⟨(Nat.le_of_ble_eq_true rfl), (Nat.le_of_ble_eq_true rfl)⟩ rfl rfl (Nat.le_of_ble_eq_true rfl) ⟨by show (c + 3) + 0 ≤ 601024; omega, by show (m + 18) + 0 ≤ 7293034; omega⟩ dL_law_1411 (toI (fun r9 S10 h11 => ?_))
      obtain ⟨er9, rfl⟩ := h11
      refine g_iload F 1 rfl dL_law_1414 ?_
      refine g_icmp_eq (t := 1421) F dL_law_1416 (by decide) (fun u12 => ?_) (fun u12 => ?_)
      · refine g_iload F 1 rfl dL_law_1421 ?_
        refine g_if_ne (t := 1437) F dL_law_1423 (by decide) (fun u13 => ?_) (fun u13 => ?_)
        · refine g_goto (t := 1508) F dL_law_1437 (by decide) ?_
          refine g_sub (L' := [(0, .ref b), (1, .ref (q 80)), (2, .ref (q 94)), (3, .ref (q 100)), (4, .int (nI i))]) [2, 3, 4, 5, 6] rfl ?_
          exact kk _ (z, H, l, n, tx) _ _ q6 (hI) c6 m6 (by omega) (by omega)
        · refine g_aload_n (k := 3) F 5 rfl dL_law_1426 ?_
          refine g_iconst (v := 0) F (by decide) dL_law_1427 ?_
          refine g_lald (j := 0) F (qi100 q6) rfl (by rw [qn100 q6]; decide) (by rw [qn100 q6]; decide) dL_law_1428 ?_
          refine g_lload F 0 rfl dL_law_1429 ?_
          refine g_lcmp F dL_law_1431 ?_
          refine g_if_eq (t := 1437) F dL_law_1432 (by decide) (fun u14 => ?_) (fun u14 => ?_)
          · refine g_goto (t := 1508) F dL_law_1437 (by decide) ?_
            refine g_sub (L' := [(0, .ref b), (1, .ref (q 80)), (2, .ref (q 94)), (3, .ref (q 100)), (4, .int (nI i))]) [2, 3, 4, 5, 6] rfl ?_
            exact kk _ (z, H, l, n, tx) _ _ q6 (hI) c6 m6 (by omega) (by omega)
          · refine absurd (lc_eq.mpr ?_) u14
            rw [(g6.2.2 100 (by decide) (by decide)).2]
            exact (o2 (er2.symm.trans u13)).trans (by rw [er6])
      · exact absurd (by rw [er9, t6, er2]) u12
    · exact absurd u1 u5
  · refine g_iconst (v := 1) F (by decide) dL_law_1349 ?_
    refine g_goto (t := 1354) F dL_law_1350 (by decide) ?_
    refine g_aload_n (k := 0) F 0 rfl dL_law_1354 ?_
    refine g_iload F 4 rfl dL_law_1355 ?_
    refine g_iconst (v := 3) F (by decide) dL_law_1357 ?_
    refine g_iadd F dL_law_1358 ?_
    refine g_rei (nI (i + 3)) (nadd rfl rfl) ?_
    refine g_sald (j := (i + 3)) F hX hb rfl (by omega) (by omega) dL_law_1359 ?_
    refine g_aload_n (k := 0) F 0 rfl dL_law_1360 ?_
    refine g_iload F 4 rfl dL_law_1361 ?_
    refine g_iconst (v := 4) F (by decide) dL_law_1363 ?_
    refine g_iadd F dL_law_1364 ?_
    refine g_rei (nI (i + 4)) (nadd rfl rfl) ?_
    refine g_sald (j := (i + 4)) F hX hb rfl (by omega) (by omega) dL_law_1365 ?_
    refine g_aload_n (k := 3) F 3 rfl dL_law_1366 ?_
    refine g_callSW F (kL_ifSet Γ.1 S q hq z H l n tx hI hC (xs (i + 1)) true (xs (i + 3)) (xs (i + 4))) okL_ifSet mw922 ⟨(Nat.le_of_ble_eq_true rfl), (Nat.le_of_ble_eq_true rfl)⟩ rfl rfl (Nat.le_of_ble_eq_true rfl) ⟨by show c + 3 ≤ 601024; omega, by show m + 18 ≤ 7293034; omega⟩ dL_law_1367 (toI (fun r15 S16 h17 => ?_))
    obtain ⟨er15, o15, f15, c15⟩ := h17
    have q15 : Shp S16.1 S16.2.1 q := FrP.q f15 hq
    have m15 := Mo_x f15 hM
    refine g_istore (L' := [(5, .int r15), (0, .ref b), (1, .ref (q 80)), (2, .ref (q 94)), (3, .ref (q 100)), (4, .int (nI i))]) F dL_law_1370 (Nat.le_of_ble_eq_true rfl) rfl ?_
    refine g_aload_n (k := 2) F 3 rfl dL_law_1372 ?_
    refine g_aload_n (k := 0) F 1 rfl dL_law_1373 ?_
    refine g_iload F 5 rfl dL_law_1374 ?_
    refine g_iconst (v := 1) F (by decide) dL_law_1376 ?_
    refine g_iadd F dL_law_1377 ?_
    refine g_rei (nI (i + 1)) (nadd rfl rfl) ?_
    refine g_sald (j := (i + 1)) F hX hb rfl (by omega) (by omega) dL_law_1378 ?_
    refine g_aload_n (k := 0) F 1 rfl dL_law_1379 ?_
    refine g_iload F 5 rfl dL_law_1380 ?_
    refine g_iconst (v := 2) F (by decide) dL_law_1382 ?_
    refine g_iadd F dL_law_1383 ?_
    refine g_rei (nI (i + 2)) (nadd rfl rfl) ?_
    refine g_sald (j := (i + 2)) F hX hb rfl (by omega) (by omega) dL_law_1384 ?_
    refine g_if_eq (t := 1392) F dL_law_1385 (by decide) (fun u18 => ?_) (fun u18 => ?_)
    · exact absurd u18 u1
    · refine g_iconst (v := 1) F (by decide) dL_law_1388 ?_
      refine g_goto (t := 1393) F dL_law_1389 (by decide) ?_
      refine g_aload_n (k := 0) F 1 rfl dL_law_1393 ?_
      refine g_iload F 5 rfl dL_law_1394 ?_
      refine g_iconst (v := 3) F (by decide) dL_law_1396 ?_
      refine g_iadd F dL_law_1397 ?_
      refine g_rei (nI (i + 3)) (nadd rfl rfl) ?_
      refine g_sald (j := (i + 3)) F hX hb rfl (by omega) (by omega) dL_law_1398 ?_
      refine g_aload_n (k := 0) F 1 rfl dL_law_1399 ?_
      refine g_iload F 5 rfl dL_law_1400 ?_
      refine g_iconst (v := 4) F (by decide) dL_law_1402 ?_
      refine g_iadd F dL_law_1403 ?_
      refine g_rei (nI (i + 4)) (nadd rfl rfl) ?_
      refine g_sald (j := (i + 4)) F hX hb rfl (by omega) (by omega) dL_law_1404 ?_
      refine g_callV F (kX10_ifSet Γ.1 S16 q q15 z m15.1 hI.1.1 H l n tx m15 (xs (i + 1)) true (xs (i + 3)) (xs (i + 4))) okX10_ifSet (qi94 q15) mw929 ⟨(Nat.le_of_ble_eq_true rfl), (Nat.le_of_ble_eq_true rfl)⟩ rfl rfl (Nat.le_of_ble_eq_true rfl) ⟨by show (c + 3) + 0 ≤ 601024; omega, by show (m + 18) + 0 ≤ 7293034; omega⟩ dL_law_1405 (toJ (fun r19 S20 h21 => ?_))
      obtain ⟨er19, g19, t19, m19⟩ := h21
      have q19 : Shp S20.1 S20.2.1 q := Fr.q g19 q15
      have c19 := Cl_m g19 (by decide) c15
      refine g_lstore (L' := [(6, .long r19), (5, .int r15), (0, .ref b), (1, .ref (q 80)), (2, .ref (q 94)), (3, .ref (q 100)), (4, .int (nI i))]) F dL_law_1408 (Nat.le_of_ble_eq_true rfl) rfl ?_
      refine g_aload_n (k := 2) F 4 rfl dL_law_1410 ?_
      refine g_callV F (kX10_thrown Γ.1 S20 q q19) okX10_thrown (qi94 q19) mw170 ⟨(Nat.le_of_ble_eq_true rfl), (Nat.le_of_ble_eq_true rfl)⟩ rfl rfl (Nat.le_of_ble_eq_true rfl) ⟨by show (c + 3) + 0 ≤ 601024; omega, by show (m + 18) + 0 ≤ 7293034; omega⟩ dL_law_1411 (toI (fun r22 S23 h24 => ?_))
      obtain ⟨er22, rfl⟩ := h24
      refine g_iload F 1 rfl dL_law_1414 ?_
      refine g_icmp_eq (t := 1421) F dL_law_1416 (by decide) (fun u25 => ?_) (fun u25 => ?_)
      · refine g_iload F 1 rfl dL_law_1421 ?_
        refine g_if_ne (t := 1437) F dL_law_1423 (by decide) (fun u26 => ?_) (fun u26 => ?_)
        · refine g_goto (t := 1508) F dL_law_1437 (by decide) ?_
          refine g_sub (L' := [(0, .ref b), (1, .ref (q 80)), (2, .ref (q 94)), (3, .ref (q 100)), (4, .int (nI i))]) [2, 3, 4, 5, 6] rfl ?_
          exact kk _ (z, H, l, n, tx) _ _ q19 (hI) c19 m19 (by omega) (by omega)
        · refine g_aload_n (k := 3) F 5 rfl dL_law_1426 ?_
          refine g_iconst (v := 0) F (by decide) dL_law_1427 ?_
          refine g_lald (j := 0) F (qi100 q19) rfl (by rw [qn100 q19]; decide) (by rw [qn100 q19]; decide) dL_law_1428 ?_
          refine g_lload F 0 rfl dL_law_1429 ?_
          refine g_lcmp F dL_law_1431 ?_
          refine g_if_eq (t := 1437) F dL_law_1432 (by decide) (fun u27 => ?_) (fun u27 => ?_)
          · refine g_goto (t := 1508) F dL_law_1437 (by decide) ?_
            refine g_sub (L' := [(0, .ref b), (1, .ref (q 80)), (2, .ref (q 94)), (3, .ref (q 100)), (4, .int (nI i))]) [2, 3, 4, 5, 6] rfl ?_
            exact kk _ (z, H, l, n, tx) _ _ q19 (hI) c19 m19 (by omega) (by omega)
          · refine absurd (lc_eq.mpr ?_) u27
            rw [(g19.2.2 100 (by decide) (by decide)).2]
            exact (o15 (er15.symm.trans u26)).trans (by rw [er19])
      · exact absurd (by rw [er22, t19, er15]) u25
set_option maxHeartbeats 4000000 in
set_option maxRecDepth 100000 in
theorem lc_23 {Γ : Ctx} {b L : Nat} {xs : Nat → Int32} (F : Fx Γ RL cL_law rmL) (hX : va_X b L xs (ks Γ) (ks Γ).heap) (hb : b < Γ.1.2.2.2.1) (hL : L ≤ 2560) (S : PS) (q : Nat → Nat) (hq : Shp S.1 S.2.1 q) (z : ZZ) (H : List ZZ) (l : Int32) (n : Nat) (tx : Nat → Int32) (hI : Iw (z, H, l, n, tx)) (hC : Cl S q (z, H, l, n, tx)) (hM : Mw S q (z, H, l, n, tx)) (c m : Nat) (hc : c ≤ 600000) (hm : m ≤ 7000000) (i : Nat) (hi : i + 5 ≤ L) (kk : ∀ (S' : PS) (w : WW) (c' m' : Nat), Shp S'.1 S'.2.1 q → Iw w → Cl S' q w → Mw S' q w → c' ≤ c + 3 → m' ≤ m + 18 → G Γ S' c' m' 1508 [(0, .ref b), (1, .ref (q 80)), (2, .ref (q 94)), (3, .ref (q 100)), (4, .int (nI i))] []) : G Γ S c m 1440 [(0, .ref b), (1, .ref (q 80)), (2, .ref (q 94)), (3, .ref (q 100)), (4, .int (nI i))] [] := by
  refine g_aload_n (k := 1) F 1 rfl dL_law_1440 ?_
  refine g_callV F (pX9_leastArm Γ.1 S q hq z H l n tx hI.1.1 hC) okX9_leastArm (qi80 hq) mw937 ⟨(Nat.le_of_ble_eq_true rfl), (Nat.le_of_ble_eq_true rfl)⟩ rfl rfl (Nat.le_of_ble_eq_true rfl) ⟨by show c + 0 ≤ 601024; omega, by show m + 0 ≤ 7293034; omega⟩ dL_law_1441 (toI (fun r1 S2 h3 => ?_))
  obtain ⟨z1, er1, f1, c1⟩ := h3
  have q1 : Shp S2.1 S2.2.1 q := FrP.q f1 hq
  have m1 := Mo_x (P_x f1) hM
  refine g_aload_n (k := 2) F 2 rfl dL_law_1444 ?_
  refine g_callV F (kX10_leastArm Γ.1 S2 q q1 z m1.1 hI.1.1 H l n tx m1) okX10_leastArm (qi94 q1) mw944 ⟨(Nat.le_of_ble_eq_true rfl), (Nat.le_of_ble_eq_true rfl)⟩ rfl rfl (Nat.le_of_ble_eq_true rfl) ⟨by show c + 0 ≤ 601024; omega, by show m + 0 ≤ 7293034; omega⟩ dL_law_1445 (toI (fun r4 S5 h6 => ?_))
  obtain ⟨er4, g4, t4, m4⟩ := h6
  have q4 : Shp S5.1 S5.2.1 q := Fr.q g4 q1
  have c4 := Cl_m g4 (by decide) c1
  refine g_icmp_eq (t := 1508) F dL_law_1448 (by decide) (fun u7 => ?_) (fun u7 => ?_)
  · exact kk _ (z, H, l, n, tx) _ _ q4 (hI) c4 m4 (by omega) (by omega)
  · exact absurd (by rw [er1, er4]) u7
set_option maxHeartbeats 4000000 in
set_option maxRecDepth 100000 in
theorem lc_24 {Γ : Ctx} {b L : Nat} {xs : Nat → Int32} (F : Fx Γ RL cL_law rmL) (hX : va_X b L xs (ks Γ) (ks Γ).heap) (hb : b < Γ.1.2.2.2.1) (hL : L ≤ 2560) (S : PS) (q : Nat → Nat) (hq : Shp S.1 S.2.1 q) (z : ZZ) (H : List ZZ) (l : Int32) (n : Nat) (tx : Nat → Int32) (hI : Iw (z, H, l, n, tx)) (hC : Cl S q (z, H, l, n, tx)) (hM : Mw S q (z, H, l, n, tx)) (c m : Nat) (hc : c ≤ 600000) (hm : m ≤ 7000000) (i : Nat) (hi : i + 5 ≤ L) (kk : ∀ (S' : PS) (w : WW) (c' m' : Nat), Shp S'.1 S'.2.1 q → Iw w → Cl S' q w → Mw S' q w → c' ≤ c + 3 → m' ≤ m + 18 → G Γ S' c' m' 1508 [(0, .ref b), (1, .ref (q 80)), (2, .ref (q 94)), (3, .ref (q 100)), (4, .int (nI i))] []) : G Γ S c m 1453 [(0, .ref b), (1, .ref (q 80)), (2, .ref (q 94)), (3, .ref (q 100)), (4, .int (nI i))] [] := by
  refine g_aload_n (k := 1) F 1 rfl dL_law_1453 ?_
  refine g_callV F (pX9_error Γ.1 S q hq z H l n tx hI.1.1 hC) okX9_error (qi80 hq) mw952 ⟨(Nat.le_of_ble_eq_true rfl), (Nat.le_of_ble_eq_true rfl)⟩ rfl rfl (Nat.le_of_ble_eq_true rfl) ⟨by show c + 0 ≤ 601024; omega, by show m + 0 ≤ 7293034; omega⟩ dL_law_1454 (toD (fun r1 S2 h3 => ?_))
  obtain ⟨z1, er1, f1, c1⟩ := h3
  have q1 : Shp S2.1 S2.2.1 q := FrP.q f1 hq
  have m1 := Mo_x (P_x f1) hM
  refine g_dstore (L' := [(5, .double r1), (0, .ref b), (1, .ref (q 80)), (2, .ref (q 94)), (3, .ref (q 100)), (4, .int (nI i))]) F dL_law_1457 (Nat.le_of_ble_eq_true rfl) rfl ?_
  refine g_aload_n (k := 2) F 3 rfl dL_law_1459 ?_
  refine g_callV F (kX10_error Γ.1 S2 q q1 z m1.1 hI.1.1 H l n tx m1) okX10_error (qi94 q1) mw956 ⟨(Nat.le_of_ble_eq_true rfl), (Nat.le_of_ble_eq_true rfl)⟩ rfl rfl (Nat.le_of_ble_eq_true rfl) ⟨by show c + 0 ≤ 601024; omega, by show m + 0 ≤ 7293034; omega⟩ dL_law_1460 (toD (fun r4 S5 h6 => ?_))
  obtain ⟨er4, g4, t4, m4⟩ := h6
  have q4 : Shp S5.1 S5.2.1 q := Fr.q g4 q1
  have c4 := Cl_m g4 (by decide) c1
  refine g_dstore (L' := [(7, .double r4), (5, .double r1), (0, .ref b), (1, .ref (q 80)), (2, .ref (q 94)), (3, .ref (q 100)), (4, .int (nI i))]) F dL_law_1463 (Nat.le_of_ble_eq_true rfl) rfl ?_
  refine g_dload F 1 rfl dL_law_1465 ?_
  refine g_dload F 0 rfl dL_law_1467 ?_
  refine g_dcmp F dL_law_1469 ?_
  refine g_if_eq (t := 1491) F dL_law_1470 (by decide) (fun u7 => ?_) (fun u7 => ?_)
  · refine g_goto (t := 1508) F dL_law_1491 (by decide) ?_
    refine g_sub (L' := [(0, .ref b), (1, .ref (q 80)), (2, .ref (q 94)), (3, .ref (q 100)), (4, .int (nI i))]) [2, 3, 4, 5, 6] rfl ?_
    exact kk _ (z, H, l, n, tx) _ _ q4 (hI) c4 m4 (by omega) (by omega)
  · exact absurd (by rw [er1, er4]; exact cmp_self (zEr_nn hI.1.1)) u7
set_option maxHeartbeats 4000000 in
set_option maxRecDepth 100000 in
theorem lc_25 {Γ : Ctx} {b L : Nat} {xs : Nat → Int32} (F : Fx Γ RL cL_law rmL) (hX : va_X b L xs (ks Γ) (ks Γ).heap) (hb : b < Γ.1.2.2.2.1) (hL : L ≤ 2560) (S : PS) (q : Nat → Nat) (hq : Shp S.1 S.2.1 q) (z : ZZ) (H : List ZZ) (l : Int32) (n : Nat) (tx : Nat → Int32) (hI : Iw (z, H, l, n, tx)) (hC : Cl S q (z, H, l, n, tx)) (hM : Mw S q (z, H, l, n, tx)) (c m : Nat) (hc : c ≤ 600000) (hm : m ≤ 7000000) (i : Nat) (hi : i + 5 ≤ L) (kk : ∀ (S' : PS) (w : WW) (c' m' : Nat), Shp S'.1 S'.2.1 q → Iw w → Cl S' q w → Mw S' q w → c' ≤ c + 3 → m' ≤ m + 18 → G Γ S' c' m' 1508 [(0, .ref b), (1, .ref (q 80)), (2, .ref (q 94)), (3, .ref (q 100)), (4, .int (nI i))] []) : G Γ S c m 1494 [(0, .ref b), (1, .ref (q 80)), (2, .ref (q 94)), (3, .ref (q 100)), (4, .int (nI i))] [] := by
  refine g_aload_n (k := 1) F 1 rfl dL_law_1494 ?_
  refine g_callV F (kX9_digest Γ.1 S q hq z H l n tx hI.1.1 hC hI.2.2.2) okX9_digest (qi80 hq) mw964 ⟨(Nat.le_of_ble_eq_true rfl), (Nat.le_of_ble_eq_true rfl)⟩ rfl rfl (Nat.le_of_ble_eq_true rfl) ⟨by show c + 0 ≤ 601024; omega, by show m + 0 ≤ 7293034; omega⟩ dL_law_1495 (toJ (fun r1 S2 h3 => ?_))
  obtain ⟨z1, er1, f1, c1⟩ := h3
  have q1 : Shp S2.1 S2.2.1 q := FrP.q f1 hq
  have m1 := Mo_x (P_x f1) hM
  refine g_aload_n (k := 2) F 2 rfl dL_law_1498 ?_
  refine g_callV F (kX10_digest Γ.1 S2 q q1 z m1.1 hI.1.1 H l n tx m1 hI.2.2.2) okX10_digest (qi94 q1) mw987 ⟨(Nat.le_of_ble_eq_true rfl), (Nat.le_of_ble_eq_true rfl)⟩ rfl rfl (Nat.le_of_ble_eq_true rfl) ⟨by show c + 0 ≤ 601024; omega, by show m + 0 ≤ 7293034; omega⟩ dL_law_1499 (toJ (fun r4 S5 h6 => ?_))
  obtain ⟨er4, g4, t4, m4⟩ := h6
  have q4 : Shp S5.1 S5.2.1 q := Fr.q g4 q1
  have c4 := Cl_m g4 (by decide) c1
  refine g_lcmp F dL_law_1502 ?_
  refine g_if_eq (t := 1508) F dL_law_1503 (by decide) (fun u7 => ?_) (fun u7 => ?_)
  · exact kk _ (z, H, l, n, tx) _ _ q4 (hI) c4 m4 (by omega) (by omega)
  · exact absurd (lc_eq.mpr (by rw [er1, er4])) u7
