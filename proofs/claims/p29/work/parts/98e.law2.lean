set_option maxHeartbeats 4000000 in
set_option maxRecDepth 100000 in
theorem kL_told (g : Glo) (S : PS) (q : Nat → Nat) (z : ZZ) (H : List ZZ) (l : Int32) (n : Nat) (tx : Nat → Int32) (hI : Iw (z, H, l, n, tx)) (hL : Lw S q (z, H, l, n, tx)) (x : Int32) : Cx g mL_told 200 1200 [.ref (q 80), .int x, .ref (q 94), .ref (q 95), .ref (q 96), .ref (q 97)] S (pI9 (fun r S' => r = 1 ∧ Lw S' q (z, H, l, n, tx))) (fun _ _ => False) := by
  refine Cx.of (by decide) (Nat.le_of_ble_eq_true rfl) (fun Γ hg F T => ?_)
  subst hg
  show G Γ S 0 0 0 [(0, .ref (q 80)), (1, .int x), (2, .ref (q 94)), (3, .ref (q 95)), (4, .ref (q 96)), (5, .ref (q 97))] []
  have hq := hL.1
  have hB : Bz z := hI.1.1
  have h8 : nc z ≤ 8 := hL.2.2.2.1.2.2
  have hnr := (nr_e hB).2
  refine g_lconst (v := 0) F (by decide) dL_told_0 ?_
  refine g_lstore (L' := [(6, .long 0), (0, .ref (q 80)), (1, .int x), (2, .ref (q 94)), (3, .ref (q 95)), (4, .ref (q 96)), (5, .ref (q 97))]) F dL_told_1 (Nat.le_of_ble_eq_true rfl) rfl ?_
  refine g_iconst (v := 0) F (by decide) dL_told_3 ?_
  refine g_istore (L' := [(8, .int 0), (6, .long 0), (0, .ref (q 80)), (1, .int x), (2, .ref (q 94)), (3, .ref (q 95)), (4, .ref (q 96)), (5, .ref (q 97))]) F dL_told_4 (Nat.le_of_ble_eq_true rfl) rfl ?_
  have lp1 : ∀ (n9 : Nat) (k : Nat) (a6 : Int64) (S1 : PS) (c9 : Nat) (m9 : Nat), nc z < k + n9 → (k ≤ nc z) → (a6 = sumF (fun k => lN (zN z k)) k) → (Lw S1 q (z, H, l, n, tx)) → (c9 ≤ 18 * k) → (m9 ≤ 108 * k) → G Γ S1 c9 m9 6 [(8, .int (nI k)), (6, .long a6), (0, .ref (q 80)), (1, .int x), (2, .ref (q 94)), (3, .ref (q 95)), (4, .ref (q 96)), (5, .ref (q 97))] [] := by
    intro n9
    induction n9 with
    | zero =>
      intro k a6 S1 c9 m9 hm9 hk9 hall hL1 hc9 hm9b
      exact absurd hm9 (by omega)
    | succ n9 ihlp1 =>
      intro k a6 S1 c9 m9 hm9 hk9 hall hL1 hc9 hm9b
      refine g_iload F 0 rfl dL_told_6 ?_
      refine g_aload F 6 rfl dL_told_8 ?_
      refine g_iconst (v := 0) F (by decide) dL_told_10 ?_
      refine g_ialde rfl (j := 0) F (qi96 hL1.1) rfl (by rw [(qn96 hL1.1)]; omega) (by rw [(qn96 hL1.1)]; decide) dL_told_11 ?_
      refine g_rei (nI (nc z)) hL1.2.2.2.1.2.1 ?_
      refine g_icmp_ge (t := 189) F dL_told_12 (by decide) (fun c2 => ?_) (fun c2 => ?_)
      · have hkz : k = nc z := by
          rw [nI_leI (by omega) (by omega)] at c2
          omega
        refine g_iload_n (k := 1) F 3 rfl dL_told_189 ?_
        refine g_ldc F mw102 dL_told_190 ?_
        refine g_callS F (kL_at Γ.1 _ _ 60001 (by omega) (by omega)) okL_at mw252 ⟨(Nat.le_of_ble_eq_true rfl), (Nat.le_of_ble_eq_true rfl)⟩ rfl rfl (Nat.le_of_ble_eq_true rfl) ⟨(by show c9 + 0 ≤ 200; omega), (by show m9 + 0 ≤ 1200; omega)⟩ dL_told_192 (toI (fun r3 S4 h5 => ?_))
        obtain ⟨⟨jr3, lr3, rfl⟩, rfl⟩ := h5
        refine g_sipush (v := 30000) F (by decide) dL_told_195 ?_
        refine g_isub F dL_told_198 ?_
        refine g_topi (fun x6 ex6 => ?_)
        refine g_istore (L' := [(8, .int x6), (6, .long a6), (0, .ref (q 80)), (1, .int x), (2, .ref (q 94)), (3, .ref (q 95)), (4, .ref (q 96)), (5, .ref (q 97))]) F dL_told_199 (Nat.le_of_ble_eq_true rfl) rfl ?_
        have hb8 := el_b lr3 ex6
        refine g_iload_n (k := 1) F 3 rfl dL_told_201 ?_
        refine g_bipush (v := 7) F (by decide) dL_told_202 ?_
        refine g_ishr F dL_told_204 ?_
        refine g_ldc F mw102 dL_told_205 ?_
        refine g_callS F (kL_at Γ.1 _ _ 60001 (by omega) (by omega)) okL_at mw252 ⟨(Nat.le_of_ble_eq_true rfl), (Nat.le_of_ble_eq_true rfl)⟩ rfl rfl (Nat.le_of_ble_eq_true rfl) ⟨(by show c9 + 0 ≤ 200; omega), (by show m9 + 0 ≤ 1200; omega)⟩ dL_told_207 (toI (fun r7 S8 h9 => ?_))
        obtain ⟨⟨jr7, lr7, rfl⟩, rfl⟩ := h9
        refine g_sipush (v := 30000) F (by decide) dL_told_210 ?_
        refine g_isub F dL_told_213 ?_
        refine g_topi (fun x10 ex10 => ?_)
        refine g_istore (L' := [(9, .int x10), (8, .int x6), (6, .long a6), (0, .ref (q 80)), (1, .int x), (2, .ref (q 94)), (3, .ref (q 95)), (4, .ref (q 96)), (5, .ref (q 97))]) F dL_told_214 (Nat.le_of_ble_eq_true rfl) rfl ?_
        have hb9 := el_b lr7 ex10
        refine g_iload F 1 rfl dL_told_216 ?_
        refine g_i2l F dL_told_218 ?_
        refine g_iload F 0 rfl dL_told_219 ?_
        refine g_i2l F dL_told_221 ?_
        refine g_aload_n (k := 2) F 5 rfl dL_told_222 ?_
        refine g_aload F 8 rfl dL_told_223 ?_
        refine g_callS F (kL_find Γ.1 S1 q hL1.1 z hB hL1.2.2.1 ((x6).toInt64) ((x10).toInt64) (el_w hb8) (el_w hb9)) okL_find mw117 ⟨(Nat.le_of_ble_eq_true rfl), (Nat.le_of_ble_eq_true rfl)⟩ rfl rfl (Nat.le_of_ble_eq_true rfl) ⟨(by show c9 + 0 ≤ 200; omega), (by show m9 + 0 ≤ 1200; omega)⟩ dL_told_225 (toV (fun S12 h13 => ?_))
        obtain ⟨fr11, pr11⟩ := h13
        have br11 := Lw.f97 hL1 fr11
        refine g_aload F 8 rfl dL_told_228 ?_
        refine g_iconst (v := 2) F (by decide) dL_told_230 ?_
        refine g_lalde rfl (j := 2) F (qi97 br11.1) rfl (by rw [(qn97 br11.1)]; omega) (by rw [(qn97 br11.1)]; decide) dL_told_231 ?_
        refine g_lconst (v := 1) F (by decide) dL_told_232 ?_
        refine g_lcmp F dL_told_233 ?_
        have jn15 : ∀ (w242 : Int32), (w242 = 1 ∧ zRe z x6.toInt64 x10.toInt64) ∨ (w242 = 0 ∧ ¬ zRe z x6.toInt64 x10.toInt64) → G Γ S12 c9 m9 242 [(9, .int x10), (8, .int x6), (6, .long a6), (0, .ref (q 80)), (1, .int x), (2, .ref (q 94)), (3, .ref (q 95)), (4, .ref (q 96)), (5, .ref (q 97))] [.int w242] := by
          intro w242 hj6
          refine g_istore (L' := [(10, .int w242), (9, .int x10), (8, .int x6), (6, .long a6), (0, .ref (q 80)), (1, .int x), (2, .ref (q 94)), (3, .ref (q 95)), (4, .ref (q 96)), (5, .ref (q 97))]) F dL_told_242 (Nat.le_of_ble_eq_true rfl) rfl ?_
          refine g_aload_n (k := 0) F 4 rfl dL_told_244 ?_
          refine g_iload F 2 rfl dL_told_245 ?_
          refine g_iload F 1 rfl dL_told_247 ?_
          refine g_iconst (v := 0) F (by decide) dL_told_249 ?_
          refine x_callV F (kX9_elbow Γ.1 S12 q br11.1 z H l n tx hB br11.2.1 x6 x10 (nI 0)) okX9_elbow (qi80 br11.1) mw255 ⟨(Nat.le_of_ble_eq_true rfl), (Nat.le_of_ble_eq_true rfl)⟩ rfl rfl (Nat.le_of_ble_eq_true rfl) ⟨(by show c9 + 3 ≤ 200; omega), (by show m9 + 18 ≤ 1200; omega)⟩ dL_told_250 (fun E19 S20 h21 => ?_) (toJ (fun r16 S17 h18 => ?_))
          · rw [elb_e (i := 0) hb8 hb9 (by omega)] at h21
            exact absurd (show (0 : Int32) = _ from h21.1.2) (by decide)
          obtain ⟨-, er16, fr16, cr16⟩ := h18
          rw [elb_e (i := 0) hb8 hb9 (by omega)] at er16
          replace er16 : r16 = zEn z x6.toInt64 x10.toInt64 (nI 0) := er16
          have br16 := Lw.cl br11 fr16 cr16
          have pr16 := Po.cl pr11 fr16
          refine g_aload F 9 rfl dL_told_253 ?_
          refine g_iconst (v := 2) F (by decide) dL_told_255 ?_
          refine g_lalde rfl (j := 2) F (qi97 br16.1) rfl (by rw [(qn97 br16.1)]; omega) (by rw [(qn97 br16.1)]; decide) dL_told_256 ?_
          refine g_lcmp F dL_told_257 ?_
          refine g_if_ne (t := 313) F dL_told_258 (by decide) (fun c22 => ?_) (fun c22 => ?_)
          · exact absurd (lc_eq.mpr (er16.trans (el_0 pr16))) c22
          · rw [lc_eq] at c22
            refine g_aload_n (k := 0) F 4 rfl dL_told_261 ?_
            refine g_iload F 2 rfl dL_told_262 ?_
            refine g_iload F 1 rfl dL_told_264 ?_
            refine g_iconst (v := 1) F (by decide) dL_told_266 ?_
            refine x_callV F (kX9_elbow Γ.1 S17 q br16.1 z H l n tx hB br16.2.1 x6 x10 (nI 1)) okX9_elbow (qi80 br16.1) mw255 ⟨(Nat.le_of_ble_eq_true rfl), (Nat.le_of_ble_eq_true rfl)⟩ rfl rfl (Nat.le_of_ble_eq_true rfl) ⟨(by show (c9 + 3) + 3 ≤ 200; omega), (by show (m9 + 18) + 18 ≤ 1200; omega)⟩ dL_told_267 (fun E26 S27 h28 => ?_) (toJ (fun r23 S24 h25 => ?_))
            · rw [elb_e (i := 1) hb8 hb9 (by omega)] at h28
              exact absurd (show (0 : Int32) = _ from h28.1.2) (by decide)
            obtain ⟨-, er23, fr23, cr23⟩ := h25
            rw [elb_e (i := 1) hb8 hb9 (by omega)] at er23
            replace er23 : r23 = zEn z x6.toInt64 x10.toInt64 (nI 1) := er23
            have br23 := Lw.cl br16 fr23 cr23
            have pr23 := Po.cl pr16 fr23
            refine g_iload F 0 rfl dL_told_270 ?_
            have jn30 : ∀ (w283 : Int64), w283 = zEn z x6.toInt64 x10.toInt64 (nI 1) → G Γ S24 ((c9 + 3) + 3) ((m9 + 18) + 18) 283 [(10, .int w242), (9, .int x10), (8, .int x6), (6, .long a6), (0, .ref (q 80)), (1, .int x), (2, .ref (q 94)), (3, .ref (q 95)), (4, .ref (q 96)), (5, .ref (q 97))] [.long w283, .long r23] := by
              intro w283 hj7
              refine g_lcmp F dL_told_283 ?_
              refine g_if_ne (t := 313) F dL_told_284 (by decide) (fun c31 => ?_) (fun c31 => ?_)
              · exact absurd (lc_eq.mpr (er23.trans hj7.symm)) c31
              · rw [lc_eq] at c31
                refine g_aload_n (k := 0) F 4 rfl dL_told_287 ?_
                refine g_iload F 2 rfl dL_told_288 ?_
                refine g_iload F 1 rfl dL_told_290 ?_
                refine g_iconst (v := 2) F (by decide) dL_told_292 ?_
                refine x_callV F (kX9_elbow Γ.1 S24 q br23.1 z H l n tx hB br23.2.1 x6 x10 (nI 2)) okX9_elbow (qi80 br23.1) mw255 ⟨(Nat.le_of_ble_eq_true rfl), (Nat.le_of_ble_eq_true rfl)⟩ rfl rfl (Nat.le_of_ble_eq_true rfl) ⟨(by show ((c9 + 3) + 3) + 3 ≤ 200; omega), (by show ((m9 + 18) + 18) + 18 ≤ 1200; omega)⟩ dL_told_293 (fun E35 S36 h37 => ?_) (toJ (fun r32 S33 h34 => ?_))
                · rw [elb_e (i := 2) hb8 hb9 (by omega)] at h37
                  exact absurd (show (0 : Int32) = _ from h37.1.2) (by decide)
                obtain ⟨-, er32, fr32, cr32⟩ := h34
                rw [elb_e (i := 2) hb8 hb9 (by omega)] at er32
                replace er32 : r32 = zEn z x6.toInt64 x10.toInt64 (nI 2) := er32
                have br32 := Lw.cl br23 fr32 cr32
                have pr32 := Po.cl pr23 fr32
                refine g_iload F 0 rfl dL_told_296 ?_
                have jn39 : ∀ (w309 : Int64), w309 = zEn z x6.toInt64 x10.toInt64 (nI 2) → G Γ S33 (((c9 + 3) + 3) + 3) (((m9 + 18) + 18) + 18) 309 [(10, .int w242), (9, .int x10), (8, .int x6), (6, .long a6), (0, .ref (q 80)), (1, .int x), (2, .ref (q 94)), (3, .ref (q 95)), (4, .ref (q 96)), (5, .ref (q 97))] [.long w309, .long r32] := by
                  intro w309 hj8
                  refine g_lcmp F dL_told_309 ?_
                  refine g_if_eq (t := 315) F dL_told_310 (by decide) (fun c40 => ?_) (fun c40 => ?_)
                  · rw [lc_eq] at c40
                    refine g_iconst (v := 0) F (by decide) dL_told_315 ?_
                    refine g_istore (L' := [(11, .int 0), (10, .int w242), (9, .int x10), (8, .int x6), (6, .long a6), (0, .ref (q 80)), (1, .int x), (2, .ref (q 94)), (3, .ref (q 95)), (4, .ref (q 96)), (5, .ref (q 97))]) F dL_told_316 (Nat.le_of_ble_eq_true rfl) rfl ?_
                    have lp41 : ∀ (n9 : Nat) (j4 : Nat) (S4 : PS) (c7 : Nat) (m7 : Nat), 5 < j4 + n9 → (j4 ≤ 5) → (Lw S4 q (z, H, l, n, tx)) → (c7 ≤ 153 + 3 * j4) → (m7 ≤ 918 + 18 * j4) → G Γ S4 c7 m7 318 [(11, .int (nI j4)), (10, .int w242), (9, .int x10), (8, .int x6), (6, .long a6), (0, .ref (q 80)), (1, .int x), (2, .ref (q 94)), (3, .ref (q 95)), (4, .ref (q 96)), (5, .ref (q 97))] [] := by
                      intro n9
                      induction n9 with
                      | zero =>
                        intro j4 S4 c7 m7 hm9 hj4 hL4 hc7 hm7b
                        exact absurd hm9 (by omega)
                      | succ n9 ihlp41 =>
                        intro j4 S4 c7 m7 hm9 hj4 hL4 hc7 hm7b
                        refine g_iload F 0 rfl dL_told_318 ?_
                        refine g_iconst (v := 5) F (by decide) dL_told_320 ?_
                        refine g_icmp_ge (t := 345) F dL_told_321 (by decide) (fun c42 => ?_) (fun c42 => ?_)
                        · have hj3 : j4 = 5 := by
                            rw [show (5 : Int32) = nI 5 from rfl, nI_leI (by omega) (by omega)] at c42
                            omega
                          refine g_aload_n (k := 2) F 7 rfl dL_told_345 ?_
                          refine g_aload_n (k := 3) F 8 rfl dL_told_346 ?_
                          refine g_aload F 9 rfl dL_told_347 ?_
                          refine g_aload F 10 rfl dL_told_349 ?_
                          refine g_callS F (kL_why Γ.1 S4 q hL4.1 z hB hL4.2.2.1 hL4.2.2.2.1 hL4.2.2.2.2) okL_why mw270 ⟨(Nat.le_of_ble_eq_true rfl), (Nat.le_of_ble_eq_true rfl)⟩ rfl rfl (Nat.le_of_ble_eq_true rfl) ⟨(by show c7 + 0 ≤ 200; omega), (by show m7 + 0 ≤ 1200; omega)⟩ dL_told_351 (toI (fun r43 S44 h45 => ?_))
                          obtain ⟨rfl, fr43⟩ := h45
                          have br43 := Lw.f97 hL4 fr43
                          refine g_istore (L' := [(11, .int (nI (zRf z))), (10, .int w242), (9, .int x10), (8, .int x6), (6, .long a6), (0, .ref (q 80)), (1, .int x), (2, .ref (q 94)), (3, .ref (q 95)), (4, .ref (q 96)), (5, .ref (q 97))]) F dL_told_354 (Nat.le_of_ble_eq_true rfl) rfl ?_
                          refine g_aload F 9 rfl dL_told_356 ?_
                          refine g_iconst (v := 0) F (by decide) dL_told_358 ?_
                          refine g_ialde rfl (j := 0) F (qi96 br43.1) rfl (by rw [(qn96 br43.1)]; omega) (by rw [(qn96 br43.1)]; decide) dL_told_359 ?_
                          refine g_rei (nI (nc z)) br43.2.2.2.1.2.1 ?_
                          refine g_if_le (t := 397) F dL_told_360 (by decide) (fun c46 => ?_) (fun c46 => ?_)
                          · refine g_aload_n (k := 0) F 5 rfl dL_told_397 ?_
                            refine g_iconst (v := 0) F (by decide) dL_told_398 ?_
                            refine x_callV F (kX9_count Γ.1 S44 q br43.1 z H l n tx hB br43.2.1 (nI 0)) okX9_count (qi80 br43.1) mw299 ⟨(Nat.le_of_ble_eq_true rfl), (Nat.le_of_ble_eq_true rfl)⟩ rfl rfl (Nat.le_of_ble_eq_true rfl) ⟨(by show c7 + 3 ≤ 200; omega), (by show m7 + 18 ≤ 1200; omega)⟩ dL_told_399 (fun E50 S51 h52 => ?_) (toJ (fun r47 S48 h49 => ?_))
                            · rw [cnt_e (i := 0) (by omega)] at h52
                              exact absurd (show (0 : Int32) = _ from h52.1.2) (by decide)
                            obtain ⟨-, er47, fr47, cr47⟩ := h49
                            rw [cnt_e (i := 0) (by omega)] at er47
                            replace er47 : r47 = zCt z H.length (nI 0) := er47
                            have br47 := Lw.cl br43 fr47 cr47
                            refine g_aload F 9 rfl dL_told_402 ?_
                            refine g_iconst (v := 0) F (by decide) dL_told_404 ?_
                            refine g_ialde rfl (j := 0) F (qi96 br47.1) rfl (by rw [(qn96 br47.1)]; omega) (by rw [(qn96 br47.1)]; decide) dL_told_405 ?_
                            refine g_rei (nI (nc z)) br47.2.2.2.1.2.1 ?_
                            refine g_i2l F dL_told_406 ?_
                            refine g_lcmp F dL_told_407 ?_
                            refine g_if_ne (t := 528) F dL_told_408 (by decide) (fun c53 => ?_) (fun c53 => ?_)
                            · exact absurd (lc_eq.mpr (er47.trans (ct_0.trans (ct_n hB).symm))) c53
                            · rw [lc_eq] at c53
                              refine g_aload_n (k := 0) F 5 rfl dL_told_411 ?_
                              refine g_iconst (v := 1) F (by decide) dL_told_412 ?_
                              refine x_callV F (kX9_count Γ.1 S48 q br47.1 z H l n tx hB br47.2.1 (nI 1)) okX9_count (qi80 br47.1) mw299 ⟨(Nat.le_of_ble_eq_true rfl), (Nat.le_of_ble_eq_true rfl)⟩ rfl rfl (Nat.le_of_ble_eq_true rfl) ⟨(by show (c7 + 3) + 3 ≤ 200; omega), (by show (m7 + 18) + 18 ≤ 1200; omega)⟩ dL_told_413 (fun E57 S58 h59 => ?_) (toJ (fun r54 S55 h56 => ?_))
                              · rw [cnt_e (i := 1) (by omega)] at h59
                                exact absurd (show (0 : Int32) = _ from h59.1.2) (by decide)
                              obtain ⟨-, er54, fr54, cr54⟩ := h56
                              rw [cnt_e (i := 1) (by omega)] at er54
                              replace er54 : r54 = zCt z H.length (nI 1) := er54
                              have br54 := Lw.cl br47 fr54 cr54
                              refine g_aload F 9 rfl dL_told_416 ?_
                              refine g_iconst (v := 1) F (by decide) dL_told_418 ?_
                              refine g_ialde rfl (j := 1) F (qi96 br54.1) rfl (by rw [(qn96 br54.1)]; omega) (by rw [(qn96 br54.1)]; decide) dL_told_419 ?_
                              refine g_rei (nI (nr z)) br54.2.2.2.2 ?_
                              refine g_i2l F dL_told_420 ?_
                              refine g_lcmp F dL_told_421 ?_
                              refine g_if_ne (t := 528) F dL_told_422 (by decide) (fun c60 => ?_) (fun c60 => ?_)
                              · exact absurd (lc_eq.mpr (er54.trans (ct_1.trans (ct_m hB).symm))) c60
                              · rw [lc_eq] at c60
                                refine g_aload_n (k := 0) F 5 rfl dL_told_425 ?_
                                refine g_iconst (v := 2) F (by decide) dL_told_426 ?_
                                refine x_callV F (kX9_count Γ.1 S55 q br54.1 z H l n tx hB br54.2.1 (nI 2)) okX9_count (qi80 br54.1) mw299 ⟨(Nat.le_of_ble_eq_true rfl), (Nat.le_of_ble_eq_true rfl)⟩ rfl rfl (Nat.le_of_ble_eq_true rfl) ⟨(by show ((c7 + 3) + 3) + 3 ≤ 200; omega), (by show ((m7 + 18) + 18) + 18 ≤ 1200; omega)⟩ dL_told_427 (fun E64 S65 h66 => ?_) (toJ (fun r61 S62 h63 => ?_))
                                · rw [cnt_e (i := 2) (by omega)] at h66
                                  exact absurd (show (0 : Int32) = _ from h66.1.2) (by decide)
                                obtain ⟨-, er61, fr61, cr61⟩ := h63
                                rw [cnt_e (i := 2) (by omega)] at er61
                                replace er61 : r61 = zCt z H.length (nI 2) := er61
                                have br61 := Lw.cl br54 fr61 cr61
                                refine g_aload_n (k := 2) F 7 rfl dL_told_430 ?_
                                refine g_iconst (v := 5) F (by decide) dL_told_431 ?_
                                refine g_ialde rfl (j := 5) F (qi94 br61.1) rfl (by rw [(qn94 br61.1)]; omega) (by rw [(qn94 br61.1)]; decide) dL_told_432 ?_
                                refine g_i2l F dL_told_433 ?_
                                refine g_lcmp F dL_told_434 ?_
                                refine g_if_ne (t := 528) F dL_told_435 (by decide) (fun c67 => ?_) (fun c67 => ?_)
                                · exact absurd (lc_eq.mpr (er61.trans (ct_2.trans br61.2.2.1.2.1.symm))) c67
                                · rw [lc_eq] at c67
                                  refine g_aload_n (k := 0) F 5 rfl dL_told_438 ?_
                                  refine g_iconst (v := 3) F (by decide) dL_told_439 ?_
                                  refine x_callV F (kX9_count Γ.1 S62 q br61.1 z H l n tx hB br61.2.1 (nI 3)) okX9_count (qi80 br61.1) mw299 ⟨(Nat.le_of_ble_eq_true rfl), (Nat.le_of_ble_eq_true rfl)⟩ rfl rfl (Nat.le_of_ble_eq_true rfl) ⟨(by show (((c7 + 3) + 3) + 3) + 3 ≤ 200; omega), (by show (((m7 + 18) + 18) + 18) + 18 ≤ 1200; omega)⟩ dL_told_440 (fun E71 S72 h73 => ?_) (toJ (fun r68 S69 h70 => ?_))
                                  · rw [cnt_e (i := 3) (by omega)] at h73
                                    exact absurd (show (0 : Int32) = _ from h73.1.2) (by decide)
                                  obtain ⟨-, er68, fr68, cr68⟩ := h70
                                  rw [cnt_e (i := 3) (by omega)] at er68
                                  replace er68 : r68 = zCt z H.length (nI 3) := er68
                                  have br68 := Lw.cl br61 fr68 cr68
                                  refine g_aload_n (k := 2) F 7 rfl dL_told_443 ?_
                                  refine g_bipush (v := 6) F (by decide) dL_told_444 ?_
                                  refine g_ialde rfl (j := 6) F (qi94 br68.1) rfl (by rw [(qn94 br68.1)]; omega) (by rw [(qn94 br68.1)]; decide) dL_told_446 ?_
                                  refine g_i2l F dL_told_447 ?_
                                  refine g_lcmp F dL_told_448 ?_
                                  refine g_if_ne (t := 528) F dL_told_449 (by decide) (fun c74 => ?_) (fun c74 => ?_)
                                  · exact absurd (lc_eq.mpr (er68.trans (ct_3.trans br68.2.2.1.2.2.symm))) c74
                                  · rw [lc_eq] at c74
                                    refine g_aload_n (k := 0) F 5 rfl dL_told_452 ?_
                                    refine g_iconst (v := 5) F (by decide) dL_told_453 ?_
                                    refine x_callV F (kX9_count Γ.1 S69 q br68.1 z H l n tx hB br68.2.1 (nI 5)) okX9_count (qi80 br68.1) mw299 ⟨(Nat.le_of_ble_eq_true rfl), (Nat.le_of_ble_eq_true rfl)⟩ rfl rfl (Nat.le_of_ble_eq_true rfl) ⟨(by show ((((c7 + 3) + 3) + 3) + 3) + 3 ≤ 200; omega), (by show ((((m7 + 18) + 18) + 18) + 18) + 18 ≤ 1200; omega)⟩ dL_told_454 (fun E78 S79 h80 => ?_) (toJ (fun r75 S76 h77 => ?_))
                                    · rw [cnt_e (i := 5) (by omega)] at h80
                                      exact absurd (show (0 : Int32) = _ from h80.1.2) (by decide)
                                    obtain ⟨-, er75, fr75, cr75⟩ := h77
                                    rw [cnt_e (i := 5) (by omega)] at er75
                                    replace er75 : r75 = zCt z H.length (nI 5) := er75
                                    have br75 := Lw.cl br68 fr75 cr75
                                    refine g_aload_n (k := 3) F 8 rfl dL_told_457 ?_
                                    refine g_aload F 9 rfl dL_told_458 ?_
                                    refine g_callS F (kL_area2 Γ.1 S76 q br75.1 z hB br75.2.2.2.1) okL_area2 mw370 ⟨(Nat.le_of_ble_eq_true rfl), (Nat.le_of_ble_eq_true rfl)⟩ rfl rfl (Nat.le_of_ble_eq_true rfl) ⟨(by show (((((c7 + 3) + 3) + 3) + 3) + 3) + 0 ≤ 200; omega), (by show (((((m7 + 18) + 18) + 18) + 18) + 18) + 0 ≤ 1200; omega)⟩ dL_told_460 (toJ (fun r81 S82 h83 => ?_))
                                    obtain ⟨er81, rfl⟩ := h83
                                    refine g_lcmp F dL_told_463 ?_
                                    refine g_if_ne (t := 528) F dL_told_464 (by decide) (fun c84 => ?_) (fun c84 => ?_)
                                    · exact absurd (lc_eq.mpr (er75.trans (ct_5.trans er81.symm))) c84
                                    · rw [lc_eq] at c84
                                      refine g_aload_n (k := 0) F 5 rfl dL_told_467 ?_
                                      refine g_bipush (v := 6) F (by decide) dL_told_468 ?_
                                      refine x_callV F (kX9_count Γ.1 S76 q br75.1 z H l n tx hB br75.2.1 (nI 6)) okX9_count (qi80 br75.1) mw299 ⟨(Nat.le_of_ble_eq_true rfl), (Nat.le_of_ble_eq_true rfl)⟩ rfl rfl (Nat.le_of_ble_eq_true rfl) ⟨(by show (((((c7 + 3) + 3) + 3) + 3) + 3) + 3 ≤ 200; omega), (by show (((((m7 + 18) + 18) + 18) + 18) + 18) + 18 ≤ 1200; omega)⟩ dL_told_470 (fun E88 S89 h90 => ?_) (toJ (fun r85 S86 h87 => ?_))
                                      · rw [cnt_e (i := 6) (by omega)] at h90
                                        exact absurd (show (0 : Int32) = _ from h90.1.2) (by decide)
                                      obtain ⟨-, er85, fr85, cr85⟩ := h87
                                      rw [cnt_e (i := 6) (by omega)] at er85
                                      replace er85 : r85 = zCt z H.length (nI 6) := er85
                                      have br85 := Lw.cl br75 fr85 cr85
                                      refine g_aload_n (k := 3) F 8 rfl dL_told_473 ?_
                                      refine g_aload F 9 rfl dL_told_474 ?_
                                      refine g_callS F (kL_area2 Γ.1 S86 q br85.1 z hB br85.2.2.2.1) okL_area2 mw370 ⟨(Nat.le_of_ble_eq_true rfl), (Nat.le_of_ble_eq_true rfl)⟩ rfl rfl (Nat.le_of_ble_eq_true rfl) ⟨(by show ((((((c7 + 3) + 3) + 3) + 3) + 3) + 3) + 0 ≤ 200; omega), (by show ((((((m7 + 18) + 18) + 18) + 18) + 18) + 18) + 0 ≤ 1200; omega)⟩ dL_told_476 (toJ (fun r91 S92 h93 => ?_))
                                      obtain ⟨er91, rfl⟩ := h93
                                      refine g_ldc2 F mw103 dL_told_479 ?_
                                      refine g_ldiv F dL_told_482 (by decide) ?_
                                      refine g_lcmp F dL_told_483 ?_
                                      refine g_if_ne (t := 528) F dL_told_484 (by decide) (fun c94 => ?_) (fun c94 => ?_)
                                      · exact absurd (lc_eq.mpr (er85.trans (ct_6.trans (by rw [er91])))) c94
                                      · rw [lc_eq] at c94
                                        refine g_aload_n (k := 0) F 5 rfl dL_told_487 ?_
                                        refine g_bipush (v := 9) F (by decide) dL_told_488 ?_
                                        refine x_callV F (kX9_count Γ.1 S86 q br85.1 z H l n tx hB br85.2.1 (nI 9)) okX9_count (qi80 br85.1) mw299 ⟨(Nat.le_of_ble_eq_true rfl), (Nat.le_of_ble_eq_true rfl)⟩ rfl rfl (Nat.le_of_ble_eq_true rfl) ⟨(by show ((((((c7 + 3) + 3) + 3) + 3) + 3) + 3) + 3 ≤ 200; omega), (by show ((((((m7 + 18) + 18) + 18) + 18) + 18) + 18) + 18 ≤ 1200; omega)⟩ dL_told_490 (fun E98 S99 h100 => ?_) (toJ (fun r95 S96 h97 => ?_))
                                        · rw [cnt_e (i := 9) (by omega)] at h100
                                          exact absurd (show (0 : Int32) = _ from h100.1.2) (by decide)
                                        obtain ⟨-, er95, fr95, cr95⟩ := h97
                                        rw [cnt_e (i := 9) (by omega)] at er95
                                        replace er95 : r95 = zCt z H.length (nI 9) := er95
                                        have br95 := Lw.cl br85 fr95 cr95
                                        refine g_aload_n (k := 2) F 7 rfl dL_told_493 ?_
                                        refine g_aload_n (k := 3) F 8 rfl dL_told_494 ?_
                                        refine g_aload F 9 rfl dL_told_495 ?_
                                        refine g_callS F (kL_on Γ.1 S96 q br95.1 z hB br95.2.2.1 br95.2.2.2.1) okL_on mw273 ⟨(Nat.le_of_ble_eq_true rfl), (Nat.le_of_ble_eq_true rfl)⟩ rfl rfl (Nat.le_of_ble_eq_true rfl) ⟨(by show (((((((c7 + 3) + 3) + 3) + 3) + 3) + 3) + 3) + 0 ≤ 200; omega), (by show (((((((m7 + 18) + 18) + 18) + 18) + 18) + 18) + 18) + 0 ≤ 1200; omega)⟩ dL_told_497 (toI (fun r101 S102 h103 => ?_))
                                        obtain ⟨er101, rfl⟩ := h103
                                        have jn105 : ∀ (w508 : Int64), w508 = ifP (zOO z) 1 0 → G Γ S96 (((((((c7 + 3) + 3) + 3) + 3) + 3) + 3) + 3) (((((((m7 + 18) + 18) + 18) + 18) + 18) + 18) + 18) 508 [(11, .int (nI (zRf z))), (10, .int w242), (9, .int x10), (8, .int x6), (6, .long a6), (0, .ref (q 80)), (1, .int x), (2, .ref (q 94)), (3, .ref (q 95)), (4, .ref (q 96)), (5, .ref (q 97))] [.long w508, .long r95] := by
                                          intro w508 hj9
                                          refine g_lcmp F dL_told_508 ?_
                                          refine g_if_ne (t := 528) F dL_told_509 (by decide) (fun c106 => ?_) (fun c106 => ?_)
                                          · exact absurd (lc_eq.mpr (er95.trans (ct_9.trans hj9.symm))) c106
                                          · rw [lc_eq] at c106
                                            refine g_aload_n (k := 0) F 5 rfl dL_told_512 ?_
                                            refine g_bipush (v := 13) F (by decide) dL_told_513 ?_
                                            refine x_callV F (kX9_count Γ.1 S96 q br95.1 z H l n tx hB br95.2.1 (nI 13)) okX9_count (qi80 br95.1) mw299 ⟨(Nat.le_of_ble_eq_true rfl), (Nat.le_of_ble_eq_true rfl)⟩ rfl rfl (Nat.le_of_ble_eq_true rfl) ⟨(by show (((((((c7 + 3) + 3) + 3) + 3) + 3) + 3) + 3) + 3 ≤ 200; omega), (by show (((((((m7 + 18) + 18) + 18) + 18) + 18) + 18) + 18) + 18 ≤ 1200; omega)⟩ dL_told_515 (fun E110 S111 h112 => ?_) (toJ (fun r107 S108 h109 => ?_))
                                            · rw [cnt_e (i := 13) (by omega)] at h112
                                              exact absurd (show (0 : Int32) = _ from h112.1.2) (by decide)
                                            obtain ⟨-, er107, fr107, cr107⟩ := h109
                                            rw [cnt_e (i := 13) (by omega)] at er107
                                            replace er107 : r107 = zCt z H.length (nI 13) := er107
                                            have br107 := Lw.cl br95 fr107 cr107
                                            refine g_lload F 4 rfl dL_told_518 ?_
                                            refine g_lcmp F dL_told_520 ?_
                                            refine g_if_ne (t := 528) F dL_told_521 (by decide) (fun c113 => ?_) (fun c113 => ?_)
                                            · exact absurd (lc_eq.mpr (er107.trans (ct_13.trans (by rw [hall, hkz]; rfl)))) c113
                                            · rw [lc_eq] at c113
                                              refine g_iconst (v := 1) F (by decide) dL_told_524 ?_
                                              refine g_goto (t := 529) F dL_told_525 (by decide) ?_
                                              refine x_zret F T rfl ⟨_, rfl, ?_⟩ (by show ((((((((c7 + 3) + 3) + 3) + 3) + 3) + 3) + 3) + 3) ≤ 200; omega) (by show ((((((((m7 + 18) + 18) + 18) + 18) + 18) + 18) + 18) + 18) ≤ 1200; omega) dL_told_529
                                              exact ⟨rfl, br107⟩
                                        refine g_if_eq (t := 507) F dL_told_500 (by decide) (fun c104 => ?_) (fun c104 => ?_)
                                        · have g9 := w0 er101 c104
                                          refine g_lconst (v := 0) F (by decide) dL_told_507 ?_
                                          exact jn105 (0) (ifP_f g9).symm
                                        · have g9 := w1 er101 c104
                                          refine g_lconst (v := 1) F (by decide) dL_told_503 ?_
                                          refine g_goto (t := 508) F dL_told_504 (by decide) ?_
                                          exact jn105 (1) (ifP_t g9).symm
                          · have h0 : 0 < nc z := Nat.pos_of_ne_zero (fun h => c46 (by rw [h]; decide))
                            refine g_aload_n (k := 0) F 5 rfl dL_told_363 ?_
                            refine g_iload_n (k := 1) F 6 rfl dL_told_364 ?_
                            refine g_aload F 9 rfl dL_told_365 ?_
                            refine g_iconst (v := 0) F (by decide) dL_told_367 ?_
                            refine g_ialde rfl (j := 0) F (qi96 br43.1) rfl (by rw [(qn96 br43.1)]; omega) (by rw [(qn96 br43.1)]; decide) dL_told_368 ?_
                            refine g_rei (nI (nc z)) br43.2.2.2.1.2.1 ?_
                            refine g_callS F (kL_at Γ.1 _ _ ((nc z)) (by omega) (by omega)) okL_at mw252 ⟨(Nat.le_of_ble_eq_true rfl), (Nat.le_of_ble_eq_true rfl)⟩ rfl rfl (Nat.le_of_ble_eq_true rfl) ⟨(by show c7 + 0 ≤ 200; omega), (by show m7 + 0 ≤ 1200; omega)⟩ dL_told_369 (toI (fun r114 S115 h116 => ?_))
                            obtain ⟨⟨jr114, lr114, rfl⟩, rfl⟩ := h116
                            refine g_iload_n (k := 1) F 6 rfl dL_told_372 ?_
                            refine g_iconst (v := 3) F (by decide) dL_told_373 ?_
                            refine g_ishr F dL_told_374 ?_
                            refine g_iconst (v := 2) F (by decide) dL_told_375 ?_
                            refine g_callS F (kL_at Γ.1 _ _ 2 (by omega) (by omega)) okL_at mw252 ⟨(Nat.le_of_ble_eq_true rfl), (Nat.le_of_ble_eq_true rfl)⟩ rfl rfl (Nat.le_of_ble_eq_true rfl) ⟨(by show c7 + 0 ≤ 200; omega), (by show m7 + 0 ≤ 1200; omega)⟩ dL_told_376 (toI (fun r117 S118 h119 => ?_))
                            obtain ⟨⟨jr117, lr117, rfl⟩, rfl⟩ := h119
                            have jn121 : ∀ (w387 : Int32), w387 = 1 ∨ w387 = 0 → G Γ S44 c7 m7 387 [(11, .int (nI (zRf z))), (10, .int w242), (9, .int x10), (8, .int x6), (6, .long a6), (0, .ref (q 80)), (1, .int x), (2, .ref (q 94)), (3, .ref (q 95)), (4, .ref (q 96)), (5, .ref (q 97))] [.int w387, .int (nI jr114), .ref (q 80)] := by
                              intro w387 hj5
                              obtain ⟨b9, rfl⟩ := ex_b hj5
                              refine x_callV F (kX9_why Γ.1 S44 q br43.1 z H l n tx hB br43.2.1 (nI jr114) b9) okX9_why (qi80 br43.1) mw279 ⟨(Nat.le_of_ble_eq_true rfl), (Nat.le_of_ble_eq_true rfl)⟩ rfl rfl (Nat.le_of_ble_eq_true rfl) ⟨(by show c7 + 3 ≤ 200; omega), (by show m7 + 18 ≤ 1200; omega)⟩ dL_told_387 (fun E125 S126 h127 => ?_) (toI (fun r122 S123 h124 => ?_))
                              · rw [why_e (k := jr114) (by omega) h8] at h127
                                exact absurd (show (0 : Int32) = _ from h127.1.2) (by decide)
                              obtain ⟨-, er122, fr122, cr122⟩ := h124
                              rw [why_e (k := jr114) (by omega) h8] at er122
                              replace er122 : r122 = nI (zRf z) := er122
                              have br122 := Lw.cl br43 fr122 cr122
                              refine g_iload F 0 rfl dL_told_390 ?_
                              refine g_icmp_eq (t := 397) F dL_told_392 (by decide) (fun c128 => ?_) (fun c128 => ?_)
                              · refine g_aload_n (k := 0) F 5 rfl dL_told_397 ?_
                                refine g_iconst (v := 0) F (by decide) dL_told_398 ?_
                                refine x_callV F (kX9_count Γ.1 S123 q br122.1 z H l n tx hB br122.2.1 (nI 0)) okX9_count (qi80 br122.1) mw299 ⟨(Nat.le_of_ble_eq_true rfl), (Nat.le_of_ble_eq_true rfl)⟩ rfl rfl (Nat.le_of_ble_eq_true rfl) ⟨(by show (c7 + 3) + 3 ≤ 200; omega), (by show (m7 + 18) + 18 ≤ 1200; omega)⟩ dL_told_399 (fun E132 S133 h134 => ?_) (toJ (fun r129 S130 h131 => ?_))
                                · rw [cnt_e (i := 0) (by omega)] at h134
                                  exact absurd (show (0 : Int32) = _ from h134.1.2) (by decide)
                                obtain ⟨-, er129, fr129, cr129⟩ := h131
                                rw [cnt_e (i := 0) (by omega)] at er129
                                replace er129 : r129 = zCt z H.length (nI 0) := er129
                                have br129 := Lw.cl br122 fr129 cr129
                                refine g_aload F 9 rfl dL_told_402 ?_
                                refine g_iconst (v := 0) F (by decide) dL_told_404 ?_
                                refine g_ialde rfl (j := 0) F (qi96 br129.1) rfl (by rw [(qn96 br129.1)]; omega) (by rw [(qn96 br129.1)]; decide) dL_told_405 ?_
                                refine g_rei (nI (nc z)) br129.2.2.2.1.2.1 ?_
                                refine g_i2l F dL_told_406 ?_
                                refine g_lcmp F dL_told_407 ?_
                                refine g_if_ne (t := 528) F dL_told_408 (by decide) (fun c135 => ?_) (fun c135 => ?_)
                                · exact absurd (lc_eq.mpr (er129.trans (ct_0.trans (ct_n hB).symm))) c135
                                · rw [lc_eq] at c135
                                  refine g_aload_n (k := 0) F 5 rfl dL_told_411 ?_
                                  refine g_iconst (v := 1) F (by decide) dL_told_412 ?_
                                  refine x_callV F (kX9_count Γ.1 S130 q br129.1 z H l n tx hB br129.2.1 (nI 1)) okX9_count (qi80 br129.1) mw299 ⟨(Nat.le_of_ble_eq_true rfl), (Nat.le_of_ble_eq_true rfl)⟩ rfl rfl (Nat.le_of_ble_eq_true rfl) ⟨(by show ((c7 + 3) + 3) + 3 ≤ 200; omega), (by show ((m7 + 18) + 18) + 18 ≤ 1200; omega)⟩ dL_told_413 (fun E139 S140 h141 => ?_) (toJ (fun r136 S137 h138 => ?_))
                                  · rw [cnt_e (i := 1) (by omega)] at h141
                                    exact absurd (show (0 : Int32) = _ from h141.1.2) (by decide)
                                  obtain ⟨-, er136, fr136, cr136⟩ := h138
                                  rw [cnt_e (i := 1) (by omega)] at er136
                                  replace er136 : r136 = zCt z H.length (nI 1) := er136
                                  have br136 := Lw.cl br129 fr136 cr136
                                  refine g_aload F 9 rfl dL_told_416 ?_
                                  refine g_iconst (v := 1) F (by decide) dL_told_418 ?_
                                  refine g_ialde rfl (j := 1) F (qi96 br136.1) rfl (by rw [(qn96 br136.1)]; omega) (by rw [(qn96 br136.1)]; decide) dL_told_419 ?_
                                  refine g_rei (nI (nr z)) br136.2.2.2.2 ?_
                                  refine g_i2l F dL_told_420 ?_
                                  refine g_lcmp F dL_told_421 ?_
                                  refine g_if_ne (t := 528) F dL_told_422 (by decide) (fun c142 => ?_) (fun c142 => ?_)
                                  · exact absurd (lc_eq.mpr (er136.trans (ct_1.trans (ct_m hB).symm))) c142
                                  · rw [lc_eq] at c142
                                    refine g_aload_n (k := 0) F 5 rfl dL_told_425 ?_
                                    refine g_iconst (v := 2) F (by decide) dL_told_426 ?_
                                    refine x_callV F (kX9_count Γ.1 S137 q br136.1 z H l n tx hB br136.2.1 (nI 2)) okX9_count (qi80 br136.1) mw299 ⟨(Nat.le_of_ble_eq_true rfl), (Nat.le_of_ble_eq_true rfl)⟩ rfl rfl (Nat.le_of_ble_eq_true rfl) ⟨(by show (((c7 + 3) + 3) + 3) + 3 ≤ 200; omega), (by show (((m7 + 18) + 18) + 18) + 18 ≤ 1200; omega)⟩ dL_told_427 (fun E146 S147 h148 => ?_) (toJ (fun r143 S144 h145 => ?_))
                                    · rw [cnt_e (i := 2) (by omega)] at h148
                                      exact absurd (show (0 : Int32) = _ from h148.1.2) (by decide)
                                    obtain ⟨-, er143, fr143, cr143⟩ := h145
                                    rw [cnt_e (i := 2) (by omega)] at er143
                                    replace er143 : r143 = zCt z H.length (nI 2) := er143
                                    have br143 := Lw.cl br136 fr143 cr143
                                    refine g_aload_n (k := 2) F 7 rfl dL_told_430 ?_
                                    refine g_iconst (v := 5) F (by decide) dL_told_431 ?_
                                    refine g_ialde rfl (j := 5) F (qi94 br143.1) rfl (by rw [(qn94 br143.1)]; omega) (by rw [(qn94 br143.1)]; decide) dL_told_432 ?_
                                    refine g_i2l F dL_told_433 ?_
                                    refine g_lcmp F dL_told_434 ?_
                                    refine g_if_ne (t := 528) F dL_told_435 (by decide) (fun c149 => ?_) (fun c149 => ?_)
                                    · exact absurd (lc_eq.mpr (er143.trans (ct_2.trans br143.2.2.1.2.1.symm))) c149
                                    · rw [lc_eq] at c149
                                      refine g_aload_n (k := 0) F 5 rfl dL_told_438 ?_
                                      refine g_iconst (v := 3) F (by decide) dL_told_439 ?_
                                      refine x_callV F (kX9_count Γ.1 S144 q br143.1 z H l n tx hB br143.2.1 (nI 3)) okX9_count (qi80 br143.1) mw299 ⟨(Nat.le_of_ble_eq_true rfl), (Nat.le_of_ble_eq_true rfl)⟩ rfl rfl (Nat.le_of_ble_eq_true rfl) ⟨(by show ((((c7 + 3) + 3) + 3) + 3) + 3 ≤ 200; omega), (by show ((((m7 + 18) + 18) + 18) + 18) + 18 ≤ 1200; omega)⟩ dL_told_440 (fun E153 S154 h155 => ?_) (toJ (fun r150 S151 h152 => ?_))
                                      · rw [cnt_e (i := 3) (by omega)] at h155
                                        exact absurd (show (0 : Int32) = _ from h155.1.2) (by decide)
                                      obtain ⟨-, er150, fr150, cr150⟩ := h152
                                      rw [cnt_e (i := 3) (by omega)] at er150
                                      replace er150 : r150 = zCt z H.length (nI 3) := er150
                                      have br150 := Lw.cl br143 fr150 cr150
                                      refine g_aload_n (k := 2) F 7 rfl dL_told_443 ?_
                                      refine g_bipush (v := 6) F (by decide) dL_told_444 ?_
                                      refine g_ialde rfl (j := 6) F (qi94 br150.1) rfl (by rw [(qn94 br150.1)]; omega) (by rw [(qn94 br150.1)]; decide) dL_told_446 ?_
                                      refine g_i2l F dL_told_447 ?_
                                      refine g_lcmp F dL_told_448 ?_
                                      refine g_if_ne (t := 528) F dL_told_449 (by decide) (fun c156 => ?_) (fun c156 => ?_)
                                      · exact absurd (lc_eq.mpr (er150.trans (ct_3.trans br150.2.2.1.2.2.symm))) c156
                                      · rw [lc_eq] at c156
                                        refine g_aload_n (k := 0) F 5 rfl dL_told_452 ?_
                                        refine g_iconst (v := 5) F (by decide) dL_told_453 ?_
                                        refine x_callV F (kX9_count Γ.1 S151 q br150.1 z H l n tx hB br150.2.1 (nI 5)) okX9_count (qi80 br150.1) mw299 ⟨(Nat.le_of_ble_eq_true rfl), (Nat.le_of_ble_eq_true rfl)⟩ rfl rfl (Nat.le_of_ble_eq_true rfl) ⟨(by show (((((c7 + 3) + 3) + 3) + 3) + 3) + 3 ≤ 200; omega), (by show (((((m7 + 18) + 18) + 18) + 18) + 18) + 18 ≤ 1200; omega)⟩ dL_told_454 (fun E160 S161 h162 => ?_) (toJ (fun r157 S158 h159 => ?_))
                                        · rw [cnt_e (i := 5) (by omega)] at h162
                                          exact absurd (show (0 : Int32) = _ from h162.1.2) (by decide)
                                        obtain ⟨-, er157, fr157, cr157⟩ := h159
                                        rw [cnt_e (i := 5) (by omega)] at er157
                                        replace er157 : r157 = zCt z H.length (nI 5) := er157
                                        have br157 := Lw.cl br150 fr157 cr157
                                        refine g_aload_n (k := 3) F 8 rfl dL_told_457 ?_
                                        refine g_aload F 9 rfl dL_told_458 ?_
                                        refine g_callS F (kL_area2 Γ.1 S158 q br157.1 z hB br157.2.2.2.1) okL_area2 mw370 ⟨(Nat.le_of_ble_eq_true rfl), (Nat.le_of_ble_eq_true rfl)⟩ rfl rfl (Nat.le_of_ble_eq_true rfl) ⟨(by show ((((((c7 + 3) + 3) + 3) + 3) + 3) + 3) + 0 ≤ 200; omega), (by show ((((((m7 + 18) + 18) + 18) + 18) + 18) + 18) + 0 ≤ 1200; omega)⟩ dL_told_460 (toJ (fun r163 S164 h165 => ?_))
                                        obtain ⟨er163, rfl⟩ := h165
                                        refine g_lcmp F dL_told_463 ?_
                                        refine g_if_ne (t := 528) F dL_told_464 (by decide) (fun c166 => ?_) (fun c166 => ?_)
                                        · exact absurd (lc_eq.mpr (er157.trans (ct_5.trans er163.symm))) c166
                                        · rw [lc_eq] at c166
                                          refine g_aload_n (k := 0) F 5 rfl dL_told_467 ?_
                                          refine g_bipush (v := 6) F (by decide) dL_told_468 ?_
                                          refine x_callV F (kX9_count Γ.1 S158 q br157.1 z H l n tx hB br157.2.1 (nI 6)) okX9_count (qi80 br157.1) mw299 ⟨(Nat.le_of_ble_eq_true rfl), (Nat.le_of_ble_eq_true rfl)⟩ rfl rfl (Nat.le_of_ble_eq_true rfl) ⟨(by show ((((((c7 + 3) + 3) + 3) + 3) + 3) + 3) + 3 ≤ 200; omega), (by show ((((((m7 + 18) + 18) + 18) + 18) + 18) + 18) + 18 ≤ 1200; omega)⟩ dL_told_470 (fun E170 S171 h172 => ?_) (toJ (fun r167 S168 h169 => ?_))
                                          · rw [cnt_e (i := 6) (by omega)] at h172
                                            exact absurd (show (0 : Int32) = _ from h172.1.2) (by decide)
                                          obtain ⟨-, er167, fr167, cr167⟩ := h169
                                          rw [cnt_e (i := 6) (by omega)] at er167
                                          replace er167 : r167 = zCt z H.length (nI 6) := er167
                                          have br167 := Lw.cl br157 fr167 cr167
                                          refine g_aload_n (k := 3) F 8 rfl dL_told_473 ?_
                                          refine g_aload F 9 rfl dL_told_474 ?_
                                          refine g_callS F (kL_area2 Γ.1 S168 q br167.1 z hB br167.2.2.2.1) okL_area2 mw370 ⟨(Nat.le_of_ble_eq_true rfl), (Nat.le_of_ble_eq_true rfl)⟩ rfl rfl (Nat.le_of_ble_eq_true rfl) ⟨(by show (((((((c7 + 3) + 3) + 3) + 3) + 3) + 3) + 3) + 0 ≤ 200; omega), (by show (((((((m7 + 18) + 18) + 18) + 18) + 18) + 18) + 18) + 0 ≤ 1200; omega)⟩ dL_told_476 (toJ (fun r173 S174 h175 => ?_))
                                          obtain ⟨er173, rfl⟩ := h175
                                          refine g_ldc2 F mw103 dL_told_479 ?_
                                          refine g_ldiv F dL_told_482 (by decide) ?_
                                          refine g_lcmp F dL_told_483 ?_
                                          refine g_if_ne (t := 528) F dL_told_484 (by decide) (fun c176 => ?_) (fun c176 => ?_)
                                          · exact absurd (lc_eq.mpr (er167.trans (ct_6.trans (by rw [er173])))) c176
                                          · rw [lc_eq] at c176
                                            refine g_aload_n (k := 0) F 5 rfl dL_told_487 ?_
                                            refine g_bipush (v := 9) F (by decide) dL_told_488 ?_
                                            refine x_callV F (kX9_count Γ.1 S168 q br167.1 z H l n tx hB br167.2.1 (nI 9)) okX9_count (qi80 br167.1) mw299 ⟨(Nat.le_of_ble_eq_true rfl), (Nat.le_of_ble_eq_true rfl)⟩ rfl rfl (Nat.le_of_ble_eq_true rfl) ⟨(by show (((((((c7 + 3) + 3) + 3) + 3) + 3) + 3) + 3) + 3 ≤ 200; omega), (by show (((((((m7 + 18) + 18) + 18) + 18) + 18) + 18) + 18) + 18 ≤ 1200; omega)⟩ dL_told_490 (fun E180 S181 h182 => ?_) (toJ (fun r177 S178 h179 => ?_))
                                            · rw [cnt_e (i := 9) (by omega)] at h182
                                              exact absurd (show (0 : Int32) = _ from h182.1.2) (by decide)
                                            obtain ⟨-, er177, fr177, cr177⟩ := h179
                                            rw [cnt_e (i := 9) (by omega)] at er177
                                            replace er177 : r177 = zCt z H.length (nI 9) := er177
                                            have br177 := Lw.cl br167 fr177 cr177
                                            refine g_aload_n (k := 2) F 7 rfl dL_told_493 ?_
                                            refine g_aload_n (k := 3) F 8 rfl dL_told_494 ?_
                                            refine g_aload F 9 rfl dL_told_495 ?_
                                            refine g_callS F (kL_on Γ.1 S178 q br177.1 z hB br177.2.2.1 br177.2.2.2.1) okL_on mw273 ⟨(Nat.le_of_ble_eq_true rfl), (Nat.le_of_ble_eq_true rfl)⟩ rfl rfl (Nat.le_of_ble_eq_true rfl) ⟨(by show ((((((((c7 + 3) + 3) + 3) + 3) + 3) + 3) + 3) + 3) + 0 ≤ 200; omega), (by show ((((((((m7 + 18) + 18) + 18) + 18) + 18) + 18) + 18) + 18) + 0 ≤ 1200; omega)⟩ dL_told_497 (toI (fun r183 S184 h185 => ?_))
                                            obtain ⟨er183, rfl⟩ := h185
                                            have jn187 : ∀ (w508 : Int64), w508 = ifP (zOO z) 1 0 → G Γ S178 ((((((((c7 + 3) + 3) + 3) + 3) + 3) + 3) + 3) + 3) ((((((((m7 + 18) + 18) + 18) + 18) + 18) + 18) + 18) + 18) 508 [(11, .int (nI (zRf z))), (10, .int w242), (9, .int x10), (8, .int x6), (6, .long a6), (0, .ref (q 80)), (1, .int x), (2, .ref (q 94)), (3, .ref (q 95)), (4, .ref (q 96)), (5, .ref (q 97))] [.long w508, .long r177] := by
                                              intro w508 hj9
                                              refine g_lcmp F dL_told_508 ?_
                                              refine g_if_ne (t := 528) F dL_told_509 (by decide) (fun c188 => ?_) (fun c188 => ?_)
                                              · exact absurd (lc_eq.mpr (er177.trans (ct_9.trans hj9.symm))) c188
                                              · rw [lc_eq] at c188
                                                refine g_aload_n (k := 0) F 5 rfl dL_told_512 ?_
                                                refine g_bipush (v := 13) F (by decide) dL_told_513 ?_
                                                refine x_callV F (kX9_count Γ.1 S178 q br177.1 z H l n tx hB br177.2.1 (nI 13)) okX9_count (qi80 br177.1) mw299 ⟨(Nat.le_of_ble_eq_true rfl), (Nat.le_of_ble_eq_true rfl)⟩ rfl rfl (Nat.le_of_ble_eq_true rfl) ⟨(by show ((((((((c7 + 3) + 3) + 3) + 3) + 3) + 3) + 3) + 3) + 3 ≤ 200; omega), (by show ((((((((m7 + 18) + 18) + 18) + 18) + 18) + 18) + 18) + 18) + 18 ≤ 1200; omega)⟩ dL_told_515 (fun E192 S193 h194 => ?_) (toJ (fun r189 S190 h191 => ?_))
                                                · rw [cnt_e (i := 13) (by omega)] at h194
                                                  exact absurd (show (0 : Int32) = _ from h194.1.2) (by decide)
                                                obtain ⟨-, er189, fr189, cr189⟩ := h191
                                                rw [cnt_e (i := 13) (by omega)] at er189
                                                replace er189 : r189 = zCt z H.length (nI 13) := er189
                                                have br189 := Lw.cl br177 fr189 cr189
                                                refine g_lload F 4 rfl dL_told_518 ?_
                                                refine g_lcmp F dL_told_520 ?_
                                                refine g_if_ne (t := 528) F dL_told_521 (by decide) (fun c195 => ?_) (fun c195 => ?_)
                                                · exact absurd (lc_eq.mpr (er189.trans (ct_13.trans (by rw [hall, hkz]; rfl)))) c195
                                                · rw [lc_eq] at c195
                                                  refine g_iconst (v := 1) F (by decide) dL_told_524 ?_
                                                  refine g_goto (t := 529) F dL_told_525 (by decide) ?_
                                                  refine x_zret F T rfl ⟨_, rfl, ?_⟩ (by show (((((((((c7 + 3) + 3) + 3) + 3) + 3) + 3) + 3) + 3) + 3) ≤ 200; omega) (by show (((((((((m7 + 18) + 18) + 18) + 18) + 18) + 18) + 18) + 18) + 18) ≤ 1200; omega) dL_told_529
                                                  exact ⟨rfl, br189⟩
                                            refine g_if_eq (t := 507) F dL_told_500 (by decide) (fun c186 => ?_) (fun c186 => ?_)
                                            · have g9 := w0 er183 c186
                                              refine g_lconst (v := 0) F (by decide) dL_told_507 ?_
                                              exact jn187 (0) (ifP_f g9).symm
                                            · have g9 := w1 er183 c186
                                              refine g_lconst (v := 1) F (by decide) dL_told_503 ?_
                                              refine g_goto (t := 508) F dL_told_504 (by decide) ?_
                                              exact jn187 (1) (ifP_t g9).symm
                              · exact absurd er122 c128
                            refine g_if_ne (t := 386) F dL_told_379 (by decide) (fun c120 => ?_) (fun c120 => ?_)
                            · refine g_iconst (v := 0) F (by decide) dL_told_386 ?_
                              exact jn121 (0) (.inr rfl)
                            · refine g_iconst (v := 1) F (by decide) dL_told_382 ?_
                              refine g_goto (t := 387) F dL_told_383 (by decide) ?_
                              exact jn121 (1) (.inl rfl)
                        · have hj3 : j4 < 5 := by
                            rw [show (5 : Int32) = nI 5 from rfl, nI_leI (by omega) (by omega)] at c42
                            omega
                          refine g_aload_n (k := 0) F 5 rfl dL_told_324 ?_
                          refine g_iload F 0 rfl dL_told_325 ?_
                          refine x_callV F (kX9_setting Γ.1 S4 q hL4.1 z H l n tx hB hL4.2.1 (nI j4)) okX9_setting (qi80 hL4.1) mw263 ⟨(Nat.le_of_ble_eq_true rfl), (Nat.le_of_ble_eq_true rfl)⟩ rfl rfl (Nat.le_of_ble_eq_true rfl) ⟨(by show c7 + 3 ≤ 200; omega), (by show m7 + 18 ≤ 1200; omega)⟩ dL_told_327 (fun E199 S200 h201 => ?_) (toI (fun r196 S197 h198 => ?_))
                          · rw [stg_e (k := j4) (by omega)] at h201
                            exact absurd (show (0 : Int32) = _ from h201.1.2) (by decide)
                          obtain ⟨-, er196, fr196, cr196⟩ := h198
                          rw [stg_e (k := j4) (by omega)] at er196
                          replace er196 : r196 = (z (2 + j4)).toInt32 := er196
                          have br196 := Lw.cl hL4 fr196 cr196
                          refine g_aload_n (k := 2) F 7 rfl dL_told_330 ?_
                          refine g_iload F 0 rfl dL_told_331 ?_
                          refine g_ialde rfl (j := j4) F (qi94 br196.1) rfl (by rw [(qn94 br196.1)]; omega) (by rw [(qn94 br196.1)]; decide) dL_told_333 ?_
                          refine g_icmp_eq (t := 339) F dL_told_334 (by decide) (fun c202 => ?_) (fun c202 => ?_)
                          · obtain ⟨x203, ex203⟩ : ∃ y9 : Int32, y9 = (nI j4) + 1 := ⟨_, rfl⟩
                            refine g_iinc (k := 0) (v := x203) (L' := [(11, .int x203), (10, .int w242), (9, .int x10), (8, .int x6), (6, .long a6), (0, .ref (q 80)), (1, .int x), (2, .ref (q 94)), (3, .ref (q 95)), (4, .ref (q 96)), (5, .ref (q 97))]) F dL_told_339 rfl (by rw [ex203]; rfl) (Nat.le_of_ble_eq_true rfl) rfl ?_
                            refine g_goto (t := 318) F dL_told_342 (by decide) ?_
                            obtain rfl : x203 = nI (j4 + 1) := (ex203.trans (nI_1 _))
                            refine g_sub (L' := [(11, .int (nI (j4 + 1))), (10, .int w242), (9, .int x10), (8, .int x6), (6, .long a6), (0, .ref (q 80)), (1, .int x), (2, .ref (q 94)), (3, .ref (q 95)), (4, .ref (q 96)), (5, .ref (q 97))]) [0, 1, 2, 3, 4, 5, 6, 7, 8, 9, 10] rfl ?_
                            exact ihlp41 (j4 + 1) (S197) ((c7 + 3)) ((m7 + 18)) (by omega) (by omega) br196 (by omega) (by omega)
                          · exact absurd (er196.trans (stg_v br196.2.2.1 hj3)) c202
                    exact lp41 6 0 S33 (((c9 + 3) + 3) + 3) (((m9 + 18) + 18) + 18) (by omega) (by omega) br32 (by omega) (by omega)
                  · exact absurd (lc_eq.mpr (er32.trans hj8.symm)) c40
                refine g_if_eq (t := 308) F dL_told_298 (by decide) (fun c38 => ?_) (fun c38 => ?_)
                · have g8 := w0 hj6 c38
                  refine g_lconst (v := 0) F (by decide) dL_told_308 ?_
                  exact jn39 (0) (el_f g8)
                · have g8 := w1 hj6 c38
                  refine g_aload F 9 rfl dL_told_301 ?_
                  refine g_iconst (v := 1) F (by decide) dL_told_303 ?_
                  refine g_lalde rfl (j := 1) F (qi97 br32.1) rfl (by rw [(qn97 br32.1)]; omega) (by rw [(qn97 br32.1)]; decide) dL_told_304 ?_
                  refine g_goto (t := 309) F dL_told_305 (by decide) ?_
                  exact jn39 (((pJ S33 (q 97)) 1)) (el_2t pr32 g8)
            refine g_if_eq (t := 282) F dL_told_272 (by decide) (fun c29 => ?_) (fun c29 => ?_)
            · have g7 := w0 hj6 c29
              refine g_lconst (v := 0) F (by decide) dL_told_282 ?_
              exact jn30 (0) (el_f g7)
            · have g7 := w1 hj6 c29
              refine g_aload F 9 rfl dL_told_275 ?_
              refine g_iconst (v := 0) F (by decide) dL_told_277 ?_
              refine g_lalde rfl (j := 0) F (qi97 br23.1) rfl (by rw [(qn97 br23.1)]; omega) (by rw [(qn97 br23.1)]; decide) dL_told_278 ?_
              refine g_goto (t := 283) F dL_told_279 (by decide) ?_
              exact jn30 (((pJ S24 (q 97)) 0)) (el_1t pr23 g7)
        refine g_if_ne (t := 241) F dL_told_234 (by decide) (fun c14 => ?_) (fun c14 => ?_)
        · rw [lc_eq] at c14
          have g6 := Po.i0 pr11 c14
          refine g_iconst (v := 0) F (by decide) dL_told_241 ?_
          exact jn15 (0) (.inr ⟨rfl, g6⟩)
        · rw [lc_eq] at c14
          have g6 := Po.i1 pr11 c14
          refine g_iconst (v := 1) F (by decide) dL_told_237 ?_
          refine g_goto (t := 242) F dL_told_238 (by decide) ?_
          exact jn15 (1) (.inl ⟨rfl, g6⟩)
      · have hi9 : k < nc z := by
          rw [nI_leI (by omega) (by omega)] at c2
          omega
        have hzn := zN_b hB (show 0 < nc z by omega) k
        refine g_lconst (v := 0) F (by decide) dL_told_15 ?_
        refine g_lstore (L' := [(9, .long 0), (8, .int (nI k)), (6, .long a6), (0, .ref (q 80)), (1, .int x), (2, .ref (q 94)), (3, .ref (q 95)), (4, .ref (q 96)), (5, .ref (q 97))]) F dL_told_16 (Nat.le_of_ble_eq_true rfl) rfl ?_
        refine g_iload F 1 rfl dL_told_18 ?_
        refine g_aload_n (k := 2) F 5 rfl dL_told_20 ?_
        refine g_aload_n (k := 3) F 6 rfl dL_told_21 ?_
        refine g_aload F 7 rfl dL_told_22 ?_
        refine g_aload F 8 rfl dL_told_24 ?_
        refine g_callS F (kL_reached Γ.1 S1 q hL1.1 z hB hL1.2.2.1 hL1.2.2.2.1 k hi9) okL_reached mw104 ⟨(Nat.le_of_ble_eq_true rfl), (Nat.le_of_ble_eq_true rfl)⟩ rfl rfl (Nat.le_of_ble_eq_true rfl) ⟨(by show c9 + 0 ≤ 200; omega), (by show m9 + 0 ≤ 1200; omega)⟩ dL_told_26 (toI (fun r204 S205 h206 => ?_))
        obtain ⟨er204, fr204⟩ := h206
        have br204 := Lw.f97 hL1 fr204
        refine g_istore (L' := [(11, .int r204), (9, .long 0), (8, .int (nI k)), (6, .long a6), (0, .ref (q 80)), (1, .int x), (2, .ref (q 94)), (3, .ref (q 95)), (4, .ref (q 96)), (5, .ref (q 97))]) F dL_told_29 (Nat.le_of_ble_eq_true rfl) rfl ?_
        refine g_iload F 2 rfl dL_told_31 ?_
        refine g_aload_n (k := 2) F 6 rfl dL_told_33 ?_
        refine g_aload_n (k := 3) F 7 rfl dL_told_34 ?_
        refine g_aload F 8 rfl dL_told_35 ?_
        refine g_callS F (kL_steps Γ.1 S205 q br204.1 z hB br204.2.2.1 br204.2.2.2.1 k hi9) okL_steps mw107 ⟨(Nat.le_of_ble_eq_true rfl), (Nat.le_of_ble_eq_true rfl)⟩ rfl rfl (Nat.le_of_ble_eq_true rfl) ⟨(by show c9 + 0 ≤ 200; omega), (by show m9 + 0 ≤ 1200; omega)⟩ dL_told_37 (toI (fun r207 S208 h209 => ?_))
        obtain ⟨rfl, rfl⟩ := h209
        refine g_istore (L' := [(12, .int (nI (zN z k))), (11, .int r204), (9, .long 0), (8, .int (nI k)), (6, .long a6), (0, .ref (q 80)), (1, .int x), (2, .ref (q 94)), (3, .ref (q 95)), (4, .ref (q 96)), (5, .ref (q 97))]) F dL_told_40 (Nat.le_of_ble_eq_true rfl) rfl ?_
        refine g_iconst (v := 0) F (by decide) dL_told_42 ?_
        refine g_istore (L' := [(13, .int 0), (12, .int (nI (zN z k))), (11, .int r204), (9, .long 0), (8, .int (nI k)), (6, .long a6), (0, .ref (q 80)), (1, .int x), (2, .ref (q 94)), (3, .ref (q 95)), (4, .ref (q 96)), (5, .ref (q 97))]) F dL_told_43 (Nat.le_of_ble_eq_true rfl) rfl ?_
        have lp210 : ∀ (n9 : Nat) (j : Nat) (a : Int64) (S2 : PS), zN z k < j + n9 → (j ≤ zN z k) → (a = sumF (fun i => zSi z k i (i + 1)) j) → (0 < j → zRk z k) → (Lw S2 q (z, H, l, n, tx)) → G Γ S2 c9 m9 45 [(13, .int (nI j)), (12, .int (nI (zN z k))), (11, .int r204), (9, .long a), (8, .int (nI k)), (6, .long a6), (0, .ref (q 80)), (1, .int x), (2, .ref (q 94)), (3, .ref (q 95)), (4, .ref (q 96)), (5, .ref (q 97))] [] := by
          intro n9
          induction n9 with
          | zero =>
            intro j a S2 hm9 hj9 ha hz hL2
            exact absurd hm9 (by omega)
          | succ n9 ihlp210 =>
            intro j a S2 hm9 hj9 ha hz hL2
            refine g_iload F 0 rfl dL_told_45 ?_
            refine g_iload F 1 rfl dL_told_47 ?_
            have jn212 : a = ifP (zRk z k) (zRoll z k) 0 → G Γ S2 c9 m9 85 [(13, .int (nI j)), (12, .int (nI (zN z k))), (11, .int r204), (9, .long a), (8, .int (nI k)), (6, .long a6), (0, .ref (q 80)), (1, .int x), (2, .ref (q 94)), (3, .ref (q 95)), (4, .ref (q 96)), (5, .ref (q 97))] [] := by
              intro  ha4
              refine g_iconst (v := 0) F (by decide) dL_told_85 ?_
              refine g_istore (L' := [(13, .int 0), (12, .int (nI (zN z k))), (11, .int r204), (9, .long a), (8, .int (nI k)), (6, .long a6), (0, .ref (q 80)), (1, .int x), (2, .ref (q 94)), (3, .ref (q 95)), (4, .ref (q 96)), (5, .ref (q 97))]) F dL_told_86 (Nat.le_of_ble_eq_true rfl) rfl ?_
              have lp213 : ∀ (n9 : Nat) (j2 : Nat) (S3 : PS) (c8 : Nat) (m8 : Nat), 3 < j2 + n9 → (j2 ≤ 3) → (Lw S3 q (z, H, l, n, tx)) → (c8 ≤ c9 + 3 * j2) → (m8 ≤ m9 + 18 * j2) → G Γ S3 c8 m8 88 [(13, .int (nI j2)), (12, .int (nI (zN z k))), (11, .int r204), (9, .long a), (8, .int (nI k)), (6, .long a6), (0, .ref (q 80)), (1, .int x), (2, .ref (q 94)), (3, .ref (q 95)), (4, .ref (q 96)), (5, .ref (q 97))] [] := by
                intro n9
                induction n9 with
                | zero =>
                  intro j2 S3 c8 m8 hm9 hj2 hL3 hc8 hm8b
                  exact absurd hm9 (by omega)
                | succ n9 ihlp213 =>
                  intro j2 S3 c8 m8 hm9 hj2 hL3 hc8 hm8b
                  refine g_iload F 0 rfl dL_told_88 ?_
                  refine g_iconst (v := 3) F (by decide) dL_told_90 ?_
                  refine g_icmp_ge (t := 124) F dL_told_91 (by decide) (fun c214 => ?_) (fun c214 => ?_)
                  · have hj3 : j2 = 3 := by
                      rw [show (3 : Int32) = nI 3 from rfl, nI_leI (by omega) (by omega)] at c214
                      omega
                    refine g_aload_n (k := 0) F 6 rfl dL_told_124 ?_
                    refine g_iload F 4 rfl dL_told_125 ?_
                    refine g_iconst (v := 3) F (by decide) dL_told_127 ?_
                    refine x_callV F (kX9_corner Γ.1 S3 q hL3.1 z H l n tx hB hL3.2.1 (nI k) (nI 3)) okX9_corner (qi80 hL3.1) mw130 ⟨(Nat.le_of_ble_eq_true rfl), (Nat.le_of_ble_eq_true rfl)⟩ rfl rfl (Nat.le_of_ble_eq_true rfl) ⟨(by show c8 + 3 ≤ 200; omega), (by show m8 + 18 ≤ 1200; omega)⟩ dL_told_128 (fun E218 S219 h220 => ?_) (toJ (fun r215 S216 h217 => ?_))
                    · rw [cor_e (k := k) (i := 3) (by omega) h8 (by omega)] at h220
                      rcases h220.1 with h | h <;> exact absurd (show (0 : Int32) = _ from h.2) (by decide)
                    obtain ⟨-, er215, fr215, cr215⟩ := h217
                    rw [cor_e (k := k) (i := 3) (by omega) h8 (by omega)] at er215
                    replace er215 : r215 = zCn z k (nI 3) := er215
                    have br215 := Lw.cl hL3 fr215 cr215
                    refine g_iload F 1 rfl dL_told_131 ?_
                    refine g_i2l F dL_told_133 ?_
                    refine g_lcmp F dL_told_134 ?_
                    refine g_if_ne (t := 173) F dL_told_135 (by decide) (fun c221 => ?_) (fun c221 => ?_)
                    · exact absurd (lc_eq.mpr (er215.trans (cn_3.trans (nI_L (by omega)).symm))) c221
                    · rw [lc_eq] at c221
                      refine g_aload_n (k := 0) F 6 rfl dL_told_138 ?_
                      refine g_iload F 4 rfl dL_told_139 ?_
                      refine g_iconst (v := 4) F (by decide) dL_told_141 ?_
                      refine x_callV F (kX9_corner Γ.1 S216 q br215.1 z H l n tx hB br215.2.1 (nI k) (nI 4)) okX9_corner (qi80 br215.1) mw130 ⟨(Nat.le_of_ble_eq_true rfl), (Nat.le_of_ble_eq_true rfl)⟩ rfl rfl (Nat.le_of_ble_eq_true rfl) ⟨(by show (c8 + 3) + 3 ≤ 200; omega), (by show (m8 + 18) + 18 ≤ 1200; omega)⟩ dL_told_142 (fun E225 S226 h227 => ?_) (toJ (fun r222 S223 h224 => ?_))
                      · rw [cor_e (k := k) (i := 4) (by omega) h8 (by omega)] at h227
                        rcases h227.1 with h | h <;> exact absurd (show (0 : Int32) = _ from h.2) (by decide)
                      obtain ⟨-, er222, fr222, cr222⟩ := h224
                      rw [cor_e (k := k) (i := 4) (by omega) h8 (by omega)] at er222
                      replace er222 : r222 = zCn z k (nI 4) := er222
                      have br222 := Lw.cl br215 fr222 cr222
                      refine g_lload F 3 rfl dL_told_145 ?_
                      refine g_lcmp F dL_told_147 ?_
                      refine g_if_ne (t := 173) F dL_told_148 (by decide) (fun c228 => ?_) (fun c228 => ?_)
                      · exact absurd (lc_eq.mpr (er222.trans (cn_4.trans ha4.symm))) c228
                      · rw [lc_eq] at c228
                        refine g_aload_n (k := 0) F 6 rfl dL_told_151 ?_
                        refine g_iload F 4 rfl dL_told_152 ?_
                        refine g_iconst (v := 5) F (by decide) dL_told_154 ?_
                        refine x_callV F (kX9_corner Γ.1 S223 q br222.1 z H l n tx hB br222.2.1 (nI k) (nI 5)) okX9_corner (qi80 br222.1) mw130 ⟨(Nat.le_of_ble_eq_true rfl), (Nat.le_of_ble_eq_true rfl)⟩ rfl rfl (Nat.le_of_ble_eq_true rfl) ⟨(by show ((c8 + 3) + 3) + 3 ≤ 200; omega), (by show ((m8 + 18) + 18) + 18 ≤ 1200; omega)⟩ dL_told_155 (fun E232 S233 h234 => ?_) (toJ (fun r229 S230 h231 => ?_))
                        · rw [cor_e (k := k) (i := 5) (by omega) h8 (by omega)] at h234
                          rcases h234.1 with h | h <;> exact absurd (show (0 : Int32) = _ from h.2) (by decide)
                        obtain ⟨-, er229, fr229, cr229⟩ := h231
                        rw [cor_e (k := k) (i := 5) (by omega) h8 (by omega)] at er229
                        replace er229 : r229 = zCn z k (nI 5) := er229
                        have br229 := Lw.cl br222 fr229 cr229
                        refine g_iload F 2 rfl dL_told_158 ?_
                        have jn236 : ∀ (w168 : Int32), w168.toInt64 = ifP (zRk z k) 1 0 → G Γ S230 (((c8 + 3) + 3) + 3) (((m8 + 18) + 18) + 18) 168 [(13, .int (nI j2)), (12, .int (nI (zN z k))), (11, .int r204), (9, .long a), (8, .int (nI k)), (6, .long a6), (0, .ref (q 80)), (1, .int x), (2, .ref (q 94)), (3, .ref (q 95)), (4, .ref (q 96)), (5, .ref (q 97))] [.int w168, .long r229] := by
                          intro w168 hj5
                          refine g_i2l F dL_told_168 ?_
                          refine g_lcmp F dL_told_169 ?_
                          refine g_if_eq (t := 175) F dL_told_170 (by decide) (fun c237 => ?_) (fun c237 => ?_)
                          · rw [lc_eq] at c237
                            refine g_lload F 5 rfl dL_told_175 ?_
                            refine g_iload F 1 rfl dL_told_177 ?_
                            refine g_i2l F dL_told_179 ?_
                            refine g_ladd F dL_told_180 ?_
                            refine g_topl (fun x238 ex238 => ?_)
                            refine g_lstore (L' := [(6, .long x238), (13, .int (nI j2)), (12, .int (nI (zN z k))), (11, .int r204), (9, .long a), (8, .int (nI k)), (0, .ref (q 80)), (1, .int x), (2, .ref (q 94)), (3, .ref (q 95)), (4, .ref (q 96)), (5, .ref (q 97))]) F dL_told_181 (Nat.le_of_ble_eq_true rfl) rfl ?_
                            obtain ⟨x239, ex239⟩ : ∃ y9 : Int32, y9 = (nI k) + 1 := ⟨_, rfl⟩
                            refine g_iinc (k := 5) (v := x239) (L' := [(8, .int x239), (6, .long x238), (13, .int (nI j2)), (12, .int (nI (zN z k))), (11, .int r204), (9, .long a), (0, .ref (q 80)), (1, .int x), (2, .ref (q 94)), (3, .ref (q 95)), (4, .ref (q 96)), (5, .ref (q 97))]) F dL_told_183 rfl (by rw [ex239]; rfl) (Nat.le_of_ble_eq_true rfl) rfl ?_
                            refine g_goto (t := 6) F dL_told_186 (by decide) ?_
                            obtain rfl : x239 = nI (k + 1) := (ex239.trans (nI_1 _))
                            refine g_sub (L' := [(8, .int (nI (k + 1))), (6, .long x238), (0, .ref (q 80)), (1, .int x), (2, .ref (q 94)), (3, .ref (q 95)), (4, .ref (q 96)), (5, .ref (q 97))]) [0, 1, 6, 7, 8, 9, 10, 11] rfl ?_
                            exact ihlp1 (k + 1) (x238) (S230) ((((c8 + 3) + 3) + 3)) ((((m8 + 18) + 18) + 18)) (by omega) (by omega) (by rw [ex238, hall, nI_L (by omega)]; rfl) br229 (by omega) (by omega)
                          · exact absurd (lc_eq.mpr (er229.trans (cn_5.trans hj5.symm))) c237
                        refine g_if_eq (t := 167) F dL_told_160 (by decide) (fun c235 => ?_) (fun c235 => ?_)
                        · have g5 := w0 er204 c235
                          refine g_iconst (v := 0) F (by decide) dL_told_167 ?_
                          exact jn236 (0) (by rw [ifP_f g5]; rfl)
                        · have g5 := w1 er204 c235
                          refine g_iconst (v := 1) F (by decide) dL_told_163 ?_
                          refine g_goto (t := 168) F dL_told_164 (by decide) ?_
                          exact jn236 (1) (by rw [ifP_t g5]; rfl)
                  · have hj3 : j2 < 3 := by
                      rw [show (3 : Int32) = nI 3 from rfl, nI_leI (by omega) (by omega)] at c214
                      omega
                    refine g_aload_n (k := 0) F 6 rfl dL_told_94 ?_
                    refine g_iload F 4 rfl dL_told_95 ?_
                    refine g_iload F 0 rfl dL_told_97 ?_
                    refine x_callV F (kX9_corner Γ.1 S3 q hL3.1 z H l n tx hB hL3.2.1 (nI k) (nI j2)) okX9_corner (qi80 hL3.1) mw130 ⟨(Nat.le_of_ble_eq_true rfl), (Nat.le_of_ble_eq_true rfl)⟩ rfl rfl (Nat.le_of_ble_eq_true rfl) ⟨(by show c8 + 3 ≤ 200; omega), (by show m8 + 18 ≤ 1200; omega)⟩ dL_told_99 (fun E243 S244 h245 => ?_) (toJ (fun r240 S241 h242 => ?_))
                    · rw [cor_e (k := k) (i := j2) (by omega) h8 (by omega)] at h245
                      rcases h245.1 with h | h <;> exact absurd (show (0 : Int32) = _ from h.2) (by decide)
                    obtain ⟨-, er240, fr240, cr240⟩ := h242
                    rw [cor_e (k := k) (i := j2) (by omega) h8 (by omega)] at er240
                    replace er240 : r240 = zCn z k (nI j2) := er240
                    have br240 := Lw.cl hL3 fr240 cr240
                    refine g_aload_n (k := 3) F 9 rfl dL_told_102 ?_
                    refine g_iconst (v := 3) F (by decide) dL_told_103 ?_
                    refine g_iload F 4 rfl dL_told_104 ?_
                    refine g_imul F dL_told_106 ?_
                    refine g_rei (nI (3 * k)) (nmul rfl rfl) ?_
                    refine g_iload F 0 rfl dL_told_107 ?_
                    refine g_iadd F dL_told_109 ?_
                    refine g_rei (nI ((3 * k) + j2)) (nadd rfl rfl) ?_
                    refine g_ialde rfl (j := ((3 * k) + j2)) F (qi95 br240.1) rfl (by rw [(qn95 br240.1)]; omega) (by rw [(qn95 br240.1)]; decide) dL_told_110 ?_
                    refine g_i2l F dL_told_111 ?_
                    refine g_lcmp F dL_told_112 ?_
                    refine g_if_eq (t := 118) F dL_told_113 (by decide) (fun c246 => ?_) (fun c246 => ?_)
                    · rw [lc_eq] at c246
                      obtain ⟨x247, ex247⟩ : ∃ y9 : Int32, y9 = (nI j2) + 1 := ⟨_, rfl⟩
                      refine g_iinc (k := 0) (v := x247) (L' := [(13, .int x247), (12, .int (nI (zN z k))), (11, .int r204), (9, .long a), (8, .int (nI k)), (6, .long a6), (0, .ref (q 80)), (1, .int x), (2, .ref (q 94)), (3, .ref (q 95)), (4, .ref (q 96)), (5, .ref (q 97))]) F dL_told_118 rfl (by rw [ex247]; rfl) (Nat.le_of_ble_eq_true rfl) rfl ?_
                      refine g_goto (t := 88) F dL_told_121 (by decide) ?_
                      obtain rfl : x247 = nI (j2 + 1) := (ex247.trans (nI_1 _))
                      refine g_sub (L' := [(13, .int (nI (j2 + 1))), (12, .int (nI (zN z k))), (11, .int r204), (9, .long a), (8, .int (nI k)), (6, .long a6), (0, .ref (q 80)), (1, .int x), (2, .ref (q 94)), (3, .ref (q 95)), (4, .ref (q 96)), (5, .ref (q 97))]) [0, 1, 2, 3, 4, 5, 6, 7, 8, 9, 10, 11] rfl ?_
                      exact ihlp213 (j2 + 1) (S241) ((c8 + 3)) ((m8 + 18)) (by omega) (by omega) br240 (by omega) (by omega)
                    · exact absurd (lc_eq.mpr (er240.trans (cor_v br240.2.2.2.1 hi9 hj3))) c246
              exact lp213 4 0 S2 c9 m9 (by omega) (by omega) hL2 (by omega) (by omega)
            refine g_icmp_ge (t := 85) F dL_told_49 (by decide) (fun c211 => ?_) (fun c211 => ?_)
            · have hjz : j = zN z k := by
                rw [nI_leI (by omega) (by omega)] at c211
                omega
              exact jn212  (by rw [ifP_t (hz (by omega)), ha, hjz]; rfl)
            · have hjl : j < zN z k := by
                rw [nI_leI (by omega) (by omega)] at c211
                omega
              refine g_iload F 2 rfl dL_told_52 ?_
              refine g_if_eq (t := 85) F dL_told_54 (by decide) (fun c248 => ?_) (fun c248 => ?_)
              · have hRk0 := w0 er204 c248
                exact jn212  (by rw [ifP_f hRk0, ha, show j = 0 from Nat.eq_zero_of_not_pos (fun h => hRk0 (hz h))]; rfl)
              · have hRk := w1 er204 c248
                refine g_lload F 3 rfl dL_told_57 ?_
                refine g_iload F 4 rfl dL_told_59 ?_
                refine g_iload F 0 rfl dL_told_61 ?_
                refine g_iload F 0 rfl dL_told_63 ?_
                refine g_iconst (v := 1) F (by decide) dL_told_65 ?_
                refine g_iadd F dL_told_66 ?_
                refine g_rei (nI (j + 1)) (nadd rfl rfl) ?_
                refine g_aload_n (k := 2) F 8 rfl dL_told_67 ?_
                refine g_aload_n (k := 3) F 9 rfl dL_told_68 ?_
                refine g_aload F 10 rfl dL_told_69 ?_
                refine g_aload F 11 rfl dL_told_71 ?_
                refine g_callS F (kL_swept Γ.1 S2 q hL2.1 z hB hL2.2.2.1 hL2.2.2.2.1 k hi9 j ((j + 1)) (by omega) (by omega) hRk) okL_swept mw124 ⟨(Nat.le_of_ble_eq_true rfl), (Nat.le_of_ble_eq_true rfl)⟩ rfl rfl (Nat.le_of_ble_eq_true rfl) ⟨(by show c9 + 0 ≤ 200; omega), (by show m9 + 0 ≤ 1200; omega)⟩ dL_told_73 (toJ (fun r249 S250 h251 => ?_))
                obtain ⟨er249, fr249⟩ := h251
                have br249 := Lw.f97 hL2 fr249
                refine g_ladd F dL_told_76 ?_
                refine g_topl (fun x252 ex252 => ?_)
                refine g_lstore (L' := [(9, .long x252), (13, .int (nI j)), (12, .int (nI (zN z k))), (11, .int r204), (8, .int (nI k)), (6, .long a6), (0, .ref (q 80)), (1, .int x), (2, .ref (q 94)), (3, .ref (q 95)), (4, .ref (q 96)), (5, .ref (q 97))]) F dL_told_77 (Nat.le_of_ble_eq_true rfl) rfl ?_
                obtain ⟨x253, ex253⟩ : ∃ y9 : Int32, y9 = (nI j) + 1 := ⟨_, rfl⟩
                refine g_iinc (k := 1) (v := x253) (L' := [(13, .int x253), (9, .long x252), (12, .int (nI (zN z k))), (11, .int r204), (8, .int (nI k)), (6, .long a6), (0, .ref (q 80)), (1, .int x), (2, .ref (q 94)), (3, .ref (q 95)), (4, .ref (q 96)), (5, .ref (q 97))]) F dL_told_79 rfl (by rw [ex253]; rfl) (Nat.le_of_ble_eq_true rfl) rfl ?_
                refine g_goto (t := 45) F dL_told_82 (by decide) ?_
                obtain rfl : x253 = nI (j + 1) := (ex253.trans (nI_1 _))
                refine g_sub (L' := [(13, .int (nI (j + 1))), (12, .int (nI (zN z k))), (11, .int r204), (9, .long x252), (8, .int (nI k)), (6, .long a6), (0, .ref (q 80)), (1, .int x), (2, .ref (q 94)), (3, .ref (q 95)), (4, .ref (q 96)), (5, .ref (q 97))]) [0, 2, 3, 1, 4, 5, 6, 7, 8, 9, 10, 11] rfl ?_
                exact ihlp210 (j + 1) (x252) (S250) (by omega) (by omega) (by rw [ex252, ha, er249]; rfl) (fun _ => hRk) br249
        exact lp210 (zN z k + 1) 0 0 S205 (by omega) (by omega) rfl (fun h => absurd h (by omega)) br204
  exact lp1 (nc z + 1) 0 0 S 0 0 (by omega) (by omega) rfl hL (by omega) (by omega)
set_option maxHeartbeats 4000000 in
set_option maxRecDepth 100000 in
theorem kL_ahead (g : Glo) (S : PS) (q : Nat → Nat) (z : ZZ) (H : List ZZ) (l : Int32) (n : Nat) (tx : Nat → Int32) (hI : Iw (z, H, l, n, tx)) (hL : Lw S q (z, H, l, n, tx)) (x y : Int32) : Cx g mL_ahead 10 60 [.ref (q 80), .int x, .int y, .ref (q 94), .ref (q 95), .ref (q 96), .ref (q 97)] S (pI9 (fun r S' => r = 1 ∧ Lw S' q (z, H, l, n, tx))) (fun _ _ => False) := by
  refine Cx.of (by decide) (Nat.le_of_ble_eq_true rfl) (fun Γ hg F T => ?_)
  subst hg
  show G Γ S 0 0 0 [(0, .ref (q 80)), (1, .int x), (2, .int y), (3, .ref (q 94)), (4, .ref (q 95)), (5, .ref (q 96)), (6, .ref (q 97))] []
  have hq := hL.1
  have hB : Bz z := hI.1.1
  have h8 : nc z ≤ 8 := hL.2.2.2.1.2.2
  have hnr := (nr_e hB).2
  refine g_aload_n (k := 3) F 3 rfl dL_ahead_0 ?_
  refine g_iconst (v := 1) F (by decide) dL_ahead_1 ?_
  refine g_ialde rfl (j := 1) F (qi94 hq) rfl (by rw [(qn94 hq)]; omega) (by rw [(qn94 hq)]; decide) dL_ahead_2 ?_
  refine g_topi (fun x1 ex1 => ?_)
  refine g_istore (L' := [(7, .int x1), (0, .ref (q 80)), (1, .int x), (2, .int y), (3, .ref (q 94)), (4, .ref (q 95)), (5, .ref (q 96)), (6, .ref (q 97))]) F dL_ahead_3 (Nat.le_of_ble_eq_true rfl) rfl ?_
  have w9 : x1.toInt64 = z 3 := by rw [ex1]; exact hL.2.2.1.1.2.1
  refine g_iconst (v := (-1)) F (by decide) dL_ahead_5 ?_
  refine g_istore (L' := [(8, .int (-1)), (7, .int x1), (0, .ref (q 80)), (1, .int x), (2, .int y), (3, .ref (q 94)), (4, .ref (q 95)), (5, .ref (q 96)), (6, .ref (q 97))]) F dL_ahead_6 (Nat.le_of_ble_eq_true rfl) rfl ?_
  refine g_sipush (v := 200) F (by decide) dL_ahead_8 ?_
  refine g_istore (L' := [(9, .int 200), (8, .int (-1)), (7, .int x1), (0, .ref (q 80)), (1, .int x), (2, .int y), (3, .ref (q 94)), (4, .ref (q 95)), (5, .ref (q 96)), (6, .ref (q 97))]) F dL_ahead_11 (Nat.le_of_ble_eq_true rfl) rfl ?_
  have lp2 : ∀ (n9 : Nat) (a : Nat) (i : Nat) (le : Int32) (y9 : ZZ) (S1 : PS), 4000 < a + n9 → (a = 200 + 100 * i) → (i ≤ 29) → (0 < i → ¬ nc z = 0) → (∀ b, zAm y9 b = zAm z b) → (y9 = z ∨ ∃ x, y9 = vp_updL z 3 x) → ((le = -1 ∧ ∀ j, j < i → ¬ zRa (zAm z (200 + 100 * j))) ∨ (0 ≤ le ∧ le = zLe z)) → (Lv S1 q (z, H, l, n, tx) y9) → G Γ S1 0 0 13 [(9, .int (nI a)), (8, .int le), (7, .int x1), (0, .ref (q 80)), (1, .int x), (2, .int y), (3, .ref (q 94)), (4, .ref (q 95)), (5, .ref (q 96)), (6, .ref (q 97))] [] := by
    intro n9
    induction n9 with
    | zero =>
      intro a i le y9 S1 hm9 ha hi hi0 hy hy2 hlst hL1
      exact absurd hm9 (by omega)
    | succ n9 ihlp2 =>
      intro a i le y9 S1 hm9 ha hi hi0 hy hy2 hlst hL1
      have ncy9 : nc y9 = nc z := hy2.elim (fun h => by rw [h]) (fun ⟨x, h⟩ => by rw [h]; exact uL_nc (by decide))
      refine g_iload F 0 rfl dL_ahead_13 ?_
      refine g_sipush (v := 3000) F (by decide) dL_ahead_15 ?_
      have jn4 : le = zLe z → G Γ S1 0 0 65 [(9, .int (nI a)), (8, .int le), (7, .int x1), (0, .ref (q 80)), (1, .int x), (2, .int y), (3, .ref (q 94)), (4, .ref (q 95)), (5, .ref (q 96)), (6, .ref (q 97))] [] := by
        intro  hle9
        refine g_aload_n (k := 3) F 6 rfl dL_ahead_65 ?_
        refine g_iconst (v := 1) F (by decide) dL_ahead_66 ?_
        refine g_iload F 2 rfl dL_ahead_67 ?_
        refine g_iast (j := 1) F (qi94 hL1.1) rfl (by rw [(qn94 hL1.1)]; omega) (by rw [(qn94 hL1.1)]; decide) dL_ahead_69 ?_
        refine g_gen (P := fun S9 => Lv S9 q (z, H, l, n, tx) (z)) ((Lv.se (i := 1) (v := x1) (by decide) hL1).eq (by rw [w9]; exact am_b hy2)) (fun S5 b6 => ?_)
        refine g_aload_n (k := 0) F 3 rfl dL_ahead_70 ?_
        refine g_callV F (pX9_leastArm Γ.1 S5 q b6.1 z H l n tx hB b6.2.1) okX9_leastArm (qi80 b6.1) mw504 ⟨(Nat.le_of_ble_eq_true rfl), (Nat.le_of_ble_eq_true rfl)⟩ rfl rfl (Nat.le_of_ble_eq_true rfl) ⟨(Nat.le_of_ble_eq_true rfl), (Nat.le_of_ble_eq_true rfl)⟩ dL_ahead_71 (toI (fun r7 S8 h9 => ?_))
        obtain ⟨-, er7, fr7, cr7⟩ := h9
        replace er7 : r7 = zLe z := er7
        have br7 := Lw.cl b6 fr7 cr7
        refine g_iload F 1 rfl dL_ahead_74 ?_
        refine g_icmp_ne (t := 86) F dL_ahead_76 (by decide) (fun c10 => ?_) (fun c10 => ?_)
        · exact absurd (er7.trans hle9.symm) c10
        · refine g_aload F 8 rfl dL_ahead_79 ?_
          refine g_iconst (v := 0) F (by decide) dL_ahead_81 ?_
          refine g_ialde rfl (j := 0) F (qi96 br7.1) rfl (by rw [(qn96 br7.1)]; omega) (by rw [(qn96 br7.1)]; decide) dL_ahead_82 ?_
          refine g_rei (nI (nc z)) br7.2.2.2.1.2.1 ?_
          refine g_if_ne (t := 101) F dL_ahead_83 (by decide) (fun c11 => ?_) (fun c11 => ?_)
          · have h0 : ¬ nc z = 0 := fun h => c11 (by rw [h]; rfl)
            refine g_iload_n (k := 1) F 4 rfl dL_ahead_101 ?_
            refine g_iconst (v := 5) F (by decide) dL_ahead_102 ?_
            refine g_callS F (kL_at Γ.1 _ _ 5 (by omega) (by omega)) okL_at mw252 ⟨(Nat.le_of_ble_eq_true rfl), (Nat.le_of_ble_eq_true rfl)⟩ rfl rfl (Nat.le_of_ble_eq_true rfl) ⟨(Nat.le_of_ble_eq_true rfl), (Nat.le_of_ble_eq_true rfl)⟩ dL_ahead_103 (toI (fun r12 S13 h14 => ?_))
            obtain ⟨⟨jr12, lr12, rfl⟩, rfl⟩ := h14
            refine g_istore (L' := [(9, .int (nI jr12)), (8, .int le), (7, .int x1), (0, .ref (q 80)), (1, .int x), (2, .int y), (3, .ref (q 94)), (4, .ref (q 95)), (5, .ref (q 96)), (6, .ref (q 97))]) F dL_ahead_106 (Nat.le_of_ble_eq_true rfl) rfl ?_
            refine g_iload_n (k := 1) F 4 rfl dL_ahead_108 ?_
            refine g_iconst (v := 3) F (by decide) dL_ahead_109 ?_
            refine g_ishr F dL_ahead_110 ?_
            refine g_aload F 8 rfl dL_ahead_111 ?_
            refine g_iconst (v := 0) F (by decide) dL_ahead_113 ?_
            refine g_ialde rfl (j := 0) F (qi96 br7.1) rfl (by rw [(qn96 br7.1)]; omega) (by rw [(qn96 br7.1)]; decide) dL_ahead_114 ?_
            refine g_rei (nI (nc z)) br7.2.2.2.1.2.1 ?_
            refine g_callS F (kL_at Γ.1 _ _ ((nc z)) (by omega) (by omega)) okL_at mw252 ⟨(Nat.le_of_ble_eq_true rfl), (Nat.le_of_ble_eq_true rfl)⟩ rfl rfl (Nat.le_of_ble_eq_true rfl) ⟨(Nat.le_of_ble_eq_true rfl), (Nat.le_of_ble_eq_true rfl)⟩ dL_ahead_115 (toI (fun r15 S16 h17 => ?_))
            obtain ⟨⟨jr15, lr15, rfl⟩, rfl⟩ := h17
            refine g_istore (L' := [(10, .int (nI jr15)), (9, .int (nI jr12)), (8, .int le), (7, .int x1), (0, .ref (q 80)), (1, .int x), (2, .int y), (3, .ref (q 94)), (4, .ref (q 95)), (5, .ref (q 96)), (6, .ref (q 97))]) F dL_ahead_118 (Nat.le_of_ble_eq_true rfl) rfl ?_
            refine g_iload_n (k := 1) F 5 rfl dL_ahead_120 ?_
            refine g_bipush (v := 6) F (by decide) dL_ahead_121 ?_
            refine g_ishr F dL_ahead_123 ?_
            refine g_iconst (v := 2) F (by decide) dL_ahead_124 ?_
            refine g_callS F (kL_at Γ.1 _ _ 2 (by omega) (by omega)) okL_at mw252 ⟨(Nat.le_of_ble_eq_true rfl), (Nat.le_of_ble_eq_true rfl)⟩ rfl rfl (Nat.le_of_ble_eq_true rfl) ⟨(Nat.le_of_ble_eq_true rfl), (Nat.le_of_ble_eq_true rfl)⟩ dL_ahead_125 (toI (fun r18 S19 h20 => ?_))
            obtain ⟨⟨jr18, lr18, rfl⟩, rfl⟩ := h20
            have jn22 : ∀ (w136 : Int32), w136 = 1 ∨ w136 = 0 → G Γ S8 0 0 136 [(10, .int (nI jr15)), (9, .int (nI jr12)), (8, .int le), (7, .int x1), (0, .ref (q 80)), (1, .int x), (2, .int y), (3, .ref (q 94)), (4, .ref (q 95)), (5, .ref (q 96)), (6, .ref (q 97))] [.int w136] := by
              intro w136 hj5
              obtain ⟨b9, rfl⟩ := ex_b hj5
              refine g_istore (L' := [(11, .int (bI b9)), (10, .int (nI jr15)), (9, .int (nI jr12)), (8, .int le), (7, .int x1), (0, .ref (q 80)), (1, .int x), (2, .int y), (3, .ref (q 94)), (4, .ref (q 95)), (5, .ref (q 96)), (6, .ref (q 97))]) F dL_ahead_136 (Nat.le_of_ble_eq_true rfl) rfl ?_
              refine g_aload_n (k := 3) F 8 rfl dL_ahead_138 ?_
              refine g_iload F 2 rfl dL_ahead_139 ?_
              refine g_ialde rfl (j := jr12) F (qi94 br7.1) rfl (by rw [(qn94 br7.1)]; omega) (by rw [(qn94 br7.1)]; decide) dL_ahead_141 ?_
              refine g_topi (fun x23 ex23 => ?_)
              refine g_istore (L' := [(12, .int x23), (11, .int (bI b9)), (10, .int (nI jr15)), (9, .int (nI jr12)), (8, .int le), (7, .int x1), (0, .ref (q 80)), (1, .int x), (2, .int y), (3, .ref (q 94)), (4, .ref (q 95)), (5, .ref (q 96)), (6, .ref (q 97))]) F dL_ahead_142 (Nat.le_of_ble_eq_true rfl) rfl ?_
              have o9 : x23.toInt64 = z (2 + jr12) := by rw [ex23]; exact Ls.e br7.2.2.1 (by omega)
              refine g_aload_n (k := 3) F 9 rfl dL_ahead_144 ?_
              refine g_iload F 3 rfl dL_ahead_145 ?_
              refine g_iload F 3 rfl dL_ahead_147 ?_
              refine g_iload_n (k := 2) F 8 rfl dL_ahead_149 ?_
              refine g_callS F (kL_value Γ.1 _ jr12 (by omega) _) okL_value mw489 ⟨(Nat.le_of_ble_eq_true rfl), (Nat.le_of_ble_eq_true rfl)⟩ rfl rfl (Nat.le_of_ble_eq_true rfl) ⟨(Nat.le_of_ble_eq_true rfl), (Nat.le_of_ble_eq_true rfl)⟩ dL_ahead_150 (toI (fun r24 S25 h26 => ?_))
              obtain ⟨vr24, rfl⟩ := h26
              refine g_iast (j := jr12) F (qi94 br7.1) rfl (by rw [(qn94 br7.1)]; omega) (by rw [(qn94 br7.1)]; decide) dL_ahead_153 ?_
              have hBw := ws_Bn (v := r24) hB (show jr12 ≤ 4 by omega) vr24
              have ncw : nc (zWs z jr12 r24) = nc z := ws_nc (by omega)
              refine g_gen (P := fun S9 => Lv S9 q (z, H, l, n, tx) (zWs z jr12 r24)) (Lv.se (i := jr12) (v := r24) (by omega) br7) (fun S27 b28 => ?_)
              refine g_aload_n (k := 3) F 9 rfl dL_ahead_154 ?_
              refine g_aload F 10 rfl dL_ahead_155 ?_
              refine g_aload F 11 rfl dL_ahead_157 ?_
              refine g_aload F 12 rfl dL_ahead_159 ?_
              refine g_callS F (kL_why Γ.1 S27 q b28.1 (zWs z jr12 r24) hBw b28.2.2.1 b28.2.2.2.1 b28.2.2.2.2) okL_why mw270 ⟨(Nat.le_of_ble_eq_true rfl), (Nat.le_of_ble_eq_true rfl)⟩ rfl rfl (Nat.le_of_ble_eq_true rfl) ⟨(Nat.le_of_ble_eq_true rfl), (Nat.le_of_ble_eq_true rfl)⟩ dL_ahead_161 (toI (fun r29 S30 h31 => ?_))
              obtain ⟨rfl, fr29⟩ := h31
              have br29 := Lw.f97 b28 fr29
              refine g_istore (L' := [(13, .int (nI (zRf (zWs z jr12 r24)))), (12, .int x23), (11, .int (bI b9)), (10, .int (nI jr15)), (9, .int (nI jr12)), (8, .int le), (7, .int x1), (0, .ref (q 80)), (1, .int x), (2, .int y), (3, .ref (q 94)), (4, .ref (q 95)), (5, .ref (q 96)), (6, .ref (q 97))]) F dL_ahead_164 (Nat.le_of_ble_eq_true rfl) rfl ?_
              refine g_iload F 0 rfl dL_ahead_166 ?_
              refine g_if_eq (t := 177) F dL_ahead_168 (by decide) (fun c32 => ?_) (fun c32 => ?_)
              · have hsh9 : zRf (zWs z jr12 r24) = 0 ∨ zRf (zWs z jr12 r24) = 4 := .inl (rf_I c32)
                refine g_iload F 3 rfl dL_ahead_177 ?_
                refine g_iload F 2 rfl dL_ahead_179 ?_
                refine g_aload_n (k := 3) F 10 rfl dL_ahead_181 ?_
                refine g_aload F 11 rfl dL_ahead_182 ?_
                refine g_aload F 12 rfl dL_ahead_184 ?_
                refine g_aload F 13 rfl dL_ahead_186 ?_
                refine g_callS F (kL_sum Γ.1 S30 q br29.1 (zWs z jr12 r24) hBw br29.2.2.1 br29.2.2.2.1 jr15 (by rw [ncw]; omega) b9 (zSh_ra (rf_sh hsh9)).2.2) okL_sum mw423 ⟨(Nat.le_of_ble_eq_true rfl), (Nat.le_of_ble_eq_true rfl)⟩ rfl rfl (Nat.le_of_ble_eq_true rfl) ⟨(Nat.le_of_ble_eq_true rfl), (Nat.le_of_ble_eq_true rfl)⟩ dL_ahead_188 (toJ (fun r33 S34 h35 => ?_))
                obtain ⟨er33, fr33⟩ := h35
                have br33 := Lw.f97 br29 fr33
                refine g_goto (t := 195) F dL_ahead_191 (by decide) ?_
                refine g_lstore (L' := [(14, .long r33), (13, .int (nI (zRf (zWs z jr12 r24)))), (12, .int x23), (11, .int (bI b9)), (10, .int (nI jr15)), (9, .int (nI jr12)), (8, .int le), (7, .int x1), (0, .ref (q 80)), (1, .int x), (2, .int y), (3, .ref (q 94)), (4, .ref (q 95)), (5, .ref (q 96)), (6, .ref (q 97))]) F dL_ahead_195 (Nat.le_of_ble_eq_true rfl) rfl ?_
                refine g_aload_n (k := 3) F 11 rfl dL_ahead_197 ?_
                refine g_iload F 5 rfl dL_ahead_198 ?_
                refine g_ialde rfl (j := jr12) F (qi94 br33.1) rfl (by rw [(qn94 br33.1)]; omega) (by rw [(qn94 br33.1)]; decide) dL_ahead_200 ?_
                refine g_topi (fun x36 ex36 => ?_)
                refine g_istore (L' := [(16, .int x36), (14, .long r33), (13, .int (nI (zRf (zWs z jr12 r24)))), (12, .int x23), (11, .int (bI b9)), (10, .int (nI jr15)), (9, .int (nI jr12)), (8, .int le), (7, .int x1), (0, .ref (q 80)), (1, .int x), (2, .int y), (3, .ref (q 94)), (4, .ref (q 95)), (5, .ref (q 96)), (6, .ref (q 97))]) F dL_ahead_201 (Nat.le_of_ble_eq_true rfl) rfl ?_
                have t9 : x36 = r24 := by rw [ex36]; exact i32_e ((Ls.e br33.2.2.1 (by omega)).trans uLs)
                have hv16 : vOk (nI jr12) x36 := by rw [t9]; exact vr24
                refine g_aload_n (k := 3) F 12 rfl dL_ahead_203 ?_
                refine g_iload F 6 rfl dL_ahead_204 ?_
                refine g_iload F 3 rfl dL_ahead_206 ?_
                refine g_iast (j := jr12) F (qi94 br33.1) rfl (by rw [(qn94 br33.1)]; omega) (by rw [(qn94 br33.1)]; decide) dL_ahead_208 ?_
                refine g_gen (P := fun S9 => Lv S9 q (z, H, l, n, tx) (z)) ((Lv.se (i := jr12) (v := x23) (by omega) br33).eq (by rw [o9]; exact uL_back)) (fun S37 b38 => ?_)
                refine g_aload_n (k := 0) F 9 rfl dL_ahead_209 ?_
                refine g_iload F 5 rfl dL_ahead_210 ?_
                refine g_iload F 4 rfl dL_ahead_212 ?_
                refine g_iload F 6 rfl dL_ahead_214 ?_
                refine g_iload F 0 rfl dL_ahead_216 ?_
                refine x_callV F (kX9_ifSet Γ.1 S37 q b38.1 z H l n tx hB b38.2.1 (nI jr15) b9 (nI jr12) x36) okX9_ifSet (qi80 b38.1) mw511 ⟨(Nat.le_of_ble_eq_true rfl), (Nat.le_of_ble_eq_true rfl)⟩ rfl rfl (Nat.le_of_ble_eq_true rfl) ⟨(by show 0 + 3 ≤ 10; omega), (by show 0 + 18 ≤ 60; omega)⟩ dL_ahead_218 (fun E42 S43 h44 => ?_) (toJ (fun r39 S40 h41 => ?_))
                · rw [ifs_e (c := jr15) (k := jr12) (v := x36) (by omega) h8 (by omega) hv16] at h44
                  rcases h44.1 with h | h <;> exact absurd (show (0 : Int32) = _ from h.2) (by decide)
                obtain ⟨-, er39, fr39, cr39⟩ := h41
                rw [ifs_e (c := jr15) (k := jr12) (v := x36) (by omega) h8 (by omega) hv16] at er39
                replace er39 : r39 = zIf z jr15 b9 jr12 x36 := er39
                have br39 := Lw.cl b38 fr39 cr39
                refine g_lload F 1 rfl dL_ahead_221 ?_
                refine g_lcmp F dL_ahead_223 ?_
                refine g_if_ne (t := 231) F dL_ahead_224 (by decide) (fun c45 => ?_) (fun c45 => ?_)
                · exact absurd (lc_eq.mpr (er39.trans (by rw [t9]; unfold zIf; rw [if_pos (rf_sh hsh9), er33]))) c45
                · rw [lc_eq] at c45
                  refine g_iconst (v := 1) F (by decide) dL_ahead_227 ?_
                  refine g_goto (t := 232) F dL_ahead_228 (by decide) ?_
                  refine x_zret F T rfl ⟨_, rfl, ?_⟩ (by show (0 + 3) ≤ 10; omega) (by show (0 + 18) ≤ 60; omega) dL_ahead_232
                  exact ⟨rfl, br39⟩
              · have hn0 : ¬ zRf (zWs z jr12 r24) = 0 := fun h => c32 (by rw [h]; rfl)
                refine g_iload F 0 rfl dL_ahead_171 ?_
                refine g_iconst (v := 4) F (by decide) dL_ahead_173 ?_
                refine g_icmp_ne (t := 194) F dL_ahead_174 (by decide) (fun c46 => ?_) (fun c46 => ?_)
                · have hns9 := rf_ns hn0 (fun h => c46 (by rw [h]; rfl))
                  refine g_lconst (v := 0) F (by decide) dL_ahead_194 ?_
                  refine g_lstore (L' := [(14, .long 0), (13, .int (nI (zRf (zWs z jr12 r24)))), (12, .int x23), (11, .int (bI b9)), (10, .int (nI jr15)), (9, .int (nI jr12)), (8, .int le), (7, .int x1), (0, .ref (q 80)), (1, .int x), (2, .int y), (3, .ref (q 94)), (4, .ref (q 95)), (5, .ref (q 96)), (6, .ref (q 97))]) F dL_ahead_195 (Nat.le_of_ble_eq_true rfl) rfl ?_
                  refine g_aload_n (k := 3) F 11 rfl dL_ahead_197 ?_
                  refine g_iload F 5 rfl dL_ahead_198 ?_
                  refine g_ialde rfl (j := jr12) F (qi94 br29.1) rfl (by rw [(qn94 br29.1)]; omega) (by rw [(qn94 br29.1)]; decide) dL_ahead_200 ?_
                  refine g_topi (fun x47 ex47 => ?_)
                  refine g_istore (L' := [(16, .int x47), (14, .long 0), (13, .int (nI (zRf (zWs z jr12 r24)))), (12, .int x23), (11, .int (bI b9)), (10, .int (nI jr15)), (9, .int (nI jr12)), (8, .int le), (7, .int x1), (0, .ref (q 80)), (1, .int x), (2, .int y), (3, .ref (q 94)), (4, .ref (q 95)), (5, .ref (q 96)), (6, .ref (q 97))]) F dL_ahead_201 (Nat.le_of_ble_eq_true rfl) rfl ?_
                  have t9 : x47 = r24 := by rw [ex47]; exact i32_e ((Ls.e br29.2.2.1 (by omega)).trans uLs)
                  have hv16 : vOk (nI jr12) x47 := by rw [t9]; exact vr24
                  refine g_aload_n (k := 3) F 12 rfl dL_ahead_203 ?_
                  refine g_iload F 6 rfl dL_ahead_204 ?_
                  refine g_iload F 3 rfl dL_ahead_206 ?_
                  refine g_iast (j := jr12) F (qi94 br29.1) rfl (by rw [(qn94 br29.1)]; omega) (by rw [(qn94 br29.1)]; decide) dL_ahead_208 ?_
                  refine g_gen (P := fun S9 => Lv S9 q (z, H, l, n, tx) (z)) ((Lv.se (i := jr12) (v := x23) (by omega) br29).eq (by rw [o9]; exact uL_back)) (fun S48 b49 => ?_)
                  refine g_aload_n (k := 0) F 9 rfl dL_ahead_209 ?_
                  refine g_iload F 5 rfl dL_ahead_210 ?_
                  refine g_iload F 4 rfl dL_ahead_212 ?_
                  refine g_iload F 6 rfl dL_ahead_214 ?_
                  refine g_iload F 0 rfl dL_ahead_216 ?_
                  refine x_callV F (kX9_ifSet Γ.1 S48 q b49.1 z H l n tx hB b49.2.1 (nI jr15) b9 (nI jr12) x47) okX9_ifSet (qi80 b49.1) mw511 ⟨(Nat.le_of_ble_eq_true rfl), (Nat.le_of_ble_eq_true rfl)⟩ rfl rfl (Nat.le_of_ble_eq_true rfl) ⟨(by show 0 + 3 ≤ 10; omega), (by show 0 + 18 ≤ 60; omega)⟩ dL_ahead_218 (fun E53 S54 h55 => ?_) (toJ (fun r50 S51 h52 => ?_))
                  · rw [ifs_e (c := jr15) (k := jr12) (v := x47) (by omega) h8 (by omega) hv16] at h55
                    rcases h55.1 with h | h <;> exact absurd (show (0 : Int32) = _ from h.2) (by decide)
                  obtain ⟨-, er50, fr50, cr50⟩ := h52
                  rw [ifs_e (c := jr15) (k := jr12) (v := x47) (by omega) h8 (by omega) hv16] at er50
                  replace er50 : r50 = zIf z jr15 b9 jr12 x47 := er50
                  have br50 := Lw.cl b49 fr50 cr50
                  refine g_lload F 1 rfl dL_ahead_221 ?_
                  refine g_lcmp F dL_ahead_223 ?_
                  refine g_if_ne (t := 231) F dL_ahead_224 (by decide) (fun c56 => ?_) (fun c56 => ?_)
                  · exact absurd (lc_eq.mpr (er50.trans (by rw [t9]; unfold zIf; rw [if_neg hns9]))) c56
                  · rw [lc_eq] at c56
                    refine g_iconst (v := 1) F (by decide) dL_ahead_227 ?_
                    refine g_goto (t := 232) F dL_ahead_228 (by decide) ?_
                    refine x_zret F T rfl ⟨_, rfl, ?_⟩ (by show (0 + 3) ≤ 10; omega) (by show (0 + 18) ≤ 60; omega) dL_ahead_232
                    exact ⟨rfl, br50⟩
                · have hsh9 : zRf (zWs z jr12 r24) = 0 ∨ zRf (zWs z jr12 r24) = 4 := .inr (rf_I4 c46)
                  refine g_iload F 3 rfl dL_ahead_177 ?_
                  refine g_iload F 2 rfl dL_ahead_179 ?_
                  refine g_aload_n (k := 3) F 10 rfl dL_ahead_181 ?_
                  refine g_aload F 11 rfl dL_ahead_182 ?_
                  refine g_aload F 12 rfl dL_ahead_184 ?_
                  refine g_aload F 13 rfl dL_ahead_186 ?_
                  refine g_callS F (kL_sum Γ.1 S30 q br29.1 (zWs z jr12 r24) hBw br29.2.2.1 br29.2.2.2.1 jr15 (by rw [ncw]; omega) b9 (zSh_ra (rf_sh hsh9)).2.2) okL_sum mw423 ⟨(Nat.le_of_ble_eq_true rfl), (Nat.le_of_ble_eq_true rfl)⟩ rfl rfl (Nat.le_of_ble_eq_true rfl) ⟨(Nat.le_of_ble_eq_true rfl), (Nat.le_of_ble_eq_true rfl)⟩ dL_ahead_188 (toJ (fun r57 S58 h59 => ?_))
                  obtain ⟨er57, fr57⟩ := h59
                  have br57 := Lw.f97 br29 fr57
                  refine g_goto (t := 195) F dL_ahead_191 (by decide) ?_
                  refine g_lstore (L' := [(14, .long r57), (13, .int (nI (zRf (zWs z jr12 r24)))), (12, .int x23), (11, .int (bI b9)), (10, .int (nI jr15)), (9, .int (nI jr12)), (8, .int le), (7, .int x1), (0, .ref (q 80)), (1, .int x), (2, .int y), (3, .ref (q 94)), (4, .ref (q 95)), (5, .ref (q 96)), (6, .ref (q 97))]) F dL_ahead_195 (Nat.le_of_ble_eq_true rfl) rfl ?_
                  refine g_aload_n (k := 3) F 11 rfl dL_ahead_197 ?_
                  refine g_iload F 5 rfl dL_ahead_198 ?_
                  refine g_ialde rfl (j := jr12) F (qi94 br57.1) rfl (by rw [(qn94 br57.1)]; omega) (by rw [(qn94 br57.1)]; decide) dL_ahead_200 ?_
                  refine g_topi (fun x60 ex60 => ?_)
                  refine g_istore (L' := [(16, .int x60), (14, .long r57), (13, .int (nI (zRf (zWs z jr12 r24)))), (12, .int x23), (11, .int (bI b9)), (10, .int (nI jr15)), (9, .int (nI jr12)), (8, .int le), (7, .int x1), (0, .ref (q 80)), (1, .int x), (2, .int y), (3, .ref (q 94)), (4, .ref (q 95)), (5, .ref (q 96)), (6, .ref (q 97))]) F dL_ahead_201 (Nat.le_of_ble_eq_true rfl) rfl ?_
                  have t9 : x60 = r24 := by rw [ex60]; exact i32_e ((Ls.e br57.2.2.1 (by omega)).trans uLs)
                  have hv16 : vOk (nI jr12) x60 := by rw [t9]; exact vr24
                  refine g_aload_n (k := 3) F 12 rfl dL_ahead_203 ?_
                  refine g_iload F 6 rfl dL_ahead_204 ?_
                  refine g_iload F 3 rfl dL_ahead_206 ?_
                  refine g_iast (j := jr12) F (qi94 br57.1) rfl (by rw [(qn94 br57.1)]; omega) (by rw [(qn94 br57.1)]; decide) dL_ahead_208 ?_
                  refine g_gen (P := fun S9 => Lv S9 q (z, H, l, n, tx) (z)) ((Lv.se (i := jr12) (v := x23) (by omega) br57).eq (by rw [o9]; exact uL_back)) (fun S61 b62 => ?_)
                  refine g_aload_n (k := 0) F 9 rfl dL_ahead_209 ?_
                  refine g_iload F 5 rfl dL_ahead_210 ?_
                  refine g_iload F 4 rfl dL_ahead_212 ?_
                  refine g_iload F 6 rfl dL_ahead_214 ?_
                  refine g_iload F 0 rfl dL_ahead_216 ?_
                  refine x_callV F (kX9_ifSet Γ.1 S61 q b62.1 z H l n tx hB b62.2.1 (nI jr15) b9 (nI jr12) x60) okX9_ifSet (qi80 b62.1) mw511 ⟨(Nat.le_of_ble_eq_true rfl), (Nat.le_of_ble_eq_true rfl)⟩ rfl rfl (Nat.le_of_ble_eq_true rfl) ⟨(by show 0 + 3 ≤ 10; omega), (by show 0 + 18 ≤ 60; omega)⟩ dL_ahead_218 (fun E66 S67 h68 => ?_) (toJ (fun r63 S64 h65 => ?_))
                  · rw [ifs_e (c := jr15) (k := jr12) (v := x60) (by omega) h8 (by omega) hv16] at h68
                    rcases h68.1 with h | h <;> exact absurd (show (0 : Int32) = _ from h.2) (by decide)
                  obtain ⟨-, er63, fr63, cr63⟩ := h65
                  rw [ifs_e (c := jr15) (k := jr12) (v := x60) (by omega) h8 (by omega) hv16] at er63
                  replace er63 : r63 = zIf z jr15 b9 jr12 x60 := er63
                  have br63 := Lw.cl b62 fr63 cr63
                  refine g_lload F 1 rfl dL_ahead_221 ?_
                  refine g_lcmp F dL_ahead_223 ?_
                  refine g_if_ne (t := 231) F dL_ahead_224 (by decide) (fun c69 => ?_) (fun c69 => ?_)
                  · exact absurd (lc_eq.mpr (er63.trans (by rw [t9]; unfold zIf; rw [if_pos (rf_sh hsh9), er57]))) c69
                  · rw [lc_eq] at c69
                    refine g_iconst (v := 1) F (by decide) dL_ahead_227 ?_
                    refine g_goto (t := 232) F dL_ahead_228 (by decide) ?_
                    refine x_zret F T rfl ⟨_, rfl, ?_⟩ (by show (0 + 3) ≤ 10; omega) (by show (0 + 18) ≤ 60; omega) dL_ahead_232
                    exact ⟨rfl, br63⟩
            refine g_if_ne (t := 135) F dL_ahead_128 (by decide) (fun c21 => ?_) (fun c21 => ?_)
            · refine g_iconst (v := 0) F (by decide) dL_ahead_135 ?_
              exact jn22 (0) (.inr rfl)
            · refine g_iconst (v := 1) F (by decide) dL_ahead_131 ?_
              refine g_goto (t := 136) F dL_ahead_132 (by decide) ?_
              exact jn22 (1) (.inl rfl)
          · refine g_aload_n (k := 0) F 3 rfl dL_ahead_86 ?_
            refine g_callV F (pX9_leastArm Γ.1 S8 q br7.1 z H l n tx hB br7.2.1) okX9_leastArm (qi80 br7.1) mw504 ⟨(Nat.le_of_ble_eq_true rfl), (Nat.le_of_ble_eq_true rfl)⟩ rfl rfl (Nat.le_of_ble_eq_true rfl) ⟨(Nat.le_of_ble_eq_true rfl), (Nat.le_of_ble_eq_true rfl)⟩ dL_ahead_87 (toI (fun r70 S71 h72 => ?_))
            obtain ⟨-, er70, fr70, cr70⟩ := h72
            replace er70 : r70 = zLe z := er70
            have br70 := Lw.cl br7 fr70 cr70
            refine g_iload F 1 rfl dL_ahead_90 ?_
            refine g_icmp_ne (t := 99) F dL_ahead_92 (by decide) (fun c73 => ?_) (fun c73 => ?_)
            · exact absurd (er70.trans hle9.symm) c73
            · refine g_iconst (v := 1) F (by decide) dL_ahead_95 ?_
              refine g_goto (t := 100) F dL_ahead_96 (by decide) ?_
              refine x_zret F T rfl ⟨_, rfl, ?_⟩ (Nat.le_of_ble_eq_true rfl) (Nat.le_of_ble_eq_true rfl) dL_ahead_100
              exact ⟨rfl, br70⟩
      refine g_icmp_gt (t := 65) F dL_ahead_18 (by decide) (fun c3 => ?_) (fun c3 => ?_)
      · have h18 : 3000 < a := by
          rw [show (3000 : Int32) = nI 3000 from rfl, nI_ltI (by omega) (by omega)] at c3
          exact c3
        have hle : le = zLe z := hlst.elim (fun h => h.1.trans (le_none (hi0 (by omega)) ha h18 h.2)) (fun h => h.2)
        exact jn4  (hle)
      · have h18 : ¬ 3000 < a := fun h => c3 (by rw [show (3000 : Int32) = nI 3000 from rfl, nI_ltI (by omega) (by omega)]; exact h)
        refine g_iload F 1 rfl dL_ahead_21 ?_
        refine g_if_ge (t := 65) F dL_ahead_23 (by decide) (fun c74 => ?_) (fun c74 => ?_)
        · have hle : le = zLe z := hlst.elim (fun h => absurd c74 (by rw [h.1]; decide)) (fun h => h.2)
          exact jn4  (hle)
        · have hno := hlst.elim (fun h => h.2) (fun h => absurd h.1 c74)
          have hm1 : le = -1 := hlst.elim (fun h => h.1) (fun h => absurd h.1 c74)
          refine g_aload F 8 rfl dL_ahead_26 ?_
          refine g_iconst (v := 0) F (by decide) dL_ahead_28 ?_
          refine g_ialde rfl (j := 0) F (qi96 hL1.1) rfl (by rw [(qn96 hL1.1)]; omega) (by rw [(qn96 hL1.1)]; decide) dL_ahead_29 ?_
          refine g_rei (nI (nc y9)) hL1.2.2.2.1.2.1 ?_
          refine g_if_le (t := 65) F dL_ahead_30 (by decide) (fun c75 => ?_) (fun c75 => ?_)
          · have h00 : nc z = 0 := by
              rw [ncy9] at c75
              exact nI_le0 c75 (by omega)
            have hle : le = zLe z := hm1.trans (zLe_0 h00)
            exact jn4  (hle)
          · have h0 : ¬ nc z = 0 := fun h => c75 (by rw [ncy9, h]; decide)
            refine g_aload_n (k := 3) F 6 rfl dL_ahead_33 ?_
            refine g_iconst (v := 1) F (by decide) dL_ahead_34 ?_
            refine g_iload F 0 rfl dL_ahead_35 ?_
            refine g_iast (j := 1) F (qi94 hL1.1) rfl (by rw [(qn94 hL1.1)]; omega) (by rw [(qn94 hL1.1)]; decide) dL_ahead_37 ?_
            refine g_gen (P := fun S9 => Lv S9 q (z, H, l, n, tx) (zAm z a)) ((Lv.se (i := 1) (v := nI a) (by decide) hL1).eq (hy a)) (fun S76 b77 => ?_)
            refine g_aload_n (k := 3) F 6 rfl dL_ahead_38 ?_
            refine g_aload F 7 rfl dL_ahead_39 ?_
            refine g_aload F 8 rfl dL_ahead_41 ?_
            refine g_aload F 9 rfl dL_ahead_43 ?_
            refine g_callS F (kL_all Γ.1 S76 q b77.1 (zAm z a) (am_B hB ⟨by omega, by omega⟩) b77.2.2.1 b77.2.2.2.1) okL_all mw276 ⟨(Nat.le_of_ble_eq_true rfl), (Nat.le_of_ble_eq_true rfl)⟩ rfl rfl (Nat.le_of_ble_eq_true rfl) ⟨(Nat.le_of_ble_eq_true rfl), (Nat.le_of_ble_eq_true rfl)⟩ dL_ahead_45 (toI (fun r78 S79 h80 => ?_))
            obtain ⟨er78, fr78⟩ := h80
            have br78 := Lw.f97 b77 fr78
            refine g_if_eq (t := 56) F dL_ahead_48 (by decide) (fun c81 => ?_) (fun c81 => ?_)
            · have g1 := w0 er78 c81
              refine g_iconst (v := (-1)) F (by decide) dL_ahead_56 ?_
              refine g_istore (L' := [(8, .int (-1)), (9, .int (nI a)), (7, .int x1), (0, .ref (q 80)), (1, .int x), (2, .int y), (3, .ref (q 94)), (4, .ref (q 95)), (5, .ref (q 96)), (6, .ref (q 97))]) F dL_ahead_57 (Nat.le_of_ble_eq_true rfl) rfl ?_
              obtain ⟨x82, ex82⟩ : ∃ y9 : Int32, y9 = (nI a) + 100 := ⟨_, rfl⟩
              refine g_iinc (k := 1) (v := x82) (L' := [(9, .int x82), (8, .int (-1)), (7, .int x1), (0, .ref (q 80)), (1, .int x), (2, .int y), (3, .ref (q 94)), (4, .ref (q 95)), (5, .ref (q 96)), (6, .ref (q 97))]) F dL_ahead_59 rfl (by rw [ex82]; rfl) (Nat.le_of_ble_eq_true rfl) rfl ?_
              refine g_goto (t := 13) F dL_ahead_62 (by decide) ?_
              obtain rfl : x82 = nI (a + 100) := (ex82.trans nI_p100)
              refine g_sub (L' := [(9, .int (nI (a + 100))), (8, .int (-1)), (7, .int x1), (0, .ref (q 80)), (1, .int x), (2, .int y), (3, .ref (q 94)), (4, .ref (q 95)), (5, .ref (q 96)), (6, .ref (q 97))]) [0, 1, 2, 3, 4, 5, 6, 7, 8, 9] rfl ?_
              exact ihlp2 (a + 100) (i + 1) ((-1)) (zAm z a) (S79) (by omega) (by omega) (by omega) (fun _ => h0) (fun _ => am_am) (.inr ⟨_, rfl⟩) (.inl ⟨rfl, fun j hj => (by omega : j < i ∨ j = i).elim (hno j) (fun e => by subst e; rw [← ha]; exact g1)⟩) br78
            · have g1 := w1 er78 c81
              refine g_iload F 0 rfl dL_ahead_51 ?_
              refine g_goto (t := 57) F dL_ahead_53 (by decide) ?_
              refine g_istore (L' := [(8, .int (nI a)), (9, .int (nI a)), (7, .int x1), (0, .ref (q 80)), (1, .int x), (2, .int y), (3, .ref (q 94)), (4, .ref (q 95)), (5, .ref (q 96)), (6, .ref (q 97))]) F dL_ahead_57 (Nat.le_of_ble_eq_true rfl) rfl ?_
              obtain ⟨x83, ex83⟩ : ∃ y9 : Int32, y9 = (nI a) + 100 := ⟨_, rfl⟩
              refine g_iinc (k := 1) (v := x83) (L' := [(9, .int x83), (8, .int (nI a)), (7, .int x1), (0, .ref (q 80)), (1, .int x), (2, .int y), (3, .ref (q 94)), (4, .ref (q 95)), (5, .ref (q 96)), (6, .ref (q 97))]) F dL_ahead_59 rfl (by rw [ex83]; rfl) (Nat.le_of_ble_eq_true rfl) rfl ?_
              refine g_goto (t := 13) F dL_ahead_62 (by decide) ?_
              obtain rfl : x83 = nI (a + 100) := (ex83.trans nI_p100)
              refine g_sub (L' := [(9, .int (nI (a + 100))), (8, .int (nI a)), (7, .int x1), (0, .ref (q 80)), (1, .int x), (2, .int y), (3, .ref (q 94)), (4, .ref (q 95)), (5, .ref (q 96)), (6, .ref (q 97))]) [0, 1, 2, 3, 4, 5, 6, 7, 8, 9] rfl ?_
              exact ihlp2 (a + 100) (i + 1) ((nI a)) (zAm z a) (S79) (by omega) (by omega) (by omega) (fun _ => h0) (fun _ => am_am) (.inr ⟨_, rfl⟩) (.inr ⟨nI_0le (by omega), le_hit h0 ha (by omega) hno g1⟩) br78
  exact lp2 4001 200 0 (-1) z S (by omega) (by omega) (by omega) (fun h => absurd h (by omega)) (fun _ => rfl) (.inl rfl) (.inl ⟨rfl, fun j hj => absurd hj (by omega)⟩) hL
