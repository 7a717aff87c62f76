set_option maxHeartbeats 4000000 in
set_option maxRecDepth 100000 in
theorem kX10_endNumber (g : Glo) (S : PS) (q : Nat → Nat) (hq : Shp S.1 S.2.1 q) (t : TT) (hT : TRl S q t) (hI : rdI t) (h2 : t.1 = 2) : Ct g mX10_endNumber 0 0 [.ref (q 94)] S (pV9 (fun S' => Fr S S' q [94, 99] ∧ (∀ j, j < 12 → pI S' (q 94) j = pI S (q 94) j) ∧ TRl S' q (rdE t))) := by
  refine Ct.of (by decide) (Nat.le_of_ble_eq_true rfl) (fun Γ hg F T => ?_)
  subst hg
  show G Γ S 0 0 0 [(0, .ref (q 94))] []
  have h39 := hI.2.1
  refine g_aload_n (k := 0) F 0 rfl dX10_endNumber_0 ?_
  refine gfX10_24 F (qi94 hq) (qr94_16 hq) dX10_endNumber_1 ?_
  refine g_aload_n (k := 0) F 0 rfl dX10_endNumber_4 ?_
  refine gfX10_255e F (qi94 hq) hT.2.1 dX10_endNumber_5 ?_
  refine g_aload_n (k := 0) F 0 rfl dX10_endNumber_8 ?_
  refine gfX10_242e F (qi94 hq) (hT.2.2.1 h2).1 dX10_endNumber_9 ?_
  have jn2 : ∀ (w27 : Int32), w27 = (if t.2.1 then -t.2.2.1 else t.2.2.1) → G Γ S 0 0 27 [(0, .ref (q 94))] [.int w27, .int (nI t.2.2.2.1), .ref (q 99)] := by
    intro w27 hw
    refine g_iast (j := t.2.2.2.1) F (qi99 hq) rfl (by rw [(qn99 hq)]; omega) (by rw [(qn99 hq)]; decide) dX10_endNumber_27 ?_
    refine g_aload_n (k := 0) F 0 rfl dX10_endNumber_28 ?_
    refine g_dup F dX10_endNumber_29 rfl ?_
    refine gfX10_255e F (qi94 hq) ((up2_a (qne hq (by decide) (by decide) (by decide))).trans hT.2.1) dX10_endNumber_30 ?_
    refine g_iconst (v := 1) F (by decide) dX10_endNumber_33 ?_
    refine g_iadd F dX10_endNumber_34 ?_
    refine g_rei (nI (t.2.2.2.1 + 1)) (nadd rfl rfl) ?_
    refine pfX10_255 F (qi94 hq) dX10_endNumber_35 ?_
    refine g_aload_n (k := 0) F 0 rfl dX10_endNumber_38 ?_
    refine g_iconst (v := 0) F (by decide) dX10_endNumber_39 ?_
    refine pfX10_239 F (qi94 hq) dX10_endNumber_40 ?_
    refine g_vret F T ⟨rfl, ?_⟩ (Nat.le_of_ble_eq_true rfl) (Nat.le_of_ble_eq_true rfl) dX10_endNumber_43
    exact ⟨(Fr.wI hq (Fr.wI hq (Fr.wI hq Fr.rf (by decide) (by decide)) (by decide) (by decide)) (by decide) (by decide)), (low_I (by decide) (low_I (by decide) (low_o (qne hq (by decide) (by decide) (by decide)) low_0))), up2_s, ((up2_k (by decide)).trans up2_s), fun z9 => absurd z9 (by show ¬ 0 = 2; omega), fun i9 hi9 => (congrFun ((up2_r (qne hq (by decide) (by decide) (by decide))).trans ((up2_r (qne hq (by decide) (by decide) (by decide))).trans (up2_upd.trans (congrArg (fun f9 => upd f9 (t.2.2.2.1) w27) rfl)))) i9).trans (by rw [hw]; exact app_tx hT.2.2.2 hi9)⟩
  refine g_if_eq (t := 23) F dX10_endNumber_12 (by decide) (fun c1 => ?_) (fun c1 => ?_)
  · have hb9 := c1
    refine g_aload_n (k := 0) F 0 rfl dX10_endNumber_23 ?_
    refine gfX10_252e F (qi94 hq) (hT.2.2.1 h2).2 dX10_endNumber_24 ?_
    exact jn2 (t.2.2.1) (by rw [if_neg (by rw [bI_0 hb9]; decide)])
  · have hb9 := c1
    refine g_aload_n (k := 0) F 0 rfl dX10_endNumber_15 ?_
    refine gfX10_252e F (qi94 hq) (hT.2.2.1 h2).2 dX10_endNumber_16 ?_
    refine g_ineg F dX10_endNumber_19 ?_
    refine g_goto (t := 27) F dX10_endNumber_20 (by decide) ?_
    exact jn2 ((-t.2.2.1)) (by rw [if_pos (bI_1 hb9)])
set_option maxHeartbeats 4000000 in
set_option maxRecDepth 100000 in
theorem kX10_begins (g : Glo) (S : PS) (q : Nat → Nat) (hq : Shp S.1 S.2.1 q) (t : TT) (hT : TRl S q t) (h2 : t.1 < 2) (c : Int32) : Ct g mX10_begins 0 0 [.ref (q 94), .int c] S (pI9 (fun r S' => ((r = 1 ∧ ∃ t2, rdB t c = some t2 ∧ TRl S' q t2) ∨ (r = 0 ∧ rdB t c = none)) ∧ Fr S S' q [94, 99] ∧ (∀ j, j < 12 → pI S' (q 94) j = pI S (q 94) j))) := by
  refine Ct.of (by decide) (Nat.le_of_ble_eq_true rfl) (fun Γ hg F T => ?_)
  subst hg
  show G Γ S 0 0 0 [(0, .ref (q 94)), (1, .int c)] []
  refine g_aload_n (k := 0) F 0 rfl dX10_begins_0 ?_
  refine gfX10_239e F (qi94 hq) hT.1 dX10_begins_1 ?_
  have jn2 : ¬ (t.1 = 0 ∧ c = 45) → G Γ S 0 0 25 [(0, .ref (q 94)), (1, .int c)] [] := by
    intro  hj
    refine g_iload_n (k := 1) F 1 rfl dX10_begins_25 ?_
    refine g_i2l F dX10_begins_26 ?_
    refine g_aload_n (k := 0) F 0 rfl dX10_begins_27 ?_
    refine gfX10_239e F (qi94 hq) hT.1 dX10_begins_28 ?_
    have jn4 : ∀ (w43 : Int64), w43 = (if t.1 = 0 then 48 else 49) → G Γ S 0 0 43 [(0, .ref (q 94)), (1, .int c)] [.long w43, .long ((c).toInt64)] := by
      intro w43 hx
      refine g_ldc2 F mw650 dX10_begins_43 ?_
      refine g_callS F (kX10_within Γ.1 _ _ _ _) okX10_within mw158 ⟨(Nat.le_of_ble_eq_true rfl), (Nat.le_of_ble_eq_true rfl)⟩ rfl rfl (Nat.le_of_ble_eq_true rfl) ⟨(Nat.le_of_ble_eq_true rfl), (Nat.le_of_ble_eq_true rfl)⟩ dX10_begins_46 (toI (fun r5 S6 h7 => ?_))
      obtain ⟨er5, rfl⟩ := h7
      refine g_istore_n (k := 2) (L' := [(2, .int r5), (0, .ref (q 94)), (1, .int c)]) F dX10_begins_49 (Nat.le_of_ble_eq_true rfl) rfl ?_
      refine g_aload_n (k := 0) F 1 rfl dX10_begins_50 ?_
      refine g_aload_n (k := 0) F 1 rfl dX10_begins_51 ?_
      refine gfX10_239e F (qi94 hq) hT.1 dX10_begins_52 ?_
      refine g_iconst (v := 1) F (by decide) dX10_begins_55 ?_
      have jn9 : ∀ (w64 : Int32), w64 = bI (decide (t.1 = 1)) → G Γ S 0 0 64 [(2, .int r5), (0, .ref (q 94)), (1, .int c)] [.int w64, .ref (q 94)] := by
        intro w64 hy
        refine pfX10_242 F (by rw [hy]; cases decide (t.1 = 1) <;> rfl) (by rw [hy]; cases decide (t.1 = 1) <;> rfl) (qi94 hq) dX10_begins_64 ?_
        refine g_aload_n (k := 0) F 1 rfl dX10_begins_67 ?_
        refine g_iload_n (k := 1) F 2 rfl dX10_begins_68 ?_
        refine g_bipush (v := 48) F (by decide) dX10_begins_69 ?_
        refine g_isub F dX10_begins_71 ?_
        refine g_topi (fun x10 ex10 => ?_)
        refine pfX10_252 F (qi94 hq) dX10_begins_72 ?_
        refine g_aload_n (k := 0) F 1 rfl dX10_begins_75 ?_
        refine g_iload_n (k := 2) F 0 rfl dX10_begins_76 ?_
        have jn12 : ∀ (w88 : Int32), (w88 = 2 ∧ (if t.1 = 0 then 48 else 49) ≤ c.toInt ∧ c.toInt ≤ 57) ∨ (w88 = nI t.1 ∧ ¬ ((if t.1 = 0 then 48 else 49) ≤ c.toInt ∧ c.toInt ≤ 57)) → G Γ (wI (wI S (q 94) 13 w64) (q 94) 14 x10) 0 0 88 [(2, .int r5), (0, .ref (q 94)), (1, .int c)] [.int w88, .ref (q 94)] := by
          intro w88 hz
          refine pfX10_239 F (qi94 hq) dX10_begins_88 ?_
          refine g_iload_n (k := 2) F 0 rfl dX10_begins_91 ?_
          refine g_zret F T (by rw [er5]; split <;> rfl) ⟨_, rfl, ?_⟩ (Nat.le_of_ble_eq_true rfl) (Nat.le_of_ble_eq_true rfl) dX10_begins_92
          refine ⟨?_, (Fr.wI hq (Fr.wI hq (Fr.wI hq Fr.rf (by decide) (by decide)) (by decide) (by decide)) (by decide) (by decide)), (low_I (by decide) (low_I (by decide) (low_I (by decide) low_0)))⟩
          rcases hz with ⟨e9, hd9⟩ | ⟨e9, hd9⟩
          · exact .inl ⟨(wI_e er5 (by rw [hx]; split <;> decide) (by decide)).trans (if_pos hd9), (2, decide (t.1 = 1), c - 48, t.2.2.2), (if_neg hj).trans (if_pos hd9), up2_s.trans e9, ((up2_k (by decide)).trans ((up2_k (by decide)).trans ((up2_k (by decide)).trans hT.2.1))), fun _ => ⟨((up2_k (by decide)).trans ((up2_k (by decide)).trans up2_s)).trans hy, ((up2_k (by decide)).trans (up2_s.trans ex10))⟩, fun i9 hi9 => (congrFun ((up2_r (qne hq (by decide) (by decide) (by decide))).trans ((up2_r (qne hq (by decide) (by decide) (by decide))).trans ((up2_r (qne hq (by decide) (by decide) (by decide))).trans rfl))) i9).trans (hT.2.2.2 i9 hi9)⟩
          · exact .inr ⟨(wI_e er5 (by rw [hx]; split <;> decide) (by decide)).trans (if_neg hd9), (if_neg hj).trans (if_neg hd9)⟩
        refine g_if_eq (t := 84) F dX10_begins_77 (by decide) (fun c11 => ?_) (fun c11 => ?_)
        · have hd9 := wI_f (lo := (if t.1 = 0 then 48 else 49)) (hi := 57) er5 c11 (by rw [hx]; split <;> decide) (by decide)
          refine g_aload_n (k := 0) F 1 rfl dX10_begins_84 ?_
          refine gfX10_239e F (qi94 hq) ((up2_k (by decide)).trans ((up2_k (by decide)).trans hT.1)) dX10_begins_85 ?_
          exact jn12 ((nI t.1)) (Or.inr ⟨rfl, hd9⟩)
        · have hd9 := wI_t (lo := (if t.1 = 0 then 48 else 49)) (hi := 57) er5 c11 (by rw [hx]; split <;> decide) (by decide)
          refine g_iconst (v := 2) F (by decide) dX10_begins_80 ?_
          refine g_goto (t := 88) F dX10_begins_81 (by decide) ?_
          exact jn12 (2) (Or.inl ⟨rfl, hd9⟩)
      refine g_icmp_ne (t := 63) F dX10_begins_56 (by decide) (fun c8 => ?_) (fun c8 => ?_)
      · have hp9 : ¬ t.1 = 1 := fun h => c8 (by rw [h]; rfl)
        refine g_iconst (v := 0) F (by decide) dX10_begins_63 ?_
        exact jn9 (0) (by rw [decide_eq_false hp9]; rfl)
      · have hp9 : t.1 = 1 := by
          rw [show (1 : Int32) = nI 1 from rfl, nI_eq (by omega) (by omega)] at c8
          exact c8
        refine g_iconst (v := 1) F (by decide) dX10_begins_59 ?_
        refine g_goto (t := 64) F dX10_begins_60 (by decide) ?_
        exact jn9 (1) (by rw [decide_eq_true hp9]; rfl)
    refine g_if_ne (t := 40) F dX10_begins_31 (by decide) (fun c3 => ?_) (fun c3 => ?_)
    · have hp9 : ¬ t.1 = 0 := fun h => c3 (by rw [h]; rfl)
      refine g_ldc2 F mw660 dX10_begins_40 ?_
      exact jn4 (49) (by rw [if_neg hp9])
    · have hp9 : t.1 = 0 := by
        rw [show (0 : Int32) = nI 0 from rfl, nI_eq (by omega) (by omega)] at c3
        exact c3
      refine g_ldc2 F mw649 dX10_begins_34 ?_
      refine g_goto (t := 43) F dX10_begins_37 (by decide) ?_
      exact jn4 (48) (by rw [if_pos hp9])
  refine g_if_ne (t := 25) F dX10_begins_4 (by decide) (fun c1 => ?_) (fun c1 => ?_)
  · have hp9 : ¬ t.1 = 0 := fun h => c1 (by rw [h]; rfl)
    exact jn2  (fun h => hp9 h.1)
  · have hp9 : t.1 = 0 := by
      rw [show (0 : Int32) = nI 0 from rfl, nI_eq (by omega) (by omega)] at c1
      exact c1
    refine g_iload_n (k := 1) F 1 rfl dX10_begins_7 ?_
    refine g_bipush (v := 45) F (by decide) dX10_begins_8 ?_
    refine g_icmp_ne (t := 25) F dX10_begins_10 (by decide) (fun c13 => ?_) (fun c13 => ?_)
    · have hc9 : ¬ c = 45 := c13
      exact jn2  (fun h => hc9 h.2)
    · have hc9 : c = 45 := c13
      refine g_aload_n (k := 0) F 0 rfl dX10_begins_13 ?_
      refine g_iconst (v := 1) F (by decide) dX10_begins_14 ?_
      refine pfX10_239 F (qi94 hq) dX10_begins_15 ?_
      refine g_aload_n (k := 0) F 0 rfl dX10_begins_18 ?_
      refine g_iconst (v := 1) F (by decide) dX10_begins_19 ?_
      refine pfX10_242 F rfl rfl (qi94 hq) dX10_begins_20 ?_
      refine g_iconst (v := 1) F (by decide) dX10_begins_23 ?_
      refine g_zret F T rfl ⟨_, rfl, ?_⟩ (Nat.le_of_ble_eq_true rfl) (Nat.le_of_ble_eq_true rfl) dX10_begins_24
      exact ⟨.inl ⟨rfl, (1, true, t.2.2), if_pos ⟨hp9, hc9⟩, ((up2_k (by decide)).trans up2_s), ((up2_k (by decide)).trans ((up2_k (by decide)).trans hT.2.1)), fun z9 => absurd z9 (by show ¬ 1 = 2; omega), fun i9 hi9 => (congrFun ((up2_r (qne hq (by decide) (by decide) (by decide))).trans ((up2_r (qne hq (by decide) (by decide) (by decide))).trans rfl)) i9).trans (hT.2.2.2 i9 hi9)⟩, (Fr.wI hq (Fr.wI hq Fr.rf (by decide) (by decide)) (by decide) (by decide)), (low_I (by decide) (low_I (by decide) low_0))⟩
set_option maxHeartbeats 4000000 in
set_option maxRecDepth 100000 in
theorem kX10_goesOn (g : Glo) (S : PS) (q : Nat → Nat) (hq : Shp S.1 S.2.1 q) (t : TT) (hT : TRl S q t) (hI : rdI t) (h2 : t.1 = 2) (c : Int32) : Ct g mX10_goesOn 0 0 [.ref (q 94), .int c] S (pI9 (fun r S' => ((r = 1 ∧ ∃ t2, rdG t c = some t2 ∧ TRl S' q t2) ∨ (r = 0 ∧ rdG t c = none)) ∧ Fr S S' q [94, 99] ∧ (∀ j, j < 12 → pI S' (q 94) j = pI S (q 94) j))) := by
  refine Ct.of (by decide) (Nat.le_of_ble_eq_true rfl) (fun Γ hg F T => ?_)
  subst hg
  show G Γ S 0 0 0 [(0, .ref (q 94)), (1, .int c)] []
  have h39 := hI.2.1
  refine g_aload_n (k := 0) F 0 rfl dX10_goesOn_0 ?_
  refine gfX10_255e F (qi94 hq) hT.2.1 dX10_goesOn_1 ?_
  refine g_iconst (v := 2) F (by decide) dX10_goesOn_4 ?_
  refine g_irem F dX10_goesOn_5 (by decide) ?_
  refine g_rei (nI (t.2.2.2.1 % 2)) (nrem rfl rfl (by omega) (by omega) (by omega)) ?_
  have jn2 : ∀ (w45 : Int32), (w45 = 1 ∧ rdN t c) ∨ (w45 = 0 ∧ ¬ rdN t c) → G Γ S 0 0 45 [(0, .ref (q 94)), (1, .int c)] [.int w45] := by
    intro w45 hw
    refine g_istore_n (k := 2) (L' := [(2, .int w45), (0, .ref (q 94)), (1, .int c)]) F dX10_goesOn_45 (Nat.le_of_ble_eq_true rfl) rfl ?_
    refine g_iload_n (k := 2) F 0 rfl dX10_goesOn_46 ?_
    refine g_if_eq (t := 56) F dX10_goesOn_47 (by decide) (fun c3 => ?_) (fun c3 => ?_)
    · have hN := w0 hw c3
      refine g_bipush (v := 10) F (by decide) dX10_goesOn_56 ?_
      refine g_aload_n (k := 0) F 1 rfl dX10_goesOn_58 ?_
      refine gfX10_252e F (qi94 hq) (hT.2.2.1 h2).2 dX10_goesOn_59 ?_
      refine g_imul F dX10_goesOn_62 ?_
      refine g_iload_n (k := 1) F 2 rfl dX10_goesOn_63 ?_
      refine g_iadd F dX10_goesOn_64 ?_
      refine g_bipush (v := 48) F (by decide) dX10_goesOn_65 ?_
      refine g_isub F dX10_goesOn_67 ?_
      refine g_topi (fun x4 ex4 => ?_)
      refine g_istore_n (k := 3) (L' := [(3, .int x4), (2, .int w45), (0, .ref (q 94)), (1, .int c)]) F dX10_goesOn_68 (Nat.le_of_ble_eq_true rfl) rfl ?_
      refine g_iload_n (k := 1) F 3 rfl dX10_goesOn_69 ?_
      refine g_i2l F dX10_goesOn_70 ?_
      refine g_ldc2 F mw649 dX10_goesOn_71 ?_
      refine g_ldc2 F mw650 dX10_goesOn_74 ?_
      refine g_callS F (kX10_within Γ.1 _ _ _ _) okX10_within mw158 ⟨(Nat.le_of_ble_eq_true rfl), (Nat.le_of_ble_eq_true rfl)⟩ rfl rfl (Nat.le_of_ble_eq_true rfl) ⟨(Nat.le_of_ble_eq_true rfl), (Nat.le_of_ble_eq_true rfl)⟩ dX10_goesOn_77 (toI (fun r5 S6 h7 => ?_))
      obtain ⟨er5, rfl⟩ := h7
      have jn9 : ∀ (w102 : Int32), (w102 = 1 ∧ rdM t c) ∨ (w102 = 0 ∧ ¬ rdM t c) → G Γ S 0 0 102 [(3, .int x4), (2, .int w45), (0, .ref (q 94)), (1, .int c)] [.int w102] := by
        intro w102 hv
        refine g_istore (L' := [(4, .int w102), (3, .int x4), (2, .int w45), (0, .ref (q 94)), (1, .int c)]) F dX10_goesOn_102 (Nat.le_of_ble_eq_true rfl) rfl ?_
        refine g_aload_n (k := 0) F 3 rfl dX10_goesOn_104 ?_
        refine g_iload F 0 rfl dX10_goesOn_105 ?_
        have jn11 : ∀ (w118 : Int32), (w118 = 10 * t.2.2.1 + c - 48 ∧ rdM t c) ∨ (¬ rdM t c) → G Γ S 0 0 118 [(4, .int w102), (3, .int x4), (2, .int w45), (0, .ref (q 94)), (1, .int c)] [.int w118, .ref (q 94)] := by
          intro w118 hu
          refine pfX10_252 F (qi94 hq) dX10_goesOn_118 ?_
          refine g_iload F 0 rfl dX10_goesOn_121 ?_
          refine g_zret F T (by rcases hv with h9 | h9 <;> rw [h9.1] <;> rfl) ⟨_, rfl, ?_⟩ (Nat.le_of_ble_eq_true rfl) (Nat.le_of_ble_eq_true rfl) dX10_goesOn_123
          refine ⟨?_, (Fr.wI hq Fr.rf (by decide) (by decide)), (low_I (by decide) low_0)⟩
          rcases hv with ⟨e9, hM⟩ | ⟨e9, hM⟩
          · have hu9 : w118 = 10 * t.2.2.1 + c - 48 := by rcases hu with h | h; exact h.1; exact absurd hM h
            exact .inl ⟨e9, (2, t.2.1, 10 * t.2.2.1 + c - 48, t.2.2.2), (ifP_f hN).trans (ifP_t hM), ((up2_k (by decide)).trans hT.1).trans (by rw [h2]), ((up2_k (by decide)).trans hT.2.1), fun _ => ⟨((up2_k (by decide)).trans (hT.2.2.1 h2).1), up2_s.trans hu9⟩, fun i9 hi9 => (congrFun ((up2_r (qne hq (by decide) (by decide) (by decide))).trans rfl) i9).trans (hT.2.2.2 i9 hi9)⟩
          · exact .inr ⟨e9, (ifP_f hN).trans (ifP_f hM)⟩
        refine g_if_eq (t := 114) F dX10_goesOn_107 (by decide) (fun c10 => ?_) (fun c10 => ?_)
        · have hb9 := c10
          refine g_aload_n (k := 0) F 3 rfl dX10_goesOn_114 ?_
          refine gfX10_252e F (qi94 hq) (hT.2.2.1 h2).2 dX10_goesOn_115 ?_
          exact jn11 (t.2.2.1) (.inr (w0 hv hb9))
        · have hb9 := c10
          refine g_iload_n (k := 3) F 1 rfl dX10_goesOn_110 ?_
          refine g_goto (t := 118) F dX10_goesOn_111 (by decide) ?_
          exact jn11 (x4) (.inl ⟨ex4, w1 hv hb9⟩)
      refine g_if_eq (t := 101) F dX10_goesOn_80 (by decide) (fun c8 => ?_) (fun c8 => ?_)
      · have hd9 := wI_f (lo := 48) (hi := 57) er5 c8 (by decide) (by decide)
        refine g_iconst (v := 0) F (by decide) dX10_goesOn_101 ?_
        exact jn9 (0) (.inr ⟨rfl, fun h => hd9 h.1⟩)
      · have hd9 := wI_t (lo := 48) (hi := 57) er5 c8 (by decide) (by decide)
        refine g_aload_n (k := 0) F 2 rfl dX10_goesOn_83 ?_
        refine gfX10_252e F (qi94 hq) (hT.2.2.1 h2).2 dX10_goesOn_84 ?_
        refine g_if_le (t := 101) F dX10_goesOn_87 (by decide) (fun c12 => ?_) (fun c12 => ?_)
        · have hv9 := c12
          refine g_iconst (v := 0) F (by decide) dX10_goesOn_101 ?_
          exact jn9 (0) (.inr ⟨rfl, fun h => h.2.1 hv9⟩)
        · have hv9 := c12
          refine g_iload_n (k := 3) F 0 rfl dX10_goesOn_90 ?_
          refine g_sipush (v := 1000) F (by decide) dX10_goesOn_91 ?_
          refine g_icmp_gt (t := 101) F dX10_goesOn_94 (by decide) (fun c13 => ?_) (fun c13 => ?_)
          · have hm9 : 1000 < 10 * t.2.2.1 + c - 48 := by rw [← ex4]; exact c13
            refine g_iconst (v := 0) F (by decide) dX10_goesOn_101 ?_
            exact jn9 (0) (.inr ⟨rfl, fun h => h.2.2 hm9⟩)
          · have hm9 : ¬ 1000 < 10 * t.2.2.1 + c - 48 := by rw [← ex4]; exact c13
            refine g_iconst (v := 1) F (by decide) dX10_goesOn_97 ?_
            refine g_goto (t := 102) F dX10_goesOn_98 (by decide) ?_
            exact jn9 (1) (.inl ⟨rfl, hd9, hv9, hm9⟩)
    · have hN := w1 hw c3
      refine g_aload_n (k := 0) F 1 rfl dX10_goesOn_50 ?_
      refine g_callV F (kX10_endNumber Γ.1 S q hq t hT hI h2) okX10_endNumber (qi94 hq) mw651 ⟨(Nat.le_of_ble_eq_true rfl), (Nat.le_of_ble_eq_true rfl)⟩ rfl rfl (Nat.le_of_ble_eq_true rfl) ⟨(Nat.le_of_ble_eq_true rfl), (Nat.le_of_ble_eq_true rfl)⟩ dX10_goesOn_51 (toV (fun S15 h16 => ?_))
      obtain ⟨fr14, lr14, tr14⟩ := h16
      have hq17 : Shp S15.1 S15.2.1 q := Fr.q fr14 hq
      refine g_iconst (v := 1) F (by decide) dX10_goesOn_54 ?_
      refine g_zret F T rfl ⟨_, rfl, ?_⟩ (Nat.le_of_ble_eq_true rfl) (Nat.le_of_ble_eq_true rfl) dX10_goesOn_55
      exact ⟨.inl ⟨rfl, rdE t, ifP_t hN, tr14⟩, (Fr.tr (l := [94, 99]) Fr.rf fr14 (by decide) (by decide)), (low_t lr14 low_0)⟩
  refine g_if_ne (t := 23) F dX10_goesOn_6 (by decide) (fun c1 => ?_) (fun c1 => ?_)
  · have hp9 : ¬ t.2.2.2.1 % 2 = 0 := fun h => c1 (by rw [h]; rfl)
    refine g_iload_n (k := 1) F 1 rfl dX10_goesOn_23 ?_
    refine g_bipush (v := 59) F (by decide) dX10_goesOn_24 ?_
    refine g_icmp_ne (t := 44) F dX10_goesOn_26 (by decide) (fun c18 => ?_) (fun c18 => ?_)
    · have hc9 : ¬ c = 59 := c18
      refine g_iconst (v := 0) F (by decide) dX10_goesOn_44 ?_
      exact jn2 (0) (.inr ⟨rfl, fun h => h.elim (fun h => hp9 h.1) (fun h => hc9 h.2.1)⟩)
    · have hc9 : c = 59 := c18
      refine g_aload_n (k := 0) F 0 rfl dX10_goesOn_29 ?_
      refine gfX10_255e F (qi94 hq) hT.2.1 dX10_goesOn_30 ?_
      refine g_iconst (v := 1) F (by decide) dX10_goesOn_33 ?_
      refine g_iadd F dX10_goesOn_34 ?_
      refine g_rei (nI (t.2.2.2.1 + 1)) (nadd rfl rfl) ?_
      refine g_bipush (v := 40) F (by decide) dX10_goesOn_35 ?_
      refine g_icmp_ge (t := 44) F dX10_goesOn_37 (by decide) (fun c19 => ?_) (fun c19 => ?_)
      · have hq9 : ¬ t.2.2.2.1 + 1 < 40 := by
          rw [show (40 : Int32) = nI 40 from rfl, nI_leI (by omega) (by omega)] at c19
          omega
        refine g_iconst (v := 0) F (by decide) dX10_goesOn_44 ?_
        exact jn2 (0) (.inr ⟨rfl, fun h => h.elim (fun h => hp9 h.1) (fun h => hq9 h.2.2)⟩)
      · have hq9 : t.2.2.2.1 + 1 < 40 := by
          rw [show (40 : Int32) = nI 40 from rfl, nI_leI (by omega) (by omega)] at c19
          omega
        refine g_iconst (v := 1) F (by decide) dX10_goesOn_40 ?_
        refine g_goto (t := 45) F dX10_goesOn_41 (by decide) ?_
        exact jn2 (1) (.inl ⟨rfl, .inr ⟨hp9, hc9, hq9⟩⟩)
  · have hp9 : t.2.2.2.1 % 2 = 0 := by
      rw [show (0 : Int32) = nI 0 from rfl, nI_eq (by omega) (by omega)] at c1
      exact c1
    refine g_iload_n (k := 1) F 1 rfl dX10_goesOn_9 ?_
    refine g_bipush (v := 44) F (by decide) dX10_goesOn_10 ?_
    refine g_icmp_ne (t := 19) F dX10_goesOn_12 (by decide) (fun c20 => ?_) (fun c20 => ?_)
    · have hc9 : ¬ c = 44 := c20
      refine g_iconst (v := 0) F (by decide) dX10_goesOn_19 ?_
      refine g_goto (t := 45) F dX10_goesOn_20 (by decide) ?_
      exact jn2 (0) (.inr ⟨rfl, fun h => h.elim (fun h => hc9 h.2) (fun h => h.1 hp9)⟩)
    · have hc9 : c = 44 := c20
      refine g_iconst (v := 1) F (by decide) dX10_goesOn_15 ?_
      refine g_goto (t := 45) F dX10_goesOn_16 (by decide) ?_
      exact jn2 (1) (.inl ⟨rfl, .inl ⟨hp9, hc9⟩⟩)
set_option maxHeartbeats 4000000 in
set_option maxRecDepth 100000 in
theorem kX10_readText (g : Glo) (S : PS) (q : Nat → Nat) (hq : Shp S.1 S.2.1 q) (n : Nat) (tx : Nat → Int32) (h5 : pI S (q 94) 5 = nI n) (h60 : n ≤ 60) (htx : ∀ j, j < n → pI S (q 97) j = tx j) : Ct g mX10_readText 0 0 [.ref (q 94)] S (pI9 (fun r S' => r = nI (rdS tx n).1 ∧ Fr S S' q [94, 99] ∧ (∀ j, j < 12 → pI S' (q 94) j = pI S (q 94) j) ∧ ((rdS tx n).1 = n → TRl S' q (rdS tx n).2))) := by
  refine Ct.of (by decide) (Nat.le_of_ble_eq_true rfl) (fun Γ hg F T => ?_)
  subst hg
  show G Γ S 0 0 0 [(0, .ref (q 94))] []
  refine g_aload_n (k := 0) F 0 rfl dX10_readText_0 ?_
  refine g_iconst (v := 0) F (by decide) dX10_readText_1 ?_
  refine pfX10_239 F (qi94 hq) dX10_readText_2 ?_
  refine g_aload_n (k := 0) F 0 rfl dX10_readText_5 ?_
  refine g_iconst (v := 0) F (by decide) dX10_readText_6 ?_
  refine pfX10_255 F (qi94 hq) dX10_readText_7 ?_
  refine g_iconst (v := 0) F (by decide) dX10_readText_10 ?_
  refine g_istore_n (k := 1) (L' := [(1, .int 0), (0, .ref (q 94))]) F dX10_readText_11 (Nat.le_of_ble_eq_true rfl) rfl ?_
  have lp1 : ∀ (n9 : Nat) (i : Nat) (t : TT) (S1 : PS), n < i + n9 → (i ≤ n) → (rdS tx i = (i, t)) → (TRl S1 q t) → (Fr S S1 q [94, 99]) → (∀ j, j < 12 → pI S1 (q 94) j = pI S (q 94) j) → G Γ S1 0 0 12 [(1, .int (nI i)), (0, .ref (q 94))] [] := by
    intro n9
    induction n9 with
    | zero =>
      intro i t S1 hm9 hi hrd hT hf hl1
      exact absurd hm9 (by omega)
    | succ n9 ihlp1 =>
      intro i t S1 hm9 hi hrd hT hf hl1
      have hq2 : Shp S1.1 S1.2.1 q := Fr.q hf hq
      have hI : rdI t := by
        have h9 := (rdS_I (tx := tx) i).1
        rw [hrd] at h9
        exact h9
      refine g_iload_n (k := 1) F 0 rfl dX10_readText_12 ?_
      refine g_aload_n (k := 0) F 1 rfl dX10_readText_13 ?_
      refine gfX10_236e F (qi94 hq2) ((hl1 5 (by decide)).trans h5) dX10_readText_14 ?_
      refine g_icmp_ge (t := 63) F dX10_readText_17 (by decide) (fun c3 => ?_) (fun c3 => ?_)
      · have hi9 : i = n := by
          rw [nI_leI (by omega) (by omega)] at c3
          omega
        refine g_iload_n (k := 1) F 0 rfl dX10_readText_63 ?_
        refine g_iret F T ⟨_, rfl, ?_⟩ (Nat.le_of_ble_eq_true rfl) (Nat.le_of_ble_eq_true rfl) dX10_readText_64
        subst hi9
        exact ⟨by rw [hrd], hf, hl1, fun _ => by rw [hrd]; exact hT⟩
      · have hi9 : i < n := by
          rw [nI_leI (by omega) (by omega)] at c3
          omega
        refine g_aload_n (k := 0) F 1 rfl dX10_readText_20 ?_
        refine gfX10_239e F (qi94 hq2) hT.1 dX10_readText_21 ?_
        refine g_iconst (v := 2) F (by decide) dX10_readText_24 ?_
        refine g_icmp_ne (t := 44) F dX10_readText_25 (by decide) (fun c4 => ?_) (fun c4 => ?_)
        · have h29 : ¬ t.1 = 2 := fun h => c4 (by rw [h]; rfl)
          refine g_aload_n (k := 0) F 1 rfl dX10_readText_44 ?_
          refine g_aload_n (k := 0) F 1 rfl dX10_readText_45 ?_
          refine gfX10_16 F (qi94 hq2) (qr94_6 hq2) dX10_readText_46 ?_
          refine g_iload_n (k := 1) F 0 rfl dX10_readText_49 ?_
          refine g_ialde (hf.2.2 97 (by decide) (by decide)).1 (j := i) F (qi97 hq2) rfl (by rw [(qn97 hq2)]; omega) (by rw [(qn97 hq2)]; decide) dX10_readText_50 ?_
          refine g_rei (tx i) (htx i hi9) ?_
          refine g_callV F (kX10_begins Γ.1 S1 q hq2 t hT (by have := hI.1; omega) (tx i)) okX10_begins (qi94 hq2) mw656 ⟨(Nat.le_of_ble_eq_true rfl), (Nat.le_of_ble_eq_true rfl)⟩ rfl rfl (Nat.le_of_ble_eq_true rfl) ⟨(Nat.le_of_ble_eq_true rfl), (Nat.le_of_ble_eq_true rfl)⟩ dX10_readText_51 (toI (fun r5 S6 h7 => ?_))
          obtain ⟨or5, fr5, lr5⟩ := h7
          have hq8 : Shp S6.1 S6.2.1 q := Fr.q fr5 hq2
          refine g_if_eq (t := 63) F dX10_readText_54 (by decide) (fun c9 => ?_) (fun c9 => ?_)
          · have he9 : rdS tx n = (i, t) := rdS_end hrd ((rdC_1 h29).trans (ro_0 or5 c9)) hi9
            refine g_iload_n (k := 1) F 0 rfl dX10_readText_63 ?_
            refine g_iret F T ⟨_, rfl, ?_⟩ (Nat.le_of_ble_eq_true rfl) (Nat.le_of_ble_eq_true rfl) dX10_readText_64
            exact ⟨by rw [he9], (Fr.tr (l := [94, 99]) hf fr5 (by decide) (by decide)), (low_t lr5 hl1), fun z9 => absurd z9 (by rw [he9]; show ¬ i = n; omega)⟩
          · obtain ⟨t2, et3, hT2⟩ := ro_1 or5 c9
            have et2 := (rdC_1 h29).trans et3
            obtain ⟨x10, ex10⟩ : ∃ y9 : Int32, y9 = (nI i) + 1 := ⟨_, rfl⟩
            refine g_iinc (k := 0) (v := x10) (L' := [(1, .int x10), (0, .ref (q 94))]) F dX10_readText_57 rfl (by rw [ex10]; rfl) (Nat.le_of_ble_eq_true rfl) rfl ?_
            refine g_goto (t := 12) F dX10_readText_60 (by decide) ?_
            obtain rfl : x10 = nI (i + 1) := (ex10.trans (nI_1 _))
            refine g_sub (L' := [(1, .int (nI (i + 1))), (0, .ref (q 94))]) [0, 1] rfl ?_
            exact ihlp1 (i + 1) (t2) (S6) (by omega) (by omega) (rdS_go hrd et2) hT2 (Fr.tr (l := [94, 99]) hf fr5 (by decide) (by decide)) (low_t lr5 hl1)
        · have h29 : t.1 = 2 := by
            have := hI.1
            rw [show (2 : Int32) = nI 2 from rfl, nI_eq (by omega) (by omega)] at c4
            exact c4
          refine g_aload_n (k := 0) F 1 rfl dX10_readText_28 ?_
          refine g_aload_n (k := 0) F 1 rfl dX10_readText_29 ?_
          refine gfX10_16 F (qi94 hq2) (qr94_6 hq2) dX10_readText_30 ?_
          refine g_iload_n (k := 1) F 0 rfl dX10_readText_33 ?_
          refine g_ialde (hf.2.2 97 (by decide) (by decide)).1 (j := i) F (qi97 hq2) rfl (by rw [(qn97 hq2)]; omega) (by rw [(qn97 hq2)]; decide) dX10_readText_34 ?_
          refine g_rei (tx i) (htx i hi9) ?_
          refine g_callV F (kX10_goesOn Γ.1 S1 q hq2 t hT hI h29 (tx i)) okX10_goesOn (qi94 hq2) mw644 ⟨(Nat.le_of_ble_eq_true rfl), (Nat.le_of_ble_eq_true rfl)⟩ rfl rfl (Nat.le_of_ble_eq_true rfl) ⟨(Nat.le_of_ble_eq_true rfl), (Nat.le_of_ble_eq_true rfl)⟩ dX10_readText_35 (toI (fun r11 S12 h13 => ?_))
          obtain ⟨or11, fr11, lr11⟩ := h13
          have hq14 : Shp S12.1 S12.2.1 q := Fr.q fr11 hq2
          refine g_if_eq (t := 63) F dX10_readText_38 (by decide) (fun c15 => ?_) (fun c15 => ?_)
          · have he9 : rdS tx n = (i, t) := rdS_end hrd ((rdC_2 h29).trans (ro_0 or11 c15)) hi9
            refine g_iload_n (k := 1) F 0 rfl dX10_readText_63 ?_
            refine g_iret F T ⟨_, rfl, ?_⟩ (Nat.le_of_ble_eq_true rfl) (Nat.le_of_ble_eq_true rfl) dX10_readText_64
            exact ⟨by rw [he9], (Fr.tr (l := [94, 99]) hf fr11 (by decide) (by decide)), (low_t lr11 hl1), fun z9 => absurd z9 (by rw [he9]; show ¬ i = n; omega)⟩
          · obtain ⟨t2, et3, hT2⟩ := ro_1 or11 c15
            have et2 := (rdC_2 h29).trans et3
            refine g_goto (t := 57) F dX10_readText_41 (by decide) ?_
            obtain ⟨x16, ex16⟩ : ∃ y9 : Int32, y9 = (nI i) + 1 := ⟨_, rfl⟩
            refine g_iinc (k := 0) (v := x16) (L' := [(1, .int x16), (0, .ref (q 94))]) F dX10_readText_57 rfl (by rw [ex16]; rfl) (Nat.le_of_ble_eq_true rfl) rfl ?_
            refine g_goto (t := 12) F dX10_readText_60 (by decide) ?_
            obtain rfl : x16 = nI (i + 1) := (ex16.trans (nI_1 _))
            refine g_sub (L' := [(1, .int (nI (i + 1))), (0, .ref (q 94))]) [0, 1] rfl ?_
            exact ihlp1 (i + 1) (t2) (S12) (by omega) (by omega) (rdS_go hrd et2) hT2 (Fr.tr (l := [94, 99]) hf fr11 (by decide) (by decide)) (low_t lr11 hl1)
  exact lp1 (n + 1) 0 (0, false, 0, 0, fun _ => 0) (wI (wI S (q 94) 12 0) (q 94) 15 0) (by omega) (by omega) rfl ⟨((up2_k (by decide)).trans up2_s), up2_s, fun z9 => absurd z9 (by show ¬ 0 = 2; omega), fun i9 hi9 => absurd hi9 (Nat.not_lt_zero i9)⟩ (Fr.wI hq (Fr.wI hq Fr.rf (by decide) (by decide)) (by decide) (by decide)) (low_I (by decide) (low_I (by decide) low_0))
