def mL_setAnchor : Mt := (yL_setAnchor, cL_setAnchor, 5, (some .int), 7, 133, 4)
theorem okL_setAnchor : okSW mL_setAnchor [(0, 10, 13, 13)] := ⟨⟨by decide +kernel, by decide +kernel, by decide +kernel⟩, mw115, mw113, mw114⟩
set_option maxHeartbeats 4000000 in
set_option maxRecDepth 100000 in
theorem kL_setAnchor (g : Glo) (S : PS) (q : Nat → Nat) (hq : Shp S.1 S.2.1 q) (z : ZZ) (H : List ZZ) (l : Int32) (n : Nat) (tx : Nat → Int32) (hI : Iw (z, H, l, n, tx)) (hw : Cl S q (z, H, l, n, tx)) (x : Int32) (y : Int32) : Cw g mL_setAnchor [(0, 10, 13, 13)] 3 18 [.ref (q 80), .int x, .int y, .ref (q 100)] S (pI9 (fun r S' => r = (oAnc x y (z, H, l, n, tx)).1 ∧ ((oAnc x y (z, H, l, n, tx)).1 = 0 → pJ S' (q 100) 0 = (oAnc x y (z, H, l, n, tx)).2.1.toInt64) ∧ FrP S S' q P94x ∧ Cl S' q (oAnc x y (z, H, l, n, tx)).2.2)) := by
  refine Cw.of (by decide) (Nat.le_of_ble_eq_true rfl) (fun Γ hg F T hT => ?_)
  subst hg
  show G Γ S 0 0 0 [(0, .ref (q 80)), (1, .int x), (2, .int y), (3, .ref (q 100))] []
  refine g_aload_n (k := 3) F 3 rfl dL_setAnchor_0 ?_
  refine g_iconst (v := 0) F (by decide) dL_setAnchor_1 ?_
  refine g_aload_n (k := 0) F 0 rfl dL_setAnchor_2 ?_
  refine g_iload_n (k := 1) F 1 rfl dL_setAnchor_3 ?_
  refine g_iload_n (k := 2) F 2 rfl dL_setAnchor_4 ?_
  refine x_callV F (kX9_setAnchor Γ.1 S q hq z H l n tx hI.1.1 hw x y) okX9_setAnchor (qi80 hq) mw117 ⟨(Nat.le_of_ble_eq_true rfl), (Nat.le_of_ble_eq_true rfl)⟩ rfl rfl (Nat.le_of_ble_eq_true rfl) ⟨(Nat.le_of_ble_eq_true rfl), (Nat.le_of_ble_eq_true rfl)⟩ dL_setAnchor_5 (fun E S3 h3 => ?_) (toI (fun r S2 h => ?_))
  · obtain ⟨hE, hF, hC⟩ := h3
    obtain ⟨rfl, hc⟩ := hE
    refine x_catch2 (nm := eIAE) (k := 4) (L' := [(0, .ref (q 80)), (1, .int x), (2, .int y), (3, .ref (q 100))]) F [] ⟨0, 10, 13, 13⟩ [] (by rw [hT]; rfl) (fun z9 hz9 => (by cases hz9)) (by decide) (by decide) mw116 cst_IAE dL_setAnchor_13 (Nat.le_of_ble_eq_true rfl) rfl ?_
    refine g_iconst (v := 1) F (by decide) dL_setAnchor_15 ?_
    refine g_iret F T ⟨_, rfl, ?_⟩ (Nat.le_of_ble_eq_true rfl) (Nat.le_of_ble_eq_true rfl) dL_setAnchor_16
    exact ⟨hc.symm, fun h9 => absurd (h9.symm.trans hc) (by decide), P_x hF, hC⟩
  · obtain ⟨h0, er, hF, hC⟩ := h
    have hq2 : Shp S2.1 S2.2.1 q := FrP.q hF hq
    refine g_i2l F dL_setAnchor_8 ?_
    refine g_last (j := 0) F (qi100 hq2) rfl (by rw [qn100 hq2]; decide) (by rw [qn100 hq2]; decide) dL_setAnchor_9 ?_
    refine g_goto (t := 17) F dL_setAnchor_10 (by decide) ?_
    refine g_iconst (v := 0) F (by decide) dL_setAnchor_17 ?_
    refine g_iret F T ⟨_, rfl, ?_⟩ (Nat.le_of_ble_eq_true rfl) (Nat.le_of_ble_eq_true rfl) dL_setAnchor_18
    exact ⟨h0.symm, fun _ => up2_s.trans (by rw [er]), P_100 hq hF, Cl_100 hq2 hC⟩
def mL_set : Mt := (yL_set, cL_set, 5, (some .int), 8, 134, 4)
theorem okL_set : okSW mL_set [(0, 10, 13, 18), (0, 10, 17, 13)] := ⟨⟨by decide +kernel, by decide +kernel, by decide +kernel⟩, mw176, mw175, mw114⟩
set_option maxHeartbeats 4000000 in
set_option maxRecDepth 100000 in
theorem kL_set (g : Glo) (S : PS) (q : Nat → Nat) (hq : Shp S.1 S.2.1 q) (z : ZZ) (H : List ZZ) (l : Int32) (n : Nat) (tx : Nat → Int32) (hI : Iw (z, H, l, n, tx)) (hw : Cl S q (z, H, l, n, tx)) (k : Int32) (v : Int32) : Cw g mL_set [(0, 10, 13, 18), (0, 10, 17, 13)] 3 18 [.ref (q 80), .int k, .int v, .ref (q 100)] S (pI9 (fun r S' => r = (oSet k v (z, H, l, n, tx)).1 ∧ ((oSet k v (z, H, l, n, tx)).1 = 0 → pJ S' (q 100) 0 = (oSet k v (z, H, l, n, tx)).2.1.toInt64) ∧ FrP S S' q P94x ∧ Cl S' q (oSet k v (z, H, l, n, tx)).2.2)) := by
  refine Cw.of (by decide) (Nat.le_of_ble_eq_true rfl) (fun Γ hg F T hT => ?_)
  subst hg
  show G Γ S 0 0 0 [(0, .ref (q 80)), (1, .int k), (2, .int v), (3, .ref (q 100))] []
  refine g_aload_n (k := 3) F 3 rfl dL_set_0 ?_
  refine g_iconst (v := 0) F (by decide) dL_set_1 ?_
  refine g_aload_n (k := 0) F 0 rfl dL_set_2 ?_
  refine g_iload_n (k := 1) F 1 rfl dL_set_3 ?_
  refine g_iload_n (k := 2) F 2 rfl dL_set_4 ?_
  refine x_callV F (kX9_set Γ.1 S q hq z H l n tx hI.1.1 hw k v) okX9_set (qi80 hq) mw178 ⟨(Nat.le_of_ble_eq_true rfl), (Nat.le_of_ble_eq_true rfl)⟩ rfl rfl (Nat.le_of_ble_eq_true rfl) ⟨(Nat.le_of_ble_eq_true rfl), (Nat.le_of_ble_eq_true rfl)⟩ dL_set_5 (fun E S3 h3 => ?_) (toI (fun r S2 h => ?_))
  · obtain ⟨hE, hF, hC⟩ := h3
    rcases hE with ⟨rfl, hc⟩ | ⟨rfl, hc⟩
    · refine x_catch2 (nm := eIOB) (k := 4) (L' := [(0, .ref (q 80)), (1, .int k), (2, .int v), (3, .ref (q 100))]) F [] ⟨0, 10, 13, 18⟩ [⟨0, 10, 17, 13⟩] (by rw [hT]; rfl) (fun z9 hz9 => (by cases hz9)) (by decide) (by decide) mw177 cst_IOB dL_set_13 (Nat.le_of_ble_eq_true rfl) rfl ?_
      refine g_iconst (v := 1) F (by decide) dL_set_15 ?_
      refine g_iret F T ⟨_, rfl, ?_⟩ (Nat.le_of_ble_eq_true rfl) (Nat.le_of_ble_eq_true rfl) dL_set_16
      exact ⟨hc.symm, fun h9 => absurd (h9.symm.trans hc) (by decide), P_x hF, hC⟩
    · refine x_catch2 (nm := eIAE) (k := 4) (L' := [(0, .ref (q 80)), (1, .int k), (2, .int v), (3, .ref (q 100))]) F [⟨0, 10, 13, 18⟩] ⟨0, 10, 17, 13⟩ [] (by rw [hT]; rfl) (fun z9 hz9 => by
              simp only [List.mem_cons, List.not_mem_nil, or_false] at hz9
              subst hz9
              exact .inr ⟨by decide, eIOB, mw177, by decide⟩) (by decide) (by decide) mw116 cst_IAE dL_set_17 (Nat.le_of_ble_eq_true rfl) rfl ?_
      refine g_iconst (v := 2) F (by decide) dL_set_19 ?_
      refine g_iret F T ⟨_, rfl, ?_⟩ (Nat.le_of_ble_eq_true rfl) (Nat.le_of_ble_eq_true rfl) dL_set_20
      exact ⟨hc.symm, fun h9 => absurd (h9.symm.trans hc) (by decide), P_x hF, hC⟩
  · obtain ⟨h0, er, hF, hC⟩ := h
    have hq2 : Shp S2.1 S2.2.1 q := FrP.q hF hq
    refine g_i2l F dL_set_8 ?_
    refine g_last (j := 0) F (qi100 hq2) rfl (by rw [qn100 hq2]; decide) (by rw [qn100 hq2]; decide) dL_set_9 ?_
    refine g_goto (t := 21) F dL_set_10 (by decide) ?_
    refine g_iconst (v := 0) F (by decide) dL_set_21 ?_
    refine g_iret F T ⟨_, rfl, ?_⟩ (Nat.le_of_ble_eq_true rfl) (Nat.le_of_ble_eq_true rfl) dL_set_22
    exact ⟨h0.symm, fun _ => up2_s.trans (by rw [er]), P_100 hq hF, Cl_100 hq2 hC⟩
def mL_setTolerance : Mt := (yL_setTolerance, cL_setTolerance, 4, (some .int), 7, 133, 3)
theorem okL_setTolerance : okSW mL_setTolerance [(0, 9, 12, 13)] := ⟨⟨by decide +kernel, by decide +kernel, by decide +kernel⟩, mw212, mw211, mw114⟩
set_option maxHeartbeats 4000000 in
set_option maxRecDepth 100000 in
theorem kL_setTolerance (g : Glo) (S : PS) (q : Nat → Nat) (hq : Shp S.1 S.2.1 q) (z : ZZ) (H : List ZZ) (l : Int32) (n : Nat) (tx : Nat → Int32) (hI : Iw (z, H, l, n, tx)) (hw : Cl S q (z, H, l, n, tx)) (v : Int32) : Cw g mL_setTolerance [(0, 9, 12, 13)] 3 18 [.ref (q 80), .int v, .ref (q 100)] S (pI9 (fun r S' => r = (oTol v (z, H, l, n, tx)).1 ∧ ((oTol v (z, H, l, n, tx)).1 = 0 → pJ S' (q 100) 0 = (oTol v (z, H, l, n, tx)).2.1.toInt64) ∧ FrP S S' q P94x ∧ Cl S' q (oTol v (z, H, l, n, tx)).2.2)) := by
  refine Cw.of (by decide) (Nat.le_of_ble_eq_true rfl) (fun Γ hg F T hT => ?_)
  subst hg
  show G Γ S 0 0 0 [(0, .ref (q 80)), (1, .int v), (2, .ref (q 100))] []
  refine g_aload_n (k := 2) F 2 rfl dL_setTolerance_0 ?_
  refine g_iconst (v := 0) F (by decide) dL_setTolerance_1 ?_
  refine g_aload_n (k := 0) F 0 rfl dL_setTolerance_2 ?_
  refine g_iload_n (k := 1) F 1 rfl dL_setTolerance_3 ?_
  refine x_callV F (kX9_setTolerance Γ.1 S q hq z H l n tx hI.1.1 hw v) okX9_setTolerance (qi80 hq) mw213 ⟨(Nat.le_of_ble_eq_true rfl), (Nat.le_of_ble_eq_true rfl)⟩ rfl rfl (Nat.le_of_ble_eq_true rfl) ⟨(Nat.le_of_ble_eq_true rfl), (Nat.le_of_ble_eq_true rfl)⟩ dL_setTolerance_4 (fun E S3 h3 => ?_) (toI (fun r S2 h => ?_))
  · obtain ⟨hE, hF, hC⟩ := h3
    obtain ⟨rfl, hc⟩ := hE
    refine x_catch (nm := eIAE) (k := 3) (L' := [(0, .ref (q 80)), (1, .int v), (2, .ref (q 100))]) F [] ⟨0, 9, 12, 13⟩ [] (by rw [hT]; rfl) (fun z9 hz9 => (by cases hz9)) (by decide) (by decide) mw116 cst_IAE dL_setTolerance_12 (Nat.le_of_ble_eq_true rfl) rfl ?_
    refine g_iconst (v := 1) F (by decide) dL_setTolerance_13 ?_
    refine g_iret F T ⟨_, rfl, ?_⟩ (Nat.le_of_ble_eq_true rfl) (Nat.le_of_ble_eq_true rfl) dL_setTolerance_14
    exact ⟨hc.symm, fun h9 => absurd (h9.symm.trans hc) (by decide), P_x hF, hC⟩
  · obtain ⟨h0, er, hF, hC⟩ := h
    have hq2 : Shp S2.1 S2.2.1 q := FrP.q hF hq
    refine g_i2l F dL_setTolerance_7 ?_
    refine g_last (j := 0) F (qi100 hq2) rfl (by rw [qn100 hq2]; decide) (by rw [qn100 hq2]; decide) dL_setTolerance_8 ?_
    refine g_goto (t := 15) F dL_setTolerance_9 (by decide) ?_
    refine g_iconst (v := 0) F (by decide) dL_setTolerance_15 ?_
    refine g_iret F T ⟨_, rfl, ?_⟩ (Nat.le_of_ble_eq_true rfl) (Nat.le_of_ble_eq_true rfl) dL_setTolerance_16
    exact ⟨h0.symm, fun _ => up2_s.trans (by rw [er]), P_100 hq hF, Cl_100 hq2 hC⟩
def mL_insert : Mt := (yL_insert, cL_insert, 6, (some .int), 8, 134, 5)
theorem okL_insert : okSW mL_insert [(0, 12, 15, 18), (0, 12, 19, 13), (0, 12, 23, 28)] := ⟨⟨by decide +kernel, by decide +kernel, by decide +kernel⟩, mw225, mw224, mw114⟩
set_option maxHeartbeats 4000000 in
set_option maxRecDepth 100000 in
theorem kL_insert (g : Glo) (S : PS) (q : Nat → Nat) (hq : Shp S.1 S.2.1 q) (z : ZZ) (H : List ZZ) (l : Int32) (n : Nat) (tx : Nat → Int32) (hI : Iw (z, H, l, n, tx)) (hw : Cl S q (z, H, l, n, tx)) (k : Int32) (x : Int32) (y : Int32) : Cw g mL_insert [(0, 12, 15, 18), (0, 12, 19, 13), (0, 12, 23, 28)] 3 18 [.ref (q 80), .int k, .int x, .int y, .ref (q 100)] S (pI9 (fun r S' => r = (oIns k x y (z, H, l, n, tx)).1 ∧ ((oIns k x y (z, H, l, n, tx)).1 = 0 → pJ S' (q 100) 0 = (oIns k x y (z, H, l, n, tx)).2.1.toInt64) ∧ FrP S S' q P94x ∧ Cl S' q (oIns k x y (z, H, l, n, tx)).2.2)) := by
  refine Cw.of (by decide) (Nat.le_of_ble_eq_true rfl) (fun Γ hg F T hT => ?_)
  subst hg
  show G Γ S 0 0 0 [(0, .ref (q 80)), (1, .int k), (2, .int x), (3, .int y), (4, .ref (q 100))] []
  refine g_aload F 4 rfl dL_insert_0 ?_
  refine g_iconst (v := 0) F (by decide) dL_insert_2 ?_
  refine g_aload_n (k := 0) F 0 rfl dL_insert_3 ?_
  refine g_iload_n (k := 1) F 1 rfl dL_insert_4 ?_
  refine g_iload_n (k := 2) F 2 rfl dL_insert_5 ?_
  refine g_iload_n (k := 3) F 3 rfl dL_insert_6 ?_
  refine x_callV F (kX9_insert Γ.1 S q hq z H l n tx hI.1.1 hw k x y) okX9_insert (qi80 hq) mw227 ⟨(Nat.le_of_ble_eq_true rfl), (Nat.le_of_ble_eq_true rfl)⟩ rfl rfl (Nat.le_of_ble_eq_true rfl) ⟨(Nat.le_of_ble_eq_true rfl), (Nat.le_of_ble_eq_true rfl)⟩ dL_insert_7 (fun E S3 h3 => ?_) (toI (fun r S2 h => ?_))
  · obtain ⟨hE, hF, hC⟩ := h3
    rcases hE with ⟨rfl, hc⟩ | ⟨rfl, hc⟩ | ⟨rfl, hc⟩
    · refine x_catch2 (nm := eIOB) (k := 5) (L' := [(0, .ref (q 80)), (1, .int k), (2, .int x), (3, .int y), (4, .ref (q 100))]) F [] ⟨0, 12, 15, 18⟩ [⟨0, 12, 19, 13⟩, ⟨0, 12, 23, 28⟩] (by rw [hT]; rfl) (fun z9 hz9 => (by cases hz9)) (by decide) (by decide) mw177 cst_IOB dL_insert_15 (Nat.le_of_ble_eq_true rfl) rfl ?_
      refine g_iconst (v := 1) F (by decide) dL_insert_17 ?_
      refine g_iret F T ⟨_, rfl, ?_⟩ (Nat.le_of_ble_eq_true rfl) (Nat.le_of_ble_eq_true rfl) dL_insert_18
      exact ⟨hc.symm, fun h9 => absurd (h9.symm.trans hc) (by decide), P_x hF, hC⟩
    · refine x_catch2 (nm := eIAE) (k := 5) (L' := [(0, .ref (q 80)), (1, .int k), (2, .int x), (3, .int y), (4, .ref (q 100))]) F [⟨0, 12, 15, 18⟩] ⟨0, 12, 19, 13⟩ [⟨0, 12, 23, 28⟩] (by rw [hT]; rfl) (fun z9 hz9 => by
              simp only [List.mem_cons, List.not_mem_nil, or_false] at hz9
              subst hz9
              exact .inr ⟨by decide, eIOB, mw177, by decide⟩) (by decide) (by decide) mw116 cst_IAE dL_insert_19 (Nat.le_of_ble_eq_true rfl) rfl ?_
      refine g_iconst (v := 2) F (by decide) dL_insert_21 ?_
      refine g_iret F T ⟨_, rfl, ?_⟩ (Nat.le_of_ble_eq_true rfl) (Nat.le_of_ble_eq_true rfl) dL_insert_22
      exact ⟨hc.symm, fun h9 => absurd (h9.symm.trans hc) (by decide), P_x hF, hC⟩
    · refine x_catch2 (nm := eISE) (k := 5) (L' := [(0, .ref (q 80)), (1, .int k), (2, .int x), (3, .int y), (4, .ref (q 100))]) F [⟨0, 12, 15, 18⟩, ⟨0, 12, 19, 13⟩] ⟨0, 12, 23, 28⟩ [] (by rw [hT]; rfl) (fun z9 hz9 => by
              simp only [List.mem_cons, List.not_mem_nil, or_false] at hz9
              rcases hz9 with rfl | rfl
              · exact .inr ⟨by decide, eIOB, mw177, by decide⟩
              · exact .inr ⟨by decide, eIAE, mw116, by decide⟩) (by decide) (by decide) mw226 cst_ISE dL_insert_23 (Nat.le_of_ble_eq_true rfl) rfl ?_
      refine g_iconst (v := 3) F (by decide) dL_insert_25 ?_
      refine g_iret F T ⟨_, rfl, ?_⟩ (Nat.le_of_ble_eq_true rfl) (Nat.le_of_ble_eq_true rfl) dL_insert_26
      exact ⟨hc.symm, fun h9 => absurd (h9.symm.trans hc) (by decide), P_x hF, hC⟩
  · obtain ⟨h0, er, hF, hC⟩ := h
    have hq2 : Shp S2.1 S2.2.1 q := FrP.q hF hq
    refine g_i2l F dL_insert_10 ?_
    refine g_last (j := 0) F (qi100 hq2) rfl (by rw [qn100 hq2]; decide) (by rw [qn100 hq2]; decide) dL_insert_11 ?_
    refine g_goto (t := 27) F dL_insert_12 (by decide) ?_
    refine g_iconst (v := 0) F (by decide) dL_insert_27 ?_
    refine g_iret F T ⟨_, rfl, ?_⟩ (Nat.le_of_ble_eq_true rfl) (Nat.le_of_ble_eq_true rfl) dL_insert_28
    exact ⟨h0.symm, fun _ => up2_s.trans (by rw [er]), P_100 hq hF, Cl_100 hq2 hC⟩
def mL_move : Mt := (yL_move, cL_move, 6, (some .int), 8, 134, 5)
theorem okL_move : okSW mL_move [(0, 12, 15, 18), (0, 12, 19, 13)] := ⟨⟨by decide +kernel, by decide +kernel, by decide +kernel⟩, mw261, mw260, mw114⟩
set_option maxHeartbeats 4000000 in
set_option maxRecDepth 100000 in
theorem kL_move (g : Glo) (S : PS) (q : Nat → Nat) (hq : Shp S.1 S.2.1 q) (z : ZZ) (H : List ZZ) (l : Int32) (n : Nat) (tx : Nat → Int32) (hI : Iw (z, H, l, n, tx)) (hw : Cl S q (z, H, l, n, tx)) (k : Int32) (x : Int32) (y : Int32) : Cw g mL_move [(0, 12, 15, 18), (0, 12, 19, 13)] 3 18 [.ref (q 80), .int k, .int x, .int y, .ref (q 100)] S (pI9 (fun r S' => r = (oMov k x y (z, H, l, n, tx)).1 ∧ ((oMov k x y (z, H, l, n, tx)).1 = 0 → pJ S' (q 100) 0 = (oMov k x y (z, H, l, n, tx)).2.1.toInt64) ∧ FrP S S' q P94x ∧ Cl S' q (oMov k x y (z, H, l, n, tx)).2.2)) := by
  refine Cw.of (by decide) (Nat.le_of_ble_eq_true rfl) (fun Γ hg F T hT => ?_)
  subst hg
  show G Γ S 0 0 0 [(0, .ref (q 80)), (1, .int k), (2, .int x), (3, .int y), (4, .ref (q 100))] []
  refine g_aload F 4 rfl dL_move_0 ?_
  refine g_iconst (v := 0) F (by decide) dL_move_2 ?_
  refine g_aload_n (k := 0) F 0 rfl dL_move_3 ?_
  refine g_iload_n (k := 1) F 1 rfl dL_move_4 ?_
  refine g_iload_n (k := 2) F 2 rfl dL_move_5 ?_
  refine g_iload_n (k := 3) F 3 rfl dL_move_6 ?_
  refine x_callV F (kX9_move Γ.1 S q hq z H l n tx hI.1.1 hw k x y) okX9_move (qi80 hq) mw262 ⟨(Nat.le_of_ble_eq_true rfl), (Nat.le_of_ble_eq_true rfl)⟩ rfl rfl (Nat.le_of_ble_eq_true rfl) ⟨(Nat.le_of_ble_eq_true rfl), (Nat.le_of_ble_eq_true rfl)⟩ dL_move_7 (fun E S3 h3 => ?_) (toI (fun r S2 h => ?_))
  · obtain ⟨hE, hF, hC⟩ := h3
    rcases hE with ⟨rfl, hc⟩ | ⟨rfl, hc⟩
    · refine x_catch2 (nm := eIOB) (k := 5) (L' := [(0, .ref (q 80)), (1, .int k), (2, .int x), (3, .int y), (4, .ref (q 100))]) F [] ⟨0, 12, 15, 18⟩ [⟨0, 12, 19, 13⟩] (by rw [hT]; rfl) (fun z9 hz9 => (by cases hz9)) (by decide) (by decide) mw177 cst_IOB dL_move_15 (Nat.le_of_ble_eq_true rfl) rfl ?_
      refine g_iconst (v := 1) F (by decide) dL_move_17 ?_
      refine g_iret F T ⟨_, rfl, ?_⟩ (Nat.le_of_ble_eq_true rfl) (Nat.le_of_ble_eq_true rfl) dL_move_18
      exact ⟨hc.symm, fun h9 => absurd (h9.symm.trans hc) (by decide), P_x hF, hC⟩
    · refine x_catch2 (nm := eIAE) (k := 5) (L' := [(0, .ref (q 80)), (1, .int k), (2, .int x), (3, .int y), (4, .ref (q 100))]) F [⟨0, 12, 15, 18⟩] ⟨0, 12, 19, 13⟩ [] (by rw [hT]; rfl) (fun z9 hz9 => by
              simp only [List.mem_cons, List.not_mem_nil, or_false] at hz9
              subst hz9
              exact .inr ⟨by decide, eIOB, mw177, by decide⟩) (by decide) (by decide) mw116 cst_IAE dL_move_19 (Nat.le_of_ble_eq_true rfl) rfl ?_
      refine g_iconst (v := 2) F (by decide) dL_move_21 ?_
      refine g_iret F T ⟨_, rfl, ?_⟩ (Nat.le_of_ble_eq_true rfl) (Nat.le_of_ble_eq_true rfl) dL_move_22
      exact ⟨hc.symm, fun h9 => absurd (h9.symm.trans hc) (by decide), P_x hF, hC⟩
  · obtain ⟨h0, er, hF, hC⟩ := h
    have hq2 : Shp S2.1 S2.2.1 q := FrP.q hF hq
    refine g_i2l F dL_move_10 ?_
    refine g_last (j := 0) F (qi100 hq2) rfl (by rw [qn100 hq2]; decide) (by rw [qn100 hq2]; decide) dL_move_11 ?_
    refine g_goto (t := 23) F dL_move_12 (by decide) ?_
    refine g_iconst (v := 0) F (by decide) dL_move_23 ?_
    refine g_iret F T ⟨_, rfl, ?_⟩ (Nat.le_of_ble_eq_true rfl) (Nat.le_of_ble_eq_true rfl) dL_move_24
    exact ⟨h0.symm, fun _ => up2_s.trans (by rw [er]), P_100 hq hF, Cl_100 hq2 hC⟩
def mL_remove : Mt := (yL_remove, cL_remove, 4, (some .int), 8, 132, 3)
theorem okL_remove : okSW mL_remove [(0, 9, 12, 18)] := ⟨⟨by decide +kernel, by decide +kernel, by decide +kernel⟩, mw280, mw279, mw114⟩
set_option maxHeartbeats 4000000 in
set_option maxRecDepth 100000 in
theorem kL_remove (g : Glo) (S : PS) (q : Nat → Nat) (hq : Shp S.1 S.2.1 q) (z : ZZ) (H : List ZZ) (l : Int32) (n : Nat) (tx : Nat → Int32) (hI : Iw (z, H, l, n, tx)) (hw : Cl S q (z, H, l, n, tx)) (k : Int32) : Cw g mL_remove [(0, 9, 12, 18)] 3 18 [.ref (q 80), .int k, .ref (q 100)] S (pI9 (fun r S' => r = (oRem k (z, H, l, n, tx)).1 ∧ ((oRem k (z, H, l, n, tx)).1 = 0 → pJ S' (q 100) 0 = (oRem k (z, H, l, n, tx)).2.1.toInt64) ∧ FrP S S' q P94x ∧ Cl S' q (oRem k (z, H, l, n, tx)).2.2)) := by
  refine Cw.of (by decide) (Nat.le_of_ble_eq_true rfl) (fun Γ hg F T hT => ?_)
  subst hg
  show G Γ S 0 0 0 [(0, .ref (q 80)), (1, .int k), (2, .ref (q 100))] []
  refine g_aload_n (k := 2) F 2 rfl dL_remove_0 ?_
  refine g_iconst (v := 0) F (by decide) dL_remove_1 ?_
  refine g_aload_n (k := 0) F 0 rfl dL_remove_2 ?_
  refine g_iload_n (k := 1) F 1 rfl dL_remove_3 ?_
  refine x_callV F (kX9_remove Γ.1 S q hq z H l n tx hI.1.1 hw k) okX9_remove (qi80 hq) mw281 ⟨(Nat.le_of_ble_eq_true rfl), (Nat.le_of_ble_eq_true rfl)⟩ rfl rfl (Nat.le_of_ble_eq_true rfl) ⟨(Nat.le_of_ble_eq_true rfl), (Nat.le_of_ble_eq_true rfl)⟩ dL_remove_4 (fun E S3 h3 => ?_) (toI (fun r S2 h => ?_))
  · obtain ⟨hE, hF, hC⟩ := h3
    obtain ⟨rfl, hc⟩ := hE
    refine x_catch (nm := eIOB) (k := 3) (L' := [(0, .ref (q 80)), (1, .int k), (2, .ref (q 100))]) F [] ⟨0, 9, 12, 18⟩ [] (by rw [hT]; rfl) (fun z9 hz9 => (by cases hz9)) (by decide) (by decide) mw177 cst_IOB dL_remove_12 (Nat.le_of_ble_eq_true rfl) rfl ?_
    refine g_iconst (v := 1) F (by decide) dL_remove_13 ?_
    refine g_iret F T ⟨_, rfl, ?_⟩ (Nat.le_of_ble_eq_true rfl) (Nat.le_of_ble_eq_true rfl) dL_remove_14
    exact ⟨hc.symm, fun h9 => absurd (h9.symm.trans hc) (by decide), P_x hF, hC⟩
  · obtain ⟨h0, er, hF, hC⟩ := h
    have hq2 : Shp S2.1 S2.2.1 q := FrP.q hF hq
    refine g_i2l F dL_remove_7 ?_
    refine g_last (j := 0) F (qi100 hq2) rfl (by rw [qn100 hq2]; decide) (by rw [qn100 hq2]; decide) dL_remove_8 ?_
    refine g_goto (t := 15) F dL_remove_9 (by decide) ?_
    refine g_iconst (v := 0) F (by decide) dL_remove_15 ?_
    refine g_iret F T ⟨_, rfl, ?_⟩ (Nat.le_of_ble_eq_true rfl) (Nat.le_of_ble_eq_true rfl) dL_remove_16
    exact ⟨h0.symm, fun _ => up2_s.trans (by rw [er]), P_100 hq hF, Cl_100 hq2 hC⟩
def mL_setSlip : Mt := (yL_setSlip, cL_setSlip, 5, (some .int), 8, 134, 4)
theorem okL_setSlip : okSW mL_setSlip [(0, 10, 13, 18), (0, 10, 17, 13)] := ⟨⟨by decide +kernel, by decide +kernel, by decide +kernel⟩, mw294, mw293, mw114⟩
set_option maxHeartbeats 4000000 in
set_option maxRecDepth 100000 in
theorem kL_setSlip (g : Glo) (S : PS) (q : Nat → Nat) (hq : Shp S.1 S.2.1 q) (z : ZZ) (H : List ZZ) (l : Int32) (n : Nat) (tx : Nat → Int32) (hI : Iw (z, H, l, n, tx)) (hw : Cl S q (z, H, l, n, tx)) (k : Int32) (v : Int32) : Cw g mL_setSlip [(0, 10, 13, 18), (0, 10, 17, 13)] 3 18 [.ref (q 80), .int k, .int v, .ref (q 100)] S (pI9 (fun r S' => r = (oSlp k v (z, H, l, n, tx)).1 ∧ ((oSlp k v (z, H, l, n, tx)).1 = 0 → pJ S' (q 100) 0 = (oSlp k v (z, H, l, n, tx)).2.1.toInt64) ∧ FrP S S' q P94x ∧ Cl S' q (oSlp k v (z, H, l, n, tx)).2.2)) := by
  refine Cw.of (by decide) (Nat.le_of_ble_eq_true rfl) (fun Γ hg F T hT => ?_)
  subst hg
  show G Γ S 0 0 0 [(0, .ref (q 80)), (1, .int k), (2, .int v), (3, .ref (q 100))] []
  refine g_aload_n (k := 3) F 3 rfl dL_setSlip_0 ?_
  refine g_iconst (v := 0) F (by decide) dL_setSlip_1 ?_
  refine g_aload_n (k := 0) F 0 rfl dL_setSlip_2 ?_
  refine g_iload_n (k := 1) F 1 rfl dL_setSlip_3 ?_
  refine g_iload_n (k := 2) F 2 rfl dL_setSlip_4 ?_
  refine x_callV F (kX9_setSlip Γ.1 S q hq z H l n tx hI.1.1 hw k v) okX9_setSlip (qi80 hq) mw295 ⟨(Nat.le_of_ble_eq_true rfl), (Nat.le_of_ble_eq_true rfl)⟩ rfl rfl (Nat.le_of_ble_eq_true rfl) ⟨(Nat.le_of_ble_eq_true rfl), (Nat.le_of_ble_eq_true rfl)⟩ dL_setSlip_5 (fun E S3 h3 => ?_) (toI (fun r S2 h => ?_))
  · obtain ⟨hE, hF, hC⟩ := h3
    rcases hE with ⟨rfl, hc⟩ | ⟨rfl, hc⟩
    · refine x_catch2 (nm := eIOB) (k := 4) (L' := [(0, .ref (q 80)), (1, .int k), (2, .int v), (3, .ref (q 100))]) F [] ⟨0, 10, 13, 18⟩ [⟨0, 10, 17, 13⟩] (by rw [hT]; rfl) (fun z9 hz9 => (by cases hz9)) (by decide) (by decide) mw177 cst_IOB dL_setSlip_13 (Nat.le_of_ble_eq_true rfl) rfl ?_
      refine g_iconst (v := 1) F (by decide) dL_setSlip_15 ?_
      refine g_iret F T ⟨_, rfl, ?_⟩ (Nat.le_of_ble_eq_true rfl) (Nat.le_of_ble_eq_true rfl) dL_setSlip_16
      exact ⟨hc.symm, fun h9 => absurd (h9.symm.trans hc) (by decide), P_x hF, hC⟩
    · refine x_catch2 (nm := eIAE) (k := 4) (L' := [(0, .ref (q 80)), (1, .int k), (2, .int v), (3, .ref (q 100))]) F [⟨0, 10, 13, 18⟩] ⟨0, 10, 17, 13⟩ [] (by rw [hT]; rfl) (fun z9 hz9 => by
              simp only [List.mem_cons, List.not_mem_nil, or_false] at hz9
              subst hz9
              exact .inr ⟨by decide, eIOB, mw177, by decide⟩) (by decide) (by decide) mw116 cst_IAE dL_setSlip_17 (Nat.le_of_ble_eq_true rfl) rfl ?_
      refine g_iconst (v := 2) F (by decide) dL_setSlip_19 ?_
      refine g_iret F T ⟨_, rfl, ?_⟩ (Nat.le_of_ble_eq_true rfl) (Nat.le_of_ble_eq_true rfl) dL_setSlip_20
      exact ⟨hc.symm, fun h9 => absurd (h9.symm.trans hc) (by decide), P_x hF, hC⟩
  · obtain ⟨h0, er, hF, hC⟩ := h
    have hq2 : Shp S2.1 S2.2.1 q := FrP.q hF hq
    refine g_i2l F dL_setSlip_8 ?_
    refine g_last (j := 0) F (qi100 hq2) rfl (by rw [qn100 hq2]; decide) (by rw [qn100 hq2]; decide) dL_setSlip_9 ?_
    refine g_goto (t := 21) F dL_setSlip_10 (by decide) ?_
    refine g_iconst (v := 0) F (by decide) dL_setSlip_21 ?_
    refine g_iret F T ⟨_, rfl, ?_⟩ (Nat.le_of_ble_eq_true rfl) (Nat.le_of_ble_eq_true rfl) dL_setSlip_22
    exact ⟨h0.symm, fun _ => up2_s.trans (by rw [er]), P_100 hq hF, Cl_100 hq2 hC⟩
def mL_run : Mt := (yL_run, cL_run, 5, (some .int), 8, 214, 4)
theorem okL_run : okSW mL_run [(0, 10, 13, 18), (0, 10, 17, 28)] := ⟨⟨by decide +kernel, by decide +kernel, by decide +kernel⟩, mw306, mw305, mw114⟩
set_option maxHeartbeats 4000000 in
set_option maxRecDepth 100000 in
theorem kL_run (g : Glo) (S : PS) (q : Nat → Nat) (hq : Shp S.1 S.2.1 q) (z : ZZ) (H : List ZZ) (l : Int32) (n : Nat) (tx : Nat → Int32) (hI : Iw (z, H, l, n, tx)) (hw : Cl S q (z, H, l, n, tx)) (k : Int32) (b : Bool) : Cw g mL_run [(0, 10, 13, 18), (0, 10, 17, 28)] 3 18 [.ref (q 80), .int k, .int (bI b), .ref (q 100)] S (pI9 (fun r S' => r = (oRun k b (z, H, l, n, tx)).1 ∧ ((oRun k b (z, H, l, n, tx)).1 = 0 → pJ S' (q 100) 0 = (oRun k b (z, H, l, n, tx)).2.1.toInt64) ∧ FrP S S' q P94x ∧ Cl S' q (oRun k b (z, H, l, n, tx)).2.2)) := by
  refine Cw.of (by decide) (Nat.le_of_ble_eq_true rfl) (fun Γ hg F T hT => ?_)
  subst hg
  show G Γ S 0 0 0 [(0, .ref (q 80)), (1, .int k), (2, .int (bI b)), (3, .ref (q 100))] []
  refine g_aload_n (k := 3) F 3 rfl dL_run_0 ?_
  refine g_iconst (v := 0) F (by decide) dL_run_1 ?_
  refine g_aload_n (k := 0) F 0 rfl dL_run_2 ?_
  refine g_iload_n (k := 1) F 1 rfl dL_run_3 ?_
  refine g_iload_n (k := 2) F 2 rfl dL_run_4 ?_
  refine x_callV F (kX9_run Γ.1 S q hq z H l n tx hI.1.1 hw k b) okX9_run (qi80 hq) mw307 ⟨(Nat.le_of_ble_eq_true rfl), (Nat.le_of_ble_eq_true rfl)⟩ rfl rfl (Nat.le_of_ble_eq_true rfl) ⟨(Nat.le_of_ble_eq_true rfl), (Nat.le_of_ble_eq_true rfl)⟩ dL_run_5 (fun E S3 h3 => ?_) (toI (fun r S2 h => ?_))
  · obtain ⟨hE, hF, hC⟩ := h3
    rcases hE with ⟨rfl, hc⟩ | ⟨rfl, hc⟩
    · refine x_catch2 (nm := eIOB) (k := 4) (L' := [(0, .ref (q 80)), (1, .int k), (2, .int (bI b)), (3, .ref (q 100))]) F [] ⟨0, 10, 13, 18⟩ [⟨0, 10, 17, 28⟩] (by rw [hT]; rfl) (fun z9 hz9 => (by cases hz9)) (by decide) (by decide) mw177 cst_IOB dL_run_13 (Nat.le_of_ble_eq_true rfl) rfl ?_
      refine g_iconst (v := 1) F (by decide) dL_run_15 ?_
      refine g_iret F T ⟨_, rfl, ?_⟩ (Nat.le_of_ble_eq_true rfl) (Nat.le_of_ble_eq_true rfl) dL_run_16
      exact ⟨hc.symm, fun h9 => absurd (h9.symm.trans hc) (by decide), P_x hF, hC⟩
    · refine x_catch2 (nm := eISE) (k := 4) (L' := [(0, .ref (q 80)), (1, .int k), (2, .int (bI b)), (3, .ref (q 100))]) F [⟨0, 10, 13, 18⟩] ⟨0, 10, 17, 28⟩ [] (by rw [hT]; rfl) (fun z9 hz9 => by
              simp only [List.mem_cons, List.not_mem_nil, or_false] at hz9
              subst hz9
              exact .inr ⟨by decide, eIOB, mw177, by decide⟩) (by decide) (by decide) mw226 cst_ISE dL_run_17 (Nat.le_of_ble_eq_true rfl) rfl ?_
      refine g_iconst (v := 2) F (by decide) dL_run_19 ?_
      refine g_iret F T ⟨_, rfl, ?_⟩ (Nat.le_of_ble_eq_true rfl) (Nat.le_of_ble_eq_true rfl) dL_run_20
      exact ⟨hc.symm, fun h9 => absurd (h9.symm.trans hc) (by decide), P_x hF, hC⟩
  · obtain ⟨h0, er, hF, hC⟩ := h
    have hq2 : Shp S2.1 S2.2.1 q := FrP.q hF hq
    refine g_i2l F dL_run_8 ?_
    refine g_last (j := 0) F (qi100 hq2) rfl (by rw [qn100 hq2]; decide) (by rw [qn100 hq2]; decide) dL_run_9 ?_
    refine g_goto (t := 21) F dL_run_10 (by decide) ?_
    refine g_iconst (v := 0) F (by decide) dL_run_21 ?_
    refine g_iret F T ⟨_, rfl, ?_⟩ (Nat.le_of_ble_eq_true rfl) (Nat.le_of_ble_eq_true rfl) dL_run_22
    exact ⟨h0.symm, fun _ => up2_s.trans (by rw [er]), P_100 hq hF, Cl_100 hq2 hC⟩
def mL_append : Mt := (yL_append, cL_append, 4, (some .int), 7, 111, 3)
theorem okL_append : okSW mL_append [(0, 9, 12, 13), (0, 9, 15, 28)] := ⟨⟨by decide +kernel, by decide +kernel, by decide +kernel⟩, mw573, mw572, mw114⟩
set_option maxHeartbeats 4000000 in
set_option maxRecDepth 100000 in
theorem kL_append (g : Glo) (S : PS) (q : Nat → Nat) (hq : Shp S.1 S.2.1 q) (z : ZZ) (H : List ZZ) (l : Int32) (n : Nat) (tx : Nat → Int32) (hI : Iw (z, H, l, n, tx)) (hw : Cl S q (z, H, l, n, tx)) (c : Int32) : Cw g mL_append [(0, 9, 12, 13), (0, 9, 15, 28)] 3 18 [.ref (q 80), .int c, .ref (q 100)] S (pI9 (fun r S' => r = (oApp c (z, H, l, n, tx)).1 ∧ ((oApp c (z, H, l, n, tx)).1 = 0 → pJ S' (q 100) 0 = (oApp c (z, H, l, n, tx)).2.1.toInt64) ∧ FrP S S' q P94x ∧ Cl S' q (oApp c (z, H, l, n, tx)).2.2)) := by
  refine Cw.of (by decide) (Nat.le_of_ble_eq_true rfl) (fun Γ hg F T hT => ?_)
  subst hg
  show G Γ S 0 0 0 [(0, .ref (q 80)), (1, .int c), (2, .ref (q 100))] []
  refine g_aload_n (k := 2) F 2 rfl dL_append_0 ?_
  refine g_iconst (v := 0) F (by decide) dL_append_1 ?_
  refine g_aload_n (k := 0) F 0 rfl dL_append_2 ?_
  refine g_iload_n (k := 1) F 1 rfl dL_append_3 ?_
  refine x_callV F (kX9_append Γ.1 S q hq z H l n tx hI.1.1 hw hI.2.2.2 c) okX9_append (qi80 hq) mw574 ⟨(Nat.le_of_ble_eq_true rfl), (Nat.le_of_ble_eq_true rfl)⟩ rfl rfl (Nat.le_of_ble_eq_true rfl) ⟨(Nat.le_of_ble_eq_true rfl), (Nat.le_of_ble_eq_true rfl)⟩ dL_append_4 (fun E S3 h3 => ?_) (toI (fun r S2 h => ?_))
  · obtain ⟨hE, hF, hC⟩ := h3
    rcases hE with ⟨rfl, hc⟩ | ⟨rfl, hc⟩
    · refine x_catch (nm := eIAE) (k := 3) (L' := [(0, .ref (q 80)), (1, .int c), (2, .ref (q 100))]) F [] ⟨0, 9, 12, 13⟩ [⟨0, 9, 15, 28⟩] (by rw [hT]; rfl) (fun z9 hz9 => (by cases hz9)) (by decide) (by decide) mw116 cst_IAE dL_append_12 (Nat.le_of_ble_eq_true rfl) rfl ?_
      refine g_iconst (v := 1) F (by decide) dL_append_13 ?_
      refine g_iret F T ⟨_, rfl, ?_⟩ (Nat.le_of_ble_eq_true rfl) (Nat.le_of_ble_eq_true rfl) dL_append_14
      exact ⟨hc.symm, fun h9 => absurd (h9.symm.trans hc) (by decide), P_x hF, hC⟩
    · refine x_catch (nm := eISE) (k := 3) (L' := [(0, .ref (q 80)), (1, .int c), (2, .ref (q 100))]) F [⟨0, 9, 12, 13⟩] ⟨0, 9, 15, 28⟩ [] (by rw [hT]; rfl) (fun z9 hz9 => by
              simp only [List.mem_cons, List.not_mem_nil, or_false] at hz9
              subst hz9
              exact .inr ⟨by decide, eIAE, mw116, by decide⟩) (by decide) (by decide) mw226 cst_ISE dL_append_15 (Nat.le_of_ble_eq_true rfl) rfl ?_
      refine g_iconst (v := 2) F (by decide) dL_append_16 ?_
      refine g_iret F T ⟨_, rfl, ?_⟩ (Nat.le_of_ble_eq_true rfl) (Nat.le_of_ble_eq_true rfl) dL_append_17
      exact ⟨hc.symm, fun h9 => absurd (h9.symm.trans hc) (by decide), P_x hF, hC⟩
  · obtain ⟨h0, er, hF, hC⟩ := h
    have hq2 : Shp S2.1 S2.2.1 q := FrP.q hF hq
    refine g_i2l F dL_append_7 ?_
    refine g_last (j := 0) F (qi100 hq2) rfl (by rw [qn100 hq2]; decide) (by rw [qn100 hq2]; decide) dL_append_8 ?_
    refine g_goto (t := 18) F dL_append_9 (by decide) ?_
    refine g_iconst (v := 0) F (by decide) dL_append_18 ?_
    refine g_iret F T ⟨_, rfl, ?_⟩ (Nat.le_of_ble_eq_true rfl) (Nat.le_of_ble_eq_true rfl) dL_append_19
    exact ⟨h0.symm, fun _ => up2_s.trans (by rw [er]), P_100 hq hF, Cl_100 hq2 hC⟩
def mL_load : Mt := (yL_load, cL_load, 3, (some .int), 7, 132, 2)
theorem okL_load : okSW mL_load [(0, 8, 11, 13)] := ⟨⟨by decide +kernel, by decide +kernel, by decide +kernel⟩, mw663, mw662, mw114⟩
set_option maxHeartbeats 4000000 in
set_option maxRecDepth 100000 in
theorem kL_load (g : Glo) (S : PS) (q : Nat → Nat) (hq : Shp S.1 S.2.1 q) (z : ZZ) (H : List ZZ) (l : Int32) (n : Nat) (tx : Nat → Int32) (hI : Iw (z, H, l, n, tx)) (hw : Cl S q (z, H, l, n, tx))  : Cw g mL_load [(0, 8, 11, 13)] 3 18 [.ref (q 80), .ref (q 100)] S (pI9 (fun r S' => r = (oLod (z, H, l, n, tx)).1 ∧ ((oLod (z, H, l, n, tx)).1 = 0 → pJ S' (q 100) 0 = (oLod (z, H, l, n, tx)).2.1.toInt64) ∧ FrP S S' q P94x ∧ Cl S' q (oLod (z, H, l, n, tx)).2.2)) := by
  refine Cw.of (by decide) (Nat.le_of_ble_eq_true rfl) (fun Γ hg F T hT => ?_)
  subst hg
  show G Γ S 0 0 0 [(0, .ref (q 80)), (1, .ref (q 100))] []
  refine g_aload_n (k := 1) F 1 rfl dL_load_0 ?_
  refine g_iconst (v := 0) F (by decide) dL_load_1 ?_
  refine g_aload_n (k := 0) F 0 rfl dL_load_2 ?_
  refine x_callV F (kX9_load Γ.1 S q hq z H l n tx hI.1.1 hw hI.2.2.2) okX9_load (qi80 hq) mw664 ⟨(Nat.le_of_ble_eq_true rfl), (Nat.le_of_ble_eq_true rfl)⟩ rfl rfl (Nat.le_of_ble_eq_true rfl) ⟨(Nat.le_of_ble_eq_true rfl), (Nat.le_of_ble_eq_true rfl)⟩ dL_load_3 (fun E S3 h3 => ?_) (toI (fun r S2 h => ?_))
  · obtain ⟨hE, hF, hC⟩ := h3
    obtain ⟨rfl, hc⟩ := hE
    refine x_catch (nm := eIAE) (k := 2) (L' := [(0, .ref (q 80)), (1, .ref (q 100))]) F [] ⟨0, 8, 11, 13⟩ [] (by rw [hT]; rfl) (fun z9 hz9 => (by cases hz9)) (by decide) (by decide) mw116 cst_IAE dL_load_11 (Nat.le_of_ble_eq_true rfl) rfl ?_
    refine g_iconst (v := 1) F (by decide) dL_load_12 ?_
    refine g_iret F T ⟨_, rfl, ?_⟩ (Nat.le_of_ble_eq_true rfl) (Nat.le_of_ble_eq_true rfl) dL_load_13
    exact ⟨hc.symm, fun h9 => absurd (h9.symm.trans hc) (by decide), P_x hF, hC⟩
  · obtain ⟨h0, er, hF, hC⟩ := h
    have hq2 : Shp S2.1 S2.2.1 q := FrP.q hF hq
    refine g_i2l F dL_load_6 ?_
    refine g_last (j := 0) F (qi100 hq2) rfl (by rw [qn100 hq2]; decide) (by rw [qn100 hq2]; decide) dL_load_7 ?_
    refine g_goto (t := 14) F dL_load_8 (by decide) ?_
    refine g_iconst (v := 0) F (by decide) dL_load_14 ?_
    refine g_iret F T ⟨_, rfl, ?_⟩ (Nat.le_of_ble_eq_true rfl) (Nat.le_of_ble_eq_true rfl) dL_load_15
    exact ⟨h0.symm, fun _ => up2_s.trans (by rw [er]), P_100 hq hF, Cl_100 hq2 hC⟩
def mL_undo : Mt := (yL_undo, cL_undo, 3, (some .int), 7, 131, 2)
theorem okL_undo : okSW mL_undo [(0, 8, 11, 28)] := ⟨⟨by decide +kernel, by decide +kernel, by decide +kernel⟩, mw680, mw679, mw114⟩
set_option maxHeartbeats 4000000 in
set_option maxRecDepth 100000 in
theorem kL_undo (g : Glo) (S : PS) (q : Nat → Nat) (hq : Shp S.1 S.2.1 q) (z : ZZ) (H : List ZZ) (l : Int32) (n : Nat) (tx : Nat → Int32) (hI : Iw (z, H, l, n, tx)) (hw : Cl S q (z, H, l, n, tx))  : Cw g mL_undo [(0, 8, 11, 28)] 3 18 [.ref (q 80), .ref (q 100)] S (pI9 (fun r S' => r = (oUnd (z, H, l, n, tx)).1 ∧ ((oUnd (z, H, l, n, tx)).1 = 0 → pJ S' (q 100) 0 = (oUnd (z, H, l, n, tx)).2.1.toInt64) ∧ FrP S S' q P94x ∧ Cl S' q (oUnd (z, H, l, n, tx)).2.2)) := by
  refine Cw.of (by decide) (Nat.le_of_ble_eq_true rfl) (fun Γ hg F T hT => ?_)
  subst hg
  show G Γ S 0 0 0 [(0, .ref (q 80)), (1, .ref (q 100))] []
  refine g_aload_n (k := 1) F 1 rfl dL_undo_0 ?_
  refine g_iconst (v := 0) F (by decide) dL_undo_1 ?_
  refine g_aload_n (k := 0) F 0 rfl dL_undo_2 ?_
  refine x_callV F (kX9_undo Γ.1 S q hq z H l n tx hI.1.1 hw (fun y hy => (hI.2.1 y hy).1)) okX9_undo (qi80 hq) mw681 ⟨(Nat.le_of_ble_eq_true rfl), (Nat.le_of_ble_eq_true rfl)⟩ rfl rfl (Nat.le_of_ble_eq_true rfl) ⟨(Nat.le_of_ble_eq_true rfl), (Nat.le_of_ble_eq_true rfl)⟩ dL_undo_3 (fun E S3 h3 => ?_) (toI (fun r S2 h => ?_))
  · obtain ⟨hE, hF, hC⟩ := h3
    obtain ⟨rfl, hc⟩ := hE
    refine x_catch (nm := eISE) (k := 2) (L' := [(0, .ref (q 80)), (1, .ref (q 100))]) F [] ⟨0, 8, 11, 28⟩ [] (by rw [hT]; rfl) (fun z9 hz9 => (by cases hz9)) (by decide) (by decide) mw226 cst_ISE dL_undo_11 (Nat.le_of_ble_eq_true rfl) rfl ?_
    refine g_iconst (v := 1) F (by decide) dL_undo_12 ?_
    refine g_iret F T ⟨_, rfl, ?_⟩ (Nat.le_of_ble_eq_true rfl) (Nat.le_of_ble_eq_true rfl) dL_undo_13
    exact ⟨hc.symm, fun h9 => absurd (h9.symm.trans hc) (by decide), P_x hF, hC⟩
  · obtain ⟨h0, er, hF, hC⟩ := h
    have hq2 : Shp S2.1 S2.2.1 q := FrP.q hF hq
    refine g_i2l F dL_undo_6 ?_
    refine g_last (j := 0) F (qi100 hq2) rfl (by rw [qn100 hq2]; decide) (by rw [qn100 hq2]; decide) dL_undo_7 ?_
    refine g_goto (t := 14) F dL_undo_8 (by decide) ?_
    refine g_iconst (v := 0) F (by decide) dL_undo_14 ?_
    refine g_iret F T ⟨_, rfl, ?_⟩ (Nat.le_of_ble_eq_true rfl) (Nat.le_of_ble_eq_true rfl) dL_undo_15
    exact ⟨h0.symm, fun _ => up2_s.trans (by rw [er]), P_100 hq hF, Cl_100 hq2 hC⟩
def mL_corner : Mt := (yL_corner, cL_corner, 5, (some .int), 8, 210, 4)
theorem okL_corner : okSW mL_corner [(0, 9, 12, 18), (0, 9, 16, 13)] := ⟨⟨by decide +kernel, by decide +kernel, by decide +kernel⟩, mw702, mw701, mw114⟩
set_option maxHeartbeats 4000000 in
set_option maxRecDepth 100000 in
theorem kL_corner (g : Glo) (S : PS) (q : Nat → Nat) (hq : Shp S.1 S.2.1 q) (z : ZZ) (H : List ZZ) (l : Int32) (n : Nat) (tx : Nat → Int32) (hI : Iw (z, H, l, n, tx)) (hw : Cl S q (z, H, l, n, tx)) (k : Int32) (w : Int32) : Cw g mL_corner [(0, 9, 12, 18), (0, 9, 16, 13)] 3 18 [.ref (q 80), .int k, .int w, .ref (q 100)] S (pI9 (fun r S' => r = (oCor k w (z, H, l, n, tx)).1 ∧ ((oCor k w (z, H, l, n, tx)).1 = 0 → pJ S' (q 100) 0 = (oCor k w (z, H, l, n, tx)).2) ∧ FrP S S' q P94x ∧ Cl S' q (z, H, l, n, tx))) := by
  refine Cw.of (by decide) (Nat.le_of_ble_eq_true rfl) (fun Γ hg F T hT => ?_)
  subst hg
  show G Γ S 0 0 0 [(0, .ref (q 80)), (1, .int k), (2, .int w), (3, .ref (q 100))] []
  refine g_aload_n (k := 3) F 3 rfl dL_corner_0 ?_
  refine g_iconst (v := 0) F (by decide) dL_corner_1 ?_
  refine g_aload_n (k := 0) F 0 rfl dL_corner_2 ?_
  refine g_iload_n (k := 1) F 1 rfl dL_corner_3 ?_
  refine g_iload_n (k := 2) F 2 rfl dL_corner_4 ?_
  refine x_callV F (kX9_corner Γ.1 S q hq z H l n tx hI.1.1 hw k w) okX9_corner (qi80 hq) mw703 ⟨(Nat.le_of_ble_eq_true rfl), (Nat.le_of_ble_eq_true rfl)⟩ rfl rfl (Nat.le_of_ble_eq_true rfl) ⟨(Nat.le_of_ble_eq_true rfl), (Nat.le_of_ble_eq_true rfl)⟩ dL_corner_5 (fun E S3 h3 => ?_) (toJ (fun r S2 h => ?_))
  · obtain ⟨hE, hF, hC⟩ := h3
    rcases hE with ⟨rfl, hc⟩ | ⟨rfl, hc⟩
    · refine x_catch2 (nm := eIOB) (k := 4) (L' := [(0, .ref (q 80)), (1, .int k), (2, .int w), (3, .ref (q 100))]) F [] ⟨0, 9, 12, 18⟩ [⟨0, 9, 16, 13⟩] (by rw [hT]; rfl) (fun z9 hz9 => (by cases hz9)) (by decide) (by decide) mw177 cst_IOB dL_corner_12 (Nat.le_of_ble_eq_true rfl) rfl ?_
      refine g_iconst (v := 1) F (by decide) dL_corner_14 ?_
      refine g_iret F T ⟨_, rfl, ?_⟩ (Nat.le_of_ble_eq_true rfl) (Nat.le_of_ble_eq_true rfl) dL_corner_15
      exact ⟨hc.symm, fun h9 => absurd (h9.symm.trans hc) (by decide), P_x hF, hC⟩
    · refine x_catch2 (nm := eIAE) (k := 4) (L' := [(0, .ref (q 80)), (1, .int k), (2, .int w), (3, .ref (q 100))]) F [⟨0, 9, 12, 18⟩] ⟨0, 9, 16, 13⟩ [] (by rw [hT]; rfl) (fun z9 hz9 => by
              simp only [List.mem_cons, List.not_mem_nil, or_false] at hz9
              subst hz9
              exact .inr ⟨by decide, eIOB, mw177, by decide⟩) (by decide) (by decide) mw116 cst_IAE dL_corner_16 (Nat.le_of_ble_eq_true rfl) rfl ?_
      refine g_iconst (v := 2) F (by decide) dL_corner_18 ?_
      refine g_iret F T ⟨_, rfl, ?_⟩ (Nat.le_of_ble_eq_true rfl) (Nat.le_of_ble_eq_true rfl) dL_corner_19
      exact ⟨hc.symm, fun h9 => absurd (h9.symm.trans hc) (by decide), P_x hF, hC⟩
  · obtain ⟨h0, er, hF, hC⟩ := h
    have hq2 : Shp S2.1 S2.2.1 q := FrP.q hF hq
    refine g_last (j := 0) F (qi100 hq2) rfl (by rw [qn100 hq2]; decide) (by rw [qn100 hq2]; decide) dL_corner_8 ?_
    refine g_goto (t := 20) F dL_corner_9 (by decide) ?_
    refine g_iconst (v := 0) F (by decide) dL_corner_20 ?_
    refine g_iret F T ⟨_, rfl, ?_⟩ (Nat.le_of_ble_eq_true rfl) (Nat.le_of_ble_eq_true rfl) dL_corner_21
    exact ⟨h0.symm, fun _ => up2_s.trans (by rw [er]), P_100 hq hF, Cl_100 hq2 hC⟩
def mL_made : Mt := (yL_made, cL_made, 5, (some .int), 8, 173, 4)
theorem okL_made : okSW mL_made [(0, 9, 12, 18), (0, 9, 16, 13)] := ⟨⟨by decide +kernel, by decide +kernel, by decide +kernel⟩, mw736, mw735, mw114⟩
set_option maxHeartbeats 4000000 in
set_option maxRecDepth 100000 in
theorem kL_made (g : Glo) (S : PS) (q : Nat → Nat) (hq : Shp S.1 S.2.1 q) (z : ZZ) (H : List ZZ) (l : Int32) (n : Nat) (tx : Nat → Int32) (hI : Iw (z, H, l, n, tx)) (hw : Cl S q (z, H, l, n, tx)) (k : Int32) (w : Int32) : Cw g mL_made [(0, 9, 12, 18), (0, 9, 16, 13)] 3 18 [.ref (q 80), .int k, .int w, .ref (q 100)] S (pI9 (fun r S' => r = (oMad k w (z, H, l, n, tx)).1 ∧ ((oMad k w (z, H, l, n, tx)).1 = 0 → pJ S' (q 100) 0 = (oMad k w (z, H, l, n, tx)).2) ∧ FrP S S' q P94x ∧ Cl S' q (z, H, l, n, tx))) := by
  refine Cw.of (by decide) (Nat.le_of_ble_eq_true rfl) (fun Γ hg F T hT => ?_)
  subst hg
  show G Γ S 0 0 0 [(0, .ref (q 80)), (1, .int k), (2, .int w), (3, .ref (q 100))] []
  refine g_aload_n (k := 3) F 3 rfl dL_made_0 ?_
  refine g_iconst (v := 0) F (by decide) dL_made_1 ?_
  refine g_aload_n (k := 0) F 0 rfl dL_made_2 ?_
  refine g_iload_n (k := 1) F 1 rfl dL_made_3 ?_
  refine g_iload_n (k := 2) F 2 rfl dL_made_4 ?_
  refine x_callV F (kX9_made Γ.1 S q hq z H l n tx hI.1.1 hw k w) okX9_made (qi80 hq) mw737 ⟨(Nat.le_of_ble_eq_true rfl), (Nat.le_of_ble_eq_true rfl)⟩ rfl rfl (Nat.le_of_ble_eq_true rfl) ⟨(Nat.le_of_ble_eq_true rfl), (Nat.le_of_ble_eq_true rfl)⟩ dL_made_5 (fun E S3 h3 => ?_) (toJ (fun r S2 h => ?_))
  · obtain ⟨hE, hF, hC⟩ := h3
    rcases hE with ⟨rfl, hc⟩ | ⟨rfl, hc⟩
    · refine x_catch2 (nm := eIOB) (k := 4) (L' := [(0, .ref (q 80)), (1, .int k), (2, .int w), (3, .ref (q 100))]) F [] ⟨0, 9, 12, 18⟩ [⟨0, 9, 16, 13⟩] (by rw [hT]; rfl) (fun z9 hz9 => (by cases hz9)) (by decide) (by decide) mw177 cst_IOB dL_made_12 (Nat.le_of_ble_eq_true rfl) rfl ?_
      refine g_iconst (v := 1) F (by decide) dL_made_14 ?_
      refine g_iret F T ⟨_, rfl, ?_⟩ (Nat.le_of_ble_eq_true rfl) (Nat.le_of_ble_eq_true rfl) dL_made_15
      exact ⟨hc.symm, fun h9 => absurd (h9.symm.trans hc) (by decide), P_x hF, hC⟩
    · refine x_catch2 (nm := eIAE) (k := 4) (L' := [(0, .ref (q 80)), (1, .int k), (2, .int w), (3, .ref (q 100))]) F [⟨0, 9, 12, 18⟩] ⟨0, 9, 16, 13⟩ [] (by rw [hT]; rfl) (fun z9 hz9 => by
              simp only [List.mem_cons, List.not_mem_nil, or_false] at hz9
              subst hz9
              exact .inr ⟨by decide, eIOB, mw177, by decide⟩) (by decide) (by decide) mw116 cst_IAE dL_made_16 (Nat.le_of_ble_eq_true rfl) rfl ?_
      refine g_iconst (v := 2) F (by decide) dL_made_18 ?_
      refine g_iret F T ⟨_, rfl, ?_⟩ (Nat.le_of_ble_eq_true rfl) (Nat.le_of_ble_eq_true rfl) dL_made_19
      exact ⟨hc.symm, fun h9 => absurd (h9.symm.trans hc) (by decide), P_x hF, hC⟩
  · obtain ⟨h0, er, hF, hC⟩ := h
    have hq2 : Shp S2.1 S2.2.1 q := FrP.q hF hq
    refine g_last (j := 0) F (qi100 hq2) rfl (by rw [qn100 hq2]; decide) (by rw [qn100 hq2]; decide) dL_made_8 ?_
    refine g_goto (t := 20) F dL_made_9 (by decide) ?_
    refine g_iconst (v := 0) F (by decide) dL_made_20 ?_
    refine g_iret F T ⟨_, rfl, ?_⟩ (Nat.le_of_ble_eq_true rfl) (Nat.le_of_ble_eq_true rfl) dL_made_21
    exact ⟨h0.symm, fun _ => up2_s.trans (by rw [er]), P_100 hq hF, Cl_100 hq2 hC⟩
def mL_elbow : Mt := (yL_elbow, cL_elbow, 6, (some .int), 8, 136, 5)
theorem okL_elbow : okSW mL_elbow [(0, 11, 14, 13)] := ⟨⟨by decide +kernel, by decide +kernel, by decide +kernel⟩, mw828, mw827, mw114⟩
set_option maxHeartbeats 4000000 in
set_option maxRecDepth 100000 in
theorem kL_elbow (g : Glo) (S : PS) (q : Nat → Nat) (hq : Shp S.1 S.2.1 q) (z : ZZ) (H : List ZZ) (l : Int32) (n : Nat) (tx : Nat → Int32) (hI : Iw (z, H, l, n, tx)) (hw : Cl S q (z, H, l, n, tx)) (x : Int32) (y : Int32) (w : Int32) : Cw g mL_elbow [(0, 11, 14, 13)] 3 18 [.ref (q 80), .int x, .int y, .int w, .ref (q 100)] S (pI9 (fun r S' => r = (oElb x y w (z, H, l, n, tx)).1 ∧ ((oElb x y w (z, H, l, n, tx)).1 = 0 → pJ S' (q 100) 0 = (oElb x y w (z, H, l, n, tx)).2) ∧ FrP S S' q P94x ∧ Cl S' q (z, H, l, n, tx))) := by
  refine Cw.of (by decide) (Nat.le_of_ble_eq_true rfl) (fun Γ hg F T hT => ?_)
  subst hg
  show G Γ S 0 0 0 [(0, .ref (q 80)), (1, .int x), (2, .int y), (3, .int w), (4, .ref (q 100))] []
  refine g_aload F 4 rfl dL_elbow_0 ?_
  refine g_iconst (v := 0) F (by decide) dL_elbow_2 ?_
  refine g_aload_n (k := 0) F 0 rfl dL_elbow_3 ?_
  refine g_iload_n (k := 1) F 1 rfl dL_elbow_4 ?_
  refine g_iload_n (k := 2) F 2 rfl dL_elbow_5 ?_
  refine g_iload_n (k := 3) F 3 rfl dL_elbow_6 ?_
  refine x_callV F (kX9_elbow Γ.1 S q hq z H l n tx hI.1.1 hw x y w) okX9_elbow (qi80 hq) mw829 ⟨(Nat.le_of_ble_eq_true rfl), (Nat.le_of_ble_eq_true rfl)⟩ rfl rfl (Nat.le_of_ble_eq_true rfl) ⟨(Nat.le_of_ble_eq_true rfl), (Nat.le_of_ble_eq_true rfl)⟩ dL_elbow_7 (fun E S3 h3 => ?_) (toJ (fun r S2 h => ?_))
  · obtain ⟨hE, hF, hC⟩ := h3
    obtain ⟨rfl, hc⟩ := hE
    refine x_catch2 (nm := eIAE) (k := 5) (L' := [(0, .ref (q 80)), (1, .int x), (2, .int y), (3, .int w), (4, .ref (q 100))]) F [] ⟨0, 11, 14, 13⟩ [] (by rw [hT]; rfl) (fun z9 hz9 => (by cases hz9)) (by decide) (by decide) mw116 cst_IAE dL_elbow_14 (Nat.le_of_ble_eq_true rfl) rfl ?_
    refine g_iconst (v := 1) F (by decide) dL_elbow_16 ?_
    refine g_iret F T ⟨_, rfl, ?_⟩ (Nat.le_of_ble_eq_true rfl) (Nat.le_of_ble_eq_true rfl) dL_elbow_17
    exact ⟨hc.symm, fun h9 => absurd (h9.symm.trans hc) (by decide), P_x hF, hC⟩
  · obtain ⟨h0, er, hF, hC⟩ := h
    have hq2 : Shp S2.1 S2.2.1 q := FrP.q hF hq
    refine g_last (j := 0) F (qi100 hq2) rfl (by rw [qn100 hq2]; decide) (by rw [qn100 hq2]; decide) dL_elbow_10 ?_
    refine g_goto (t := 18) F dL_elbow_11 (by decide) ?_
    refine g_iconst (v := 0) F (by decide) dL_elbow_18 ?_
    refine g_iret F T ⟨_, rfl, ?_⟩ (Nat.le_of_ble_eq_true rfl) (Nat.le_of_ble_eq_true rfl) dL_elbow_19
    exact ⟨h0.symm, fun _ => up2_s.trans (by rw [er]), P_100 hq hF, Cl_100 hq2 hC⟩
def mL_count : Mt := (yL_count, cL_count, 4, (some .int), 8, 190, 3)
theorem okL_count : okSW mL_count [(0, 8, 11, 13)] := ⟨⟨by decide +kernel, by decide +kernel, by decide +kernel⟩, mw846, mw845, mw114⟩
set_option maxHeartbeats 4000000 in
set_option maxRecDepth 100000 in
theorem kL_count (g : Glo) (S : PS) (q : Nat → Nat) (hq : Shp S.1 S.2.1 q) (z : ZZ) (H : List ZZ) (l : Int32) (n : Nat) (tx : Nat → Int32) (hI : Iw (z, H, l, n, tx)) (hw : Cl S q (z, H, l, n, tx)) (w : Int32) : Cw g mL_count [(0, 8, 11, 13)] 3 18 [.ref (q 80), .int w, .ref (q 100)] S (pI9 (fun r S' => r = (oCnt w (z, H, l, n, tx)).1 ∧ ((oCnt w (z, H, l, n, tx)).1 = 0 → pJ S' (q 100) 0 = (oCnt w (z, H, l, n, tx)).2) ∧ FrP S S' q P94x ∧ Cl S' q (z, H, l, n, tx))) := by
  refine Cw.of (by decide) (Nat.le_of_ble_eq_true rfl) (fun Γ hg F T hT => ?_)
  subst hg
  show G Γ S 0 0 0 [(0, .ref (q 80)), (1, .int w), (2, .ref (q 100))] []
  refine g_aload_n (k := 2) F 2 rfl dL_count_0 ?_
  refine g_iconst (v := 0) F (by decide) dL_count_1 ?_
  refine g_aload_n (k := 0) F 0 rfl dL_count_2 ?_
  refine g_iload_n (k := 1) F 1 rfl dL_count_3 ?_
  refine x_callV F (kX9_count Γ.1 S q hq z H l n tx hI.1.1 hw w) okX9_count (qi80 hq) mw847 ⟨(Nat.le_of_ble_eq_true rfl), (Nat.le_of_ble_eq_true rfl)⟩ rfl rfl (Nat.le_of_ble_eq_true rfl) ⟨(Nat.le_of_ble_eq_true rfl), (Nat.le_of_ble_eq_true rfl)⟩ dL_count_4 (fun E S3 h3 => ?_) (toJ (fun r S2 h => ?_))
  · obtain ⟨hE, hF, hC⟩ := h3
    obtain ⟨rfl, hc⟩ := hE
    refine x_catch (nm := eIAE) (k := 3) (L' := [(0, .ref (q 80)), (1, .int w), (2, .ref (q 100))]) F [] ⟨0, 8, 11, 13⟩ [] (by rw [hT]; rfl) (fun z9 hz9 => (by cases hz9)) (by decide) (by decide) mw116 cst_IAE dL_count_11 (Nat.le_of_ble_eq_true rfl) rfl ?_
    refine g_iconst (v := 1) F (by decide) dL_count_12 ?_
    refine g_iret F T ⟨_, rfl, ?_⟩ (Nat.le_of_ble_eq_true rfl) (Nat.le_of_ble_eq_true rfl) dL_count_13
    exact ⟨hc.symm, fun h9 => absurd (h9.symm.trans hc) (by decide), P_x hF, hC⟩
  · obtain ⟨h0, er, hF, hC⟩ := h
    have hq2 : Shp S2.1 S2.2.1 q := FrP.q hF hq
    refine g_last (j := 0) F (qi100 hq2) rfl (by rw [qn100 hq2]; decide) (by rw [qn100 hq2]; decide) dL_count_7 ?_
    refine g_goto (t := 14) F dL_count_8 (by decide) ?_
    refine g_iconst (v := 0) F (by decide) dL_count_14 ?_
    refine g_iret F T ⟨_, rfl, ?_⟩ (Nat.le_of_ble_eq_true rfl) (Nat.le_of_ble_eq_true rfl) dL_count_15
    exact ⟨h0.symm, fun _ => up2_s.trans (by rw [er]), P_100 hq hF, Cl_100 hq2 hC⟩
def mL_setting : Mt := (yL_setting, cL_setting, 4, (some .int), 8, 131, 3)
theorem okL_setting : okSW mL_setting [(0, 9, 12, 18)] := ⟨⟨by decide +kernel, by decide +kernel, by decide +kernel⟩, mw902, mw901, mw114⟩
set_option maxHeartbeats 4000000 in
set_option maxRecDepth 100000 in
theorem kL_setting (g : Glo) (S : PS) (q : Nat → Nat) (hq : Shp S.1 S.2.1 q) (z : ZZ) (H : List ZZ) (l : Int32) (n : Nat) (tx : Nat → Int32) (hI : Iw (z, H, l, n, tx)) (hw : Cl S q (z, H, l, n, tx)) (k : Int32) : Cw g mL_setting [(0, 9, 12, 18)] 3 18 [.ref (q 80), .int k, .ref (q 100)] S (pI9 (fun r S' => r = (oStg k (z, H, l, n, tx)).1 ∧ ((oStg k (z, H, l, n, tx)).1 = 0 → pJ S' (q 100) 0 = (oStg k (z, H, l, n, tx)).2.toInt64) ∧ FrP S S' q P94x ∧ Cl S' q (z, H, l, n, tx))) := by
  refine Cw.of (by decide) (Nat.le_of_ble_eq_true rfl) (fun Γ hg F T hT => ?_)
  subst hg
  show G Γ S 0 0 0 [(0, .ref (q 80)), (1, .int k), (2, .ref (q 100))] []
  refine g_aload_n (k := 2) F 2 rfl dL_setting_0 ?_
  refine g_iconst (v := 0) F (by decide) dL_setting_1 ?_
  refine g_aload_n (k := 0) F 0 rfl dL_setting_2 ?_
  refine g_iload_n (k := 1) F 1 rfl dL_setting_3 ?_
  refine x_callV F (kX9_setting Γ.1 S q hq z H l n tx hI.1.1 hw k) okX9_setting (qi80 hq) mw903 ⟨(Nat.le_of_ble_eq_true rfl), (Nat.le_of_ble_eq_true rfl)⟩ rfl rfl (Nat.le_of_ble_eq_true rfl) ⟨(Nat.le_of_ble_eq_true rfl), (Nat.le_of_ble_eq_true rfl)⟩ dL_setting_4 (fun E S3 h3 => ?_) (toI (fun r S2 h => ?_))
  · obtain ⟨hE, hF, hC⟩ := h3
    obtain ⟨rfl, hc⟩ := hE
    refine x_catch (nm := eIOB) (k := 3) (L' := [(0, .ref (q 80)), (1, .int k), (2, .ref (q 100))]) F [] ⟨0, 9, 12, 18⟩ [] (by rw [hT]; rfl) (fun z9 hz9 => (by cases hz9)) (by decide) (by decide) mw177 cst_IOB dL_setting_12 (Nat.le_of_ble_eq_true rfl) rfl ?_
    refine g_iconst (v := 1) F (by decide) dL_setting_13 ?_
    refine g_iret F T ⟨_, rfl, ?_⟩ (Nat.le_of_ble_eq_true rfl) (Nat.le_of_ble_eq_true rfl) dL_setting_14
    exact ⟨hc.symm, fun h9 => absurd (h9.symm.trans hc) (by decide), P_x hF, hC⟩
  · obtain ⟨h0, er, hF, hC⟩ := h
    have hq2 : Shp S2.1 S2.2.1 q := FrP.q hF hq
    refine g_i2l F dL_setting_7 ?_
    refine g_last (j := 0) F (qi100 hq2) rfl (by rw [qn100 hq2]; decide) (by rw [qn100 hq2]; decide) dL_setting_8 ?_
    refine g_goto (t := 15) F dL_setting_9 (by decide) ?_
    refine g_iconst (v := 0) F (by decide) dL_setting_15 ?_
    refine g_iret F T ⟨_, rfl, ?_⟩ (Nat.le_of_ble_eq_true rfl) (Nat.le_of_ble_eq_true rfl) dL_setting_16
    exact ⟨h0.symm, fun _ => up2_s.trans (by rw [er]), P_100 hq hF, Cl_100 hq2 hC⟩
def mL_why : Mt := (yL_why, cL_why, 5, (some .int), 8, 161, 4)
theorem okL_why : okSW mL_why [(0, 10, 13, 18)] := ⟨⟨by decide +kernel, by decide +kernel, by decide +kernel⟩, mw913, mw912, mw114⟩
set_option maxHeartbeats 4000000 in
set_option maxRecDepth 100000 in
theorem kL_why (g : Glo) (S : PS) (q : Nat → Nat) (hq : Shp S.1 S.2.1 q) (z : ZZ) (H : List ZZ) (l : Int32) (n : Nat) (tx : Nat → Int32) (hI : Iw (z, H, l, n, tx)) (hw : Cl S q (z, H, l, n, tx)) (k : Int32) (b : Bool) : Cw g mL_why [(0, 10, 13, 18)] 3 18 [.ref (q 80), .int k, .int (bI b), .ref (q 100)] S (pI9 (fun r S' => r = (oWhy k (z, H, l, n, tx)).1 ∧ ((oWhy k (z, H, l, n, tx)).1 = 0 → pJ S' (q 100) 0 = (oWhy k (z, H, l, n, tx)).2.toInt64) ∧ FrP S S' q P94x ∧ Cl S' q (z, H, l, n, tx))) := by
  refine Cw.of (by decide) (Nat.le_of_ble_eq_true rfl) (fun Γ hg F T hT => ?_)
  subst hg
  show G Γ S 0 0 0 [(0, .ref (q 80)), (1, .int k), (2, .int (bI b)), (3, .ref (q 100))] []
  refine g_aload_n (k := 3) F 3 rfl dL_why_0 ?_
  refine g_iconst (v := 0) F (by decide) dL_why_1 ?_
  refine g_aload_n (k := 0) F 0 rfl dL_why_2 ?_
  refine g_iload_n (k := 1) F 1 rfl dL_why_3 ?_
  refine g_iload_n (k := 2) F 2 rfl dL_why_4 ?_
  refine x_callV F (kX9_why Γ.1 S q hq z H l n tx hI.1.1 hw k b) okX9_why (qi80 hq) mw914 ⟨(Nat.le_of_ble_eq_true rfl), (Nat.le_of_ble_eq_true rfl)⟩ rfl rfl (Nat.le_of_ble_eq_true rfl) ⟨(Nat.le_of_ble_eq_true rfl), (Nat.le_of_ble_eq_true rfl)⟩ dL_why_5 (fun E S3 h3 => ?_) (toI (fun r S2 h => ?_))
  · obtain ⟨hE, hF, hC⟩ := h3
    obtain ⟨rfl, hc⟩ := hE
    refine x_catch2 (nm := eIOB) (k := 4) (L' := [(0, .ref (q 80)), (1, .int k), (2, .int (bI b)), (3, .ref (q 100))]) F [] ⟨0, 10, 13, 18⟩ [] (by rw [hT]; rfl) (fun z9 hz9 => (by cases hz9)) (by decide) (by decide) mw177 cst_IOB dL_why_13 (Nat.le_of_ble_eq_true rfl) rfl ?_
    refine g_iconst (v := 1) F (by decide) dL_why_15 ?_
    refine g_iret F T ⟨_, rfl, ?_⟩ (Nat.le_of_ble_eq_true rfl) (Nat.le_of_ble_eq_true rfl) dL_why_16
    exact ⟨hc.symm, fun h9 => absurd (h9.symm.trans hc) (by decide), P_x hF, hC⟩
  · obtain ⟨h0, er, hF, hC⟩ := h
    have hq2 : Shp S2.1 S2.2.1 q := FrP.q hF hq
    refine g_i2l F dL_why_8 ?_
    refine g_last (j := 0) F (qi100 hq2) rfl (by rw [qn100 hq2]; decide) (by rw [qn100 hq2]; decide) dL_why_9 ?_
    refine g_goto (t := 17) F dL_why_10 (by decide) ?_
    refine g_iconst (v := 0) F (by decide) dL_why_17 ?_
    refine g_iret F T ⟨_, rfl, ?_⟩ (Nat.le_of_ble_eq_true rfl) (Nat.le_of_ble_eq_true rfl) dL_why_18
    exact ⟨h0.symm, fun _ => up2_s.trans (by rw [er]), P_100 hq hF, Cl_100 hq2 hC⟩
def mL_ifSet : Mt := (yL_ifSet, cL_ifSet, 7, (some .int), 8, 216, 6)
theorem okL_ifSet : okSW mL_ifSet [(0, 13, 16, 18), (0, 13, 20, 13)] := ⟨⟨by decide +kernel, by decide +kernel, by decide +kernel⟩, mw924, mw923, mw114⟩
set_option maxHeartbeats 4000000 in
set_option maxRecDepth 100000 in
theorem kL_ifSet (g : Glo) (S : PS) (q : Nat → Nat) (hq : Shp S.1 S.2.1 q) (z : ZZ) (H : List ZZ) (l : Int32) (n : Nat) (tx : Nat → Int32) (hI : Iw (z, H, l, n, tx)) (hw : Cl S q (z, H, l, n, tx)) (c : Int32) (b : Bool) (k : Int32) (v : Int32) : Cw g mL_ifSet [(0, 13, 16, 18), (0, 13, 20, 13)] 3 18 [.ref (q 80), .int c, .int (bI b), .int k, .int v, .ref (q 100)] S (pI9 (fun r S' => r = (oIfs c b k v (z, H, l, n, tx)).1 ∧ ((oIfs c b k v (z, H, l, n, tx)).1 = 0 → pJ S' (q 100) 0 = (oIfs c b k v (z, H, l, n, tx)).2) ∧ FrP S S' q P94x ∧ Cl S' q (z, H, l, n, tx))) := by
  refine Cw.of (by decide) (Nat.le_of_ble_eq_true rfl) (fun Γ hg F T hT => ?_)
  subst hg
  show G Γ S 0 0 0 [(0, .ref (q 80)), (1, .int c), (2, .int (bI b)), (3, .int k), (4, .int v), (5, .ref (q 100))] []
  refine g_aload F 5 rfl dL_ifSet_0 ?_
  refine g_iconst (v := 0) F (by decide) dL_ifSet_2 ?_
  refine g_aload_n (k := 0) F 0 rfl dL_ifSet_3 ?_
  refine g_iload_n (k := 1) F 1 rfl dL_ifSet_4 ?_
  refine g_iload_n (k := 2) F 2 rfl dL_ifSet_5 ?_
  refine g_iload_n (k := 3) F 3 rfl dL_ifSet_6 ?_
  refine g_iload F 4 rfl dL_ifSet_7 ?_
  refine x_callV F (kX9_ifSet Γ.1 S q hq z H l n tx hI.1.1 hw c b k v) okX9_ifSet (qi80 hq) mw925 ⟨(Nat.le_of_ble_eq_true rfl), (Nat.le_of_ble_eq_true rfl)⟩ rfl rfl (Nat.le_of_ble_eq_true rfl) ⟨(Nat.le_of_ble_eq_true rfl), (Nat.le_of_ble_eq_true rfl)⟩ dL_ifSet_9 (fun E S3 h3 => ?_) (toJ (fun r S2 h => ?_))
  · obtain ⟨hE, hF, hC⟩ := h3
    rcases hE with ⟨rfl, hc⟩ | ⟨rfl, hc⟩
    · refine x_catch2 (nm := eIOB) (k := 6) (L' := [(0, .ref (q 80)), (1, .int c), (2, .int (bI b)), (3, .int k), (4, .int v), (5, .ref (q 100))]) F [] ⟨0, 13, 16, 18⟩ [⟨0, 13, 20, 13⟩] (by rw [hT]; rfl) (fun z9 hz9 => (by cases hz9)) (by decide) (by decide) mw177 cst_IOB dL_ifSet_16 (Nat.le_of_ble_eq_true rfl) rfl ?_
      refine g_iconst (v := 1) F (by decide) dL_ifSet_18 ?_
      refine g_iret F T ⟨_, rfl, ?_⟩ (Nat.le_of_ble_eq_true rfl) (Nat.le_of_ble_eq_true rfl) dL_ifSet_19
      exact ⟨hc.symm, fun h9 => absurd (h9.symm.trans hc) (by decide), P_x hF, hC⟩
    · refine x_catch2 (nm := eIAE) (k := 6) (L' := [(0, .ref (q 80)), (1, .int c), (2, .int (bI b)), (3, .int k), (4, .int v), (5, .ref (q 100))]) F [⟨0, 13, 16, 18⟩] ⟨0, 13, 20, 13⟩ [] (by rw [hT]; rfl) (fun z9 hz9 => by
              simp only [List.mem_cons, List.not_mem_nil, or_false] at hz9
              subst hz9
              exact .inr ⟨by decide, eIOB, mw177, by decide⟩) (by decide) (by decide) mw116 cst_IAE dL_ifSet_20 (Nat.le_of_ble_eq_true rfl) rfl ?_
      refine g_iconst (v := 2) F (by decide) dL_ifSet_22 ?_
      refine g_iret F T ⟨_, rfl, ?_⟩ (Nat.le_of_ble_eq_true rfl) (Nat.le_of_ble_eq_true rfl) dL_ifSet_23
      exact ⟨hc.symm, fun h9 => absurd (h9.symm.trans hc) (by decide), P_x hF, hC⟩
  · obtain ⟨h0, er, hF, hC⟩ := h
    have hq2 : Shp S2.1 S2.2.1 q := FrP.q hF hq
    refine g_last (j := 0) F (qi100 hq2) rfl (by rw [qn100 hq2]; decide) (by rw [qn100 hq2]; decide) dL_ifSet_12 ?_
    refine g_goto (t := 24) F dL_ifSet_13 (by decide) ?_
    refine g_iconst (v := 0) F (by decide) dL_ifSet_24 ?_
    refine g_iret F T ⟨_, rfl, ?_⟩ (Nat.le_of_ble_eq_true rfl) (Nat.le_of_ble_eq_true rfl) dL_ifSet_25
    exact ⟨h0.symm, fun _ => up2_s.trans (by rw [er]), P_100 hq hF, Cl_100 hq2 hC⟩
