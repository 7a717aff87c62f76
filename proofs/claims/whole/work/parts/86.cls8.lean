set_option maxHeartbeats 4000000 in
set_option maxRecDepth 100000 in
theorem kX7_beginNumber (g : Glo) (S : PS) (q : Nat → Nat) (hq : Shp S.1 S.2.1 q) : Ct g mX7_beginNumber 0 0 [.ref (q 90)] S (pV9 (fun S' => Fr S S' q [90] ∧ (pI S' (q 90) 2 = pI S (q 90) 2 ∧ pI S' (q 90) 4 = pI S (q 90) 4) ∧ pI S' (q 90) 3 = 0 ∧ pI S' (q 90) 5 = 0 ∧ pI S' (q 90) 6 = 0)) := by
  refine Ct.of (by decide) (Nat.le_of_ble_eq_true rfl) (fun Γ hg F T => ?_)
  subst hg
  show G Γ S 0 0 0 [(0, .ref (q 90))] []
  refine g_aload_n (k := 0) F 0 rfl dX7_beginNumber_0 ?_
  refine g_iconst (v := 0) F (by decide) dX7_beginNumber_1 ?_
  refine pfX7_33 F (qi90 hq) dX7_beginNumber_2 ?_
  refine g_aload_n (k := 0) F 0 rfl dX7_beginNumber_5 ?_
  refine g_iconst (v := 0) F (by decide) dX7_beginNumber_6 ?_
  refine pfX7_45 F rfl rfl (qi90 hq) dX7_beginNumber_7 ?_
  refine g_aload_n (k := 0) F 0 rfl dX7_beginNumber_10 ?_
  refine g_iconst (v := 0) F (by decide) dX7_beginNumber_11 ?_
  refine pfX7_48 F (qi90 hq) dX7_beginNumber_12 ?_
  refine g_vret F T ⟨rfl, ?_⟩ (Nat.le_of_ble_eq_true rfl) (Nat.le_of_ble_eq_true rfl) dX7_beginNumber_15
  exact ⟨(Fr.wI hq (Fr.wI hq (Fr.wI hq Fr.rf (by decide) (by decide)) (by decide) (by decide)) (by decide) (by decide)), ⟨((up2_k (by decide)).trans ((up2_k (by decide)).trans ((up2_k (by decide)).trans rfl))), ((up2_k (by decide)).trans ((up2_k (by decide)).trans ((up2_k (by decide)).trans rfl)))⟩, ((up2_k (by decide)).trans ((up2_k (by decide)).trans up2_s)), ((up2_k (by decide)).trans up2_s), up2_s⟩
set_option maxHeartbeats 4000000 in
set_option maxRecDepth 100000 in
theorem kX7_acceptMinus (g : Glo) (S : PS) (q : Nat → Nat) (hq : Shp S.1 S.2.1 q) (t : TT) (hT : Tc S q t) (hI : rdI t) : Ct g mX7_acceptMinus 0 0 [.ref (q 90)] S (pI9 (fun r S' => ((r = 1 ∧ ∃ t2, rdC t 45 = some t2 ∧ Tc S' q t2) ∨ (r = 0 ∧ rdC t 45 = none)) ∧ Fr S S' q [90, 91, 92])) := by
  refine Ct.of (by decide) (Nat.le_of_ble_eq_true rfl) (fun Γ hg F T => ?_)
  subst hg
  show G Γ S 0 0 0 [(0, .ref (q 90))] []
  have h39 := hI.2.1
  have h29 := hI.1
  refine g_aload_n (k := 0) F 0 rfl dX7_acceptMinus_0 ?_
  refine gfX7_33e F (qi90 hq) hT.1.2.2.1 dX7_acceptMinus_1 ?_
  refine g_if_eq (t := 9) F dX7_acceptMinus_4 (by decide) (fun c1 => ?_) (fun c1 => ?_)
  · have hp9 : t.1 = 0 := by
      rw [show (0 : Int32) = nI 0 from rfl, nI_eq (by omega) (by omega)] at c1
      exact c1
    refine g_aload_n (k := 0) F 0 rfl dX7_acceptMinus_9 ?_
    refine g_iconst (v := 1) F (by decide) dX7_acceptMinus_10 ?_
    refine pfX7_33 F (qi90 hq) dX7_acceptMinus_11 ?_
    refine g_aload_n (k := 0) F 0 rfl dX7_acceptMinus_14 ?_
    refine g_iconst (v := 1) F (by decide) dX7_acceptMinus_15 ?_
    refine pfX7_45 F rfl rfl (qi90 hq) dX7_acceptMinus_16 ?_
    refine g_iconst (v := 1) F (by decide) dX7_acceptMinus_19 ?_
    refine g_zret F T rfl ⟨_, rfl, ?_⟩ (Nat.le_of_ble_eq_true rfl) (Nat.le_of_ble_eq_true rfl) dX7_acceptMinus_20
    exact ⟨.inl ⟨rfl, (1, true, t.2.2), c_minus.1 hp9, ⟨((up2_k (by decide)).trans ((up2_k (by decide)).trans hT.1.1)), ((up2_k (by decide)).trans ((up2_k (by decide)).trans hT.1.2.1)), ((up2_k (by decide)).trans up2_s), up2_s, ((up2_k (by decide)).trans ((up2_k (by decide)).trans hT.1.2.2.2.2)).trans (if_neg (by omega))⟩, fun i hi => (rXY_fr (l := [90]) (Fr.wI hq (Fr.wI hq Fr.rf (by decide) (by decide)) (by decide) (by decide)) (by decide) (by decide) i).trans (hT.2.1 i hi), fun x => absurd x (by show ¬ 1 = 2; omega)⟩, (Fr.wI hq (Fr.wI hq Fr.rf (by decide) (by decide)) (by decide) (by decide))⟩
  · have hp9 : ¬ t.1 = 0 := fun h => c1 (by rw [h]; rfl)
    refine g_iconst (v := 0) F (by decide) dX7_acceptMinus_7 ?_
    refine g_zret F T rfl ⟨_, rfl, ?_⟩ (Nat.le_of_ble_eq_true rfl) (Nat.le_of_ble_eq_true rfl) dX7_acceptMinus_8
    exact ⟨.inr ⟨rfl, c_minus.2 hp9⟩, Fr.rf⟩
set_option maxHeartbeats 4000000 in
set_option maxRecDepth 100000 in
theorem kX7_acceptComma (g : Glo) (S : PS) (q : Nat → Nat) (hq : Shp S.1 S.2.1 q) (t : TT) (hT : Tc S q t) (hI : rdI t) : Ct g mX7_acceptComma 0 0 [.ref (q 90)] S (pI9 (fun r S' => ((r = 1 ∧ ∃ t2, rdC t 44 = some t2 ∧ Tc S' q t2) ∨ (r = 0 ∧ rdC t 44 = none)) ∧ Fr S S' q [90, 91, 92])) := by
  refine Ct.of (by decide) (Nat.le_of_ble_eq_true rfl) (fun Γ hg F T => ?_)
  subst hg
  show G Γ S 0 0 0 [(0, .ref (q 90))] []
  have h39 := hI.2.1
  have h29 := hI.1
  refine g_aload_n (k := 0) F 0 rfl dX7_acceptComma_0 ?_
  refine gfX7_33e F (qi90 hq) hT.1.2.2.1 dX7_acceptComma_1 ?_
  refine g_iconst (v := 2) F (by decide) dX7_acceptComma_4 ?_
  refine g_icmp_ne (t := 15) F dX7_acceptComma_5 (by decide) (fun c1 => ?_) (fun c1 => ?_)
  · have hp9 : ¬ t.1 = 2 := fun h => c1 (by rw [h]; rfl)
    refine g_iconst (v := 0) F (by decide) dX7_acceptComma_15 ?_
    refine g_zret F T rfl ⟨_, rfl, ?_⟩ (Nat.le_of_ble_eq_true rfl) (Nat.le_of_ble_eq_true rfl) dX7_acceptComma_16
    exact ⟨.inr ⟨rfl, c_comma.2 (fun h => hp9 h.1)⟩, Fr.rf⟩
  · have hp9 : t.1 = 2 := by
      rw [show (2 : Int32) = nI 2 from rfl, nI_eq (by omega) (by omega)] at c1
      exact c1
    refine g_aload_n (k := 0) F 0 rfl dX7_acceptComma_8 ?_
    refine gfX7_22e F (qi90 hq) hT.1.2.1 dX7_acceptComma_9 ?_
    refine g_if_eq (t := 17) F dX7_acceptComma_12 (by decide) (fun c2 => ?_) (fun c2 => ?_)
    · have hb9 : ¬ t.2.2.2.1 % 2 = 1 := fun h => absurd (bI_0 c2) (by rw [decide_eq_true h]; decide)
      refine g_aload_n (k := 0) F 0 rfl dX7_acceptComma_17 ?_
      refine g_iconst (v := 1) F (by decide) dX7_acceptComma_18 ?_
      refine pfX7_22 F rfl rfl (qi90 hq) dX7_acceptComma_19 ?_
      refine g_aload_n (k := 0) F 0 rfl dX7_acceptComma_22 ?_
      refine g_callV F (kX7_beginNumber Γ.1 (wI S (q 90) 4 1) q hq) okX7_beginNumber (qi90 hq) mw603 ⟨(Nat.le_of_ble_eq_true rfl), (Nat.le_of_ble_eq_true rfl)⟩ rfl rfl (Nat.le_of_ble_eq_true rfl) ⟨(Nat.le_of_ble_eq_true rfl), (Nat.le_of_ble_eq_true rfl)⟩ dX7_acceptComma_23 (toV (fun S4 h5 => ?_))
      obtain ⟨fr3, br3⟩ := h5
      have hq6 : Shp S4.1 S4.2.1 q := Fr.q fr3 hq
      refine g_iconst (v := 1) F (by decide) dX7_acceptComma_26 ?_
      refine g_zret F T rfl ⟨_, rfl, ?_⟩ (Nat.le_of_ble_eq_true rfl) (Nat.le_of_ble_eq_true rfl) dX7_acceptComma_27
      exact ⟨.inl ⟨rfl, rdE t, c_comma.1 ⟨hp9, by omega⟩, Tc_E hT hp9 (fun i => rXY_fr (l := [90]) (Fr.tr (Fr.wI hq Fr.rf (by decide) (by decide)) fr3 (fun _ h => h) (fun _ h => h)) (by decide) (by decide) i) ((br3.1.1.trans ((up2_k (by decide)).trans hT.1.1)).trans (congrArg nI (by omega))) ((br3.1.2.trans up2_s).trans (by rw [decide_eq_true (by omega)]; rfl)) br3.2.1 br3.2.2.1 br3.2.2.2⟩, (Fr.tr (l := [90, 91, 92]) (Fr.wI hq Fr.rf (by decide) (by decide)) fr3 (by decide) (by decide))⟩
    · have hb9 : t.2.2.2.1 % 2 = 1 := of_decide_eq_true (bI_1 c2)
      refine g_iconst (v := 0) F (by decide) dX7_acceptComma_15 ?_
      refine g_zret F T rfl ⟨_, rfl, ?_⟩ (Nat.le_of_ble_eq_true rfl) (Nat.le_of_ble_eq_true rfl) dX7_acceptComma_16
      exact ⟨.inr ⟨rfl, c_comma.2 (fun h => absurd h.2 (by omega))⟩, Fr.rf⟩
set_option maxHeartbeats 4000000 in
set_option maxRecDepth 100000 in
theorem kX7_acceptSemicolon (g : Glo) (S : PS) (q : Nat → Nat) (hq : Shp S.1 S.2.1 q) (t : TT) (hT : Tc S q t) (hI : rdI t) : Ct g mX7_acceptSemicolon 0 0 [.ref (q 90)] S (pI9 (fun r S' => ((r = 1 ∧ ∃ t2, rdC t 59 = some t2 ∧ Tc S' q t2) ∨ (r = 0 ∧ rdC t 59 = none)) ∧ Fr S S' q [90, 91, 92])) := by
  refine Ct.of (by decide) (Nat.le_of_ble_eq_true rfl) (fun Γ hg F T => ?_)
  subst hg
  show G Γ S 0 0 0 [(0, .ref (q 90))] []
  have h39 := hI.2.1
  have h29 := hI.1
  refine g_aload_n (k := 0) F 0 rfl dX7_acceptSemicolon_0 ?_
  refine gfX7_33e F (qi90 hq) hT.1.2.2.1 dX7_acceptSemicolon_1 ?_
  refine g_iconst (v := 2) F (by decide) dX7_acceptSemicolon_4 ?_
  refine g_icmp_ne (t := 26) F dX7_acceptSemicolon_5 (by decide) (fun c1 => ?_) (fun c1 => ?_)
  · have hp9 : ¬ t.1 = 2 := fun h => c1 (by rw [h]; rfl)
    refine g_iconst (v := 0) F (by decide) dX7_acceptSemicolon_26 ?_
    refine g_zret F T rfl ⟨_, rfl, ?_⟩ (Nat.le_of_ble_eq_true rfl) (Nat.le_of_ble_eq_true rfl) dX7_acceptSemicolon_27
    exact ⟨.inr ⟨rfl, c_semi.2 (fun h => hp9 h.1)⟩, Fr.rf⟩
  · have hp9 : t.1 = 2 := by
      rw [show (2 : Int32) = nI 2 from rfl, nI_eq (by omega) (by omega)] at c1
      exact c1
    refine g_aload_n (k := 0) F 0 rfl dX7_acceptSemicolon_8 ?_
    refine gfX7_22e F (qi90 hq) hT.1.2.1 dX7_acceptSemicolon_9 ?_
    refine g_if_eq (t := 26) F dX7_acceptSemicolon_12 (by decide) (fun c2 => ?_) (fun c2 => ?_)
    · have hb9 : ¬ t.2.2.2.1 % 2 = 1 := fun h => absurd (bI_0 c2) (by rw [decide_eq_true h]; decide)
      refine g_iconst (v := 0) F (by decide) dX7_acceptSemicolon_26 ?_
      refine g_zret F T rfl ⟨_, rfl, ?_⟩ (Nat.le_of_ble_eq_true rfl) (Nat.le_of_ble_eq_true rfl) dX7_acceptSemicolon_27
      exact ⟨.inr ⟨rfl, c_semi.2 (fun h => hb9 h.2.1)⟩, Fr.rf⟩
    · have hb9 : t.2.2.2.1 % 2 = 1 := of_decide_eq_true (bI_1 c2)
      refine g_aload_n (k := 0) F 0 rfl dX7_acceptSemicolon_15 ?_
      refine gfX7_18e F (qi90 hq) hT.1.1 dX7_acceptSemicolon_16 ?_
      refine g_iconst (v := 1) F (by decide) dX7_acceptSemicolon_19 ?_
      refine g_iadd F dX7_acceptSemicolon_20 ?_
      refine g_rei (nI ((t.2.2.2.1 / 2) + 1)) (nadd rfl rfl) ?_
      refine g_bipush (v := 20) F (by decide) dX7_acceptSemicolon_21 ?_
      refine g_icmp_lt (t := 28) F dX7_acceptSemicolon_23 (by decide) (fun c3 => ?_) (fun c3 => ?_)
      · have hl9 : t.2.2.2.1 / 2 + 1 < 20 := by
          rw [show (20 : Int32) = nI 20 from rfl, nI_ltI (by omega) (by omega)] at c3
          exact c3
        refine g_aload_n (k := 0) F 0 rfl dX7_acceptSemicolon_28 ?_
        refine g_dup F dX7_acceptSemicolon_29 rfl ?_
        refine gfX7_18e F (qi90 hq) hT.1.1 dX7_acceptSemicolon_30 ?_
        refine g_iconst (v := 1) F (by decide) dX7_acceptSemicolon_33 ?_
        refine g_iadd F dX7_acceptSemicolon_34 ?_
        refine g_rei (nI ((t.2.2.2.1 / 2) + 1)) (nadd rfl rfl) ?_
        refine pfX7_18 F (qi90 hq) dX7_acceptSemicolon_35 ?_
        refine g_aload_n (k := 0) F 0 rfl dX7_acceptSemicolon_38 ?_
        refine g_iconst (v := 0) F (by decide) dX7_acceptSemicolon_39 ?_
        refine pfX7_22 F rfl rfl (qi90 hq) dX7_acceptSemicolon_40 ?_
        refine g_aload_n (k := 0) F 0 rfl dX7_acceptSemicolon_43 ?_
        refine g_callV F (kX7_beginNumber Γ.1 (wI (wI S (q 90) 2 (nI ((t.2.2.2.1 / 2) + 1))) (q 90) 4 0) q hq) okX7_beginNumber (qi90 hq) mw603 ⟨(Nat.le_of_ble_eq_true rfl), (Nat.le_of_ble_eq_true rfl)⟩ rfl rfl (Nat.le_of_ble_eq_true rfl) ⟨(Nat.le_of_ble_eq_true rfl), (Nat.le_of_ble_eq_true rfl)⟩ dX7_acceptSemicolon_44 (toV (fun S5 h6 => ?_))
        obtain ⟨fr4, br4⟩ := h6
        have hq7 : Shp S5.1 S5.2.1 q := Fr.q fr4 hq
        refine g_iconst (v := 1) F (by decide) dX7_acceptSemicolon_47 ?_
        refine g_zret F T rfl ⟨_, rfl, ?_⟩ (Nat.le_of_ble_eq_true rfl) (Nat.le_of_ble_eq_true rfl) dX7_acceptSemicolon_48
        exact ⟨.inl ⟨rfl, rdE t, c_semi.1 ⟨hp9, hb9, by omega⟩, Tc_E hT hp9 (fun i => rXY_fr (l := [90]) (Fr.tr (Fr.wI hq (Fr.wI hq Fr.rf (by decide) (by decide)) (by decide) (by decide)) fr4 (fun _ h => h) (fun _ h => h)) (by decide) (by decide) i) ((br4.1.1.trans ((up2_k (by decide)).trans up2_s)).trans (congrArg nI (by omega))) ((br4.1.2.trans up2_s).trans (by rw [decide_eq_false (by omega)]; rfl)) br4.2.1 br4.2.2.1 br4.2.2.2⟩, (Fr.tr (l := [90, 91, 92]) (Fr.wI hq (Fr.wI hq Fr.rf (by decide) (by decide)) (by decide) (by decide)) fr4 (by decide) (by decide))⟩
      · have hl9 : ¬ t.2.2.2.1 / 2 + 1 < 20 := by
          rw [show (20 : Int32) = nI 20 from rfl, nI_ltI (by omega) (by omega)] at c3
          exact c3
        refine g_iconst (v := 0) F (by decide) dX7_acceptSemicolon_26 ?_
        refine g_zret F T rfl ⟨_, rfl, ?_⟩ (Nat.le_of_ble_eq_true rfl) (Nat.le_of_ble_eq_true rfl) dX7_acceptSemicolon_27
        exact ⟨.inr ⟨rfl, c_semi.2 (fun h => absurd h.2.2 (by omega))⟩, Fr.rf⟩
set_option maxHeartbeats 4000000 in
set_option maxRecDepth 100000 in
theorem kX7_keepNumber (g : Glo) (S : PS) (q : Nat → Nat) (hq : Shp S.1 S.2.1 q) (b : Bool) (N : Nat) (hN : N < 20) (hb : pI S (q 90) 4 = bI b) (hn : pI S (q 90) 2 = nI N) (v : Int32) : Ct g mX7_keepNumber 0 0 [.ref (q 90), .int v] S (pV9 (fun S' => Fr S S' q [91, 92] ∧ (pI S' (q 91) = if b then pI S (q 91) else upd (pI S (q 91)) N v) ∧ (pI S' (q 92) = if b then upd (pI S (q 92)) N v else pI S (q 92)))) := by
  refine Ct.of (by decide) (Nat.le_of_ble_eq_true rfl) (fun Γ hg F T => ?_)
  subst hg
  show G Γ S 0 0 0 [(0, .ref (q 90)), (1, .int v)] []
  refine g_aload_n (k := 0) F 0 rfl dX7_keepNumber_0 ?_
  refine gfX7_22e F (qi90 hq) hb dX7_keepNumber_1 ?_
  refine g_if_eq (t := 20) F dX7_keepNumber_4 (by decide) (fun c1 => ?_) (fun c1 => ?_)
  · have hb9 := bI_0 c1
    subst hb9
    refine g_aload_n (k := 0) F 0 rfl dX7_keepNumber_20 ?_
    refine gfX7_9 F (qi90 hq) (qr90_0 hq) dX7_keepNumber_21 ?_
    refine g_aload_n (k := 0) F 0 rfl dX7_keepNumber_24 ?_
    refine gfX7_18e F (qi90 hq) hn dX7_keepNumber_25 ?_
    refine g_iload_n (k := 1) F 1 rfl dX7_keepNumber_28 ?_
    refine g_iast (j := N) F (qi91 hq) rfl (by rw [(qn91 hq)]; omega) (by rw [(qn91 hq)]; decide) dX7_keepNumber_29 ?_
    refine g_vret F T ⟨rfl, ?_⟩ (Nat.le_of_ble_eq_true rfl) (Nat.le_of_ble_eq_true rfl) dX7_keepNumber_30
    exact ⟨(Fr.wI hq Fr.rf (by decide) (by decide)), (up2_upd.trans (congrArg (fun f9 => upd f9 (N) v) rfl)), ((up2_r (qne hq (by decide) (by decide) (by decide))).trans rfl)⟩
  · have hb9 := bI_1 c1
    subst hb9
    refine g_aload_n (k := 0) F 0 rfl dX7_keepNumber_7 ?_
    refine gfX7_15 F (qi90 hq) (qr90_1 hq) dX7_keepNumber_8 ?_
    refine g_aload_n (k := 0) F 0 rfl dX7_keepNumber_11 ?_
    refine gfX7_18e F (qi90 hq) hn dX7_keepNumber_12 ?_
    refine g_iload_n (k := 1) F 1 rfl dX7_keepNumber_15 ?_
    refine g_iast (j := N) F (qi92 hq) rfl (by rw [(qn92 hq)]; omega) (by rw [(qn92 hq)]; decide) dX7_keepNumber_16 ?_
    refine g_goto (t := 30) F dX7_keepNumber_17 (by decide) ?_
    refine g_vret F T ⟨rfl, ?_⟩ (Nat.le_of_ble_eq_true rfl) (Nat.le_of_ble_eq_true rfl) dX7_keepNumber_30
    exact ⟨(Fr.wI hq Fr.rf (by decide) (by decide)), ((up2_r (qne hq (by decide) (by decide) (by decide))).trans rfl), (up2_upd.trans (congrArg (fun f9 => upd f9 (N) v) rfl))⟩
set_option maxHeartbeats 4000000 in
set_option maxRecDepth 100000 in
theorem kX7_acceptDigit (g : Glo) (S : PS) (q : Nat → Nat) (hq : Shp S.1 S.2.1 q) (t : TT) (hT : Tc S q t) (hI : rdI t) (c : Int32) (hc : 48 ≤ c.toInt ∧ c.toInt ≤ 57) : Ct g mX7_acceptDigit 0 0 [.ref (q 90), .int (c - 48)] S (pI9 (fun r S' => ((r = 1 ∧ ∃ t2, rdC t c = some t2 ∧ Tc S' q t2) ∨ (r = 0 ∧ rdC t c = none)) ∧ Fr S S' q [90, 91, 92])) := by
  refine Ct.of (by decide) (Nat.le_of_ble_eq_true rfl) (fun Γ hg F T => ?_)
  subst hg
  show G Γ S 0 0 0 [(0, .ref (q 90)), (1, .int (c - 48))] []
  have h39 := hI.2.1
  have h29 := hI.1
  refine g_aload_n (k := 0) F 0 rfl dX7_acceptDigit_0 ?_
  refine gfX7_33e F (qi90 hq) hT.1.2.2.1 dX7_acceptDigit_1 ?_
  refine g_iconst (v := 2) F (by decide) dX7_acceptDigit_4 ?_
  have jn2 : ∀ (w20 : Int32), (w20 = 1 ∧ (t.1 = 2 ∧ tsz t = 0)) ∨ (w20 = 0 ∧ ¬ (t.1 = 2 ∧ tsz t = 0)) → G Γ S 0 0 20 [(0, .ref (q 90)), (1, .int (c - 48))] [.int w20] := by
    intro w20 hl1
    refine g_istore_n (k := 2) (L' := [(2, .int w20), (0, .ref (q 90)), (1, .int (c - 48))]) F dX7_acceptDigit_20 (Nat.le_of_ble_eq_true rfl) rfl ?_
    refine g_aload_n (k := 0) F 1 rfl dX7_acceptDigit_21 ?_
    refine gfX7_33e F (qi90 hq) hT.1.2.2.1 dX7_acceptDigit_22 ?_
    refine g_iconst (v := 1) F (by decide) dX7_acceptDigit_25 ?_
    have jn4 : ∀ (w38 : Int32), (w38 = 1 ∧ (t.1 = 1 ∧ c - 48 = 0)) ∨ (w38 = 0 ∧ ¬ (t.1 = 1 ∧ c - 48 = 0)) → G Γ S 0 0 38 [(2, .int w20), (0, .ref (q 90)), (1, .int (c - 48))] [.int w38] := by
      intro w38 hl2
      refine g_istore_n (k := 3) (L' := [(3, .int w38), (2, .int w20), (0, .ref (q 90)), (1, .int (c - 48))]) F dX7_acceptDigit_38 (Nat.le_of_ble_eq_true rfl) rfl ?_
      refine g_bipush (v := 10) F (by decide) dX7_acceptDigit_39 ?_
      refine g_aload_n (k := 0) F 2 rfl dX7_acceptDigit_41 ?_
      refine gfX7_48e F (qi90 hq) hT.1.2.2.2.2 dX7_acceptDigit_42 ?_
      refine g_imul F dX7_acceptDigit_45 ?_
      refine g_iload_n (k := 1) F 3 rfl dX7_acceptDigit_46 ?_
      refine g_iadd F dX7_acceptDigit_47 ?_
      refine g_topi (fun x5 ex5 => ?_)
      refine g_istore (L' := [(4, .int x5), (3, .int w38), (2, .int w20), (0, .ref (q 90)), (1, .int (c - 48))]) F dX7_acceptDigit_48 (Nat.le_of_ble_eq_true rfl) rfl ?_
      refine g_iload_n (k := 2) F 2 rfl dX7_acceptDigit_50 ?_
      refine g_if_ne (t := 66) F dX7_acceptDigit_51 (by decide) (fun c6 => ?_) (fun c6 => ?_)
      · have h19 := w1 hl1 c6
        refine g_iconst (v := 0) F (by decide) dX7_acceptDigit_66 ?_
        refine g_zret F T rfl ⟨_, rfl, ?_⟩ (Nat.le_of_ble_eq_true rfl) (Nat.le_of_ble_eq_true rfl) dX7_acceptDigit_67
        exact ⟨.inr ⟨rfl, rj_lead hc h19⟩, Fr.rf⟩
      · have h19 := w0 hl1 c6
        refine g_iload_n (k := 3) F 1 rfl dX7_acceptDigit_54 ?_
        refine g_if_ne (t := 66) F dX7_acceptDigit_55 (by decide) (fun c7 => ?_) (fun c7 => ?_)
        · have h29b := w1 hl2 c7
          refine g_iconst (v := 0) F (by decide) dX7_acceptDigit_66 ?_
          refine g_zret F T rfl ⟨_, rfl, ?_⟩ (Nat.le_of_ble_eq_true rfl) (Nat.le_of_ble_eq_true rfl) dX7_acceptDigit_67
          exact ⟨.inr ⟨rfl, rj_minus h29b⟩, Fr.rf⟩
        · have h29b := w0 hl2 c7
          refine g_iload F 0 rfl dX7_acceptDigit_58 ?_
          refine g_sipush (v := 1000) F (by decide) dX7_acceptDigit_60 ?_
          refine g_icmp_le (t := 68) F dX7_acceptDigit_63 (by decide) (fun c8 => ?_) (fun c8 => ?_)
          · have h39b : ¬ 1000 < 10 * tsz t + (c - 48) := by rw [← ex5]; exact fun h => absurd c8 (I_nle.mpr h)
            refine g_aload_n (k := 0) F 3 rfl dX7_acceptDigit_68 ?_
            refine g_iconst (v := 2) F (by decide) dX7_acceptDigit_69 ?_
            refine pfX7_33 F (qi90 hq) dX7_acceptDigit_70 ?_
            refine g_aload_n (k := 0) F 3 rfl dX7_acceptDigit_73 ?_
            refine g_iload F 0 rfl dX7_acceptDigit_74 ?_
            refine pfX7_48 F (qi90 hq) dX7_acceptDigit_76 ?_
            refine g_aload_n (k := 0) F 3 rfl dX7_acceptDigit_79 ?_
            refine g_aload_n (k := 0) F 3 rfl dX7_acceptDigit_80 ?_
            refine gfX7_45e F (qi90 hq) ((up2_k (by decide)).trans ((up2_k (by decide)).trans hT.1.2.2.2.1)) dX7_acceptDigit_81 ?_
            have jn10 : ∀ (w99 : Int32), w99 = (if tneg t then -(10 * tsz t + (c - 48)) else 10 * tsz t + (c - 48)) → G Γ (wI (wI S (q 90) 3 2) (q 90) 6 x5) 0 0 99 [(4, .int x5), (3, .int w38), (2, .int w20), (0, .ref (q 90)), (1, .int (c - 48))] [.int w99, .ref (q 90)] := by
              intro w99 hkn
              refine g_callV F (kX7_keepNumber Γ.1 (wI (wI S (q 90) 3 2) (q 90) 6 x5) q hq (decide (t.2.2.2.1 % 2 = 1)) (t.2.2.2.1 / 2) (by omega) ((up2_k (by decide)).trans ((up2_k (by decide)).trans hT.1.2.1)) ((up2_k (by decide)).trans ((up2_k (by decide)).trans hT.1.1)) w99) okX7_keepNumber (qi90 hq) mw630 ⟨(Nat.le_of_ble_eq_true rfl), (Nat.le_of_ble_eq_true rfl)⟩ rfl rfl (Nat.le_of_ble_eq_true rfl) ⟨(Nat.le_of_ble_eq_true rfl), (Nat.le_of_ble_eq_true rfl)⟩ dX7_acceptDigit_99 (toV (fun S12 h13 => ?_))
              obtain ⟨fr11, k1r11, k2r11⟩ := h13
              have hkp := rXY_kp k1r11 k2r11
              have hq14 : Shp S12.1 S12.2.1 q := Fr.q fr11 hq
              refine g_iconst (v := 1) F (by decide) dX7_acceptDigit_102 ?_
              refine g_zret F T rfl ⟨_, rfl, ?_⟩ (Nat.le_of_ble_eq_true rfl) (Nat.le_of_ble_eq_true rfl) dX7_acceptDigit_103
              refine ⟨.inl ⟨rfl, _, ac_dig hI hc h19 h29b h39b, ⟨((congrFun (fr11.2.2 (90) (by decide) (by decide)).1 2).trans ((up2_k (by decide)).trans ((up2_k (by decide)).trans hT.1.1))), ((congrFun (fr11.2.2 (90) (by decide) (by decide)).1 4).trans ((up2_k (by decide)).trans ((up2_k (by decide)).trans hT.1.2.1))), ((congrFun (fr11.2.2 (90) (by decide) (by decide)).1 3).trans ((up2_k (by decide)).trans up2_s)), ((congrFun (fr11.2.2 (90) (by decide) (by decide)).1 5).trans ((up2_k (by decide)).trans ((up2_k (by decide)).trans hT.1.2.2.2.1))), ((congrFun (fr11.2.2 (90) (by decide) (by decide)).1 6).trans up2_s).trans ex5⟩, fun i hi => ?_, fun _ => ?_⟩, (Fr.tr (l := [90, 91, 92]) (Fr.wI hq (Fr.wI hq Fr.rf (by decide) (by decide)) (by decide) (by decide)) fr11 (by decide) (by decide))⟩
              · rw [hkp, if_neg (show ¬ i = t.2.2.2.1 by have h9 : i < t.2.2.2.1 := hi; omega)]
                exact (rXY_fr (l := [90]) (Fr.wI hq (Fr.wI hq Fr.rf (by decide) (by decide)) (by decide) (by decide)) (by decide) (by decide) i).trans (hT.2.1 i hi)
              · exact (hkp _).trans ((if_pos rfl).trans hkn)
            refine g_if_eq (t := 95) F dX7_acceptDigit_84 (by decide) (fun c9 => ?_) (fun c9 => ?_)
            · have hb9 := c9
              refine g_aload_n (k := 0) F 3 rfl dX7_acceptDigit_95 ?_
              refine gfX7_48e F (qi90 hq) up2_s dX7_acceptDigit_96 ?_
              exact jn10 (x5) (by rw [ex5, if_neg (by rw [bI_0 hb9]; decide)])
            · have hb9 := c9
              refine g_aload_n (k := 0) F 3 rfl dX7_acceptDigit_87 ?_
              refine gfX7_48e F (qi90 hq) up2_s dX7_acceptDigit_88 ?_
              refine g_ineg F dX7_acceptDigit_91 ?_
              refine g_goto (t := 99) F dX7_acceptDigit_92 (by decide) ?_
              exact jn10 ((-x5)) (by rw [ex5, if_pos (bI_1 hb9)])
          · have h39b : 1000 < 10 * tsz t + (c - 48) := by rw [← ex5]; exact I_nle.mp c8
            refine g_iconst (v := 0) F (by decide) dX7_acceptDigit_66 ?_
            refine g_zret F T rfl ⟨_, rfl, ?_⟩ (Nat.le_of_ble_eq_true rfl) (Nat.le_of_ble_eq_true rfl) dX7_acceptDigit_67
            exact ⟨.inr ⟨rfl, rj_long hc h39b⟩, Fr.rf⟩
    refine g_icmp_ne (t := 37) F dX7_acceptDigit_26 (by decide) (fun c3 => ?_) (fun c3 => ?_)
    · have hp9 : ¬ t.1 = 1 := fun h => c3 (by rw [h]; rfl)
      refine g_iconst (v := 0) F (by decide) dX7_acceptDigit_37 ?_
      exact jn4 (0) (.inr ⟨rfl, fun h => hp9 h.1⟩)
    · have hp9 : t.1 = 1 := by
        rw [show (1 : Int32) = nI 1 from rfl, nI_eq (by omega) (by omega)] at c3
        exact c3
      refine g_iload_n (k := 1) F 2 rfl dX7_acceptDigit_29 ?_
      refine g_if_ne (t := 37) F dX7_acceptDigit_30 (by decide) (fun c15 => ?_) (fun c15 => ?_)
      · have hz9 : ¬ c - 48 = 0 := c15
        refine g_iconst (v := 0) F (by decide) dX7_acceptDigit_37 ?_
        exact jn4 (0) (.inr ⟨rfl, fun h => hz9 h.2⟩)
      · have hz9 : c - 48 = 0 := c15
        refine g_iconst (v := 1) F (by decide) dX7_acceptDigit_33 ?_
        refine g_goto (t := 38) F dX7_acceptDigit_34 (by decide) ?_
        exact jn4 (1) (.inl ⟨rfl, hp9, hz9⟩)
  refine g_icmp_ne (t := 19) F dX7_acceptDigit_5 (by decide) (fun c1 => ?_) (fun c1 => ?_)
  · have hp9 : ¬ t.1 = 2 := fun h => c1 (by rw [h]; rfl)
    refine g_iconst (v := 0) F (by decide) dX7_acceptDigit_19 ?_
    exact jn2 (0) (.inr ⟨rfl, fun h => hp9 h.1⟩)
  · have hp9 : t.1 = 2 := by
      rw [show (2 : Int32) = nI 2 from rfl, nI_eq (by omega) (by omega)] at c1
      exact c1
    refine g_aload_n (k := 0) F 0 rfl dX7_acceptDigit_8 ?_
    refine gfX7_48e F (qi90 hq) hT.1.2.2.2.2 dX7_acceptDigit_9 ?_
    refine g_if_ne (t := 19) F dX7_acceptDigit_12 (by decide) (fun c16 => ?_) (fun c16 => ?_)
    · have hz9 : ¬ tsz t = 0 := c16
      refine g_iconst (v := 0) F (by decide) dX7_acceptDigit_19 ?_
      exact jn2 (0) (.inr ⟨rfl, fun h => hz9 h.2⟩)
    · have hz9 : tsz t = 0 := c16
      refine g_iconst (v := 1) F (by decide) dX7_acceptDigit_15 ?_
      refine g_goto (t := 20) F dX7_acceptDigit_16 (by decide) ?_
      exact jn2 (1) (.inl ⟨rfl, hp9, hz9⟩)
set_option maxHeartbeats 4000000 in
set_option maxRecDepth 100000 in
theorem kX7_accept (g : Glo) (S : PS) (q : Nat → Nat) (hq : Shp S.1 S.2.1 q) (t : TT) (hT : Tc S q t) (hI : rdI t) (c : Int32) : Ct g mX7_accept 0 0 [.ref (q 90), .int c] S (pI9 (fun r S' => ((r = 1 ∧ ∃ t2, rdC t c = some t2 ∧ Tc S' q t2) ∨ (r = 0 ∧ rdC t c = none)) ∧ Fr S S' q [90, 91, 92])) := by
  refine Ct.of (by decide) (Nat.le_of_ble_eq_true rfl) (fun Γ hg F T => ?_)
  subst hg
  show G Γ S 0 0 0 [(0, .ref (q 90)), (1, .int c)] []
  refine g_iload_n (k := 1) F 1 rfl dX7_accept_0 ?_
  by_cases w1_44 : c = 44
  · refine g_lookup (off := 40) (t := 41) F dX7_accept_1 (by decide) (by rw [w1_44]; decide) (by decide) ?_
    refine g_aload_n (k := 0) F 0 rfl dX7_accept_41 ?_
    refine g_callV F (kX7_acceptComma Γ.1 S q hq t hT hI) okX7_acceptComma (qi90 hq) mw618 ⟨(Nat.le_of_ble_eq_true rfl), (Nat.le_of_ble_eq_true rfl)⟩ rfl rfl (Nat.le_of_ble_eq_true rfl) ⟨(Nat.le_of_ble_eq_true rfl), (Nat.le_of_ble_eq_true rfl)⟩ dX7_accept_42 (toI (fun r2 S3 h4 => ?_))
    obtain ⟨or2, fr2⟩ := h4
    have hq5 : Shp S3.1 S3.2.1 q := Fr.q fr2 hq
    refine g_zret F T (ro_z or2) ⟨_, rfl, ?_⟩ (Nat.le_of_ble_eq_true rfl) (Nat.le_of_ble_eq_true rfl) dX7_accept_45
    exact ⟨by rw [w1_44]; exact or2, (Fr.tr (l := [90, 91, 92]) Fr.rf fr2 (by decide) (by decide))⟩
  by_cases w1_45 : c = 45
  · refine g_lookup (off := 35) (t := 36) F dX7_accept_1 (by decide) (by rw [w1_45]; decide) (by decide) ?_
    refine g_aload_n (k := 0) F 0 rfl dX7_accept_36 ?_
    refine g_callV F (kX7_acceptMinus Γ.1 S q hq t hT hI) okX7_acceptMinus (qi90 hq) mw614 ⟨(Nat.le_of_ble_eq_true rfl), (Nat.le_of_ble_eq_true rfl)⟩ rfl rfl (Nat.le_of_ble_eq_true rfl) ⟨(Nat.le_of_ble_eq_true rfl), (Nat.le_of_ble_eq_true rfl)⟩ dX7_accept_37 (toI (fun r6 S7 h8 => ?_))
    obtain ⟨or6, fr6⟩ := h8
    have hq9 : Shp S7.1 S7.2.1 q := Fr.q fr6 hq
    refine g_zret F T (ro_z or6) ⟨_, rfl, ?_⟩ (Nat.le_of_ble_eq_true rfl) (Nat.le_of_ble_eq_true rfl) dX7_accept_40
    exact ⟨by rw [w1_45]; exact or6, (Fr.tr (l := [90, 91, 92]) Fr.rf fr6 (by decide) (by decide))⟩
  by_cases w1_59 : c = 59
  · refine g_lookup (off := 45) (t := 46) F dX7_accept_1 (by decide) (by rw [w1_59]; decide) (by decide) ?_
    refine g_aload_n (k := 0) F 0 rfl dX7_accept_46 ?_
    refine g_callV F (kX7_acceptSemicolon Γ.1 S q hq t hT hI) okX7_acceptSemicolon (qi90 hq) mw622 ⟨(Nat.le_of_ble_eq_true rfl), (Nat.le_of_ble_eq_true rfl)⟩ rfl rfl (Nat.le_of_ble_eq_true rfl) ⟨(Nat.le_of_ble_eq_true rfl), (Nat.le_of_ble_eq_true rfl)⟩ dX7_accept_47 (toI (fun r10 S11 h12 => ?_))
    obtain ⟨or10, fr10⟩ := h12
    have hq13 : Shp S11.1 S11.2.1 q := Fr.q fr10 hq
    refine g_zret F T (ro_z or10) ⟨_, rfl, ?_⟩ (Nat.le_of_ble_eq_true rfl) (Nat.le_of_ble_eq_true rfl) dX7_accept_50
    exact ⟨by rw [w1_59]; exact or10, (Fr.tr (l := [90, 91, 92]) Fr.rf fr10 (by decide) (by decide))⟩
  refine g_lookup (off := 50) (t := 51) F dX7_accept_1 (by decide) (lk_off w1_44 w1_45 w1_59) (by decide) ?_
  refine g_iload_n (k := 1) F 1 rfl dX7_accept_51 ?_
  refine g_bipush (v := 48) F (by decide) dX7_accept_52 ?_
  refine g_icmp_lt (t := 78) F dX7_accept_54 (by decide) (fun c14 => ?_) (fun c14 => ?_)
  · have h9 := c14
    rw [Int32.lt_iff_toInt_lt, show (48 : Int32).toInt = 48 by decide] at h9
    refine g_iconst (v := 0) F (by decide) dX7_accept_78 ?_
    refine g_zret F T rfl ⟨_, rfl, ?_⟩ (Nat.le_of_ble_eq_true rfl) (Nat.le_of_ble_eq_true rfl) dX7_accept_79
    exact ⟨.inr ⟨rfl, c_else w1_44 w1_45 w1_59 (fun h => absurd h.1 (by omega))⟩, Fr.rf⟩
  · have hlo := c14
    rw [Int32.lt_iff_toInt_lt, show (48 : Int32).toInt = 48 by decide] at hlo
    have hlo : 48 ≤ c.toInt := by omega
    refine g_iload_n (k := 1) F 1 rfl dX7_accept_57 ?_
    refine g_bipush (v := 57) F (by decide) dX7_accept_58 ?_
    refine g_icmp_gt (t := 78) F dX7_accept_60 (by decide) (fun c15 => ?_) (fun c15 => ?_)
    · have h9 := c15
      rw [Int32.lt_iff_toInt_lt, show (57 : Int32).toInt = 57 by decide] at h9
      refine g_iconst (v := 0) F (by decide) dX7_accept_78 ?_
      refine g_zret F T rfl ⟨_, rfl, ?_⟩ (Nat.le_of_ble_eq_true rfl) (Nat.le_of_ble_eq_true rfl) dX7_accept_79
      exact ⟨.inr ⟨rfl, c_else w1_44 w1_45 w1_59 (fun h => absurd h.2 (by omega))⟩, Fr.rf⟩
    · have hhi := c15
      rw [Int32.lt_iff_toInt_lt, show (57 : Int32).toInt = 57 by decide] at hhi
      have hhi : c.toInt ≤ 57 := by omega
      refine g_aload_n (k := 0) F 0 rfl dX7_accept_63 ?_
      refine g_iload_n (k := 1) F 1 rfl dX7_accept_64 ?_
      refine g_bipush (v := 48) F (by decide) dX7_accept_65 ?_
      refine g_isub F dX7_accept_67 ?_
      refine g_callV F (kX7_acceptDigit Γ.1 S q hq t hT hI c ⟨hlo, hhi⟩) okX7_acceptDigit (qi90 hq) mw626 ⟨(Nat.le_of_ble_eq_true rfl), (Nat.le_of_ble_eq_true rfl)⟩ rfl rfl (Nat.le_of_ble_eq_true rfl) ⟨(Nat.le_of_ble_eq_true rfl), (Nat.le_of_ble_eq_true rfl)⟩ dX7_accept_68 (toI (fun r16 S17 h18 => ?_))
      obtain ⟨or16, fr16⟩ := h18
      have hq19 : Shp S17.1 S17.2.1 q := Fr.q fr16 hq
      refine g_if_eq (t := 78) F dX7_accept_71 (by decide) (fun c20 => ?_) (fun c20 => ?_)
      · refine g_iconst (v := 0) F (by decide) dX7_accept_78 ?_
        refine g_zret F T rfl ⟨_, rfl, ?_⟩ (Nat.le_of_ble_eq_true rfl) (Nat.le_of_ble_eq_true rfl) dX7_accept_79
        exact ⟨.inr ⟨rfl, ro_0 or16 c20⟩, (Fr.tr (l := [90, 91, 92]) Fr.rf fr16 (by decide) (by decide))⟩
      · refine g_iconst (v := 1) F (by decide) dX7_accept_74 ?_
        refine g_goto (t := 79) F dX7_accept_75 (by decide) ?_
        refine g_zret F T rfl ⟨_, rfl, ?_⟩ (Nat.le_of_ble_eq_true rfl) (Nat.le_of_ble_eq_true rfl) dX7_accept_79
        exact ⟨.inl ⟨rfl, ro_1 or16 c20⟩, (Fr.tr (l := [90, 91, 92]) Fr.rf fr16 (by decide) (by decide))⟩
set_option maxHeartbeats 4000000 in
set_option maxRecDepth 100000 in
theorem kX7_read (g : Glo) (S : PS) (q : Nat → Nat) (hq : Shp S.1 S.2.1 q) (n : Nat) (tx : Nat → Int32) (h60 : n ≤ 60) (htx : ∀ j, j < n → pI S (q 93) j = tx j) : Ct g mX7_read 0 0 [.ref (q 90), .ref (q 93), .int (nI n)] S (pI9 (fun r S' => r = nI (rdS tx n).1 ∧ Fr S S' q [90, 91, 92] ∧ ((rdS tx n).1 = n → Tc S' q (rdS tx n).2))) := by
  refine Ct.of (by decide) (Nat.le_of_ble_eq_true rfl) (fun Γ hg F T => ?_)
  subst hg
  show G Γ S 0 0 0 [(0, .ref (q 90)), (1, .ref (q 93)), (2, .int (nI n))] []
  refine g_aload_n (k := 0) F 0 rfl dX7_read_0 ?_
  refine g_iconst (v := 0) F (by decide) dX7_read_1 ?_
  refine pfX7_18 F (qi90 hq) dX7_read_2 ?_
  refine g_aload_n (k := 0) F 0 rfl dX7_read_5 ?_
  refine g_iconst (v := 0) F (by decide) dX7_read_6 ?_
  refine pfX7_22 F rfl rfl (qi90 hq) dX7_read_7 ?_
  refine g_aload_n (k := 0) F 0 rfl dX7_read_10 ?_
  refine g_callV F (kX7_beginNumber Γ.1 (wI (wI S (q 90) 2 0) (q 90) 4 0) q hq) okX7_beginNumber (qi90 hq) mw603 ⟨(Nat.le_of_ble_eq_true rfl), (Nat.le_of_ble_eq_true rfl)⟩ rfl rfl (Nat.le_of_ble_eq_true rfl) ⟨(Nat.le_of_ble_eq_true rfl), (Nat.le_of_ble_eq_true rfl)⟩ dX7_read_11 (toV (fun S2 h3 => ?_))
  obtain ⟨fr1, br1⟩ := h3
  have hq4 : Shp S2.1 S2.2.1 q := Fr.q fr1 hq
  refine g_iconst (v := 0) F (by decide) dX7_read_14 ?_
  refine g_istore_n (k := 3) (L' := [(3, .int 0), (0, .ref (q 90)), (1, .ref (q 93)), (2, .int (nI n))]) F dX7_read_15 (Nat.le_of_ble_eq_true rfl) rfl ?_
  have lp5 : ∀ (n9 : Nat) (i : Nat) (t : TT) (S1 : PS), n < i + n9 → (i ≤ n) → (rdS tx i = (i, t)) → (Tc S1 q t) → (Fr S S1 q [90, 91, 92]) → G Γ S1 0 0 16 [(3, .int (nI i)), (0, .ref (q 90)), (1, .ref (q 93)), (2, .int (nI n))] [] := by
    intro n9
    induction n9 with
    | zero =>
      intro i t S1 hm9 hi hrd hT hf
      exact absurd hm9 (by omega)
    | succ n9 ihlp5 =>
      intro i t S1 hm9 hi hrd hT hf
      have hq6 : Shp S1.1 S1.2.1 q := Fr.q hf hq
      have hI : rdI t := by
        have h9 := (rdS_I (tx := tx) i).1
        rw [hrd] at h9
        exact h9
      refine g_iload_n (k := 3) F 0 rfl dX7_read_16 ?_
      refine g_iload_n (k := 2) F 3 rfl dX7_read_17 ?_
      refine g_icmp_ge (t := 39) F dX7_read_18 (by decide) (fun c7 => ?_) (fun c7 => ?_)
      · have hi9 : i = n := by
          rw [nI_leI (by omega) (by omega)] at c7
          omega
        refine g_iload_n (k := 2) F 3 rfl dX7_read_39 ?_
        refine g_iret F T ⟨_, rfl, ?_⟩ (Nat.le_of_ble_eq_true rfl) (Nat.le_of_ble_eq_true rfl) dX7_read_40
        subst hi9
        exact ⟨by rw [hrd], hf, fun _ => by rw [hrd]; exact hT⟩
      · have hi9 : i < n := by
          rw [nI_leI (by omega) (by omega)] at c7
          omega
        refine g_aload_n (k := 0) F 1 rfl dX7_read_21 ?_
        refine g_aload_n (k := 1) F 2 rfl dX7_read_22 ?_
        refine g_iload_n (k := 3) F 0 rfl dX7_read_23 ?_
        refine g_ialde (hf.2.2 93 (by decide) (by decide)).1 (j := i) F (qi93 hq6) rfl (by rw [(qn93 hq6)]; omega) (by rw [(qn93 hq6)]; decide) dX7_read_24 ?_
        refine g_rei (tx i) ((htx i hi9)) ?_
        refine g_callV F (kX7_accept Γ.1 S1 q hq6 t hT hI (tx i)) okX7_accept (qi90 hq6) mw610 ⟨(Nat.le_of_ble_eq_true rfl), (Nat.le_of_ble_eq_true rfl)⟩ rfl rfl (Nat.le_of_ble_eq_true rfl) ⟨(Nat.le_of_ble_eq_true rfl), (Nat.le_of_ble_eq_true rfl)⟩ dX7_read_25 (toI (fun r8 S9 h10 => ?_))
        obtain ⟨or8, fr8⟩ := h10
        have hq11 : Shp S9.1 S9.2.1 q := Fr.q fr8 hq6
        refine g_if_ne (t := 33) F dX7_read_28 (by decide) (fun c12 => ?_) (fun c12 => ?_)
        · obtain ⟨t2, et2, hT2⟩ := ro_1 or8 c12
          obtain ⟨x13, ex13⟩ : ∃ y9 : Int32, y9 = (nI i) + 1 := ⟨_, rfl⟩
          refine g_iinc (k := 0) (v := x13) (L' := [(3, .int x13), (0, .ref (q 90)), (1, .ref (q 93)), (2, .int (nI n))]) F dX7_read_33 rfl (by rw [ex13]; rfl) (Nat.le_of_ble_eq_true rfl) rfl ?_
          refine g_goto (t := 16) F dX7_read_36 (by decide) ?_
          obtain rfl : x13 = nI (i + 1) := (ex13.trans (nI_1 _))
          refine g_sub (L' := [(3, .int (nI (i + 1))), (0, .ref (q 90)), (1, .ref (q 93)), (2, .int (nI n))]) [0, 1, 2, 3] rfl ?_
          exact ihlp5 (i + 1) (t2) (S9) (by omega) (by omega) (rdS_go hrd et2) hT2 (Fr.tr (l := [90, 91, 92]) hf fr8 (by decide) (by decide))
        · have he9 : rdS tx n = (i, t) := rdS_end hrd (ro_0 or8 c12) hi9
          refine g_iload_n (k := 3) F 0 rfl dX7_read_31 ?_
          refine g_iret F T ⟨_, rfl, ?_⟩ (Nat.le_of_ble_eq_true rfl) (Nat.le_of_ble_eq_true rfl) dX7_read_32
          exact ⟨by rw [he9], (Fr.tr (l := [90, 91, 92]) hf fr8 (by decide) (by decide)), fun z9 => absurd z9 (by rw [he9]; show ¬ i = n; omega)⟩
  exact lp5 (n + 1) 0 (0, false, 0, 0, fun _ => 0) S2 (by omega) (by omega) rfl ⟨⟨(br1.1.1.trans ((up2_k (by decide)).trans up2_s)), (br1.1.2.trans up2_s), br1.2.1, br1.2.2.1, br1.2.2.2⟩, fun i hi => absurd hi (Nat.not_lt_zero i), fun x => absurd x (by show ¬ 0 = 2; omega)⟩ (Fr.tr (l := [90, 91, 92]) (Fr.wI hq (Fr.wI hq Fr.rf (by decide) (by decide)) (by decide) (by decide)) fr1 (by decide) (by decide))
set_option maxHeartbeats 4000000 in
set_option maxRecDepth 100000 in
theorem kX7_isComplete (g : Glo) (S : PS) (q : Nat → Nat) (hq : Shp S.1 S.2.1 q) (t : TT) (hT : Tc S q t) (hI : rdI t) : Ct g mX7_isComplete 0 0 [.ref (q 90)] S (pI9 (fun r S' => (r = 1 ∧ (t.1 = 2 ∧ t.2.2.2.1 % 2 = 1 ∧ 4 < t.2.2.2.1) ∨ r = 0 ∧ ¬ (t.1 = 2 ∧ t.2.2.2.1 % 2 = 1 ∧ 4 < t.2.2.2.1)) ∧ S = S')) := by
  refine Ct.of (by decide) (Nat.le_of_ble_eq_true rfl) (fun Γ hg F T => ?_)
  subst hg
  show G Γ S 0 0 0 [(0, .ref (q 90))] []
  have h39 := hI.2.1
  have h29 := hI.1
  refine g_aload_n (k := 0) F 0 rfl dX7_isComplete_0 ?_
  refine gfX7_33e F (qi90 hq) hT.1.2.2.1 dX7_isComplete_1 ?_
  refine g_iconst (v := 2) F (by decide) dX7_isComplete_4 ?_
  refine g_icmp_ne (t := 29) F dX7_isComplete_5 (by decide) (fun c1 => ?_) (fun c1 => ?_)
  · have hp9 : ¬ t.1 = 2 := fun h => c1 (by rw [h]; rfl)
    refine g_iconst (v := 0) F (by decide) dX7_isComplete_29 ?_
    refine g_zret F T rfl ⟨_, rfl, ?_⟩ (Nat.le_of_ble_eq_true rfl) (Nat.le_of_ble_eq_true rfl) dX7_isComplete_30
    exact ⟨.inr ⟨rfl, fun h => hp9 h.1⟩, rfl⟩
  · have hp9 : t.1 = 2 := by
      rw [show (2 : Int32) = nI 2 from rfl, nI_eq (by omega) (by omega)] at c1
      exact c1
    refine g_aload_n (k := 0) F 0 rfl dX7_isComplete_8 ?_
    refine gfX7_22e F (qi90 hq) hT.1.2.1 dX7_isComplete_9 ?_
    refine g_if_eq (t := 29) F dX7_isComplete_12 (by decide) (fun c2 => ?_) (fun c2 => ?_)
    · have hb9 : ¬ t.2.2.2.1 % 2 = 1 := fun h => absurd (bI_0 c2) (by rw [decide_eq_true h]; decide)
      refine g_iconst (v := 0) F (by decide) dX7_isComplete_29 ?_
      refine g_zret F T rfl ⟨_, rfl, ?_⟩ (Nat.le_of_ble_eq_true rfl) (Nat.le_of_ble_eq_true rfl) dX7_isComplete_30
      exact ⟨.inr ⟨rfl, fun h => hb9 h.2.1⟩, rfl⟩
    · have hb9 : t.2.2.2.1 % 2 = 1 := of_decide_eq_true (bI_1 c2)
      refine g_aload_n (k := 0) F 0 rfl dX7_isComplete_15 ?_
      refine gfX7_18e F (qi90 hq) hT.1.1 dX7_isComplete_16 ?_
      refine g_iconst (v := 1) F (by decide) dX7_isComplete_19 ?_
      refine g_iadd F dX7_isComplete_20 ?_
      refine g_rei (nI ((t.2.2.2.1 / 2) + 1)) (nadd rfl rfl) ?_
      refine g_iconst (v := 3) F (by decide) dX7_isComplete_21 ?_
      refine g_icmp_lt (t := 29) F dX7_isComplete_22 (by decide) (fun c3 => ?_) (fun c3 => ?_)
      · have hl9 : t.2.2.2.1 / 2 + 1 < 3 := by
          rw [show (3 : Int32) = nI 3 from rfl, nI_ltI (by omega) (by omega)] at c3
          exact c3
        refine g_iconst (v := 0) F (by decide) dX7_isComplete_29 ?_
        refine g_zret F T rfl ⟨_, rfl, ?_⟩ (Nat.le_of_ble_eq_true rfl) (Nat.le_of_ble_eq_true rfl) dX7_isComplete_30
        exact ⟨.inr ⟨rfl, fun h => absurd h.2.2 (by omega)⟩, rfl⟩
      · have hl9 : ¬ t.2.2.2.1 / 2 + 1 < 3 := by
          rw [show (3 : Int32) = nI 3 from rfl, nI_ltI (by omega) (by omega)] at c3
          exact c3
        refine g_iconst (v := 1) F (by decide) dX7_isComplete_25 ?_
        refine g_goto (t := 30) F dX7_isComplete_26 (by decide) ?_
        refine g_zret F T rfl ⟨_, rfl, ?_⟩ (Nat.le_of_ble_eq_true rfl) (Nat.le_of_ble_eq_true rfl) dX7_isComplete_30
        exact ⟨.inl ⟨rfl, hp9, hb9, by omega⟩, rfl⟩
