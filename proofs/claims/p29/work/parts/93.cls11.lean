set_option maxHeartbeats 4000000 in
set_option maxRecDepth 100000 in
theorem kX2_dropOldest (g : Glo) (S : PS) (q : Nat → Nat) (hq : Shp S.1 S.2.1 q) (pm : Nat → Nat) (H : List ZZ) (hH : Hs S q pm H) (h6 : H.length = 6) : Ct g mX2_dropOldest 0 0 [.ref (q 81)] S (pV9 (fun S' => FrP S S' q (fun i => i ≠ 81) ∧ Hs S' q (pmR pm) H.tail)) := by
  refine Ct.of (by decide) (Nat.le_of_ble_eq_true rfl) (fun Γ hg F T => ?_)
  subst hg
  show G Γ S 0 0 0 [(0, .ref (q 81))] []
  refine g_aload_n (k := 0) F 0 rfl dX2_dropOldest_0 ?_
  refine gfX2_11 F (qi81 hq) (qr81_1 hq) dX2_dropOldest_1 ?_
  refine g_iconst (v := 0) F (by decide) dX2_dropOldest_4 ?_
  refine g_aald (j := 0) F (qi82 hq) rfl (by rw [(qn82 hq)]; omega) (by rw [(qn82 hq)]; decide) (hH.2.2.1 0 (by decide)) dX2_dropOldest_5 ?_
  refine g_astore_n (k := 1) (L' := [(1, .ref (q (10 * (pm 0)))), (0, .ref (q 81))]) F dX2_dropOldest_6 (Nat.le_of_ble_eq_true rfl) rfl ?_
  refine g_iconst (v := 1) F (by decide) dX2_dropOldest_7 ?_
  refine g_istore_n (k := 2) (L' := [(2, .int 1), (1, .ref (q (10 * (pm 0)))), (0, .ref (q 81))]) F dX2_dropOldest_8 (Nat.le_of_ble_eq_true rfl) rfl ?_
  have lp1 : ∀ (n9 : Nat) (i : Nat) (S1 : PS), 6 < i + n9 → (1 ≤ i) → (i ≤ 6) → (FrP S S1 q (fun i => i ≠ 81)) → (pI S1 (q 81) 0 = nI H.length) → (∀ j, pR S1 (q 82) j = if j + 1 < i then pR S (q 82) (j + 1) else pR S (q 82) j) → G Γ S1 0 0 9 [(2, .int (nI i)), (1, .ref (q (10 * (pm 0)))), (0, .ref (q 81))] [] := by
    intro n9
    induction n9 with
    | zero =>
      intro i S1 hm9 hi hi2 hf hs1 hr
      exact absurd hm9 (by omega)
    | succ n9 ihlp1 =>
      intro i S1 hm9 hi hi2 hf hs1 hr
      have hq2 : Shp S1.1 S1.2.1 q := FrP.q hf hq
      refine g_iload_n (k := 2) F 0 rfl dX2_dropOldest_9 ?_
      refine g_bipush (v := 6) F (by decide) dX2_dropOldest_10 ?_
      refine g_icmp_ge (t := 35) F dX2_dropOldest_12 (by decide) (fun c3 => ?_) (fun c3 => ?_)
      · obtain rfl : i = 6 := by
          rw [show (6 : Int32) = nI 6 from rfl, nI_leI (by omega) (by omega)] at c3
          omega
        refine g_aload_n (k := 0) F 2 rfl dX2_dropOldest_35 ?_
        refine gfX2_11 F (qi81 hq2) (qr81_1 hq2) dX2_dropOldest_36 ?_
        refine g_iconst (v := 5) F (by decide) dX2_dropOldest_39 ?_
        refine g_aload_n (k := 1) F 1 rfl dX2_dropOldest_40 ?_
        refine g_aast (j := 5) F (qi82 hq2) (qs0 hq2 (hH.2.2.2.1 0 (by decide)).2) rfl (by rw [(qn82 hq2)]; omega) (by rw [(qn82 hq2)]; decide) dX2_dropOldest_41 ?_
        have hq4 : Shp (wR S1 (q 82) 5 (some (q (10 * (pm 0))))).1 (wR S1 (q 82) 5 (some (q (10 * (pm 0))))).2.1 q := wR_q hq2
        refine g_aload_n (k := 0) F 2 rfl dX2_dropOldest_42 ?_
        refine g_dup F dX2_dropOldest_43 rfl ?_
        refine gfX2_18e F (qi81 hq4) hs1 dX2_dropOldest_44 ?_
        refine g_iconst (v := 1) F (by decide) dX2_dropOldest_47 ?_
        refine g_isub F dX2_dropOldest_48 ?_
        refine g_rei (nI (H.length - 1)) (nsub rfl rfl (by omega)) ?_
        refine pfX2_18 F (qi81 hq4) dX2_dropOldest_49 ?_
        refine g_vret F T ⟨rfl, ?_⟩ (Nat.le_of_ble_eq_true rfl) (Nat.le_of_ble_eq_true rfl) dX2_dropOldest_52
        have hF9 : FrP S (wI (wR S1 (q 82) 5 (some (q (10 * (pm 0))))) (q 81) 0 (nI (H.length - 1))) q (fun i => i ≠ 81) := (FrP.wI hq (FrP.wR hf) (by decide) (fun h => h rfl))
        exact ⟨hF9, Hs_drop hH h6 hF9 (fun i hi => by omega) (dr_e hr (fun j => wR_row (S := S1) j) (hH.2.2.1 0 (by decide)).symm) (up2_s.trans (by rw [h6]))⟩
      · have h69 : i < 6 := by
          rw [show (6 : Int32) = nI 6 from rfl, nI_leI (by omega) (by omega)] at c3
          omega
        refine g_aload_n (k := 0) F 2 rfl dX2_dropOldest_15 ?_
        refine gfX2_11 F (qi81 hq2) (qr81_1 hq2) dX2_dropOldest_16 ?_
        refine g_iload_n (k := 2) F 0 rfl dX2_dropOldest_19 ?_
        refine g_iconst (v := 1) F (by decide) dX2_dropOldest_20 ?_
        refine g_isub F dX2_dropOldest_21 ?_
        refine g_rei (nI (i - 1)) (nsub rfl rfl (by omega)) ?_
        refine g_aload_n (k := 0) F 2 rfl dX2_dropOldest_22 ?_
        refine gfX2_11 F (qi81 hq2) (qr81_1 hq2) dX2_dropOldest_23 ?_
        refine g_iload_n (k := 2) F 0 rfl dX2_dropOldest_26 ?_
        refine g_aald (j := i) F (qi82 hq2) rfl (by rw [(qn82 hq2)]; omega) (by rw [(qn82 hq2)]; decide) ((hr i).trans ((if_neg (by omega)).trans (hH.2.2.1 i (by omega)))) dX2_dropOldest_27 ?_
        refine g_aast (j := (i - 1)) F (qi82 hq2) (qs0 hq2 (hH.2.2.2.1 i (by omega)).2) rfl (by rw [(qn82 hq2)]; omega) (by rw [(qn82 hq2)]; decide) dX2_dropOldest_28 ?_
        have hq5 : Shp (wR S1 (q 82) ((i - 1)) (some (q (10 * (pm i))))).1 (wR S1 (q 82) ((i - 1)) (some (q (10 * (pm i))))).2.1 q := wR_q hq2
        obtain ⟨x6, ex6⟩ : ∃ y9 : Int32, y9 = (nI i) + 1 := ⟨_, rfl⟩
        refine g_iinc (k := 0) (v := x6) (L' := [(2, .int x6), (1, .ref (q (10 * (pm 0)))), (0, .ref (q 81))]) F dX2_dropOldest_29 rfl (by rw [ex6]; rfl) (Nat.le_of_ble_eq_true rfl) rfl ?_
        refine g_goto (t := 9) F dX2_dropOldest_32 (by decide) ?_
        obtain rfl : x6 = nI (i + 1) := (ex6.trans (nI_1 _))
        refine g_sub (L' := [(2, .int (nI (i + 1))), (1, .ref (q (10 * (pm 0)))), (0, .ref (q 81))]) [0, 1, 2] rfl ?_
        exact ihlp1 (i + 1) ((wR S1 (q 82) ((i - 1)) (some (q (10 * (pm i)))))) (by omega) (by omega) (by omega) (FrP.wR hf) hs1 (fun j => (wR_row j).trans (by rw [← dr_s hi hr j, (hr i).trans ((if_neg (by omega)).trans (hH.2.2.1 i (by omega)))]))
  exact lp1 6 1 S (by omega) (by omega) (by omega) FrP.rf hH.1 (fun j => by rw [if_neg (by omega)])
set_option maxHeartbeats 4000000 in
set_option maxRecDepth 100000 in
theorem kX2_save (g : Glo) (S : PS) (q : Nat → Nat) (hq : Shp S.1 S.2.1 q) (pm : Nat → Nat) (H : List ZZ) (hH : Hs S q pm H) (z : ZZ) (hB : Bz z) (hc : Cs S q 0 z) : Ct g mX2_save 0 0 [.ref (q 81), .ref (q 0)] S (pV9 (fun S' => FrP S S' q (fun i => i < 20 ∨ i = 80 ∨ 82 ≤ i) ∧ ∃ pm2, Hs S' q pm2 (psh H z))) := by
  refine Ct.of (by decide) (Nat.le_of_ble_eq_true rfl) (fun Γ hg F T => ?_)
  subst hg
  show G Γ S 0 0 0 [(0, .ref (q 81)), (1, .ref (q 0))] []
  refine g_aload_n (k := 0) F 0 rfl dX2_save_0 ?_
  refine gfX2_18e F (qi81 hq) hH.1 dX2_save_1 ?_
  refine g_bipush (v := 6) F (by decide) dX2_save_4 ?_
  refine g_icmp_ne (t := 13) F dX2_save_6 (by decide) (fun c1 => ?_) (fun c1 => ?_)
  · have hlt : H.length < 6 := by
      have g9 := hH.2.1
      rw [show (6 : Int32) = nI 6 from rfl, nI_eq (by omega) (by omega)] at c1
      omega
    have hF1 : FrP S S q (fun i => i < 20 ∨ i = 80 ∨ 82 ≤ i) := FrP.rf
    have hc1 := hc
    refine g_aload_n (k := 0) F 0 rfl dX2_save_13 ?_
    refine gfX2_11 F (qi81 hq) (qr81_1 hq) dX2_save_14 ?_
    refine g_aload_n (k := 0) F 0 rfl dX2_save_17 ?_
    refine gfX2_18e F (qi81 hq) hH.1 dX2_save_18 ?_
    refine g_aald (j := H.length) F (qi82 hq) rfl (by rw [(qn82 hq)]; omega) (by rw [(qn82 hq)]; decide) (hH.2.2.1 _ hlt) dX2_save_21 ?_
    refine g_aload_n (k := 1) F 1 rfl dX2_save_22 ?_
    refine g_callVN (host := "PolarPlanimeter") F (kX6_copy Γ.1 S q hq (pm H.length) 0 (hH.2.2.2.1 _ hlt).2 (by decide) (by have := (hH.2.2.2.1 _ hlt).1; omega) z hB hc1) okX6_copy (qs0 hq (hH.2.2.2.1 H.length hlt).2) nwM47 ⟨(Nat.le_of_ble_eq_true rfl), (Nat.le_of_ble_eq_true rfl)⟩ rfl rfl (Nat.le_of_ble_eq_true rfl) ⟨(Nat.le_of_ble_eq_true rfl), (Nat.le_of_ble_eq_true rfl)⟩ dX2_save_23 (toV (fun S3 h4 => ?_))
    obtain ⟨fr2, cr2⟩ := h4
    have hb8 := hH.2.2.2.1 H.length hlt
    have hq5 : Shp S3.1 S3.2.1 q := Fr.q fr2 hq
    refine g_aload_n (k := 0) F 0 rfl dX2_save_26 ?_
    refine g_dup F dX2_save_27 rfl ?_
    refine gfX2_18e F (qi81 hq5) ((congrFun (fr2.2.2 (81) (by decide) (by first | decide | (simp [-List.length_tail]; done) | (simp [-List.length_tail]; omega))).1 0).trans hH.1) dX2_save_28 ?_
    refine g_iconst (v := 1) F (by decide) dX2_save_31 ?_
    refine g_iadd F dX2_save_32 ?_
    refine g_rei (nI (H.length + 1)) (nadd rfl rfl) ?_
    refine pfX2_18 F (qi81 hq5) dX2_save_33 ?_
    refine g_vret F T ⟨rfl, ?_⟩ (Nat.le_of_ble_eq_true rfl) (Nat.le_of_ble_eq_true rfl) dX2_save_36
    have hb9 := hH.2.2.2.1 H.length hlt
    have hF2 : Fr S (wI S3 (q 81) 0 (nI (H.length + 1))) q [10 * pm H.length, 10 * pm H.length + 1, 10 * pm H.length + 2, 10 * pm H.length + 3, 10 * pm H.length + 4, 10 * pm H.length + 5, 10 * pm H.length + 6, 10 * pm H.length + 7, 10 * pm H.length + 8, 10 * pm H.length + 9, 81] := Fr.wI (hq) (Fr.up fr2 (fun i9 h9 => by simp [-List.length_tail] at h9 ⊢; omega)) (by decide) (by simp)
    have hC2 : Cs (wI S3 (q 81) 0 (nI (H.length + 1))) q (pm H.length) z := Cs.fr (l := [81]) hb9.2 (Fr.wI hq5 Fr.rf (by decide) (by decide)) (fun i hi => by simp [-List.length_tail]; omega) cr2
    exact ⟨FrP.tr hF1 (FrP.of hF2 (fun i hi h => by simp [-List.length_tail]; omega)) (fun _ _ h => h) (fun _ _ h => h), pm, by rw [psh, if_neg (by omega)]; exact Hs_push hH hlt hF2 up2_s hC2⟩
  · have h6 : H.length = 6 := by
      have g9 := hH.2.1
      rw [show (6 : Int32) = nI 6 from rfl, nI_eq (by omega) (by omega)] at c1
      exact c1
    refine g_aload_n (k := 0) F 0 rfl dX2_save_9 ?_
    refine g_callV F (kX2_dropOldest Γ.1 S q hq pm H hH h6) okX2_dropOldest (qi81 hq) mw398 ⟨(Nat.le_of_ble_eq_true rfl), (Nat.le_of_ble_eq_true rfl)⟩ rfl rfl (Nat.le_of_ble_eq_true rfl) ⟨(Nat.le_of_ble_eq_true rfl), (Nat.le_of_ble_eq_true rfl)⟩ dX2_save_10 (toV (fun S7 h8 => ?_))
    obtain ⟨gr6, hH2⟩ := h8
    have hq2 : Shp S7.1 S7.2.1 q := FrP.q gr6 hq
    have hlt : H.tail.length < 6 := by rw [List.length_tail]; omega
    have hF1 : FrP S S7 q (fun i => i < 20 ∨ i = 80 ∨ 82 ≤ i) := FrP.tr gr6 (FrP.rf (P := (fun i => i < 20 ∨ i = 80 ∨ 82 ≤ i))) (fun i _ h => by omega) (fun _ _ h => h)
    have hc1 : Cs S7 q 0 z := hc.frp (by decide) gr6 (fun i hi => by omega)
    refine g_aload_n (k := 0) F 0 rfl dX2_save_13 ?_
    refine gfX2_11 F (qi81 hq2) (qr81_1 hq2) dX2_save_14 ?_
    refine g_aload_n (k := 0) F 0 rfl dX2_save_17 ?_
    refine gfX2_18e F (qi81 hq2) hH2.1 dX2_save_18 ?_
    refine g_aald (j := H.tail.length) F (qi82 hq2) rfl (by rw [(qn82 hq2)]; omega) (by rw [(qn82 hq2)]; decide) (hH2.2.2.1 _ hlt) dX2_save_21 ?_
    refine g_aload_n (k := 1) F 1 rfl dX2_save_22 ?_
    refine g_callVN (host := "PolarPlanimeter") F (kX6_copy Γ.1 S7 q hq2 ((pmR pm) H.tail.length) 0 (hH2.2.2.2.1 _ hlt).2 (by decide) (by have := (hH2.2.2.2.1 _ hlt).1; omega) z hB hc1) okX6_copy (qs0 hq2 (hH2.2.2.2.1 H.tail.length hlt).2) nwM47 ⟨(Nat.le_of_ble_eq_true rfl), (Nat.le_of_ble_eq_true rfl)⟩ rfl rfl (Nat.le_of_ble_eq_true rfl) ⟨(Nat.le_of_ble_eq_true rfl), (Nat.le_of_ble_eq_true rfl)⟩ dX2_save_23 (toV (fun S10 h11 => ?_))
    obtain ⟨fr9, cr9⟩ := h11
    have hb8 := hH2.2.2.2.1 H.tail.length hlt
    have hq12 : Shp S10.1 S10.2.1 q := Fr.q fr9 hq2
    refine g_aload_n (k := 0) F 0 rfl dX2_save_26 ?_
    refine g_dup F dX2_save_27 rfl ?_
    refine gfX2_18e F (qi81 hq12) ((congrFun (fr9.2.2 (81) (by decide) (by first | decide | (simp [-List.length_tail]; done) | (simp [-List.length_tail]; omega))).1 0).trans hH2.1) dX2_save_28 ?_
    refine g_iconst (v := 1) F (by decide) dX2_save_31 ?_
    refine g_iadd F dX2_save_32 ?_
    refine g_rei (nI (H.tail.length + 1)) (nadd rfl rfl) ?_
    refine pfX2_18 F (qi81 hq12) dX2_save_33 ?_
    refine g_vret F T ⟨rfl, ?_⟩ (Nat.le_of_ble_eq_true rfl) (Nat.le_of_ble_eq_true rfl) dX2_save_36
    have hb9 := hH2.2.2.2.1 H.tail.length hlt
    have hF2 : Fr S7 (wI S10 (q 81) 0 (nI (H.tail.length + 1))) q [10 * (pmR pm) H.tail.length, 10 * (pmR pm) H.tail.length + 1, 10 * (pmR pm) H.tail.length + 2, 10 * (pmR pm) H.tail.length + 3, 10 * (pmR pm) H.tail.length + 4, 10 * (pmR pm) H.tail.length + 5, 10 * (pmR pm) H.tail.length + 6, 10 * (pmR pm) H.tail.length + 7, 10 * (pmR pm) H.tail.length + 8, 10 * (pmR pm) H.tail.length + 9, 81] := Fr.wI (hq2) (Fr.up fr9 (fun i9 h9 => by simp [-List.length_tail] at h9 ⊢; omega)) (by decide) (by simp)
    have hC2 : Cs (wI S10 (q 81) 0 (nI (H.tail.length + 1))) q ((pmR pm) H.tail.length) z := Cs.fr (l := [81]) hb9.2 (Fr.wI hq12 Fr.rf (by decide) (by decide)) (fun i hi => by simp [-List.length_tail]; omega) cr9
    exact ⟨FrP.tr hF1 (FrP.of hF2 (fun i hi h => by simp [-List.length_tail]; omega)) (fun _ _ h => h) (fun _ _ h => h), (pmR pm), by rw [psh, if_pos h6]; exact Hs_push hH2 hlt hF2 up2_s hC2⟩
