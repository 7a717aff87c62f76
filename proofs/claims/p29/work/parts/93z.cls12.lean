set_option maxHeartbeats 4000000 in
set_option maxRecDepth 100000 in
theorem kX1_reachesMeasuredWith (g : Glo) (S : PS) (q : Nat → Nat) (hq : Shp S.1 S.2.1 q) (z : ZZ) (ha : Ar S q z) (a : Int64 × Int64) (hm : Ms S q a) (hb : a.1.toInt < 16000000000000 ∧ a.2.toInt < 16000000000000) (b : Nat) : Ct g mX1_reachesMeasuredWith 0 0 [.ref (q 83), .int (nI b)] S (pI9 (fun r S' => (r = 1 ∧ (sp (16 * zAm z b 2) (16 * zAm z b 3) (rt a.1) ∧ sp (16 * zAm z b 2) (16 * zAm z b 3) (rt a.2)) ∨ r = 0 ∧ ¬ (sp (16 * zAm z b 2) (16 * zAm z b 3) (rt a.1) ∧ sp (16 * zAm z b 2) (16 * zAm z b 3) (rt a.2))) ∧ Fr S S' q [84] ∧ Ar S' q (zAm z b))) := by
  refine Ct.of (by decide) (Nat.le_of_ble_eq_true rfl) (fun Γ hg F T => ?_)
  subst hg
  show G Γ S 0 0 0 [(0, .ref (q 83)), (1, .int (nI b))] []
  refine g_aload_n (k := 0) F 0 rfl dX1_reachesMeasuredWith_0 ?_
  refine gfX1_12 F (qi83 hq) (qr83_0 hq) dX1_reachesMeasuredWith_1 ?_
  refine g_ldc2 F mw435 dX1_reachesMeasuredWith_4 ?_
  refine g_iload_n (k := 1) F 1 rfl dX1_reachesMeasuredWith_7 ?_
  refine g_i2l F dX1_reachesMeasuredWith_8 ?_
  refine g_lmul F dX1_reachesMeasuredWith_9 ?_
  refine g_topl (fun x1 ex1 => ?_)
  refine pfX1_98 F (qi84 hq) dX1_reachesMeasuredWith_10 ?_
  refine g_aload_n (k := 0) F 0 rfl dX1_reachesMeasuredWith_13 ?_
  refine g_callV F (kX1_reachesMeasured Γ.1 (wJ S (q 84) 3 x1) q hq (zAm z b) ⟨((up2_k (by decide)).trans ha.1), ((up2_k (by decide)).trans ha.2.1), ((up2_k (by decide)).trans ha.2.2.1), up2_s.trans ex1, ha.2.2.2.2⟩ a ⟨((up2_a (qne hq (by decide) (by decide) (by decide))).trans hm.1), ((up2_a (qne hq (by decide) (by decide) (by decide))).trans hm.2)⟩ hb) okX1_reachesMeasured (qi83 hq) mw209 ⟨(Nat.le_of_ble_eq_true rfl), (Nat.le_of_ble_eq_true rfl)⟩ rfl rfl (Nat.le_of_ble_eq_true rfl) ⟨(Nat.le_of_ble_eq_true rfl), (Nat.le_of_ble_eq_true rfl)⟩ dX1_reachesMeasuredWith_14 (toI (fun r2 S3 h4 => ?_))
  obtain ⟨er2, rfl⟩ := h4
  refine g_zret F T (by rcases er2 with h | h <;> rw [h.1] <;> decide) ⟨_, rfl, ?_⟩ (Nat.le_of_ble_eq_true rfl) (Nat.le_of_ble_eq_true rfl) dX1_reachesMeasuredWith_17
  exact ⟨er2, (Fr.wJ hq Fr.rf (by decide) (by decide)), ((up2_k (by decide)).trans ha.1), ((up2_k (by decide)).trans ha.2.1), ((up2_k (by decide)).trans ha.2.2.1), up2_s.trans ex1, ha.2.2.2.2⟩
set_option maxHeartbeats 4000000 in
set_option maxRecDepth 100000 in
theorem kX9_checkSetting (g : Glo) (S : PS) (k : Int32) : Cx g mX9_checkSetting 1 6 [.int k] S (pV9 (fun S' => (0 ≤ k.toInt ∧ k.toInt ≤ 4) ∧ S = S')) (fun E S' => E = eIOB ∧ ¬ (0 ≤ k.toInt ∧ k.toInt ≤ 4) ∧ S = S') := by
  refine Cx.of (by decide) (Nat.le_of_ble_eq_true rfl) (fun Γ hg F T => ?_)
  subst hg
  show G Γ S 0 0 0 [(0, .int k)] []
  have t0 : (0 : Int32).toInt = 0 := by decide
  have t5 : (5 : Int32).toInt = 5 := by decide
  refine g_iload_n (k := 0) F 0 rfl dX9_checkSetting_0 ?_
  refine g_if_lt (t := 9) F dX9_checkSetting_1 (by decide) (fun c1 => ?_) (fun c1 => ?_)
  · rw [Int32.lt_iff_toInt_lt] at c1
    refine x_throwW F T thr_IOB tx266 ?_ ⟨(Nat.le_of_ble_eq_true rfl), (Nat.le_of_ble_eq_true rfl), (Nat.le_of_ble_eq_true rfl), (Nat.le_of_ble_eq_true rfl)⟩ (Nat.le_of_ble_eq_true rfl) (Nat.le_of_ble_eq_true rfl) dX9_checkSetting_9 dX9_checkSetting_12 dX9_checkSetting_13 dX9_checkSetting_16 dX9_checkSetting_19
    exact ⟨rfl, by omega, rfl⟩
  · rw [Int32.lt_iff_toInt_lt] at c1
    refine g_iload_n (k := 0) F 0 rfl dX9_checkSetting_4 ?_
    refine g_iconst (v := 5) F (by decide) dX9_checkSetting_5 ?_
    refine g_icmp_lt (t := 20) F dX9_checkSetting_6 (by decide) (fun c2 => ?_) (fun c2 => ?_)
    · rw [Int32.lt_iff_toInt_lt] at c2
      refine x_vret F T ⟨rfl, ?_⟩ (Nat.le_of_ble_eq_true rfl) (Nat.le_of_ble_eq_true rfl) dX9_checkSetting_20
      exact ⟨by omega, rfl⟩
    · rw [Int32.lt_iff_toInt_lt] at c2
      refine x_throwW F T thr_IOB tx266 ?_ ⟨(Nat.le_of_ble_eq_true rfl), (Nat.le_of_ble_eq_true rfl), (Nat.le_of_ble_eq_true rfl), (Nat.le_of_ble_eq_true rfl)⟩ (Nat.le_of_ble_eq_true rfl) (Nat.le_of_ble_eq_true rfl) dX9_checkSetting_9 dX9_checkSetting_12 dX9_checkSetting_13 dX9_checkSetting_16 dX9_checkSetting_19
      exact ⟨rfl, by omega, rfl⟩
set_option maxHeartbeats 4000000 in
set_option maxRecDepth 100000 in
theorem kX9_checkValue (g : Glo) (S : PS) (k v : Int32) (hk : 0 ≤ k.toInt ∧ k.toInt ≤ 4) : Cx g mX9_checkValue 1 6 [.int k, .int v] S (pV9 (fun S' => vOk k v ∧ S = S')) (fun E S' => E = eIAE ∧ ¬ vOk k v ∧ S = S') := by
  refine Cx.of (by decide) (Nat.le_of_ble_eq_true rfl) (fun Γ hg F T => ?_)
  subst hg
  show G Γ S 0 0 0 [(0, .int k), (1, .int v)] []
  have le9 := le_e hk
  refine g_iload_n (k := 1) F 1 rfl dX9_checkValue_0 ?_
  refine g_stat (i := 1) (host := "PolarPlanimeter") (f := fun _ => 0) F F.e.2.2.2.2.1.1 (Or.inl (F.w _ mw499)) dX9_checkValue_1 ?_
  refine g_iload_n (k := 0) F 0 rfl dX9_checkValue_4 ?_
  refine g_sald (j := k.toInt.toNat) F F.e.2.2.2.2.1.2.1 F.e.2.2.2.2.1.2.2 (kN hk.1) (by omega) (by decide) dX9_checkValue_5 ?_
  refine g_icmp_lt (t := 18) F dX9_checkValue_6 (by decide) (fun c1 => ?_) (fun c1 => ?_)
  · rw [Int32.lt_iff_toInt_lt] at c1
    refine x_throwW F T thr_IAE tx268 ?_ ⟨(Nat.le_of_ble_eq_true rfl), (Nat.le_of_ble_eq_true rfl), (Nat.le_of_ble_eq_true rfl), (Nat.le_of_ble_eq_true rfl)⟩ (Nat.le_of_ble_eq_true rfl) (Nat.le_of_ble_eq_true rfl) dX9_checkValue_18 dX9_checkValue_21 dX9_checkValue_22 dX9_checkValue_25 dX9_checkValue_28
    exact ⟨rfl, by omega, rfl⟩
  · rw [Int32.lt_iff_toInt_lt] at c1
    refine g_iload_n (k := 1) F 1 rfl dX9_checkValue_9 ?_
    refine g_stat (i := 2) (host := "PolarPlanimeter") (f := fun _ => 0) F F.e.2.2.2.2.2.1.1 (Or.inl (F.w _ mw500)) dX9_checkValue_10 ?_
    refine g_iload_n (k := 0) F 0 rfl dX9_checkValue_13 ?_
    refine g_sald (j := k.toInt.toNat) F F.e.2.2.2.2.2.1.2.1 F.e.2.2.2.2.2.1.2.2 (kN hk.1) (by omega) (by decide) dX9_checkValue_14 ?_
    refine g_icmp_le (t := 29) F dX9_checkValue_15 (by decide) (fun c2 => ?_) (fun c2 => ?_)
    · rw [Int32.le_iff_toInt_le] at c2
      refine x_vret F T ⟨rfl, ?_⟩ (Nat.le_of_ble_eq_true rfl) (Nat.le_of_ble_eq_true rfl) dX9_checkValue_29
      exact ⟨by omega, rfl⟩
    · rw [Int32.le_iff_toInt_le] at c2
      refine x_throwW F T thr_IAE tx268 ?_ ⟨(Nat.le_of_ble_eq_true rfl), (Nat.le_of_ble_eq_true rfl), (Nat.le_of_ble_eq_true rfl), (Nat.le_of_ble_eq_true rfl)⟩ (Nat.le_of_ble_eq_true rfl) (Nat.le_of_ble_eq_true rfl) dX9_checkValue_18 dX9_checkValue_21 dX9_checkValue_22 dX9_checkValue_25 dX9_checkValue_28
      exact ⟨rfl, by omega, rfl⟩
set_option maxHeartbeats 4000000 in
set_option maxRecDepth 100000 in
theorem kX9_checkPoint (g : Glo) (S : PS) (x y : Int32) : Cx g mX9_checkPoint 1 6 [.int x, .int y] S (pV9 (fun S' => isPt x y ∧ S = S')) (fun E S' => E = eIAE ∧ ¬ isPt x y ∧ S = S') := by
  refine Cx.of (by decide) (Nat.le_of_ble_eq_true rfl) (fun Γ hg F T => ?_)
  subst hg
  show G Γ S 0 0 0 [(0, .int x), (1, .int y)] []
  refine g_iload_n (k := 0) F 0 rfl dX9_checkPoint_0 ?_
  refine g_sipush (v := 1000) F (by decide) dX9_checkPoint_1 ?_
  refine g_callS F (kX9_isWithin Γ.1 _ _ _) okX9_isWithin mw260 ⟨(Nat.le_of_ble_eq_true rfl), (Nat.le_of_ble_eq_true rfl)⟩ rfl rfl (Nat.le_of_ble_eq_true rfl) ⟨(Nat.le_of_ble_eq_true rfl), (Nat.le_of_ble_eq_true rfl)⟩ dX9_checkPoint_4 (toI (fun r1 S2 h3 => ?_))
  obtain ⟨er1, rfl⟩ := h3
  refine g_if_eq (t := 20) F dX9_checkPoint_7 (by decide) (fun c4 => ?_) (fun c4 => ?_)
  · have h1 : ¬ (-1000 ≤ x.toInt ∧ x.toInt ≤ 1000) := fun h9 => if01_0 er1 c4 (w32.mpr h9)
    refine x_throwW F T thr_IAE tx270 ?_ ⟨(Nat.le_of_ble_eq_true rfl), (Nat.le_of_ble_eq_true rfl), (Nat.le_of_ble_eq_true rfl), (Nat.le_of_ble_eq_true rfl)⟩ (Nat.le_of_ble_eq_true rfl) (Nat.le_of_ble_eq_true rfl) dX9_checkPoint_20 dX9_checkPoint_23 dX9_checkPoint_24 dX9_checkPoint_27 dX9_checkPoint_30
    exact ⟨rfl, by omega, rfl⟩
  · have h1 : -1000 ≤ x.toInt ∧ x.toInt ≤ 1000 := w32.mp (if01_1 er1 c4)
    refine g_iload_n (k := 1) F 1 rfl dX9_checkPoint_10 ?_
    refine g_sipush (v := 1000) F (by decide) dX9_checkPoint_11 ?_
    refine g_callS F (kX9_isWithin Γ.1 _ _ _) okX9_isWithin mw260 ⟨(Nat.le_of_ble_eq_true rfl), (Nat.le_of_ble_eq_true rfl)⟩ rfl rfl (Nat.le_of_ble_eq_true rfl) ⟨(Nat.le_of_ble_eq_true rfl), (Nat.le_of_ble_eq_true rfl)⟩ dX9_checkPoint_14 (toI (fun r5 S6 h7 => ?_))
    obtain ⟨er5, rfl⟩ := h7
    refine g_if_ne (t := 31) F dX9_checkPoint_17 (by decide) (fun c8 => ?_) (fun c8 => ?_)
    · have h2 : -1000 ≤ y.toInt ∧ y.toInt ≤ 1000 := w32.mp (if01_1 er5 c8)
      refine x_vret F T ⟨rfl, ?_⟩ (Nat.le_of_ble_eq_true rfl) (Nat.le_of_ble_eq_true rfl) dX9_checkPoint_31
      exact ⟨⟨h1, h2⟩, rfl⟩
    · have h2 : ¬ (-1000 ≤ y.toInt ∧ y.toInt ≤ 1000) := fun h9 => if01_0 er5 c8 (w32.mpr h9)
      refine x_throwW F T thr_IAE tx270 ?_ ⟨(Nat.le_of_ble_eq_true rfl), (Nat.le_of_ble_eq_true rfl), (Nat.le_of_ble_eq_true rfl), (Nat.le_of_ble_eq_true rfl)⟩ (Nat.le_of_ble_eq_true rfl) (Nat.le_of_ble_eq_true rfl) dX9_checkPoint_20 dX9_checkPoint_23 dX9_checkPoint_24 dX9_checkPoint_27 dX9_checkPoint_30
      exact ⟨rfl, by omega, rfl⟩
set_option maxHeartbeats 4000000 in
set_option maxRecDepth 100000 in
theorem kX9_checkWhat (g : Glo) (S : PS) (k v : Int32) : Cx g mX9_checkWhat 1 6 [.int k, .int v] S (pV9 (fun S' => (0 ≤ k.toInt ∧ k.toInt < v.toInt) ∧ S = S')) (fun E S' => E = eIAE ∧ ¬ (0 ≤ k.toInt ∧ k.toInt < v.toInt) ∧ S = S') := by
  refine Cx.of (by decide) (Nat.le_of_ble_eq_true rfl) (fun Γ hg F T => ?_)
  subst hg
  show G Γ S 0 0 0 [(0, .int k), (1, .int v)] []
  have t0 : (0 : Int32).toInt = 0 := by decide
  refine g_iload_n (k := 0) F 0 rfl dX9_checkWhat_0 ?_
  refine g_if_lt (t := 9) F dX9_checkWhat_1 (by decide) (fun c1 => ?_) (fun c1 => ?_)
  · rw [Int32.lt_iff_toInt_lt] at c1
    refine x_throwW F T thr_IAE tx272 ?_ ⟨(Nat.le_of_ble_eq_true rfl), (Nat.le_of_ble_eq_true rfl), (Nat.le_of_ble_eq_true rfl), (Nat.le_of_ble_eq_true rfl)⟩ (Nat.le_of_ble_eq_true rfl) (Nat.le_of_ble_eq_true rfl) dX9_checkWhat_9 dX9_checkWhat_12 dX9_checkWhat_13 dX9_checkWhat_16 dX9_checkWhat_19
    exact ⟨rfl, by omega, rfl⟩
  · rw [Int32.lt_iff_toInt_lt] at c1
    refine g_iload_n (k := 0) F 0 rfl dX9_checkWhat_4 ?_
    refine g_iload_n (k := 1) F 1 rfl dX9_checkWhat_5 ?_
    refine g_icmp_lt (t := 20) F dX9_checkWhat_6 (by decide) (fun c2 => ?_) (fun c2 => ?_)
    · rw [Int32.lt_iff_toInt_lt] at c2
      refine x_vret F T ⟨rfl, ?_⟩ (Nat.le_of_ble_eq_true rfl) (Nat.le_of_ble_eq_true rfl) dX9_checkWhat_20
      exact ⟨by omega, rfl⟩
    · rw [Int32.lt_iff_toInt_lt] at c2
      refine x_throwW F T thr_IAE tx272 ?_ ⟨(Nat.le_of_ble_eq_true rfl), (Nat.le_of_ble_eq_true rfl), (Nat.le_of_ble_eq_true rfl), (Nat.le_of_ble_eq_true rfl)⟩ (Nat.le_of_ble_eq_true rfl) (Nat.le_of_ble_eq_true rfl) dX9_checkWhat_9 dX9_checkWhat_12 dX9_checkWhat_13 dX9_checkWhat_16 dX9_checkWhat_19
      exact ⟨rfl, by omega, rfl⟩
set_option maxHeartbeats 4000000 in
set_option maxRecDepth 100000 in
theorem kX9_checkCorner (g : Glo) (S : PS) (q : Nat → Nat) (hq : Shp S.1 S.2.1 q) (z : ZZ) (hB : Bz z) (hc : Cs S q 0 z) (k : Int32) : Cx g mX9_checkCorner 1 6 [.ref (q 80), .int k] S (pV9 (fun S' => isC z k ∧ S = S')) (fun E S' => E = eIOB ∧ ¬ isC z k ∧ S = S') := by
  refine Cx.of (by decide) (Nat.le_of_ble_eq_true rfl) (fun Γ hg F T => ?_)
  subst hg
  show G Γ S 0 0 0 [(0, .ref (q 80)), (1, .int k)] []
  have t0 : (0 : Int32).toInt = 0 := by decide
  have hnc := (nc_e hB).2
  have tn := nI_toInt (n := nc z) (by omega)
  refine g_iload_n (k := 1) F 1 rfl dX9_checkCorner_0 ?_
  refine g_if_lt (t := 18) F dX9_checkCorner_1 (by decide) (fun c1 => ?_) (fun c1 => ?_)
  · rw [Int32.lt_iff_toInt_lt] at c1
    refine x_throwW F T thr_IOB tx274 ?_ ⟨(Nat.le_of_ble_eq_true rfl), (Nat.le_of_ble_eq_true rfl), (Nat.le_of_ble_eq_true rfl), (Nat.le_of_ble_eq_true rfl)⟩ (Nat.le_of_ble_eq_true rfl) (Nat.le_of_ble_eq_true rfl) dX9_checkCorner_18 dX9_checkCorner_21 dX9_checkCorner_22 dX9_checkCorner_25 dX9_checkCorner_28
    exact ⟨rfl, by omega, rfl⟩
  · rw [Int32.lt_iff_toInt_lt] at c1
    refine g_iload_n (k := 1) F 1 rfl dX9_checkCorner_4 ?_
    refine g_aload_n (k := 0) F 0 rfl dX9_checkCorner_5 ?_
    refine gfX9_10 F (qi80 hq) (qr80_0 hq) dX9_checkCorner_6 ?_
    refine gfX9_100 F (qs0 hq (s := 0) (by decide)) (qt0_4 hq (s := 0) (by decide)) dX9_checkCorner_9 ?_
    refine gfX9_104e F (qs2 hq (s := 0) (by decide)) hc.n dX9_checkCorner_12 ?_
    refine g_icmp_lt (t := 29) F dX9_checkCorner_15 (by decide) (fun c2 => ?_) (fun c2 => ?_)
    · rw [Int32.lt_iff_toInt_lt] at c2
      refine x_vret F T ⟨rfl, ?_⟩ (Nat.le_of_ble_eq_true rfl) (Nat.le_of_ble_eq_true rfl) dX9_checkCorner_29
      exact ⟨by omega, rfl⟩
    · rw [Int32.lt_iff_toInt_lt] at c2
      refine x_throwW F T thr_IOB tx274 ?_ ⟨(Nat.le_of_ble_eq_true rfl), (Nat.le_of_ble_eq_true rfl), (Nat.le_of_ble_eq_true rfl), (Nat.le_of_ble_eq_true rfl)⟩ (Nat.le_of_ble_eq_true rfl) (Nat.le_of_ble_eq_true rfl) dX9_checkCorner_18 dX9_checkCorner_21 dX9_checkCorner_22 dX9_checkCorner_25 dX9_checkCorner_28
      exact ⟨rfl, by omega, rfl⟩
set_option maxHeartbeats 4000000 in
set_option maxRecDepth 100000 in
theorem kX9_refusal (g : Glo) (S : PS) (q : Nat → Nat) (hq : Shp S.1 S.2.1 q) (s : Nat) (hs : s < 8) (z : ZZ) (hB : Bz z) (hc : Cs S q s z) : Ct g mX9_refusal 0 0 [.ref (q 80), .ref (q (10 * s))] S (pI9 (fun r S' => r = nI (zRf z) ∧ Fr S S' q [83, 84])) := by
  refine Ct.of (by decide) (Nat.le_of_ble_eq_true rfl) (fun Γ hg F T => ?_)
  subst hg
  show G Γ S 0 0 0 [(0, .ref (q 80)), (1, .ref (q (10 * s)))] []
  have hnc := (nc_e hB).2
  have hnr := (nr_e hB).2
  refine g_aload_n (k := 1) F 1 rfl dX9_refusal_0 ?_
  refine gfX9_100 F (qs0 hq hs) (qt0_4 hq hs) dX9_refusal_1 ?_
  refine gfX9_104e F (qs2 hq hs) hc.n dX9_refusal_4 ?_
  refine g_iconst (v := 3) F (by decide) dX9_refusal_7 ?_
  refine g_icmp_ge (t := 13) F dX9_refusal_8 (by decide) (fun c1 => ?_) (fun c1 => ?_)
  · have h3 : 3 ≤ nc z := (nI_leI (a := 3) (by omega) (by omega)).mp c1
    refine g_aload_n (k := 1) F 1 rfl dX9_refusal_13 ?_
    refine gfX9_100 F (qs0 hq hs) (qt0_4 hq hs) dX9_refusal_14 ?_
    refine g_aload_n (k := 1) F 1 rfl dX9_refusal_17 ?_
    refine gfX9_66e F (qs0 hq hs) rfl dX9_refusal_18 ?_
    refine g_aload_n (k := 1) F 1 rfl dX9_refusal_21 ?_
    refine gfX9_70e F (qs0 hq hs) rfl dX9_refusal_22 ?_
    refine g_callVN (host := "PolarPlanimeter") F (kX4_touches Γ.1 S q hq s hs z hB hc (pI S (q (10 * s)) 0) (pI S (q (10 * s)) 1) hc.1.1 hc.1.2.1) okX4_touches (qs2 hq hs) nwM11 ⟨(Nat.le_of_ble_eq_true rfl), (Nat.le_of_ble_eq_true rfl)⟩ rfl rfl (Nat.le_of_ble_eq_true rfl) ⟨(Nat.le_of_ble_eq_true rfl), (Nat.le_of_ble_eq_true rfl)⟩ dX9_refusal_25 (toI (fun r2 S3 h4 => ?_))
    obtain ⟨er2, rfl⟩ := h4
    refine g_if_eq (t := 33) F dX9_refusal_28 (by decide) (fun c5 => ?_) (fun c5 => ?_)
    · have g1 := w0 er2 c5
      refine g_aload_n (k := 0) F 0 rfl dX9_refusal_33 ?_
      refine gfX9_29 F (qi80 hq) (qr80_3 hq) dX9_refusal_34 ?_
      refine g_aload_n (k := 1) F 1 rfl dX9_refusal_37 ?_
      refine g_callVN (host := "PolarPlanimeter") F (kX1_measureAll Γ.1 S q hq s hs z hB hc) okX1_measureAll (qi83 hq) nwM8 ⟨(Nat.le_of_ble_eq_true rfl), (Nat.le_of_ble_eq_true rfl)⟩ rfl rfl (Nat.le_of_ble_eq_true rfl) ⟨(Nat.le_of_ble_eq_true rfl), (Nat.le_of_ble_eq_true rfl)⟩ dX9_refusal_38 (toV (fun S7 h8 => ?_))
      obtain ⟨fr6, ar6, mr6⟩ := h8
      have hq9 : Shp S7.1 S7.2.1 q := Fr.q fr6 hq
      refine g_aload_n (k := 0) F 0 rfl dX9_refusal_41 ?_
      refine gfX9_29 F (qi80 hq9) (qr80_3 hq9) dX9_refusal_42 ?_
      refine g_callVN (host := "PolarPlanimeter") F (kX1_reachesMeasured Γ.1 S7 q hq9 z ar6 _ mr6 (ma_b hB (by omega))) okX1_reachesMeasured (qi83 hq9) nwM12 ⟨(Nat.le_of_ble_eq_true rfl), (Nat.le_of_ble_eq_true rfl)⟩ rfl rfl (Nat.le_of_ble_eq_true rfl) ⟨(Nat.le_of_ble_eq_true rfl), (Nat.le_of_ble_eq_true rfl)⟩ dX9_refusal_45 (toI (fun r10 S11 h12 => ?_))
      obtain ⟨er10, rfl⟩ := h12
      refine g_if_ne (t := 53) F dX9_refusal_48 (by decide) (fun c13 => ?_) (fun c13 => ?_)
      · have g2 := w1 er10 c13
        refine g_aload_n (k := 1) F 1 rfl dX9_refusal_53 ?_
        refine gfX9_73 F (qs0 hq9 hs) (qt0_5 hq9 hs) dX9_refusal_54 ?_
        refine gfX9_160e F (qs6 hq9 hs) ((congrFun (fr6.2.2 (10 * s + 6) (by omega) (by first | decide | (simp [-List.length_tail]; done) | (simp [-List.length_tail]; omega))).1 0).trans hc.m) dX9_refusal_57 ?_
        refine g_bipush (v := 12) F (by decide) dX9_refusal_60 ?_
        refine g_icmp_lt (t := 69) F dX9_refusal_62 (by decide) (fun c14 => ?_) (fun c14 => ?_)
        · have g3 := (nI_ltI (b := 12) (by omega) (by omega)).mp c14
          refine g_iconst (v := 0) F (by decide) dX9_refusal_69 ?_
          refine g_iret F T ⟨_, rfl, ?_⟩ (Nat.le_of_ble_eq_true rfl) (Nat.le_of_ble_eq_true rfl) dX9_refusal_70
          exact ⟨rf_0 hB (by omega) g1 ((ma_Ra hB (by omega)).mp g2) g3, (Fr.tr (l := [83, 84]) Fr.rf fr6 (by decide) (by decide))⟩
        · have g3 := fun h => c14 ((nI_ltI (b := 12) (by omega) (by omega)).mpr h)
          refine g_iconst (v := 4) F (by decide) dX9_refusal_65 ?_
          refine g_goto (t := 70) F dX9_refusal_66 (by decide) ?_
          refine g_iret F T ⟨_, rfl, ?_⟩ (Nat.le_of_ble_eq_true rfl) (Nat.le_of_ble_eq_true rfl) dX9_refusal_70
          exact ⟨rf_4 hB (by omega) g1 ((ma_Ra hB (by omega)).mp g2) g3, (Fr.tr (l := [83, 84]) Fr.rf fr6 (by decide) (by decide))⟩
      · have g2 := w0 er10 c13
        refine g_iconst (v := 3) F (by decide) dX9_refusal_51 ?_
        refine g_iret F T ⟨_, rfl, ?_⟩ (Nat.le_of_ble_eq_true rfl) (Nat.le_of_ble_eq_true rfl) dX9_refusal_52
        exact ⟨rf_3 (by omega) g1 (fun h => g2 ((ma_Ra hB (by omega)).mpr h)), (Fr.tr (l := [83, 84]) Fr.rf fr6 (by decide) (by decide))⟩
    · have g1 := w1 er2 c5
      refine g_iconst (v := 2) F (by decide) dX9_refusal_31 ?_
      refine g_iret F T ⟨_, rfl, ?_⟩ (Nat.le_of_ble_eq_true rfl) (Nat.le_of_ble_eq_true rfl) dX9_refusal_32
      exact ⟨rf_2 (by omega) g1, Fr.rf⟩
  · have h3 : ¬ 3 ≤ nc z := fun h => c1 ((nI_leI (a := 3) (by omega) (by omega)).mpr h)
    refine g_iconst (v := 1) F (by decide) dX9_refusal_11 ?_
    refine g_iret F T ⟨_, rfl, ?_⟩ (Nat.le_of_ble_eq_true rfl) (Nat.le_of_ble_eq_true rfl) dX9_refusal_12
    exact ⟨rf_1 h3, Fr.rf⟩
set_option maxHeartbeats 4000000 in
set_option maxRecDepth 100000 in
theorem kX1_reachesSegment (g : Glo) (S : PS) (q : Nat → Nat) (hq : Shp S.1 S.2.1 q) (s : Nat) (hs : s < 8) (z : ZZ) (hB : Bz z) (hc : Cs S q s z) (k : Nat) (hk : k < nc z) : Ct g mX1_reachesSegment 0 0 [.ref (q 83), .ref (q (10 * s)), .int (nI k)] S (pI9 (fun r S' => (r = 1 ∧ zRk z k ∨ r = 0 ∧ ¬ zRk z k) ∧ Fr S S' q [83, 84])) := by
  refine Ct.of (by decide) (Nat.le_of_ble_eq_true rfl) (fun Γ hg F T => ?_)
  subst hg
  show G Γ S 0 0 0 [(0, .ref (q 83)), (1, .ref (q (10 * s))), (2, .int (nI k))] []
  refine g_aload_n (k := 0) F 0 rfl dX1_reachesSegment_0 ?_
  refine g_aload_n (k := 1) F 1 rfl dX1_reachesSegment_1 ?_
  refine g_callV F (kX1_beginMeasuring Γ.1 S q hq s hs z hB hc) okX1_beginMeasuring (qi83 hq) mw172 ⟨(Nat.le_of_ble_eq_true rfl), (Nat.le_of_ble_eq_true rfl)⟩ rfl rfl (Nat.le_of_ble_eq_true rfl) ⟨(Nat.le_of_ble_eq_true rfl), (Nat.le_of_ble_eq_true rfl)⟩ dX1_reachesSegment_2 (toV (fun S2 h3 => ?_))
  obtain ⟨fr1, hab, hmb⟩ := h3
  have hq4 : Shp S2.1 S2.2.1 q := Fr.q fr1 hq
  refine g_aload_n (k := 0) F 0 rfl dX1_reachesSegment_5 ?_
  refine g_aload_n (k := 1) F 1 rfl dX1_reachesSegment_6 ?_
  refine g_iload_n (k := 2) F 2 rfl dX1_reachesSegment_7 ?_
  refine g_callV F (kX1_measure Γ.1 S2 q hq4 s hs z hB (Cs.fr (s := s) (l := [83, 84]) (by first | decide | omega) (Fr.tr (l := [83, 84]) Fr.rf fr1 (by decide) (by decide)) (by first | decide | (intro i hi h; simp at h; omega)) hc) k hk hab _ hmb) okX1_measure (qi83 hq4) mw188 ⟨(Nat.le_of_ble_eq_true rfl), (Nat.le_of_ble_eq_true rfl)⟩ rfl rfl (Nat.le_of_ble_eq_true rfl) ⟨(Nat.le_of_ble_eq_true rfl), (Nat.le_of_ble_eq_true rfl)⟩ dX1_reachesSegment_8 (toV (fun S6 h7 => ?_))
  obtain ⟨fr5, mr5⟩ := h7
  have haf := Ar.fr fr5 (by decide) hab
  have mo9 : Ms S6 q (moF z k) := mr5
  have hq8 : Shp S6.1 S6.2.1 q := Fr.q fr5 hq4
  refine g_aload_n (k := 0) F 0 rfl dX1_reachesSegment_11 ?_
  refine g_callV F (kX1_reachesMeasured Γ.1 S6 q hq8 z haf _ mo9 (mo_b hB (by omega))) okX1_reachesMeasured (qi83 hq8) mw209 ⟨(Nat.le_of_ble_eq_true rfl), (Nat.le_of_ble_eq_true rfl)⟩ rfl rfl (Nat.le_of_ble_eq_true rfl) ⟨(Nat.le_of_ble_eq_true rfl), (Nat.le_of_ble_eq_true rfl)⟩ dX1_reachesSegment_12 (toI (fun r9 S10 h11 => ?_))
  obtain ⟨er9, rfl⟩ := h11
  refine g_zret F T (by rcases er9 with h | h <;> rw [h.1] <;> decide) ⟨_, rfl, ?_⟩ (Nat.le_of_ble_eq_true rfl) (Nat.le_of_ble_eq_true rfl) dX1_reachesSegment_15
  exact ⟨by rw [← mo_Rk hB (show 0 < nc z by omega)]; exact er9, (Fr.tr (l := [83, 84]) (Fr.tr (l := [83, 84]) Fr.rf fr1 (by decide) (by decide)) fr5 (by decide) (by decide))⟩
