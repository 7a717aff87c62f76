section Fl
theorem b64_min : FP.Core.b64.qmin = -1074 := by decide
theorem b64_max : FP.Core.b64.qmax = 971 := by decide
theorem b64_tails : FP.Core.b64.tails = 4503599627370496 := by decide
theorem b64_p2 : 2 ^ FP.Core.b64.p = 9007199254740992 := by decide
theorem b64_exps : FP.Core.b64.exps = 2048 := by decide
theorem rr_shape {s : Bool} {A B : Nat} {e : Int} (hA : 0 < A) (hB : 0 < B) (h1 : -1000 ≤ FP.Core.quantum FP.Core.b64 A B e) (h2 : FP.Core.quantum FP.Core.b64 A B e ≤ 900) : ∃ c q, FP.Core.roundRatio FP.Core.b64 s A B e = .fin s c q ∧ 4503599627370496 ≤ c ∧ c < 9007199254740992 ∧ FP.Core.quantum FP.Core.b64 A B e ≤ q ∧ q ≤ FP.Core.quantum FP.Core.b64 A B e + 1 := by
  have hmin := b64_min
  have hmax := b64_max
  have hn : 4503599627370496 ≤ FP.Core.nearest (FP.Core.unitsNum A e (FP.Core.quantum FP.Core.b64 A B e)) (FP.Core.unitsDen B e (FP.Core.quantum FP.Core.b64 A B e)) := by
    rcases FP.Core.quantum_not_below (f := FP.Core.b64) hA hB e with h | h
    · omega
    · refine FP.Core.nearest_ge (FP.Core.unitsDen_pos hB ..) ?_
      rw [show (FP.Core.b64.p : Int) - 1 = ((52 : Nat) : Int) by decide, ← FP.Core.units_below] at h
      exact Nat.le_of_not_lt h
  unfold FP.Core.roundRatio
  rw [if_neg (by omega)]
  unfold FP.Core.roundAt
  generalize FP.Core.nearest (FP.Core.unitsNum A e (FP.Core.quantum FP.Core.b64 A B e)) (FP.Core.unitsDen B e (FP.Core.quantum FP.Core.b64 A B e)) = c at hn ⊢
  generalize FP.Core.quantum FP.Core.b64 A B e = Q at h1 h2 ⊢
  unfold FP.Core.settle
  rw [b64_p2]
  split
  · next g =>
    unfold FP.Core.bound
    rw [if_pos (by omega)]
    exact ⟨c, Q, rfl, hn, g, by omega, by omega⟩
  · next g =>
    unfold FP.Core.bound
    rw [if_pos (by omega), b64_tails]
    exact ⟨4503599627370496, Q + 1, rfl, by omega, by omega, by omega, by omega⟩
theorem qt_b {A B : Nat} {e lo hi : Int} (hA : 0 < A) (hB : 0 < B) (h1 : ¬ FP.Core.Below A B lo) (h2 : FP.Core.Below A B (hi + 1)) (h3 : -1000 ≤ lo + e - 52) : lo + e - 52 ≤ FP.Core.quantum FP.Core.b64 A B e ∧ FP.Core.quantum FP.Core.b64 A B e ≤ max (-1074) (hi + e - 52) := by
  obtain ⟨l1, l2⟩ := FP.Core.leading_spec hA hB
  have a1 := FP.Core.lt_of_below h1 l2
  have a2 := FP.Core.lt_of_below l1 h2
  unfold FP.Core.quantum
  rw [b64_min, show (FP.Core.b64.p : Int) = 53 by decide]
  omega
theorem l2d_sh {D : Int64} (h : D ≠ 0) : ∃ c q, FP.Core.val64 (FP.l2d D) = .fin (decide (D.toInt < 0)) c q ∧ 4503599627370496 ≤ c ∧ c < 9007199254740992 ∧ -52 ≤ q ∧ q ≤ 12 := by
  have hD : D.toInt ≠ 0 := fun e => h (Int64.toInt_inj.mp e)
  have hb := D.toInt_lt
  have hb2 := D.le_toInt
  have hA : 0 < D.toInt.natAbs := by omega
  have hq := qt_b (A := D.toInt.natAbs) (B := 1) (e := 0) (lo := 0) (hi := 63) hA (by decide) (by unfold FP.Core.Below; show ¬ D.toInt.natAbs * 1 < 1 * 1; omega) (by unfold FP.Core.Below; show D.toInt.natAbs * 2 ^ 0 < 1 * 2 ^ 64; omega) (by omega)
  have e : FP.Core.val64 (FP.l2d D) = FP.Core.roundRatio FP.Core.b64 (decide (D.toInt < 0)) D.toInt.natAbs 1 0 := FP.Core.val64_l2d D
  obtain ⟨c, q, r1, r2, r3, r4, r5⟩ := rr_shape (s := decide (D.toInt < 0)) (e := 0) hA (by decide : 0 < 1) (by omega) (by omega)
  exact ⟨c, q, e.trans r1, r2, r3, by omega, by omega⟩
/-- a double by its exponent and fraction -/
def bd (e t : Nat) : UInt64 := UInt64.ofNat (e * 4503599627370496 + t)
theorem bd_n {e t : Nat} (he : e ≤ 2046) (ht : t < 4503599627370496) : (bd e t).toNat = e * 4503599627370496 + t := by
  unfold bd
  rw [UInt64.toNat_ofNat']
  exact Nat.mod_eq_of_lt (by omega)
theorem dec_v {n e t : Nat} {s : Bool} (h1 : 1 ≤ e) (he : e ≤ 2046) (ht : t < 4503599627370496) (hn : n = (s.toNat * 2048 + e) * 4503599627370496 + t) : FP.Core.decode FP.Core.b64 n = .fin s (4503599627370496 + t) ((e : Int) - 1075) := by
  have hs : s.toNat ≤ 1 := by cases s <;> decide
  have e1 : FP.Core.fieldE FP.Core.b64 n = e := by unfold FP.Core.fieldE; rw [b64_tails, b64_exps]; omega
  have e2 : FP.Core.fieldT FP.Core.b64 n = t := by unfold FP.Core.fieldT; rw [b64_tails]; omega
  have e3 : FP.Core.fieldS FP.Core.b64 n = s := by
    unfold FP.Core.fieldS
    rw [b64_tails, b64_exps, show n / 4503599627370496 / 2048 % 2 = s.toNat by omega]
    cases s <;> decide
  unfold FP.Core.decode
  rw [e1, e2, e3, b64_exps, b64_tails, if_neg (by omega), if_neg (by omega), b64_min]
  exact congrArg _ (by omega)
theorem bd_v {e t : Nat} (h1 : 1 ≤ e) (he : e ≤ 2046) (ht : t < 4503599627370496) : FP.Core.val64 (bd e t) = .fin false (4503599627370496 + t) ((e : Int) - 1075) := dec_v (s := false) h1 he ht (by rw [bd_n he ht]; show _ = (0 * 2048 + e) * _ + t; omega)
theorem bd_nn {e t : Nat} (h1 : 1 ≤ e) (he : e ≤ 2046) (ht : t < 4503599627370496) : FP.Core.val64 (bd e t) ≠ .nan := by
  rw [bd_v h1 he ht]
  intro h; cases h
theorem two_v : FP.Core.val64 4611686018427387904 = .fin false 4503599627370496 (-51) := by decide +kernel
theorem fits_bd {e t : Nat} (h1 : 1 ≤ e) (he : e ≤ 2046) (ht : t < 4503599627370496) : FP.Core.fits FP.Core.b64 (.fin false (4503599627370496 + t) ((e : Int) - 1075)) := ⟨by rw [b64_p2]; omega, by rw [b64_min]; omega, by rw [b64_max]; omega, .inr (by rw [b64_tails]; omega)⟩
theorem bd_half {e t : Nat} (h1 : 2 ≤ e) (he : e ≤ 2046) (ht : t < 4503599627370496) : FP.ddiv (bd e t) 4611686018427387904 = bd (e - 1) t := by
  have hf := fits_bd (e := e - 1) (t := t) (by omega) (by omega) ht
  have hv : FP.Core.val64 (FP.ddiv (bd e t) 4611686018427387904) = FP.Core.val64 (bd (e - 1) t) := by
    refine (FP.Core.val64_ddiv _ _).trans ?_
    rw [bd_v (by omega) he ht, two_v, bd_v (by omega) (by omega) ht]
    show (if 4503599627370496 = 0 then (if 4503599627370496 + t = 0 then FP.Core.Datum.nan else FP.Core.Datum.inf (false != false)) else FP.Core.roundRatio FP.Core.b64 (false != false) (4503599627370496 + t) 4503599627370496 ((e : Int) - 1075 - (-51))) = _
    rw [if_neg (by omega)]
    refine FP.Core.roundRatio_exact FP.Core.good_b64 (by decide) hf ?_
    rw [show ((e : Int) - 1075 - -51 - (((e - 1 : Nat) : Int) - 1075)).toNat = 52 by omega, show ((((e - 1 : Nat) : Int) - 1075) - ((e : Int) - 1075 - -51)).toNat = 0 by omega]
    omega
  exact FP.Core.val64_inj (by rw [hv]; exact bd_nn (by omega) (by omega) ht) hv
theorem bd_dbl {e t : Nat} (h1 : 1 ≤ e) (he : e ≤ 2045) (ht : t < 4503599627370496) : FP.dmul (bd e t) 4611686018427387904 = bd (e + 1) t := by
  have hf := fits_bd (e := e + 1) (t := t) (by omega) (by omega) ht
  have hv : FP.Core.val64 (FP.dmul (bd e t) 4611686018427387904) = FP.Core.val64 (bd (e + 1) t) := by
    refine (FP.Core.val64_dmul _ _).trans ?_
    rw [bd_v h1 (by omega) ht, two_v, bd_v (by omega) (by omega) ht]
    show FP.Core.roundRatio FP.Core.b64 (false != false) ((4503599627370496 + t) * 4503599627370496) 1 ((e : Int) - 1075 + (-51)) = _
    refine FP.Core.roundRatio_exact FP.Core.good_b64 (by decide) hf ?_
    rw [show ((e : Int) - 1075 + -51 - (((e + 1 : Nat) : Int) - 1075)).toNat = 0 by omega, show ((((e + 1 : Nat) : Int) - 1075) - ((e : Int) - 1075 + -51)).toNat = 52 by omega]
    omega
  exact FP.Core.val64_inj (by rw [hv]; exact bd_nn (by omega) (by omega) ht) hv
theorem cmpv_lt {a b : Int} {op : CmpOp} : Op.cmpValue (some (compare a b)) op < 0 ↔ a < b := by
  rcases Int.lt_trichotomy a b with h | h | h
  · rw [(FP.Core.compare_lt_iff _ _).mpr h]; exact ⟨fun _ => h, fun _ => by cases op <;> decide⟩
  · rw [(FP.Core.compare_eq_iff _ _).mpr h]; exact ⟨fun g => absurd g (by cases op <;> decide), fun g => absurd g (by omega)⟩
  · rw [(FP.Core.compare_gt_iff _ _).mpr h]; exact ⟨fun g => absurd g (by cases op <;> decide), fun g => absurd g (by omega)⟩
theorem cmpv_eq {a b : Int} {op : CmpOp} : Op.cmpValue (some (compare a b)) op = 0 ↔ a = b := by
  rcases Int.lt_trichotomy a b with h | h | h
  · rw [(FP.Core.compare_lt_iff _ _).mpr h]; exact ⟨fun g => absurd g (by cases op <;> decide), fun g => absurd g (by omega)⟩
  · rw [(FP.Core.compare_eq_iff _ _).mpr h]; exact ⟨fun _ => h, fun _ => by cases op <;> decide⟩
  · rw [(FP.Core.compare_gt_iff _ _).mpr h]; exact ⟨fun g => absurd g (by cases op <;> decide), fun g => absurd g (by omega)⟩
theorem bd_key {e t : Nat} (he : e ≤ 2046) (ht : t < 4503599627370496) : FP.Core.dkey (bd e t) = ((e * 4503599627370496 + t : Nat) : Int) := by
  unfold FP.Core.dkey
  rw [bd_n he ht, if_neg (by omega)]
theorem bd_lt2 {e t : Nat} {op : CmpOp} (h1 : 1 ≤ e) (he : e ≤ 2046) (ht : t < 4503599627370496) : Op.cmpValue (FP.dcmp (bd e t) 4611686018427387904) op < 0 ↔ e < 1024 := by
  have h : FP.dcmp (bd e t) 4611686018427387904 = some (compare (FP.Core.dkey (bd e t)) (FP.Core.dkey 4611686018427387904)) := FP.Core.dcmp_key (bd_nn h1 he ht) (by rw [two_v]; intro h; cases h)
  rw [h, cmpv_lt, bd_key he ht, show FP.Core.dkey 4611686018427387904 = 4611686018427387904 by decide]
  omega
theorem bd_lt1 {e t : Nat} {op : CmpOp} (h1 : 1 ≤ e) (he : e ≤ 2046) (ht : t < 4503599627370496) : Op.cmpValue (FP.dcmp (bd e t) FP.dconst1) op < 0 ↔ e < 1023 := by
  have h : FP.dcmp (bd e t) FP.dconst1 = some (compare (FP.Core.dkey (bd e t)) (FP.Core.dkey FP.Core.dconst1)) := FP.Core.dcmp_key (bd_nn h1 he ht) (by rw [show FP.Core.val64 FP.dconst1 = _ from FP.Core.val64_dconst1]; intro h; cases h)
  rw [h, cmpv_lt, bd_key he ht, show FP.Core.dkey FP.Core.dconst1 = 4607182418800017408 by decide +kernel]
  omega
theorem p52_v : FP.Core.val64 4841369599423283200 = .fin false 4503599627370496 0 := by decide +kernel
theorem bd_fr {t : Nat} (ht : t < 4503599627370496) : FP.Core.val64 (FP.dmul (FP.dsub (bd 1023 t) FP.dconst1) 4841369599423283200) ≠ .nan ∧ FP.Core.val64 (FP.dsub (bd 1023 t) FP.dconst1) ≠ .nan ∧ FP.d2l (FP.dmul (FP.dsub (bd 1023 t) FP.dconst1) 4841369599423283200) = lN t := by
  obtain ⟨c, q, hr, hu⟩ := FP.Core.round_exact FP.Core.good_b64 false (c := t) (q := -52) (by rw [b64_p2]; omega) (by rw [b64_min]; omega) (by rw [b64_max]; omega)
  have hs : FP.Core.val64 (FP.dsub (bd 1023 t) FP.dconst1) = .fin false c q := by
    refine (FP.Core.val64_dsub _ _).trans ?_
    rw [bd_v (by decide) (by decide) ht, show FP.Core.val64 FP.dconst1 = .fin false 4503599627370496 (-52) from FP.Core.val64_dconst1, ← hr]
    refine congrArg _ ?_
    show FP.Core.Datum.fin (FP.Core.sumSign false (!false) (FP.Core.sumUnits false (4503599627370496 + t) (((1023 : Nat) : Int) - 1075) (!false) 4503599627370496 (-52) (min (((1023 : Nat) : Int) - 1075) (-52)))) (FP.Core.sumUnits false (4503599627370496 + t) (((1023 : Nat) : Int) - 1075) (!false) 4503599627370496 (-52) (min (((1023 : Nat) : Int) - 1075) (-52))).natAbs (min (((1023 : Nat) : Int) - 1075) (-52)) = _
    have e : FP.Core.sumUnits false (4503599627370496 + t) (((1023 : Nat) : Int) - 1075) (!false) 4503599627370496 (-52) (min (((1023 : Nat) : Int) - 1075) (-52)) = t := by
      show (((4503599627370496 + t) * 1 : Nat) : Int) + -((4503599627370496 * 1 : Nat) : Int) = t
      omega
    rw [e]
    have e2 : FP.Core.sumSign false (!false) (t : Int) = false := by
      unfold FP.Core.sumSign
      split
      · rfl
      · exact decide_eq_false (by omega)
    rw [e2]
    rfl
  have hfit : FP.Core.fits FP.Core.b64 (.fin false c q) := by rw [← hs]; exact FP.Core.val64_fits _
  have hq : -1074 ≤ q := by have := hfit.2.1; rw [b64_min] at this; exact this
  have hw : FP.Core.Whole (t : Int) (FP.Core.exactProduct (.fin false c q) (.fin false 4503599627370496 0)) := by
    show ((c * 4503599627370496 * 2 ^ (q + 0).toNat : Nat) : Int) = (t : Int) * ((2 ^ (-(q + 0)).toNat : Nat) : Int)
    rw [← Int.natCast_mul, Int.natCast_inj]
    unfold FP.Core.inUnits at hu
    obtain ⟨K, hK⟩ : ∃ K : Nat, K = 1022 := ⟨_, rfl⟩
    rw [b64_min, show ((-52 : Int) - -1074).toNat = K by omega] at hu
    apply Nat.eq_of_mul_eq_mul_right (Nat.two_pow_pos K)
    have h1 : c * 4503599627370496 * 2 ^ (q + 0).toNat * 2 ^ K = c * 2 ^ ((q - -1074).toNat + (-(q + 0)).toNat) := by
      rw [show (4503599627370496 : Nat) = 2 ^ 52 by decide, Nat.mul_assoc, Nat.mul_assoc, ← Nat.pow_add, ← Nat.pow_add]
      exact congrArg (fun k => c * 2 ^ k) (by omega)
    rw [h1, Nat.pow_add, ← Nat.mul_assoc, hu, Nat.mul_right_comm]
  have hp : FP.Core.DInt (t : Int) (FP.dmul (FP.dsub (bd 1023 t) FP.dconst1) 4841369599423283200) := by
    show FP.Core.Whole _ (FP.Core.val64 _)
    rw [show FP.Core.val64 (FP.dmul (FP.dsub (bd 1023 t) FP.dconst1) 4841369599423283200) = _ from FP.Core.val64_dmul _ _, hs, p52_v]
    exact FP.Core.whole_round FP.Core.good_b64 FP.Core.wide_b64 (by rw [b64_p2]; omega) hw
  refine ⟨fun h => ?_, (by rw [hs]; intro h; cases h), ?_⟩
  · have hp2 : FP.Core.Whole _ (FP.Core.val64 _) := hp
    rw [h] at hp2
    exact hp2
  · exact FP.Core.d2l_int (by rw [pk_lT (by omega)]; exact hp)
theorem bd_or {E t : Nat} {x : Int64} (hE : E ≤ 2046) (ht : t < 4503599627370496) (hx : x.toInt = (E : Int) - 1023) : (x + 1023) <<< ((52 : Int32).toInt64 &&& 63) ||| lN t = (bd E t).toInt64 := by
  have e1 : x + 1023 = lN E := by
    apply Int64.toInt_inj.mp
    rw [L_add (by rw [hx, show (1023 : Int64).toInt = 1023 by decide]; omega) (by rw [hx, show (1023 : Int64).toInt = 1023 by decide]; omega), hx, show (1023 : Int64).toInt = 1023 by decide, pk_lT (by omega)]
    omega
  rw [e1, show (52 : Int32) = nI 52 from rfl, wb_shl E (by decide), wb_or (by omega) (by omega)]
  have e2 : E * 2 ^ 52 ||| t = E * 4503599627370496 + t := by
    rw [Nat.mul_comm, ← Nat.two_pow_add_eq_or_of_lt ht]
  rw [e2]
  rfl
end Fl
