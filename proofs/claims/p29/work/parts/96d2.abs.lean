/-! the error's size: of the two sizes, its quotient -/
theorem zMs_b {z : ZZ} (hB : Bz z) {out : Nat → Bool} : ∀ n : Nat, n ≤ 12 → -(72057594037927936 * (n : Int)) ≤ (zMs z out n).toInt ∧ (zMs z out n).toInt ≤ 72057594037927936 * (n : Int)
  | 0, _ => by
    rw [show zMs z out 0 = 0 from rfl, L0_0]; omega
  | n + 1, h => by
    have ih := zMs_b hB (out := out) n (by omega)
    have ha := zAr_b hB n
    cases ho : out n
    · rw [ms_f ho, L_add (by omega) (by omega)]; omega
    · rw [ms_t ho, L_add (by rw [L0_0]; omega) (by rw [L0_0]; omega), L0_0]; omega
theorem lN_I {n : Nat} (h : n < 2147483648) : (lN n).toInt = (n : Int) := by
  rw [← nI_L h, Int32.toInt_toInt64, nI_toInt h]
theorem zDi_b {z : ZZ} (hB : Bz z) : -900000000000000000 ≤ (zDi z).toInt ∧ (zDi z).toInt ≤ 900000000000000000 := by
  unfold zDi
  split
  · rw [L0_0]; omega
  · next g =>
    have hn := (nr_e hB).2
    have h1 := zMs_b hB (out := zOut z) (nr z) hn
    have h2 := lfO_pos (z := z) (Nat.pos_of_ne_zero g)
    have h3 := lfF_le (zOut z) (nr z)
    have h4 := lN_I (n := lfF (zOut z) (nr z)) (by omega)
    have ht := tw_2 hB
    unfold zMe
    rw [if_neg g]
    generalize zMs z (zOut z) (nr z) = s at h1 ⊢
    generalize lfF (zOut z) (nr z) = k at h2 h3 h4 ⊢
    have hq := tdiv_q (a := s.toInt) (b := (k : Int)) (B := 864691128455135232) (by omega) (by omega)
    have e : (s / lN k).toInt = s.toInt.tdiv (k : Int) := by
      rw [Int64.toInt_div, h4, Int.bmod_def]; omega
    rw [L_sub (by omega) (by omega), e]
    omega
theorem rr_sg {f : FP.Core.Fmt} {s s' s2 : Bool} {A B c : Nat} {e q : Int} (h : FP.Core.roundRatio f s A B e = .fin s2 c q) : FP.Core.roundRatio f s' A B e = .fin s' c q := by
  unfold FP.Core.roundRatio at h ⊢
  split at h
  · next g =>
    rw [if_pos g]
    cases h
    rfl
  · next g =>
    rw [if_neg g]
    unfold FP.Core.roundAt FP.Core.settle FP.Core.bound at h ⊢
    split at h
    · next g1 =>
      rw [if_pos g1]
      split at h
      · next g2 =>
        rw [if_pos g2]
        cases h
        rfl
      · cases h
    · next g1 =>
      rw [if_neg g1]
      split at h
      · next g2 =>
        rw [if_pos g2]
        cases h
        rfl
      · cases h
theorem l2d_fin (D : Int64) : ∃ s c q, FP.Core.val64 (FP.l2d D) = .fin s c q := by
  by_cases h : D = 0
  · subst h; exact ⟨false, 0, -1074, by decide +kernel⟩
  · obtain ⟨c, q, e, -⟩ := l2d_sh h
    exact ⟨_, c, q, e⟩
theorem l2d_ab {D : Int64} (hm : -9223372036854775808 < D.toInt) {s : Bool} {c : Nat} {q : Int} (h : FP.Core.val64 (FP.l2d D) = .fin s c q) : FP.Core.val64 (FP.l2d (if 0 < D then D else -D)) = .fin false c q := by
  have e : FP.Core.val64 (FP.l2d D) = FP.Core.roundRatio FP.Core.b64 (decide (D.toInt < 0)) D.toInt.natAbs 1 0 := FP.Core.val64_l2d D
  have e' : ∀ y : Int64, FP.Core.val64 (FP.l2d y) = FP.Core.roundRatio FP.Core.b64 (decide (y.toInt < 0)) y.toInt.natAbs 1 0 := fun y => FP.Core.val64_l2d y
  have ea : (if 0 < D then D else -D).toInt = (D.toInt.natAbs : Int) := by
    split
    · next g => rw [Int64.lt_iff_toInt_lt, L0_0] at g; omega
    · next g => rw [Int64.lt_iff_toInt_lt, L0_0] at g; rw [L_neg hm]; omega
  rw [e', ea, Int.natAbs_natCast, show decide (((D.toInt.natAbs : Nat) : Int) < 0) = false from decide_eq_false (by omega)]
  exact rr_sg (e.symm.trans h)
theorem bs_D {D A : Int64} (hD : -9223372036854775808 < D.toInt) (hA : -9223372036854775808 < A.toInt) {m : UInt64} {s : Bool} (h : ErS (FP.ddiv (FP.l2d D) (FP.l2d A)) m s) : BS (FP.ddiv (FP.l2d (if 0 < D then D else -D)) (FP.l2d (if 0 < A then A else -A))) m := by
  obtain ⟨c, q, hv, hm, hs⟩ := h
  obtain ⟨s1, c1, q1, d1⟩ := l2d_fin D
  obtain ⟨s2, c2, q2, d2⟩ := l2d_fin A
  have e : FP.Core.val64 (FP.ddiv (FP.l2d D) (FP.l2d A)) = FP.Core.quotient FP.Core.b64 (FP.Core.val64 (FP.l2d D)) (FP.Core.val64 (FP.l2d A)) := FP.Core.val64_ddiv _ _
  have e' : FP.Core.val64 (FP.ddiv (FP.l2d (if 0 < D then D else -D)) (FP.l2d (if 0 < A then A else -A))) = FP.Core.quotient FP.Core.b64 (FP.Core.val64 (FP.l2d (if 0 < D then D else -D))) (FP.Core.val64 (FP.l2d (if 0 < A then A else -A))) := FP.Core.val64_ddiv _ _
  rw [l2d_ab hD d1, l2d_ab hA d2] at e'
  rw [hv, d1, d2] at e
  have e2 : FP.Core.Datum.fin s c q = if c2 = 0 then (if c1 = 0 then FP.Core.Datum.nan else FP.Core.Datum.inf (s1 != s2)) else FP.Core.roundRatio FP.Core.b64 (s1 != s2) c1 c2 (q1 - q2) := e
  have e3 : FP.Core.val64 (FP.ddiv (FP.l2d (if 0 < D then D else -D)) (FP.l2d (if 0 < A then A else -A))) = if c2 = 0 then (if c1 = 0 then FP.Core.Datum.nan else FP.Core.Datum.inf (false != false)) else FP.Core.roundRatio FP.Core.b64 (false != false) c1 c2 (q1 - q2) := e'
  by_cases h0 : c2 = 0
  · rw [if_pos h0] at e2
    by_cases h1 : c1 = 0
    · rw [if_pos h1] at e2; cases e2
    · rw [if_neg h1] at e2; cases e2
  · rw [if_neg h0] at e2 e3
    have hv' : FP.Core.val64 (FP.ddiv (FP.l2d (if 0 < D then D else -D)) (FP.l2d (if 0 < A then A else -A))) = .fin false c q := e3.trans (rr_sg e2.symm)
    rcases hm with ⟨rfl, rfl⟩ | ⟨e9, t, h1, h2, h3, h4, rfl, rfl⟩
    · exact .inl ⟨_, q, hv', rfl⟩
    · refine .inr ⟨e9, t, h1, h2, h3, h4, ?_⟩
      rw [h4]
      exact FP.Core.val64_inj (by rw [hv']; intro h; cases h) (hv'.trans (bd_v h1 h2 h3).symm)
theorem bs_Z {z : ZZ} (hB : Bz z) (h69 : ¬ z 69 = 0) (hA : ¬ zTw z / 2 = 0) {m : UInt64} {s : Bool} (h : ErS (zEr z) m s) : BS (FP.ddiv (FP.l2d (if 0 < zDi z then zDi z else -zDi z)) (FP.l2d (if 0 < zTw z / 2 then zTw z / 2 else -(zTw z / 2)))) m := by
  have ev : zEr z = FP.ddiv (FP.l2d (zDi z)) (FP.l2d (zTw z / 2)) := by unfold zEr; rw [if_neg (fun h => h.elim h69 hA)]
  rw [ev] at h
  have h1 := zDi_b hB
  have h2 := tw_2 hB
  exact bs_D (by omega) (by omega) h
theorem bs_nn {v m : UInt64} (h : BS v m) : FP.Core.val64 v ≠ .nan := by
  rcases h with ⟨s, q, h, -⟩ | ⟨e, t, h1, h2, h3, h4, rfl⟩
  · rw [h]; intro g; cases g
  · rw [h4]; exact bd_nn h1 h2 h3
