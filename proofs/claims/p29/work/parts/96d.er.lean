section RowsD2
variable {Γ : Ctx} {S : PS} {c n pc : Nat} {L : List (Nat × Value)} {st : List Value}
theorem g_red {x y : UInt64} (h : x = y) (k9 : G Γ S c n pc L (.double y :: st)) : G Γ S c n pc L (.double x :: st) := by rw [h]; exact k9
end RowsD2
section Er
theorem zero_v (s : Bool) : FP.Core.val64 (if s then 9223372036854775808 else 0) = .fin s 0 (-1074) := by cases s <;> decide +kernel
theorem bd_sg {e t : Nat} {s : Bool} (h1 : 1 ≤ e) (he : e ≤ 2046) (ht : t < 4503599627370496) : FP.Core.val64 (if s then bd e t ||| 9223372036854775808 else bd e t) = .fin s (4503599627370496 + t) ((e : Int) - 1075) := by
  cases s
  · exact bd_v h1 he ht
  · refine dec_v (s := true) h1 he ht ?_
    show (bd e t ||| 9223372036854775808).toNat = _
    rw [UInt64.toNat_or, bd_n he ht, Nat.or_comm, show (9223372036854775808 : UInt64).toNat = 2 ^ 63 * 1 by decide, ← Nat.two_pow_add_eq_or_of_lt (by omega)]
    show _ = (1 * 2048 + e) * _ + t
    omega
abbrev sDA (z : ZZ) : Bool := (decide (zDi z < 0)) != (decide (zTw z / 2 < 0))
def ErS (v m : UInt64) (s : Bool) : Prop := ∃ c q, FP.Core.val64 v = .fin s c q ∧ ((c = 0 ∧ m = 0) ∨ ∃ e t, 1 ≤ e ∧ e ≤ 2046 ∧ t < 4503599627370496 ∧ m = bd e t ∧ c = 4503599627370496 + t ∧ q = (e : Int) - 1075) ∧ v = (if s then m ||| 9223372036854775808 else m)
theorem ers_0 {v : UInt64} {s : Bool} {q : Int} (h : FP.Core.val64 v = .fin s 0 q) : ErS v 0 s := by
  have hf := FP.Core.val64_fits v
  rw [h] at hf
  have hq : q = -1074 := by
    rcases hf.2.2.2 with e | e
    · rw [e, b64_min]
    · rw [b64_tails] at e; omega
  refine ⟨0, q, h, .inl ⟨rfl, rfl⟩, ?_⟩
  refine FP.Core.val64_inj (by rw [h]; intro h; cases h) ?_
  rw [h, hq, show (if s then (0 : UInt64) ||| 9223372036854775808 else 0) = (if s then 9223372036854775808 else 0) by cases s <;> rfl, zero_v]
theorem ers_n {v : UInt64} {s : Bool} {c : Nat} {q : Int} (h : FP.Core.val64 v = .fin s c q) (h1 : 4503599627370496 ≤ c) (h2 : c < 9007199254740992) (h3 : -1074 ≤ q) (h4 : q ≤ 971) : ErS v (bd (q + 1075).toNat (c - 4503599627370496)) s := by
  have e1 : 4503599627370496 + (c - 4503599627370496) = c := by omega
  have e2 : (((q + 1075).toNat : Nat) : Int) - 1075 = q := by omega
  refine ⟨c, q, h, .inr ⟨(q + 1075).toNat, c - 4503599627370496, by omega, by omega, by omega, rfl, by omega, by omega⟩, ?_⟩
  refine FP.Core.val64_inj (by rw [h]; intro h; cases h) ?_
  rw [h, bd_sg (by omega) (by omega) (by omega), e1, e2]
theorem dec_lt {x : Int64} : decide (x < 0) = decide (x.toInt < 0) := by
  have h : x < 0 ↔ x.toInt < 0 := by rw [Int64.lt_iff_toInt_lt]; exact Iff.rfl
  by_cases g : x < 0
  · rw [decide_eq_true g, decide_eq_true (h.mp g)]
  · rw [decide_eq_false g, decide_eq_false (fun k => g (h.mpr k))]
theorem er_shape {z : ZZ} (h69 : ¬ z 69 = 0) (hA : ¬ zTw z / 2 = 0) : ∃ m, ErS (zEr z) m (sDA z) := by
  have ev : zEr z = FP.ddiv (FP.l2d (zDi z)) (FP.l2d (zTw z / 2)) := by unfold zEr; rw [if_neg (fun h => h.elim h69 hA)]
  rw [ev]
  unfold sDA
  generalize zTw z / 2 = A at hA
  generalize zDi z = D
  obtain ⟨c2, q2, a1, a2, a3, a4, a5⟩ := l2d_sh hA
  have hq : FP.Core.val64 (FP.ddiv (FP.l2d D) (FP.l2d A)) = FP.Core.quotient FP.Core.b64 (FP.Core.val64 (FP.l2d D)) (FP.Core.val64 (FP.l2d A)) := FP.Core.val64_ddiv _ _
  rw [a1] at hq
  rw [dec_lt, dec_lt]
  by_cases hD : D = 0
  · subst hD
    rw [show FP.Core.val64 (FP.l2d 0) = .fin false 0 (-1074) by decide +kernel] at hq
    refine ⟨0, ers_0 (q := FP.Core.b64.qmin) (hq.trans ?_)⟩
    show (if c2 = 0 then (if 0 = 0 then FP.Core.Datum.nan else FP.Core.Datum.inf (false != decide (A.toInt < 0))) else FP.Core.roundRatio FP.Core.b64 (false != decide (A.toInt < 0)) 0 c2 (-1074 - q2)) = _
    rw [if_neg (by omega)]
    rfl
  · obtain ⟨c1, q1, d1, d2, d3, d4, d5⟩ := l2d_sh hD
    rw [d1] at hq
    have hb := qt_b (A := c1) (B := c2) (e := q1 - q2) (lo := -1) (hi := 0) (by omega) (by omega) (by unfold FP.Core.Below; show ¬ c1 * 2 ^ 1 < c2 * 2 ^ 0; omega) (by unfold FP.Core.Below; show c1 * 2 ^ 0 < c2 * 2 ^ 1; omega) (by omega)
    obtain ⟨c, q, r1, r2, r3, r4, r5⟩ := rr_shape (s := decide (D.toInt < 0) != decide (A.toInt < 0)) (A := c1) (B := c2) (e := q1 - q2) (by omega) (by omega) (by omega) (by omega)
    refine ⟨_, ers_n (q := q) (hq.trans ?_) r2 r3 (by omega) (by omega)⟩
    show (if c2 = 0 then (if c1 = 0 then FP.Core.Datum.nan else FP.Core.Datum.inf (decide (D.toInt < 0) != decide (A.toInt < 0))) else FP.Core.roundRatio FP.Core.b64 (decide (D.toInt < 0) != decide (A.toInt < 0)) c1 c2 (q1 - q2)) = _
    rw [if_neg (by omega)]
    exact r1
theorem cmp0 {v : UInt64} {s : Bool} {c : Nat} {q : Int} {op : CmpOp} (h : FP.Core.val64 v = .fin s c q) : (Op.cmpValue (FP.dcmp v FP.dconst0) op < 0 ↔ s = true ∧ 0 < c) ∧ (Op.cmpValue (FP.dcmp v FP.dconst0) op = 0 ↔ c = 0) := by
  have hz : FP.dcmp v FP.dconst0 = some (compare (FP.Core.zval FP.Core.b64 (FP.Core.val64 v)) (FP.Core.zval FP.Core.b64 (FP.Core.val64 FP.Core.dconst0))) := FP.Core.dcmp_zval (by rw [h]; intro h; cases h) (by rw [show FP.Core.val64 FP.dconst0 = _ from FP.Core.val64_dconst0]; intro h; cases h)
  have e0 : FP.Core.zval FP.Core.b64 (FP.Core.val64 FP.Core.dconst0) = 0 := by decide +kernel
  have hp := Nat.two_pow_pos (q - FP.Core.b64.qmin).toNat
  have e1 : FP.Core.zval FP.Core.b64 (FP.Core.val64 v) = FP.Core.signed s (c * 2 ^ (q - FP.Core.b64.qmin).toNat) := by rw [h]; rfl
  rw [hz, cmpv_lt, cmpv_eq, e0, e1]
  generalize 2 ^ (q - FP.Core.b64.qmin).toNat = K at hp
  have hk : c * K = 0 ↔ c = 0 := by
    constructor
    · intro h; rcases Nat.mul_eq_zero.mp h with h | h <;> omega
    · intro h; rw [h, Nat.zero_mul]
  have hk2 : 0 < c * K ↔ 0 < c := by omega
  unfold FP.Core.signed
  cases s
  · rw [if_neg (by decide)]
    refine ⟨⟨fun g => absurd g (by omega), fun g => absurd g.1 (by decide)⟩, ?_⟩
    rw [← hk]; omega
  · rw [if_pos rfl]
    refine ⟨⟨fun g => ⟨rfl, hk2.mp (by omega)⟩, fun g => by have := hk2.mpr g.2; omega⟩, ?_⟩
    rw [← hk]; omega
/-- what the size's bits are -/
def BS (v m : UInt64) : Prop := (∃ s q, FP.Core.val64 v = .fin s 0 q ∧ m = 0) ∨ ∃ e t, 1 ≤ e ∧ e ≤ 2046 ∧ t < 4503599627370496 ∧ m = bd e t ∧ v = m
theorem bs_A {v m : UInt64} {s : Bool} {op : CmpOp} (h : ErS v m s) (c9 : ¬ Op.cmpValue (FP.dcmp v FP.dconst0) op < 0) : BS v m := by
  obtain ⟨c, q, hv, hm, hs⟩ := h
  rcases hm with ⟨rfl, rfl⟩ | ⟨e, t, h1, h2, h3, h4, rfl, rfl⟩
  · exact .inl ⟨s, q, hv, rfl⟩
  · have : s = false := by
      cases s
      · rfl
      · exact absurd ((cmp0 (op := op) hv).1.mpr ⟨rfl, by omega⟩) c9
    subst this
    exact .inr ⟨e, t, h1, h2, h3, h4, hs⟩
theorem bs_B {v m : UInt64} {s : Bool} {op : CmpOp} (h : ErS v m s) (c9 : Op.cmpValue (FP.dcmp v FP.dconst0) op < 0) : BS (FP.dneg v) m := by
  obtain ⟨c, q, hv, hm, hs⟩ := h
  obtain ⟨rfl, hc⟩ := (cmp0 (op := op) hv).1.mp c9
  rcases hm with ⟨rfl, rfl⟩ | ⟨e, t, h1, h2, h3, h4, rfl, rfl⟩
  · omega
  · refine .inr ⟨e, t, h1, h2, h3, h4, ?_⟩
    have hn : FP.Core.val64 (FP.dneg v) = FP.Core.val64 m := by
      rw [show FP.Core.val64 (FP.dneg v) = FP.Core.negate (FP.Core.val64 v) from FP.val64_dneg v, hv, h4, bd_v h1 h2 h3]
      rfl
    exact FP.Core.val64_inj (by rw [hn, h4]; exact bd_nn h1 h2 h3) hn
theorem bs_ne {v m : UInt64} {op : CmpOp} (h : BS v m) (c9 : ¬ Op.cmpValue (FP.dcmp v FP.dconst0) op = 0) : ∃ e t, 1 ≤ e ∧ e ≤ 2046 ∧ t < 4503599627370496 ∧ m = bd e t ∧ v = m := by
  rcases h with ⟨s, q, h, -⟩ | h
  · exact absurd ((cmp0 h).2.mpr rfl) c9
  · exact h
theorem bs_eq {v m : UInt64} {op : CmpOp} (h : BS v m) (c9 : Op.cmpValue (FP.dcmp v FP.dconst0) op = 0) : m = 0 := by
  rcases h with ⟨s, q, -, h⟩ | ⟨e, t, h1, h2, h3, h4, rfl⟩
  · exact h
  · have hv := bd_v h1 h2 h3
    rw [← h4] at hv
    have := (cmp0 hv).2.mp c9
    omega
theorem er_bits {v m : UInt64} {s : Bool} (h : ErS v m s) : v.toInt64 = if s then m.toInt64 ||| (-9223372036854775808) else m.toInt64 := by
  obtain ⟨c, q, hv, hm, hs⟩ := h
  rw [hs]
  cases s <;> rfl
end Er
theorem bx_p {x : Int64} {E e : Nat} (h : x.toInt = (E : Int) - e) (h1 : 1 ≤ e) (h2 : e ≤ E) (h3 : E ≤ 2046) : (x + 1).toInt = (E : Int) - ((e - 1 : Nat) : Int) := by
  have h9 : (1 : Int64).toInt = 1 := by decide
  rw [L_add (by rw [h9]; omega) (by rw [h9]; omega), h9]
  omega
theorem bx_m {x : Int64} {E e : Nat} (h : x.toInt = (E : Int) - e) (h1 : 1 ≤ E) (h2 : e ≤ 1023) (h3 : E ≤ 2046) : (x - 1).toInt = (E : Int) - ((e + 1 : Nat) : Int) := by
  have h9 : (1 : Int64).toInt = 1 := by decide
  rw [L_sub (by rw [h9]; omega) (by rw [h9]; omega), h9]
  omega
