theorem L_add {x y : Int64} (h1 : -9223372036854775808 ≤ x.toInt + y.toInt) (h2 : x.toInt + y.toInt < 9223372036854775808) : (x + y).toInt = x.toInt + y.toInt := by
  rw [Int64.toInt_add, Int.bmod_def]; omega
theorem L_sub {x y : Int64} (h1 : -9223372036854775808 ≤ x.toInt - y.toInt) (h2 : x.toInt - y.toInt < 9223372036854775808) : (x - y).toInt = x.toInt - y.toInt := by
  rw [Int64.toInt_sub, Int.bmod_def]; omega
theorem L_mul {x y : Int64} (h1 : -9223372036854775808 ≤ x.toInt * y.toInt) (h2 : x.toInt * y.toInt < 9223372036854775808) : (x * y).toInt = x.toInt * y.toInt := by
  rw [Int64.toInt_mul, Int.bmod_def]; omega
theorem L_neg {x : Int64} (h1 : -9223372036854775808 < x.toInt) : (-x).toInt = -x.toInt := by
  have := Int64.toInt_lt x
  rw [Int64.toInt_neg, Int.bmod_def]; omega
theorem I_add {x y : Int32} (h1 : -2147483648 ≤ x.toInt + y.toInt) (h2 : x.toInt + y.toInt < 2147483648) : (x + y).toInt = x.toInt + y.toInt := by
  rw [Int32.toInt_add, Int.bmod_def]; omega
theorem I_sub {x y : Int32} (h1 : -2147483648 ≤ x.toInt - y.toInt) (h2 : x.toInt - y.toInt < 2147483648) : (x - y).toInt = x.toInt - y.toInt := by
  rw [Int32.toInt_sub, Int.bmod_def]; omega
theorem I_mul {x y : Int32} (h1 : -2147483648 ≤ x.toInt * y.toInt) (h2 : x.toInt * y.toInt < 2147483648) : (x * y).toInt = x.toInt * y.toInt := by
  rw [Int32.toInt_mul, Int.bmod_def]; omega
theorem L_b (x : Int64) : -9223372036854775808 ≤ x.toInt ∧ x.toInt < 9223372036854775808 := by
  have h1 := Int64.le_toInt x
  have h2 := Int64.toInt_lt x
  omega
theorem mulb {a b A B : Int} (h1 : -A ≤ a) (h2 : a ≤ A) (h3 : -B ≤ b) (h4 : b ≤ B) : -(A * B) ≤ a * b ∧ a * b ≤ A * B := by
  have ha : a.natAbs ≤ A.toNat := by omega
  have hb : b.natAbs ≤ B.toNat := by omega
  have h := Nat.mul_le_mul ha hb
  rw [← Int.natAbs_mul] at h
  have e : ((A.toNat * B.toNat : Nat) : Int) = A * B := by rw [Int.natCast_mul, Int.toNat_of_nonneg (by omega), Int.toNat_of_nonneg (by omega)]
  omega
theorem sqI {a B : Int} (h1 : -B ≤ a) (h2 : a ≤ B) : 0 ≤ a * a ∧ a * a ≤ B * B := by
  have h := mulb h1 h2 h1 h2
  have h0 : (0 : Int) ≤ ((a.natAbs * a.natAbs : Nat) : Int) := by omega
  rw [Int.natAbs_mul_self] at h0
  exact ⟨h0, h.2⟩
theorem L16 {x : Int64} {B : Int} (h : wtn x (-B) B) (hB : B ≤ 1000000000) : (16 * x).toInt = 16 * x.toInt := by
  unfold wtn at h
  rw [L_mul] <;> rw [show (16 : Int64).toInt = 16 from rfl] <;> omega
theorem zD_b {z : ZZ} (hB : Bz z) {tx ty : Int64} (h1 : wtn tx (-50000) 50000) (h2 : wtn ty (-50000) 50000) : (zD z tx ty).toInt = (tx.toInt - 16 * (z 0).toInt) * (tx.toInt - 16 * (z 0).toInt) + (ty.toInt - 16 * (z 1).toInt) * (ty.toInt - 16 * (z 1).toInt) ∧ 0 ≤ (zD z tx ty).toInt ∧ (zD z tx ty).toInt ≤ 13448000000 := by
  obtain ⟨⟨a0, a1⟩, -⟩ := hB
  have e0 := L16 a0 (by omega)
  have e1 := L16 a1 (by omega)
  unfold wtn at a0 a1 h1 h2
  have f0 : (tx - 16 * z 0).toInt = tx.toInt - 16 * (z 0).toInt := by rw [L_sub] <;> omega
  have f1 : (ty - 16 * z 1).toInt = ty.toInt - 16 * (z 1).toInt := by rw [L_sub] <;> omega
  have s0 := sqI (a := tx.toInt - 16 * (z 0).toInt) (B := 82000) (by omega) (by omega)
  have s1 := sqI (a := ty.toInt - 16 * (z 1).toInt) (B := 82000) (by omega) (by omega)
  have g0 : ((tx - 16 * z 0) * (tx - 16 * z 0)).toInt = (tx.toInt - 16 * (z 0).toInt) * (tx.toInt - 16 * (z 0).toInt) := by rw [L_mul, f0] <;> rw [f0] <;> omega
  have g1 : ((ty - 16 * z 1) * (ty - 16 * z 1)).toInt = (ty.toInt - 16 * (z 1).toInt) * (ty.toInt - 16 * (z 1).toInt) := by rw [L_mul, f1] <;> rw [f1] <;> omega
  have e : (zD z tx ty).toInt = (tx.toInt - 16 * (z 0).toInt) * (tx.toInt - 16 * (z 0).toInt) + (ty.toInt - 16 * (z 1).toInt) * (ty.toInt - 16 * (z 1).toInt) := by
    unfold zD
    rw [L_add, g0, g1] <;> rw [g0, g1] <;> omega
  exact ⟨e, by omega, by omega⟩
theorem rt_0 {v : Int64} : 0 ≤ (rt v).toInt := by
  unfold rt
  have h1 := (isq_spec v.toInt.toNat).1
  have h2 := L_b v
  have h3 : isq v.toInt.toNat < 4000000000 := by
    rcases Nat.lt_or_ge (isq v.toInt.toNat) 4000000000 with h | h
    · exact h
    · have := sq_le h; omega
  rw [pk_lT (by omega)]; omega
theorem rt_le {v : Int64} {B : Nat} (h : v.toInt ≤ ((B * B : Nat) : Int)) (hB : B < 4000000000) : (rt v).toInt ≤ B := by
  unfold rt
  have h1 := (isq_spec v.toInt.toNat).1
  have h3 : isq v.toInt.toNat ≤ B := by
    rcases Nat.lt_or_ge B (isq v.toInt.toNat) with h4 | h4
    · have := sq_le (show B + 1 ≤ isq v.toInt.toNat by omega)
      have := sq_lt (show B < B + 1 by omega)
      omega
    · exact h4
  rw [pk_lT (by omega)]; omega
