theorem sq_le {a b : Nat} (h : a ≤ b) : a * a ≤ b * b := Nat.mul_le_mul h h
theorem sq_lt {a b : Nat} (h : a < b) : a * a < b * b := by
  have h1 : a * a ≤ a * b := Nat.mul_le_mul (Nat.le_refl a) (Nat.le_of_lt h)
  have h2 : a * b < b * b := Nat.mul_lt_mul_of_pos_right h (by omega)
  omega
theorem isq_spec : ∀ n : Nat, isq n * isq n ≤ n ∧ n < (isq n + 1) * (isq n + 1)
  | 0 => by simp [isq]
  | n + 1 => by
    obtain ⟨h1, h2⟩ := isq_spec n
    unfold isq
    split
    · next h =>
      refine ⟨h, ?_⟩
      have := sq_lt (show isq n + 1 < isq n + 1 + 1 by omega)
      omega
    · next h => exact ⟨by omega, by omega⟩
theorem isq_uniq {n a : Nat} (h1 : a * a ≤ n) (h2 : n < (a + 1) * (a + 1)) : isq n = a := by
  obtain ⟨g1, g2⟩ := isq_spec n
  rcases Nat.lt_trichotomy (isq n) a with h | h | h
  · have := sq_le (show isq n + 1 ≤ a by omega)
    omega
  · exact h
  · have := sq_le (show a + 1 ≤ isq n by omega)
    omega
theorem isq_mono {m n : Nat} (h : m ≤ n) : isq m ≤ isq n := by
  obtain ⟨g1, g2⟩ := isq_spec n
  obtain ⟨k1, k2⟩ := isq_spec m
  rcases Nat.lt_or_ge (isq n) (isq m) with a | a
  · have := sq_le (show isq n + 1 ≤ isq m by omega)
    omega
  · exact a
theorem L32 {x : Int64} (h1 : -2147483648 ≤ x.toInt) (h2 : x.toInt < 2147483648) : x.toInt32.toInt = x.toInt := by
  rw [Int64.toInt_toInt32]
  rw [Int.bmod_def]
  omega
theorem L32n {x : Int64} {n : Nat} (h : x.toInt = n) (h2 : n < 2147483648) : x.toInt32 = nI n := by
  apply Int32.toInt_inj.mp
  rw [L32 (by omega) (by omega), nI_toInt h2, h]
theorem L64n {x : Int64} {n : Nat} (h : x.toInt = n) (h2 : n < 9223372036854775808) : x = lN n := by
  apply Int64.toInt_inj.mp
  rw [pk_lT h2, h]
theorem nc_e {z : ZZ} (hB : Bz z) : (z 8).toInt = (nc z : Int) ∧ nc z ≤ 20 := by
  have h := hB.2.2.2.1
  unfold wtn at h
  unfold nc
  omega
theorem nr_e {z : ZZ} (hB : Bz z) : (z 69).toInt = (nr z : Int) ∧ nr z ≤ 12 := by
  have h := hB.2.2.2.2.1
  unfold wtn at h
  unfold nr
  omega
theorem nc_I {z : ZZ} (hB : Bz z) : (z 8).toInt32 = nI (nc z) := L32n (nc_e hB).1 (by have := (nc_e hB).2; omega)
theorem nr_I {z : ZZ} (hB : Bz z) : (z 69).toInt32 = nI (nr z) := L32n (nr_e hB).1 (by have := (nr_e hB).2; omega)
theorem zX_k {z : ZZ} {k : Nat} (h : k < nc z) : zX z k = z (9 + 3 * k) := by unfold zX; rw [Nat.mod_eq_of_lt h]
theorem zY_k {z : ZZ} {k : Nat} (h : k < nc z) : zY z k = z (9 + 3 * k + 1) := by unfold zY; rw [Nat.mod_eq_of_lt h]
theorem zX_b {z : ZZ} (hB : Bz z) (h : 0 < nc z) (k : Nat) : wtn (zX z k) (-1000) 1000 := (hB.2.2.2.2.2.1 (k % nc z) (Nat.mod_lt _ h)).1
theorem zY_b {z : ZZ} (hB : Bz z) (h : 0 < nc z) (k : Nat) : wtn (zY z k) (-1000) 1000 := (hB.2.2.2.2.2.1 (k % nc z) (Nat.mod_lt _ h)).2.1
theorem i32_b (x : Int32) : -2147483648 ≤ x.toInt ∧ x.toInt < 2147483648 := by
  have h1 := Int32.le_toInt x
  have h2 := Int32.toInt_lt x
  omega
theorem I64_t (x : Int32) : x.toInt64.toInt = x.toInt := Int32.toInt_toInt64 x
