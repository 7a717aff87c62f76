theorem nI_m {n b : Nat} (h : b ≤ n) : nI n + (-(nI b)) = nI (n - b) := by
  rw [← Int32.sub_eq_add_neg]
  exact nsub rfl rfl h
theorem nz_step {I J N k : Nat} (h : I < (J + 1) * 2 ^ (31 - N)) (hk : k ≤ N) (hN : N ≤ 31) : I < (J / 2 ^ k + 1) * 2 ^ (31 - (N - k)) := by
  have e : 2 ^ (31 - (N - k)) = 2 ^ k * 2 ^ (31 - N) := by rw [← Nat.pow_add]; congr 1; omega
  rw [e, ← Nat.mul_assoc]
  refine Nat.lt_of_lt_of_le h (Nat.mul_le_mul_right _ ?_)
  have h1 := Nat.div_add_mod J (2 ^ k)
  have h2 := Nat.mod_lt J (Nat.two_pow_pos k)
  rw [Nat.add_mul, Nat.one_mul, Nat.mul_comm (J / 2 ^ k)]
  omega
theorem nz_end {I J N : Nat} (h : I < (J + 1) * 2 ^ (31 - N)) (h0 : 0 < J) (h4 : J < 4) (hN : N ≤ 31) (h1 : 1 ≤ N) : I < 2 ^ (32 - (N - J / 2)) := by
  have e1 : 2 ^ (32 - N) = 2 * 2 ^ (31 - N) := by rw [show 32 - N = (31 - N) + 1 by omega, Nat.pow_succ]; omega
  have e2 : 2 ^ (33 - N) = 4 * 2 ^ (31 - N) := by rw [show 33 - N = (31 - N) + 2 by omega, Nat.pow_succ, Nat.pow_succ]; omega
  rcases (show J = 1 ∨ J = 2 ∨ J = 3 by omega) with rfl | rfl | rfl
  · show I < 2 ^ (32 - (N - 0))
    rw [Nat.sub_zero, e1]; omega
  · show I < 2 ^ (32 - (N - 1))
    rw [show 32 - (N - 1) = 33 - N by omega, e2]; omega
  · show I < 2 ^ (32 - (N - 1))
    rw [show 32 - (N - 1) = 33 - N by omega, e2]; omega
theorem nI_pos31 {I : Nat} (h1 : I < 2 ^ 32) (h : 0 < nI I) : I < 2 ^ 31 := by
  rcases Nat.lt_or_ge I (2 ^ 31) with g | g
  · exact g
  · rw [Int32.lt_iff_toInt_lt, show (0 : Int32).toInt = 0 by decide] at h
    have e : (nI I).toInt = (I : Int) - 2 ^ 32 := by
      show (BitVec.ofNat 32 I).toInt = _
      rw [BitVec.toInt_eq_toNat_bmod, BitVec.toNat_ofNat, Nat.mod_eq_of_lt h1, Int.bmod_def]
      omega
    omega
theorem nI_z32 {I : Nat} (h1 : I < 2 ^ 32) (h0 : 0 < I) : ¬ nI I = 0 := fun h => by
  have e := congrArg (fun x : Int32 => x.toBitVec.toNat) h
  have e2 : (nI I).toBitVec.toNat = I := pk_tn h1
  have e3 : (nI I).toBitVec.toNat = (0 : Int32).toBitVec.toNat := e
  rw [e2] at e3
  have : (0 : Int32).toBitVec.toNat = 0 := by decide
  omega
theorem l2i_N {n : Nat} : (lN n).toInt32 = nI n := lN_i n
theorem v32 {v n : Nat} (h : v / 2 ^ 32 < 2 ^ (32 - n)) (hn : n ≤ 32) : v < 2 ^ (64 - n) := by
  have e : 2 ^ (64 - n) = 2 ^ (32 - n) * 2 ^ 32 := by rw [← Nat.pow_add]; congr 1; omega
  rw [e]
  exact (Nat.div_lt_iff_lt_mul (Nat.two_pow_pos 32)).mp h
theorem v64 {v n : Nat} (h : v < 2 ^ (32 - n)) (hn : n ≤ 32) : v < 2 ^ (64 - (32 + n)) := by rw [show 64 - (32 + n) = 32 - n by omega]; exact h
/-- Newton's step -/
theorem amgm {a b r : Nat} (h : a + b ≤ 2 * r) : a * b ≤ r * r := by
  have h1 : (a : Int) * b ≤ a * (2 * r - a) := Int.mul_le_mul_of_nonneg_left (by omega) (by omega)
  have h2 : (a : Int) * (2 * r - a) = r * r - (r - a) * (r - a) := by
    rw [Int.mul_sub, Int.sub_mul, Int.mul_sub, Int.mul_sub, Int.mul_comm (a : Int) (2 * r), Int.mul_assoc, Int.mul_comm (a : Int) (r : Int)]
    omega
  have h3 : (0 : Int) ≤ (r - a) * (r - a) := by
    have : (0 : Int) ≤ ((((r : Int) - a).natAbs * ((r : Int) - a).natAbs : Nat) : Int) := by omega
    rw [Int.natAbs_mul_self] at this
    exact this
  have h4 : ((a * b : Nat) : Int) ≤ ((r * r : Nat) : Int) := by rw [Int.natCast_mul, Int.natCast_mul]; omega
  omega
theorem nw_ge {V g : Nat} (hg : 0 < g) : isq V ≤ (g + V / g) / 2 := by
  obtain ⟨h1, h2⟩ := isq_spec V
  rcases Nat.lt_or_ge ((g + V / g) / 2) (isq V) with h | h
  · have h3 := amgm (a := V / g + 1) (b := g) (r := isq V) (by omega)
    have h4 : V < (V / g + 1) * g := by
      have := Nat.div_add_mod V g
      have := Nat.mod_lt V hg
      rw [Nat.add_mul, Nat.one_mul, Nat.mul_comm (V / g)]
      omega
    omega
  · exact h
theorem nw_lt {V g : Nat} (hg : isq V < g) : V / g ≤ isq V := by
  obtain ⟨h1, h2⟩ := isq_spec V
  have h3 : (isq V + 1) * (isq V + 1) ≤ (isq V + 1) * g := Nat.mul_le_mul_left _ (by omega)
  have h4 : V / g < isq V + 1 := (Nat.div_lt_iff_lt_mul (by omega)).mpr (by omega)
  omega
/-- it stands still at the root alone -/
theorem nw_stop {V g : Nat} (hr : isq V ≤ g) (h : g ≤ (g + V / g) / 2) : g = isq V := by
  rcases Nat.lt_or_ge (isq V) g with a | a
  · have := nw_lt a
    omega
  · omega
theorem nw_step {V g i : Nat} (hg : 0 < g) (hr : isq V ≤ g) (h : ¬ g ≤ (g + V / g) / 2) (hi : (g - isq V) * 2 ^ i ≤ 2 ^ 32) : ((g + V / g) / 2 - isq V) * 2 ^ (i + 1) ≤ 2 ^ 32 := by
  have hl : isq V < g := by
    rcases Nat.lt_or_ge (isq V) g with a | a
    · exact a
    · exfalso
      have e : g = isq V := by omega
      have := nw_ge (V := V) hg
      omega
  have h1 := nw_lt hl
  rw [Nat.pow_succ, Nat.mul_comm (2 ^ i) 2, ← Nat.mul_assoc]
  exact Nat.le_trans (Nat.mul_le_mul_right _ (by omega)) hi
theorem nw_end {V g : Nat} (hr : isq V ≤ g) (hi : (g - isq V) * 2 ^ 64 ≤ 2 ^ 32) : g = isq V := by
  rcases Nat.eq_zero_or_pos (g - isq V) with h | h
  · omega
  · have := Nat.mul_le_mul_right (2 ^ 64) h
    omega
theorem nw_pow {B : Nat} (h : B ≤ 64) : 2 ^ ((B + 1) / 2) ≤ 4294967296 := by
  have : 2 ^ ((B + 1) / 2) ≤ 2 ^ 32 := Nat.pow_le_pow_right (by decide) (by omega)
  exact this
theorem nw_0 {V B : Nat} (h : V < 2 ^ B) (hB : B ≤ 64) : isq V ≤ 2 ^ ((B + 1) / 2) ∧ (2 ^ ((B + 1) / 2) - isq V) * 2 ^ 0 ≤ 2 ^ 32 := by
  obtain ⟨h1, h2⟩ := isq_spec V
  have h3 := nw_pow hB
  refine ⟨?_, by omega⟩
  rcases Nat.lt_or_ge (2 ^ ((B + 1) / 2)) (isq V) with g | g
  · exfalso
    have h4 := sq_le (show 2 ^ ((B + 1) / 2) ≤ isq V by omega)
    have h5 : 2 ^ B ≤ 2 ^ ((B + 1) / 2) * 2 ^ ((B + 1) / 2) := by rw [← Nat.pow_add]; exact Nat.pow_le_pow_right (by decide) (by omega)
    omega
  · exact g
theorem rt_np {v : Int64} (h : v ≤ 0) : (0 : Int64) = rt v := by
  rw [Int64.le_iff_toInt_le, L0_0] at h
  unfold rt
  rw [show v.toInt.toNat = 0 by omega]
  rfl
theorem rt_N {V : Nat} (h : V < 9223372036854775808) : rt (lN V) = lN (isq V) := by
  unfold rt
  rw [pk_lT h]
  rfl
theorem L_N {v : Int64} (h : ¬ v ≤ 0) : v = lN v.toInt.toNat ∧ 0 < v.toInt.toNat := by
  rw [Int64.le_iff_toInt_le, L0_0] at h
  have := L_b v
  exact ⟨L64n (by omega) (by omega), by omega⟩
theorem nw_add {a b : Nat} (ha : a < 1000000000000000000) (hb : b < 1000000000000000000) : (lN a + lN b) / 2 = lN ((a + b) / 2) := by
  rw [lN_add]
  exact pk_lDiv (by omega) (by decide) (by decide)
