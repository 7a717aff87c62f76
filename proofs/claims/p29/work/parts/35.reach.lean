theorem zD_sq {z : ZZ} (hB : Bz z) {tx ty : Int64} (h1 : wtn tx (-50000) 50000) (h2 : wtn ty (-50000) 50000) : ∃ r : Nat, rt (zD z tx ty) = lN r ∧ ((r * r : Nat) : Int) ≤ (zD z tx ty).toInt ∧ (zD z tx ty).toInt < (((r + 1) * (r + 1) : Nat) : Int) ∧ r ≤ 200000 := by
  have hb := zD_b hB h1 h2
  obtain ⟨s1, s2⟩ := isq_spec (zD z tx ty).toInt.toNat
  refine ⟨isq (zD z tx ty).toInt.toNat, rfl, by omega, by omega, ?_⟩
  rcases Nat.lt_or_ge 200000 (isq (zD z tx ty).toInt.toNat) with a | a
  · have := sq_le (show 200000 ≤ isq (zD z tx ty).toInt.toNat by omega)
    omega
  · exact a
theorem p16 {w : Int64} (h : wtn w 200 3000) : (16 * w).toInt = 16 * w.toInt ∧ 3200 ≤ 16 * w.toInt ∧ 16 * w.toInt ≤ 48000 := by
  unfold wtn at h
  exact ⟨L16 (B := 3000) (by unfold wtn; omega) (by omega), by omega, by omega⟩
theorem zRe_r {z : ZZ} (hB : Bz z) {tx ty : Int64} (h1 : wtn tx (-50000) 50000) (h2 : wtn ty (-50000) 50000) (hr : zRe z tx ty) : ∃ r : Nat, rt (zD z tx ty) = lN r ∧ ((r * r : Nat) : Int) ≤ (zD z tx ty).toInt ∧ (zD z tx ty).toInt < (((r + 1) * (r + 1) : Nat) : Int) ∧ 1 ≤ r ∧ (r : Int) ≤ 16 * (z 2).toInt + 16 * (z 3).toInt ∧ (16 * (z 2).toInt - 16 * (z 3).toInt).natAbs ≤ r := by
  obtain ⟨r, e, a1, a2, a3⟩ := zD_sq hB h1 h2
  obtain ⟨p1, p2, p3⟩ := p16 hB.2.1.1
  obtain ⟨l1, l2, l3⟩ := p16 hB.2.1.2.1
  unfold zRe sp at hr
  rw [e] at hr
  obtain ⟨g1, g2, g3⟩ := hr
  have er : (lN r).toInt = r := pk_lT (by omega)
  rw [Int64.lt_iff_toInt_lt, er, show (0 : Int64).toInt = 0 from rfl] at g1
  rw [Int64.le_iff_toInt_le, er, L_add (by omega) (by omega), p1, l1] at g2
  have es : (16 * z 2 - 16 * z 3).toInt = 16 * (z 2).toInt - 16 * (z 3).toInt := by rw [L_sub, p1, l1] <;> omega
  rw [sz_n (by omega), es, Int64.le_iff_toInt_le, er, pk_lT (by omega)] at g3
  exact ⟨r, e, a1, a2, by omega, g2, by omega⟩
theorem tdiv_q {a b : Int} {B : Nat} (hb : 0 < b) (h1 : a.natAbs ≤ B * b.natAbs) : -(B : Int) ≤ a.tdiv b ∧ a.tdiv b ≤ B := by
  have hab : (a.tdiv b).natAbs = a.natAbs / b.natAbs := Int.natAbs_tdiv _ _
  have h6 : a.natAbs / b.natAbs ≤ B := by
    calc a.natAbs / b.natAbs ≤ B * b.natAbs / b.natAbs := Nat.div_le_div_right h1
      _ = B := Nat.mul_div_cancel _ (by omega)
  omega
theorem zA_b {z : ZZ} (hB : Bz z) {tx ty : Int64} (h1 : wtn tx (-50000) 50000) (h2 : wtn ty (-50000) 50000) (hr : zRe z tx ty) : -100000 ≤ (zA z tx ty).toInt ∧ (zA z tx ty).toInt ≤ 100000 ∧ ¬ 2 * rt (zD z tx ty) = 0 ∧ ¬ rt (zD z tx ty) = 0 ∧ -10000000000 ≤ (zHb z tx ty).toInt ∧ (zHb z tx ty).toInt ≤ 2304000000 := by
  obtain ⟨r, e, a1, a2, r1, r2, r3⟩ := zRe_r hB h1 h2 hr
  obtain ⟨p1, p2, p3⟩ := p16 hB.2.1.1
  obtain ⟨l1, l2, l3⟩ := p16 hB.2.1.2.1
  have hb := zD_b hB h1 h2
  have hpp := sqI (a := 16 * (z 2).toInt) (B := 48000) (by omega) (by omega)
  have hll := sqI (a := 16 * (z 3).toInt) (B := 48000) (by omega) (by omega)
  have ep : (16 * z 2 * (16 * z 2)).toInt = 16 * (z 2).toInt * (16 * (z 2).toInt) := by rw [L_mul, p1] <;> rw [p1] <;> omega
  have el : (16 * z 3 * (16 * z 3)).toInt = 16 * (z 3).toInt * (16 * (z 3).toInt) := by rw [L_mul, l1] <;> rw [l1] <;> omega
  have eN : (zD z tx ty + 16 * z 2 * (16 * z 2) - 16 * z 3 * (16 * z 3)).toInt = (zD z tx ty).toInt + 16 * (z 2).toInt * (16 * (z 2).toInt) - 16 * (z 3).toInt * (16 * (z 3).toInt) := by
    rw [L_sub, L_add, ep, el] <;> (try rw [L_add, ep]) <;> (try rw [el]) <;> (try rw [ep]) <;> omega
  have er : (lN r).toInt = r := pk_lT (by omega)
  have e2r : (2 * lN r).toInt = 2 * (r : Int) := by rw [L_mul] <;> rw [er, show (2 : Int64).toInt = 2 from rfl] <;> omega
  generalize hP : 16 * (z 2).toInt = P at *
  generalize hL : 16 * (z 3).toInt = Q at *
  have hm := mulb (a := P - Q) (b := P + Q) (A := (r : Int)) (B := 96000) (by omega) (by omega) (by omega) (by omega)
  have hpq : (P - Q) * (P + Q) = P * P - Q * Q := by
    rw [Int.sub_mul, Int.mul_add, Int.mul_add, Int.mul_comm Q P]; omega
  rw [hpq] at hm
  have hr2 : ((r : Int) + 1) * ((r : Int) + 1) = (r : Int) * r + 2 * r + 1 := by
    rw [Int.add_mul, Int.mul_add]; omega
  have hr3 : (((r + 1) * (r + 1) : Nat) : Int) = (r : Int) * r + 2 * r + 1 := by
    rw [Int.natCast_mul, Int.natCast_add, ← hr2]; rfl
  have hr4 : ((r * r : Nat) : Int) = (r : Int) * r := Int.natCast_mul r r
  have hrr : (r : Int) * r ≤ 96000 * r := Int.mul_le_mul_of_nonneg_right (by omega) (by omega)
  have hA : -100000 ≤ ((zD z tx ty).toInt + P * P - Q * Q).tdiv (2 * (r : Int)) ∧ ((zD z tx ty).toInt + P * P - Q * Q).tdiv (2 * (r : Int)) ≤ 100000 := by
    have := tdiv_q (a := (zD z tx ty).toInt + P * P - Q * Q) (b := 2 * (r : Int)) (B := 100000) (by omega) (by omega)
    omega
  have eA : (zA z tx ty).toInt = ((zD z tx ty).toInt + P * P - Q * Q).tdiv (2 * (r : Int)) := by
    unfold zA
    rw [e, Int64.toInt_div, eN, e2r, Int.bmod_def]; omega
  have haa := sqI (a := (zA z tx ty).toInt) (B := 100000) (by omega) (by omega)
  have eaa : (zA z tx ty * zA z tx ty).toInt = (zA z tx ty).toInt * (zA z tx ty).toInt := by rw [L_mul] <;> omega
  have eH : (zHb z tx ty).toInt = P * P - (zA z tx ty).toInt * (zA z tx ty).toInt := by
    unfold zHb
    rw [L_sub, ep, eaa] <;> rw [ep, eaa] <;> omega
  refine ⟨by omega, by omega, ?_, ?_, by omega, by omega⟩
  · intro h
    rw [e] at h
    have := congrArg Int64.toInt h
    rw [e2r, show (0 : Int64).toInt = 0 from rfl] at this
    omega
  · intro h
    rw [e] at h
    have := congrArg Int64.toInt h
    rw [er, show (0 : Int64).toInt = 0 from rfl] at this
    omega
