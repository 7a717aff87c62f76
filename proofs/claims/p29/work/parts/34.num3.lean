theorem sz_n {d : Int64} (h : -1000000000000 ≤ d.toInt ∧ d.toInt ≤ 1000000000000) : sz d = lN d.toInt.natAbs := by
  apply Int64.toInt_inj.mp
  rw [pk_lT (by omega)]
  unfold sz
  split
  · next hd => rw [Int64.lt_iff_toInt_lt, show (0 : Int64).toInt = 0 from rfl] at hd; rw [L_neg (by omega)]; omega
  · next hd => rw [Int64.lt_iff_toInt_lt, show (0 : Int64).toInt = 0 from rfl] at hd; omega
theorem szd {u x : Int64} (hu : wtn u (-1000) 1000) (hx : wtn x (-1000) 1000) : sz (u - x) = lN (u.toInt - x.toInt).natAbs := by
  unfold wtn at hu hx
  have e : (u - x).toInt = u.toInt - x.toInt := by rw [L_sub] <;> omega
  rw [sz_n (by omega), e]
theorem sten {w : Int64} (h : wtn w 20 200) : w = lN w.toInt.toNat ∧ 20 ≤ w.toInt.toNat ∧ w.toInt.toNat ≤ 200 := by
  unfold wtn at h
  exact ⟨L64n (by omega) (by omega), by omega, by omega⟩
theorem nst_q {A : Nat} {w : Int64} (hA : A ≤ 4000) (hw : wtn w 20 200) : (lN A + w - 1) / w = lN ((A + w.toInt.toNat - 1) / w.toInt.toNat) := by
  obtain ⟨h1, h2, h3⟩ := sten hw
  rw [h1]
  generalize w.toInt.toNat = st at h2 h3
  have e : (lN st).toInt.toNat = st := by rw [pk_lT (by omega)]; omega
  rw [e, lN_add, show (1 : Int64) = lN 1 from rfl, lN_sub (by omega)]
  exact pk_lDiv (by omega) (by omega) (by omega)
theorem stne {z : ZZ} (hB : Bz z) : ¬ z (2 + 2) = 0 := by
  intro h
  have h1 := hB.2.1.2.2.1
  unfold wtn at h1
  rw [show z 4 = 0 from h] at h1
  rw [show (0 : Int64).toInt = 0 from rfl] at h1
  omega
theorem nst_t {A : Nat} {w x : Int64} (hA : A ≤ 4000) (hw : wtn w 20 200) (e : x = (lN A + w - 1) / w) (c : 1 ≤ x) : x.toInt32 = nI (max 1 ((A + w.toInt.toNat - 1) / w.toInt.toNat)) := by
  rw [nst_q hA hw] at e
  have hd : (A + w.toInt.toNat - 1) / w.toInt.toNat ≤ A + w.toInt.toNat := Nat.le_trans (Nat.div_le_self _ _) (by omega)
  have := (sten hw).2
  rw [e, show (1 : Int64) = lN 1 from rfl, lN_le (by omega) (by omega)] at c
  rw [e, lN_i, Nat.max_eq_right c]
theorem nst_f {A : Nat} {w x : Int64} (hA : A ≤ 4000) (hw : wtn w 20 200) (e : x = (lN A + w - 1) / w) (c : ¬ 1 ≤ x) : 1 = nI (max 1 ((A + w.toInt.toNat - 1) / w.toInt.toNat)) := by
  rw [nst_q hA hw] at e
  have hd : (A + w.toInt.toNat - 1) / w.toInt.toNat ≤ A + w.toInt.toNat := Nat.le_trans (Nat.div_le_self _ _) (by omega)
  have := (sten hw).2
  rw [e, show (1 : Int64) = lN 1 from rfl, lN_le (by omega) (by omega)] at c
  rw [Nat.max_eq_left (by omega)]
  rfl
theorem zN_b {z : ZZ} (hB : Bz z) (h : 0 < nc z) (k : Nat) : 1 ≤ zN z k ∧ zN z k ≤ 2200 := by
  have bx0 := zX_b hB h k
  have bx1 := zX_b hB h (k + 1)
  have by0 := zY_b hB h k
  have by1 := zY_b hB h (k + 1)
  have bst := hB.2.1.2.2.1
  unfold zN nSt
  unfold wtn at *
  generalize hA : max ((zX z (k + 1)).toInt - (zX z k).toInt).natAbs ((zY z (k + 1)).toInt - (zY z k).toInt).natAbs = A
  have hA2 : A ≤ 2000 := by omega
  have hd : (A + (z 4).toInt.toNat - 1) / (z 4).toInt.toNat ≤ A + (z 4).toInt.toNat - 1 := Nat.div_le_self _ _
  omega
/-- |a / n| of a product with i of n parts is at most |a| -/
theorem tdiv_b {a i n : Int} {B : Int} (hB : 0 ≤ B) (h1 : -B ≤ a) (h2 : a ≤ B) (h3 : 0 ≤ i) (h4 : i ≤ n) (h5 : 0 < n) : -B ≤ (a * i).tdiv n ∧ (a * i).tdiv n ≤ B := by
  have hab : ((a * i).tdiv n).natAbs = (a * i).natAbs / n.natAbs := Int.natAbs_tdiv _ _
  have h6 : (a * i).natAbs / n.natAbs ≤ B.toNat := by
    rw [Int.natAbs_mul]
    have : a.natAbs * i.natAbs ≤ B.toNat * n.natAbs := Nat.mul_le_mul (by omega) (by omega)
    calc a.natAbs * i.natAbs / n.natAbs ≤ B.toNat * n.natAbs / n.natAbs := Nat.div_le_div_right this
      _ = B.toNat := Nat.mul_div_cancel _ (by omega)
  omega
theorem pt_b {f t : Int64} {i n : Nat} (hf : wtn f (-1000) 1000) (ht : wtn t (-1000) 1000) (hi : i ≤ n) (h0 : 0 < n) (hn : n ≤ 3000) : wtn (pt f t i n) (-50000) 50000 := by
  unfold pt
  have e1 : (16 * f).toInt = 16 * f.toInt := L16 hf (by omega)
  unfold wtn at hf ht
  have e2 : (t - f).toInt = t.toInt - f.toInt := by rw [L_sub] <;> omega
  have e3 : (16 * (t - f)).toInt = 16 * (t.toInt - f.toInt) := by rw [L_mul] <;> rw [e2, show (16 : Int64).toInt = 16 from rfl] <;> omega
  have e4 : (lN i).toInt = i := pk_lT (by omega)
  have e5 : (lN n).toInt = n := pk_lT (by omega)
  have hm := mulb (a := 16 * (t.toInt - f.toInt)) (b := (i : Int)) (A := 32000) (B := 3000) (by omega) (by omega) (by omega) (by omega)
  have e6 : (16 * (t - f) * lN i).toInt = 16 * (t.toInt - f.toInt) * i := by rw [L_mul] <;> rw [e3, e4] <;> omega
  have hd := tdiv_b (a := 16 * (t.toInt - f.toInt)) (i := (i : Int)) (n := (n : Int)) (B := 32000) (by omega) (by omega) (by omega) (by omega) (by omega) (by omega)
  have e7 : (16 * (t - f) * lN i / lN n).toInt = (16 * (t.toInt - f.toInt) * i).tdiv n := by
    rw [Int64.toInt_div, e6, e5, Int.bmod_def]; omega
  unfold wtn
  rw [L_add] <;> rw [e1, e7] <;> omega
theorem zP_b {z : ZZ} (hB : Bz z) (h : 0 < nc z) {k i : Nat} (hi : i ≤ zN z k) : wtn (zPx z k i) (-50000) 50000 ∧ wtn (zPy z k i) (-50000) 50000 := by
  have hn := zN_b hB h k
  exact ⟨pt_b (zX_b hB h k) (zX_b hB h (k + 1)) hi (by omega) (by omega), pt_b (zY_b hB h k) (zY_b hB h (k + 1)) hi (by omega) (by omega)⟩
theorem nI_L {n : Nat} (h : n < 2147483648) : (nI n).toInt64 = lN n := nI_l (by omega)
theorem lN_ne0 {n : Nat} (h0 : 0 < n) (h : n < 2147483648) : ¬ lN n = 0 := by
  intro e
  rw [show (0 : Int64) = lN 0 from rfl, pk_lEQ (by omega) (by omega)] at e
  omega
theorem rt_D {z : ZZ} (hB : Bz z) {tx ty : Int64} (h1 : wtn tx (-50000) 50000) (h2 : wtn ty (-50000) 50000) : (zD z tx ty).toInt < 16000000000000 := by
  have := zD_b hB h1 h2
  omega
