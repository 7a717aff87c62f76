theorem sw5 {w : Int32} (h : 0 ≤ w.toInt ∧ w.toInt ≤ 5) (h0 : ¬ w = 0) (h1 : ¬ w = 1) (h2 : ¬ w = 2) (h3 : ¬ w = 3) (h4 : ¬ w = 4) : w = 5 := by
  rcases (by omega : w.toInt = 0 ∨ w.toInt = 1 ∨ w.toInt = 2 ∨ w.toInt = 3 ∨ w.toInt = 4 ∨ w.toInt = 5) with e | e | e | e | e | e
  · exact absurd (Int32.toInt_inj.mp e) h0
  · exact absurd (Int32.toInt_inj.mp e) h1
  · exact absurd (Int32.toInt_inj.mp e) h2
  · exact absurd (Int32.toInt_inj.mp e) h3
  · exact absurd (Int32.toInt_inj.mp e) h4
  · exact Int32.toInt_inj.mp e
theorem cn_0 {z : ZZ} {k : Nat} : zCn z k 0 = z (9 + 3 * k) := by
  unfold zCn
  rw [if_neg (by decide), if_neg (by decide), if_neg (by decide)]
  rfl
theorem cn_1 {z : ZZ} {k : Nat} : zCn z k 1 = z (9 + 3 * k + 1) := by
  unfold zCn
  rw [if_neg (by decide), if_neg (by decide), if_neg (by decide)]
  rfl
theorem cn_2 {z : ZZ} {k : Nat} : zCn z k 2 = z (9 + 3 * k + 2) := by
  unfold zCn
  rw [if_neg (by decide), if_neg (by decide), if_neg (by decide)]
  rfl
theorem cn_3 {z : ZZ} {k : Nat} : zCn z k 3 = lN (zN z k) := by
  unfold zCn
  rw [if_pos rfl]
theorem cn_4 {z : ZZ} {k : Nat} : zCn z k 4 = ifP (zRk z k) (zRoll z k) 0 := by
  unfold zCn
  rw [if_neg (by decide), if_pos rfl]
theorem cn_5 {z : ZZ} {k : Nat} : zCn z k 5 = ifP (zRk z k) 1 0 := by
  unfold zCn
  rw [if_neg (by decide), if_neg (by decide), if_pos rfl]
theorem mn_0 {z : ZZ} {r : Nat} : zMn z r 0 = z (70 + 3 * r) := by
  unfold zMn
  rw [if_neg (by decide), if_neg (by decide), if_neg (by decide)]
  rfl
theorem mn_1 {z : ZZ} {r : Nat} : zMn z r 1 = z (70 + 3 * r + 1) := by
  unfold zMn
  rw [if_neg (by decide), if_neg (by decide), if_neg (by decide)]
  rfl
theorem mn_2 {z : ZZ} {r : Nat} : zMn z r 2 = z (70 + 3 * r + 2) := by
  unfold zMn
  rw [if_neg (by decide), if_neg (by decide), if_neg (by decide)]
  rfl
theorem mn_3 {z : ZZ} {r : Nat} : zMn z r 3 = z (70 + 3 * r + 2) / (512 * z 3) := by
  unfold zMn
  rw [if_pos rfl]
theorem mn_4 {z : ZZ} {r : Nat} : zMn z r 4 = zAr z r := by
  unfold zMn
  rw [if_neg (by decide), if_pos rfl]
theorem mn_5 {z : ZZ} {r : Nat} : zMn z r 5 = if zOut z r then 1 else 0 := by
  unfold zMn
  rw [if_neg (by decide), if_neg (by decide), if_pos rfl]
theorem mn_q {a b v w : Int64} (h1 : a = b) (h2 : v = w) : (if 512 * v = 0 then 0 else a / (512 * v)) = b / (512 * w) := by
  subst h1 h2
  split
  · next g => rw [g, Int64.div_zero]
  · rfl
theorem ct_0 {z : ZZ} {s : Nat} : zCt z s 0 = z 8 := by
  unfold zCt
  rw [if_pos rfl]
theorem ct_1 {z : ZZ} {s : Nat} : zCt z s 1 = z 69 := by
  unfold zCt
  rw [if_neg (by decide), if_pos rfl]
theorem ct_2 {z : ZZ} {s : Nat} : zCt z s 2 = z 0 := by
  unfold zCt
  rw [if_neg (by decide), if_neg (by decide), if_pos rfl]
theorem ct_3 {z : ZZ} {s : Nat} : zCt z s 3 = z 1 := by
  unfold zCt
  rw [if_neg (by decide), if_neg (by decide), if_neg (by decide), if_pos rfl]
theorem ct_4 {z : ZZ} {s : Nat} : zCt z s 4 = z 7 := by
  unfold zCt
  rw [if_neg (by decide), if_neg (by decide), if_neg (by decide), if_neg (by decide), if_pos rfl]
theorem ct_5 {z : ZZ} {s : Nat} : zCt z s 5 = zTw z := by
  unfold zCt
  rw [if_neg (by decide), if_neg (by decide), if_neg (by decide), if_neg (by decide), if_neg (by decide), if_pos rfl]
theorem ct_6 {z : ZZ} {s : Nat} : zCt z s 6 = zTw z / 2 := by
  unfold zCt
  rw [if_neg (by decide), if_neg (by decide), if_neg (by decide), if_neg (by decide), if_neg (by decide), if_neg (by decide), if_pos rfl]
theorem ct_7 {z : ZZ} {s : Nat} : zCt z s 7 = zWi z := by
  unfold zCt
  rw [if_neg (by decide), if_neg (by decide), if_neg (by decide), if_neg (by decide), if_neg (by decide), if_neg (by decide), if_neg (by decide), if_pos rfl]
theorem ct_8 {z : ZZ} {s : Nat} : zCt z s 8 = zCo z := by
  unfold zCt
  rw [if_neg (by decide), if_neg (by decide), if_neg (by decide), if_neg (by decide), if_neg (by decide), if_neg (by decide), if_neg (by decide), if_neg (by decide), if_pos rfl]
theorem ct_9 {z : ZZ} {s : Nat} : zCt z s 9 = ifP (zOO z) 1 0 := by
  unfold zCt
  rw [if_neg (by decide), if_neg (by decide), if_neg (by decide), if_neg (by decide), if_neg (by decide), if_neg (by decide), if_neg (by decide), if_neg (by decide), if_neg (by decide), if_pos rfl]
theorem ct_10 {z : ZZ} {s : Nat} : zCt z s 10 = zMe z := by
  unfold zCt
  rw [if_neg (by decide), if_neg (by decide), if_neg (by decide), if_neg (by decide), if_neg (by decide), if_neg (by decide), if_neg (by decide), if_neg (by decide), if_neg (by decide), if_neg (by decide), if_pos rfl]
theorem ct_11 {z : ZZ} {s : Nat} : zCt z s 11 = zOu z := by
  unfold zCt
  rw [if_neg (by decide), if_neg (by decide), if_neg (by decide), if_neg (by decide), if_neg (by decide), if_neg (by decide), if_neg (by decide), if_neg (by decide), if_neg (by decide), if_neg (by decide), if_neg (by decide), if_pos rfl]
theorem ct_12 {z : ZZ} {s : Nat} : zCt z s 12 = zDi z := by
  unfold zCt
  rw [if_neg (by decide), if_neg (by decide), if_neg (by decide), if_neg (by decide), if_neg (by decide), if_neg (by decide), if_neg (by decide), if_neg (by decide), if_neg (by decide), if_neg (by decide), if_neg (by decide), if_neg (by decide), if_pos rfl]
theorem ct_13 {z : ZZ} {s : Nat} : zCt z s 13 = zAs z := by
  unfold zCt
  rw [if_neg (by decide), if_neg (by decide), if_neg (by decide), if_neg (by decide), if_neg (by decide), if_neg (by decide), if_neg (by decide), if_neg (by decide), if_neg (by decide), if_neg (by decide), if_neg (by decide), if_neg (by decide), if_neg (by decide), if_pos rfl]
theorem ct_d {z : ZZ} {s : Nat} {w : Int32} (h : 0 ≤ w.toInt ∧ w.toInt ≤ 14) (h0 : ¬ w = 0) (h1 : ¬ w = 1) (h2 : ¬ w = 2) (h3 : ¬ w = 3) (h4 : ¬ w = 4) (h5 : ¬ w = 5) (h6 : ¬ w = 6) (h7 : ¬ w = 7) (h8 : ¬ w = 8) (h9 : ¬ w = 9) (h10 : ¬ w = 10) (h11 : ¬ w = 11) (h12 : ¬ w = 12) (h13 : ¬ w = 13) : zCt z s w = lN s := by
  unfold zCt
  rw [if_neg h0, if_neg h1, if_neg h2, if_neg h3, if_neg h4, if_neg h5, if_neg h6, if_neg h7, if_neg h8, if_neg h9, if_neg h10, if_neg h11, if_neg h12, if_neg h13]
theorem ct_n {z : ZZ} (hB : Bz z) : (nI (nc z)).toInt64 = z 8 := by
  have := (nc_e hB).2
  rw [nI_L (by omega)]
  exact (L64n (nc_e hB).1 (by omega)).symm
theorem ct_m {z : ZZ} (hB : Bz z) : (nI (nr z)).toInt64 = z 69 := by
  have := (nr_e hB).2
  rw [nI_L (by omega)]
  exact (z69 hB).symm
theorem ou_e {z : ZZ} (hB : Bz z) : (nI (nr z - lfF (zOut z) (nr z))).toInt64 = zOu z := by
  have := (nr_e hB).2
  have := lfF_le (zOut z) (nr z)
  rw [nI_L (by omega)]
  unfold zOu
  apply Int64.toInt_inj.mp
  rw [L_sub (by rw [pk_lT (by omega), pk_lT (by omega)]; omega) (by rw [pk_lT (by omega), pk_lT (by omega)]; omega), pk_lT (by omega), pk_lT (by omega), pk_lT (by omega)]
  omega
theorem Cs.b01 {S : PS} {q : Nat → Nat} {s : Nat} {z : ZZ} (h : Cs S q s z) (hB : Bz z) {r : Nat} (hr : r < nr z) : pI S (q (10 * s + 8)) r = 0 ∨ pI S (q (10 * s + 8)) r = 1 := by
  have a := (h.2.2.2.2.2 r hr).2.1
  have b := (hB.2.2.2.2.2.2 r hr).2.1
  rw [← a] at b
  unfold wtn at b
  rw [I64_t] at b
  rcases (by omega : (pI S (q (10 * s + 8)) r).toInt = 0 ∨ (pI S (q (10 * s + 8)) r).toInt = 1) with e | e
  · exact .inl (Int32.toInt_inj.mp e)
  · exact .inr (Int32.toInt_inj.mp e)
