/-! THE CLASS: the cells of the state s tell the row z -/
def Cs (S : PS) (q : Nat → Nat) (s : Nat) (z : ZZ) : Prop :=
  ((pI S (q (10 * s)) 0).toInt64 = z 0 ∧ (pI S (q (10 * s)) 1).toInt64 = z 1 ∧ (pI S (q (10 * s)) 2).toInt64 = z 7) ∧
  (∀ i, i < 5 → (pI S (q (10 * s + 1)) i).toInt64 = z (2 + i)) ∧
  pI S (q (10 * s + 2)) 0 = nI (nc z) ∧
  (∀ k, k < nc z → (pI S (q (10 * s + 3)) k).toInt64 = z (9 + 3 * k) ∧ (pI S (q (10 * s + 4)) k).toInt64 = z (9 + 3 * k + 1) ∧ (pI S (q (10 * s + 5)) k).toInt64 = z (9 + 3 * k + 2)) ∧
  pI S (q (10 * s + 6)) 0 = nI (nr z) ∧
  ∀ r, r < nr z → (pI S (q (10 * s + 7)) r).toInt64 = z (70 + 3 * r) ∧ (pI S (q (10 * s + 8)) r).toInt64 = z (70 + 3 * r + 1) ∧ pJ S (q (10 * s + 9)) r = z (70 + 3 * r + 2)
theorem Cs.of {S S' : PS} {q : Nat → Nat} {s : Nat} {z : ZZ} (h : Cs S q s z) (e : ∀ i, i < 10 → pI S' (q (10 * s + i)) = pI S (q (10 * s + i)) ∧ pJ S' (q (10 * s + i)) = pJ S (q (10 * s + i))) : Cs S' q s z := by
  unfold Cs
  rw [show pI S' (q (10 * s)) = pI S (q (10 * s)) from (e 0 (by omega)).1, (e 1 (by omega)).1, (e 2 (by omega)).1, (e 3 (by omega)).1, (e 4 (by omega)).1, (e 5 (by omega)).1, (e 6 (by omega)).1, (e 7 (by omega)).1, (e 8 (by omega)).1, (e 9 (by omega)).2]
  exact h
theorem Cs.fr {S S' : PS} {q : Nat → Nat} {s : Nat} {z : ZZ} {l : List Nat} (hs : s < 8) (hf : Fr S S' q l) (hl : ∀ i, i < 10 → 10 * s + i ∉ l) (h : Cs S q s z) : Cs S' q s z := h.of (fun i hi => hf.2.2 _ (by omega) (hl i hi))
section CsRows
variable {S : PS} {q : Nat → Nat} {s : Nat} {z : ZZ}
theorem Cs.n (h : Cs S q s z) : pI S (q (10 * s + 2)) 0 = nI (nc z) := h.2.2.1
theorem Cs.m (h : Cs S q s z) : pI S (q (10 * s + 6)) 0 = nI (nr z) := h.2.2.2.2.1
theorem Cs.st (h : Cs S q s z) {i : Nat} (hi : i < 5) : (pI S (q (10 * s + 1)) i).toInt64 = z (2 + i) := h.2.1 i hi
theorem nx_mod {n k : Nat} (h : k < n) : nx n k = (k + 1) % n := by
  unfold nx
  split
  · rw [Nat.mod_eq_of_lt (by omega)]
  · rw [show k + 1 = n by omega, Nat.mod_self]
theorem Cs.X (h : Cs S q s z) {k : Nat} (hk : k < nc z) : (pI S (q (10 * s + 3)) k).toInt64 = zX z k := by rw [zX_k hk]; exact (h.2.2.2.1 k hk).1
theorem Cs.Y (h : Cs S q s z) {k : Nat} (hk : k < nc z) : (pI S (q (10 * s + 4)) k).toInt64 = zY z k := by rw [zY_k hk]; exact (h.2.2.2.1 k hk).2.1
theorem Cs.W (h : Cs S q s z) {k : Nat} (hk : k < nc z) : (pI S (q (10 * s + 5)) k).toInt64 = zS z k := (h.2.2.2.1 k hk).2.2
theorem Cs.X1 (h : Cs S q s z) {k : Nat} (hk : k < nc z) : (pI S (q (10 * s + 3)) (nx (nc z) k)).toInt64 = zX z (k + 1) := by
  rw [h.X (nx_lt hk), nx_mod hk]
  unfold zX
  rw [Nat.mod_mod]
theorem Cs.Y1 (h : Cs S q s z) {k : Nat} (hk : k < nc z) : (pI S (q (10 * s + 4)) (nx (nc z) k)).toInt64 = zY z (k + 1) := by
  rw [h.Y (nx_lt hk), nx_mod hk]
  unfold zY
  rw [Nat.mod_mod]
end CsRows
/-- a small difference of ints is that of the longs -/
theorem sub64 {a b : Int32} {B : Int} (hB : B ≤ 1000000000) (ha : wtn a.toInt64 (-B) B) (hb : wtn b.toInt64 (-B) B) : (b - a).toInt64 = b.toInt64 - a.toInt64 := by
  unfold wtn at ha hb
  rw [I64_t] at ha hb
  apply Int64.toInt_inj.mp
  rw [I64_t, I_sub (by omega) (by omega), L_sub (by rw [I64_t, I64_t]; omega) (by rw [I64_t, I64_t]; omega), I64_t, I64_t]
theorem abs32 {d : Int32} (h : -1000000000 ≤ d.toInt ∧ d.toInt ≤ 1000000000) : (if 0 ≤ d then d else 0 - d) = nI d.toInt.natAbs := by
  apply Int32.toInt_inj.mp
  rw [nI_toInt (by omega)]
  have e0 : (0 : Int32).toInt = 0 := by decide
  split
  · next g => rw [Int32.le_iff_toInt_le, e0] at g; omega
  · next g => rw [Int32.le_iff_toInt_le, e0] at g; rw [I_sub (by rw [e0]; omega) (by rw [e0]; omega), e0]; omega
theorem max32 {a b : Nat} (ha : a < 2 ^ 31) (hb : b < 2 ^ 31) : (if nI a < nI b then nI b else nI a) = nI (max a b) := by
  split
  · next g => rw [nI_ltI ha hb] at g; rw [Nat.max_eq_right (by omega)]
  · next g => rw [nI_ltI ha hb] at g; rw [Nat.max_eq_left (by omega)]
theorem absd {u x : Int32} (hu : wtn u.toInt64 (-1000) 1000) (hx : wtn x.toInt64 (-1000) 1000) : (if 0 ≤ u - x then u - x else 0 - (u - x)) = nI (u.toInt64.toInt - x.toInt64.toInt).natAbs := by
  unfold wtn at hu hx
  rw [I64_t] at hu hx ⊢
  rw [I64_t]
  have e : (u - x).toInt = u.toInt - x.toInt := I_sub (by omega) (by omega)
  rw [abs32 (by rw [e]; omega), e]
/-- the steps of a segment, in ints -/
theorem nst_c {x u y v w : Int32} (hx : wtn x.toInt64 (-1000) 1000) (hu : wtn u.toInt64 (-1000) 1000) (hy : wtn y.toInt64 (-1000) 1000) (hv : wtn v.toInt64 (-1000) 1000) (hw : wtn w.toInt64 20 200) {r : Int64} {d e g : Int32} (hd : d = (if 0 ≤ u - x then u - x else 0 - (u - x))) (he : e = (if 0 ≤ v - y then v - y else 0 - (v - y))) (hg : g = (if d < e then e else d)) (hr : r = if w.toInt64 = 0 then 0 else (g + w - 1).toInt64 / w.toInt64) : (if r < 1 then 1 else r).toInt32 = nI (nSt w.toInt64.toInt x.toInt64.toInt u.toInt64.toInt y.toInt64.toInt v.toInt64.toInt) := by
  have h0 : ¬ w.toInt64 = 0 := by intro h; unfold wtn at hw; rw [h, L0_0] at hw; omega
  rw [absd hu hx] at hd
  rw [absd hv hy] at he
  unfold wtn at hx hu hy hv
  rw [hd, he, max32 (by omega) (by omega)] at hg
  rw [if_neg h0, hg] at hr
  unfold nSt
  generalize hA : max (u.toInt64.toInt - x.toInt64.toInt).natAbs (v.toInt64.toInt - y.toInt64.toInt).natAbs = A at *
  have hA2 : A ≤ 2000 := by omega
  have hs := sten hw
  have ew : (nI A + w - 1).toInt64 = lN A + w.toInt64 - 1 := by
    apply Int64.toInt_inj.mp
    have h1 : (1 : Int32).toInt = 1 := by decide
    have h2 : (1 : Int64).toInt = 1 := by decide
    have hw2 := hw
    unfold wtn at hw2
    rw [I64_t] at hw2
    have e1 : (nI A + w).toInt = A + w.toInt := by rw [I_add] <;> rw [nI_toInt (by omega)] <;> omega
    have e2 : (lN A + w.toInt64).toInt = A + w.toInt := by rw [L_add] <;> rw [pk_lT (by omega), I64_t] <;> omega
    rw [I64_t, I_sub (by rw [e1, h1]; omega) (by rw [e1, h1]; omega), e1, h1, L_sub (by rw [e2, h2]; omega) (by rw [e2, h2]; omega), e2, h2]
  rw [ew, nst_q (by omega) hw] at hr
  have hdv : (A + w.toInt64.toInt.toNat - 1) / w.toInt64.toInt.toNat ≤ A + w.toInt64.toInt.toNat := Nat.le_trans (Nat.div_le_self _ _) (by omega)
  rw [hr]
  split
  · next g => rw [show (1 : Int64) = lN 1 from rfl, lN_lt (by omega) (by omega)] at g; rw [Nat.max_eq_left (by omega)]; rfl
  · next g => rw [show (1 : Int64) = lN 1 from rfl, lN_lt (by omega) (by omega)] at g; rw [lN_i, Nat.max_eq_right (by omega)]
