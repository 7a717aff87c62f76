/-- the model's own state, apart from the call's outcome -/
def Mo (S : PS) (q : Nat → Nat) (z : ZZ) (H : List ZZ) (l : Int32) (n : Nat) (tx : Nat → Int32) : Prop := pJ S (q 95) = z ∧ Sv S q H ∧ pI S (q 94) 4 = l ∧ pI S (q 94) 5 = nI n ∧ ∀ j, j < n → pI S (q 97) j = tx j
abbrev WW : Type := ZZ × List ZZ × Int32 × Nat × (Nat → Int32)
def Mw (S : PS) (q : Nat → Nat) (w : WW) : Prop := Mo S q w.1 w.2.1 w.2.2.1 w.2.2.2.1 w.2.2.2.2
theorem Sv_of {S S' : PS} {q : Nat → Nat} {H : List ZZ} (h : Sv S q H) (e : pI S' (q 94) 2 = pI S (q 94) 2) (e2 : pJ S' (q 96) = pJ S (q 96)) : Sv S' q H := ⟨e.trans h.1, h.2.1, fun i y hy k hk => by rw [e2]; exact h.2.2 i y hy k hk⟩
theorem uLs {f : ZZ} {k : Nat} {x : Int64} : vp_updL f k x k = x := if_pos rfl
theorem uLn {f : ZZ} {k j : Nat} {x : Int64} (h : j ≠ k) : vp_updL f k x j = f j := if_neg h
/-- what the method within says of an int -/
theorem wI_t {v r : Int32} {a b : Int64} {lo hi : Int} (e : r = if a ≤ v.toInt64 ∧ v.toInt64 ≤ b then 1 else 0) (c : ¬ r = 0) (ha : a.toInt = lo) (hb : b.toInt = hi) : lo ≤ v.toInt ∧ v.toInt ≤ hi := by
  have h := if01_1 e c
  rw [Int64.le_iff_toInt_le, Int64.le_iff_toInt_le, Int32.toInt_toInt64] at h
  omega
theorem wI_f {v r : Int32} {a b : Int64} {lo hi : Int} (e : r = if a ≤ v.toInt64 ∧ v.toInt64 ≤ b then 1 else 0) (c : r = 0) (ha : a.toInt = lo) (hb : b.toInt = hi) : ¬ (lo ≤ v.toInt ∧ v.toInt ≤ hi) := by
  have h := if01_0 e c
  rw [Int64.le_iff_toInt_le, Int64.le_iff_toInt_le, Int32.toInt_toInt64] at h
  omega
/-- a row with other cells below 69, and no run -/
theorem nr_0 {z : ZZ} (h : z 69 = 0) : nr z = 0 := by unfold nr; rw [h]; rfl
def tAnc (a b : Int32) : Int32 := if (-2000 ≤ a.toInt ∧ a.toInt ≤ 2000) ∧ (-2000 ≤ b.toInt ∧ b.toInt ≤ 2000) then 0 else 1
def zAnc (z : ZZ) (a b : Int32) : ZZ := vp_updL (vp_updL (vp_updL z 0 a.toInt64) 1 b.toInt64) 69 0
def oAnc (a b : Int32) (w : WW) : Int32 × Int32 × WW := if tAnc a b = 0 then (0, nI (nr w.1), (zAnc w.1 a b, psh w.2.1 w.1, w.2.2)) else (tAnc a b, 0, w)
theorem wtn_I {v : Int32} {lo hi : Int} (h : lo ≤ v.toInt ∧ v.toInt ≤ hi) : wtn v.toInt64 lo hi := by
  unfold wtn
  rw [Int32.toInt_toInt64]
  exact h
theorem B_anc {z : ZZ} {a b : Int32} (hB : Bz z) (h : tAnc a b = 0) : Bz (vp_updL (vp_updL z 0 a.toInt64) 1 b.toInt64) := by
  unfold tAnc at h
  split at h
  · next h9 =>
    have e : ∀ j, 2 ≤ j → vp_updL (vp_updL z 0 a.toInt64) 1 b.toInt64 j = z j := fun j hj => by rw [uLn (by omega), uLn (by omega)]
    refine ⟨⟨by rw [uLn (by omega), uLs]; exact wtn_I h9.1, by rw [uLs]; exact wtn_I h9.2⟩, ?_⟩
    have en : nc (vp_updL (vp_updL z 0 a.toInt64) 1 b.toInt64) = nc z := by unfold nc; rw [e 8 (by omega)]
    have er : nr (vp_updL (vp_updL z 0 a.toInt64) 1 b.toInt64) = nr z := by unfold nr; rw [e 69 (by omega)]
    rw [en, er, e 2 (by omega), e 3 (by omega), e 4 (by omega), e 5 (by omega), e 6 (by omega), e 7 (by omega), e 8 (by omega), e 69 (by omega)]
    refine ⟨hB.2.1, hB.2.2.1, hB.2.2.2.1, hB.2.2.2.2.1, fun k hk => ?_, fun r hr => ?_⟩
    · rw [e _ (by omega), e _ (by omega), e _ (by omega)]; exact hB.2.2.2.2.2.1 k hk
    · rw [e _ (by omega), e _ (by omega), e _ (by omega)]; exact hB.2.2.2.2.2.2 r hr
  · exact absurd h (by decide)
theorem tAnc_0 {a b : Int32} (h : tAnc a b ≤ 0) : tAnc a b = 0 := by
  unfold tAnc at h ⊢
  split
  · rfl
  · next g => rw [if_neg g] at h; exact absurd h (by decide)
theorem wI_e {v r : Int32} {a b : Int64} {lo hi : Int} (e : r = if a ≤ v.toInt64 ∧ v.toInt64 ≤ b then 1 else 0) (ha : a.toInt = lo) (hb : b.toInt = hi) : r = if lo ≤ v.toInt ∧ v.toInt ≤ hi then 1 else 0 := by
  by_cases c : r = 0
  · rw [if_neg (wI_f e c ha hb)]; exact c
  · rw [if_pos (wI_t e c ha hb)]
    rw [if_pos (if01_1 e c)] at e
    exact e
def vLo (k : Int32) : Int := if k = 0 ∨ k = 1 then 200 else if k = 2 then 20 else 0
def vHi (k : Int32) : Int := if k = 0 ∨ k = 1 then 3000 else if k = 2 then 200 else if k = 3 then 1 else 10000
abbrev vOk (k v : Int32) : Prop := vLo k ≤ v.toInt ∧ v.toInt ≤ vHi k
abbrev isC (z : ZZ) (k : Int32) : Prop := 0 ≤ k.toInt ∧ k.toInt ≤ (nc z : Int) - 1
abbrev isPt (x y : Int32) : Prop := (-1000 ≤ x.toInt ∧ x.toInt ≤ 1000) ∧ (-1000 ≤ y.toInt ∧ y.toInt ≤ 1000)
theorem nc_m1 {n : Nat} (h : n ≤ 20) : ((nI n - 1).toInt64).toInt = (n : Int) - 1 := by
  rw [Int32.toInt_toInt64]
  rcases Nat.eq_zero_or_pos n with e | e
  · rw [e]; decide
  · rw [show (nI n - 1 : Int32) = nI (n - 1) from nsub rfl rfl e, nI_toInt (by omega)]
    omega
theorem L0_0 : (0 : Int64).toInt = 0 := by decide
theorem kN {k : Int32} (h : 0 ≤ k.toInt) : k = nI k.toInt.toNat := by
  have := k.toInt_lt
  exact Int32.toInt_inj.mp (by rw [nI_toInt (by omega)]; omega)
theorem B_low {z z' : ZZ} (hB : Bz z) (h : ∀ j, 8 ≤ j → z' j = z j) (hl : (wtn (z' 0) (-2000) 2000 ∧ wtn (z' 1) (-2000) 2000) ∧ (wtn (z' 2) 200 3000 ∧ wtn (z' 3) 200 3000 ∧ wtn (z' 4) 20 200 ∧ wtn (z' 5) 0 1 ∧ wtn (z' 6) 0 10000) ∧ wtn (z' 7) 0 100000) : Bz z' := by
  have en : nc z' = nc z := by unfold nc; rw [h 8 (by omega)]
  have er : nr z' = nr z := by unfold nr; rw [h 69 (by omega)]
  refine ⟨hl.1, hl.2.1, hl.2.2, ?_⟩
  rw [en, er, h 8 (by omega), h 69 (by omega)]
  refine ⟨hB.2.2.2.1, hB.2.2.2.2.1, fun k hk => ?_, fun r hr => ?_⟩
  · rw [h _ (by omega), h _ (by omega), h _ (by omega)]; exact hB.2.2.2.2.2.1 k hk
  · rw [h _ (by omega), h _ (by omega), h _ (by omega)]; exact hB.2.2.2.2.2.2 r hr
theorem B_pts {z z' : ZZ} (hB : Bz z) (h : ∀ j, j < 9 ∨ 69 ≤ j → z' j = z j) (hp : ∀ k, k < nc z → wtn (z' (9 + 3 * k)) (-1000) 1000 ∧ wtn (z' (9 + 3 * k + 1)) (-1000) 1000 ∧ wtn (z' (9 + 3 * k + 2)) 0 100) : Bz z' := by
  have en : nc z' = nc z := by unfold nc; rw [h 8 (by omega)]
  have er : nr z' = nr z := by unfold nr; rw [h 69 (by omega)]
  unfold Bz
  rw [en, er, h 0 (by omega), h 1 (by omega), h 2 (by omega), h 3 (by omega), h 4 (by omega), h 5 (by omega), h 6 (by omega), h 7 (by omega), h 8 (by omega), h 69 (by omega)]
  refine ⟨hB.1, hB.2.1, hB.2.2.1, hB.2.2.2.1, hB.2.2.2.2.1, hp, fun r hr => ?_⟩
  rw [h _ (by omega), h _ (by omega), h _ (by omega)]; exact hB.2.2.2.2.2.2 r hr
theorem B_no {z : ZZ} (hB : Bz z) : Bz (vp_updL z 69 0) := by
  have en : nc (vp_updL z 69 0) = nc z := by unfold nc; rw [uLn (by omega)]
  have er : nr (vp_updL z 69 0) = 0 := nr_0 uLs
  have hn := (nc_e hB).2
  unfold Bz
  rw [en, er, uLs, uLn (by omega), uLn (by omega), uLn (by omega), uLn (by omega), uLn (by omega), uLn (by omega), uLn (by omega), uLn (by omega), uLn (by omega)]
  refine ⟨hB.1, hB.2.1, hB.2.2.1, hB.2.2.2.1, ⟨by decide, by decide⟩, fun k hk => ?_, fun r hr => absurd hr (by omega)⟩
  rw [uLn (by omega), uLn (by omega), uLn (by omega)]
  exact hB.2.2.2.2.2.1 k hk
def tSet (k v : Int32) : Int32 := if ¬ (0 ≤ k.toInt ∧ k.toInt ≤ 4) then 1 else if vOk k v then 0 else 2
def zSet (z : ZZ) (k v : Int32) : ZZ := vp_updL (vp_updL z (2 + k.toInt.toNat) v.toInt64) 69 0
def oSet (k v : Int32) (w : WW) : Int32 × Int32 × WW := if tSet k v = 0 then (0, (w.1 (2 + k.toInt.toNat)).toInt32, (zSet w.1 k v, psh w.2.1 w.1, w.2.2)) else (tSet k v, 0, w)
theorem tSet_i {k v : Int32} (h : tSet k v ≤ 0) : tSet k v = 0 ∧ (0 ≤ k.toInt ∧ k.toInt ≤ 4) ∧ vOk k v := by
  unfold tSet at h ⊢
  split
  · next g => rw [if_pos g] at h; exact absurd h (by decide)
  · next g =>
    rw [if_neg g] at h
    split
    · next g2 => exact ⟨rfl, Decidable.not_not.mp g, g2⟩
    · next g2 => rw [if_neg g2] at h; exact absurd h (by decide)
theorem B_set {z : ZZ} {k v : Int32} (hB : Bz z) (hk : 0 ≤ k.toInt ∧ k.toInt ≤ 4) (hv : vOk k v) : Bz (vp_updL z (2 + k.toInt.toNat) v.toInt64) := by
  refine B_low hB (fun j hj => uLn (by omega)) ?_
  rw [uLn (show 0 ≠ 2 + k.toInt.toNat by omega), uLn (show 1 ≠ 2 + k.toInt.toNat by omega), uLn (show 7 ≠ 2 + k.toInt.toNat by omega)]
  refine ⟨hB.1, ?_, hB.2.2.1⟩
  have b := hB.2.1
  have hc : k = 0 ∨ k = 1 ∨ k = 2 ∨ k = 3 ∨ k = 4 := by
    have h : k.toInt = 0 ∨ k.toInt = 1 ∨ k.toInt = 2 ∨ k.toInt = 3 ∨ k.toInt = 4 := by omega
    rcases h with h | h | h | h | h
    · exact .inl (Int32.toInt_inj.mp h)
    · exact .inr (.inl (Int32.toInt_inj.mp h))
    · exact .inr (.inr (.inl (Int32.toInt_inj.mp h)))
    · exact .inr (.inr (.inr (.inl (Int32.toInt_inj.mp h))))
    · exact .inr (.inr (.inr (.inr (Int32.toInt_inj.mp h))))
  rcases hc with rfl | rfl | rfl | rfl | rfl
  · exact ⟨wtn_I hv, b.2.1, b.2.2.1, b.2.2.2.1, b.2.2.2.2⟩
  · exact ⟨b.1, wtn_I hv, b.2.2.1, b.2.2.2.1, b.2.2.2.2⟩
  · exact ⟨b.1, b.2.1, wtn_I hv, b.2.2.2.1, b.2.2.2.2⟩
  · exact ⟨b.1, b.2.1, b.2.2.1, wtn_I hv, b.2.2.2.2⟩
  · exact ⟨b.1, b.2.1, b.2.2.1, b.2.2.2.1, wtn_I hv⟩
def tTol (v : Int32) : Int32 := if 0 ≤ v.toInt ∧ v.toInt ≤ 100000 then 0 else 1
def oTol (v : Int32) (w : WW) : Int32 × Int32 × WW := if tTol v = 0 then (0, (w.1 7).toInt32, (vp_updL w.1 7 v.toInt64, psh w.2.1 w.1, w.2.2)) else (tTol v, 0, w)
theorem tTol_i {v : Int32} (h : tTol v ≤ 0) : tTol v = 0 ∧ 0 ≤ v.toInt ∧ v.toInt ≤ 100000 := by
  unfold tTol at h ⊢
  split
  · next g => exact ⟨rfl, g⟩
  · next g => rw [if_neg g] at h; exact absurd h (by decide)
theorem B_tol {z : ZZ} {v : Int32} (hB : Bz z) (h : 0 ≤ v.toInt ∧ v.toInt ≤ 100000) : Bz (vp_updL z 7 v.toInt64) :=
  B_low hB (fun j hj => uLn (by omega)) ⟨hB.1, hB.2.1, wtn_I h⟩
def tSlp (z : ZZ) (k v : Int32) : Int32 := if ¬ isC z k then 1 else if 0 ≤ v.toInt ∧ v.toInt ≤ 100 then 0 else 2
def zSlp (z : ZZ) (k v : Int32) : ZZ := vp_updL z (9 + 3 * k.toInt.toNat + 2) v.toInt64
def oSlp (k v : Int32) (w : WW) : Int32 × Int32 × WW := if tSlp w.1 k v = 0 then (0, (w.1 (9 + 3 * k.toInt.toNat + 2)).toInt32, (zSlp w.1 k v, psh w.2.1 w.1, w.2.2)) else (tSlp w.1 k v, 0, w)
theorem tSlp_i {z : ZZ} {k v : Int32} (h : tSlp z k v ≤ 0) : tSlp z k v = 0 ∧ isC z k ∧ 0 ≤ v.toInt ∧ v.toInt ≤ 100 := by
  unfold tSlp at h ⊢
  split
  · next g => rw [if_pos g] at h; exact absurd h (by decide)
  · next g =>
    rw [if_neg g] at h
    split
    · next g2 => exact ⟨rfl, Decidable.not_not.mp g, g2⟩
    · next g2 => rw [if_neg g2] at h; exact absurd h (by decide)
theorem B_slp {z : ZZ} {k v : Int32} (hB : Bz z) (hk : isC z k) (hv : 0 ≤ v.toInt ∧ v.toInt ≤ 100) : Bz (zSlp z k v) := by
  have hn := (nc_e hB).2
  refine B_pts hB (fun j hj => uLn (by omega)) (fun i hi => ?_)
  unfold zSlp
  rw [uLn (by omega), uLn (by omega)]
  refine ⟨(hB.2.2.2.2.2.1 i hi).1, (hB.2.2.2.2.2.1 i hi).2.1, ?_⟩
  by_cases e : i = k.toInt.toNat
  · rw [e, uLs]; exact wtn_I hv
  · rw [uLn (by omega)]; exact (hB.2.2.2.2.2.1 i hi).2.2
def tMov (z : ZZ) (k x y : Int32) : Int32 := if ¬ isC z k then 1 else if isPt x y then 0 else 2
def zMov (z : ZZ) (k x y : Int32) : ZZ := vp_updL (vp_updL z (9 + 3 * k.toInt.toNat) x.toInt64) (9 + 3 * k.toInt.toNat + 1) y.toInt64
def oMov (k x y : Int32) (w : WW) : Int32 × Int32 × WW := if tMov w.1 k x y = 0 then (0, nI (nr w.1), (vp_updL (zMov w.1 k x y) 69 0, psh w.2.1 w.1, w.2.2)) else (tMov w.1 k x y, 0, w)
theorem tMov_i {z : ZZ} {k x y : Int32} (h : tMov z k x y ≤ 0) : tMov z k x y = 0 ∧ isC z k ∧ isPt x y := by
  unfold tMov at h ⊢
  split
  · next g => rw [if_pos g] at h; exact absurd h (by decide)
  · next g =>
    rw [if_neg g] at h
    split
    · next g2 => exact ⟨rfl, Decidable.not_not.mp g, g2⟩
    · next g2 => rw [if_neg g2] at h; exact absurd h (by decide)
theorem B_mov {z : ZZ} {k x y : Int32} (hB : Bz z) (hk : isC z k) (hv : isPt x y) : Bz (zMov z k x y) := by
  have hn := (nc_e hB).2
  refine B_pts hB (fun j hj => by unfold zMov; rw [uLn (by omega), uLn (by omega)]) (fun i hi => ?_)
  unfold zMov
  rw [uLn (show 9 + 3 * i ≠ 9 + 3 * k.toInt.toNat + 1 by omega), uLn (show 9 + 3 * i + 2 ≠ 9 + 3 * k.toInt.toNat + 1 by omega), uLn (show 9 + 3 * i + 2 ≠ 9 + 3 * k.toInt.toNat by omega)]
  refine ⟨?_, ?_, (hB.2.2.2.2.2.1 i hi).2.2⟩
  · by_cases e : i = k.toInt.toNat
    · rw [e, uLs]; exact wtn_I hv.1
    · rw [uLn (by omega)]; exact (hB.2.2.2.2.2.1 i hi).1
  · by_cases e : i = k.toInt.toNat
    · rw [e, uLs]; exact wtn_I hv.2
    · rw [uLn (by omega), uLn (by omega)]; exact (hB.2.2.2.2.2.1 i hi).2.1
theorem nr_mov {z : ZZ} {k x y : Int32} (hB : Bz z) (hk : isC z k) : nr (zMov z k x y) = nr z := by
  have hn := (nc_e hB).2
  unfold nr zMov
  rw [uLn (by omega), uLn (by omega)]
def oFor (w : WW) : Int32 × Int32 × WW := (0, nI (nr w.1), (vp_updL w.1 69 0, psh w.2.1 w.1, w.2.2))
/-- the row with one corner less, moved up to the cell i -/
def remR (z : ZZ) (k i : Nat) : ZZ := fun j => if j = 8 then z 8 - 1 else if 9 + 3 * k ≤ j ∧ j < i then z (j + 3) else z j
theorem rem_0 {z : ZZ} {k : Nat} : vp_updL z 8 (z 8 - 1) = remR z k (9 + 3 * k) := by
  funext j
  unfold remR vp_updL
  by_cases e : j = 8
  · rw [if_pos e, if_pos e]
  · rw [if_neg e, if_neg e, if_neg (by omega)]
theorem rem_s {z : ZZ} {k i : Nat} (h : 9 + 3 * k ≤ i) : vp_updL (remR z k i) i (remR z k i (i + 3)) = remR z k (i + 1) := by
  funext j
  show (if j = i then remR z k i (i + 3) else remR z k i j) = remR z k (i + 1) j
  unfold remR
  by_cases e : j = i
  · rw [if_pos e, if_neg (by omega), if_neg (by omega), if_neg (by omega), if_pos (by omega), e]
  · rw [if_neg e]
    by_cases e8 : j = 8
    · rw [if_pos e8, if_pos e8]
    · rw [if_neg e8, if_neg e8]
      by_cases g : 9 + 3 * k ≤ j ∧ j < i
      · rw [if_pos g, if_pos (by omega)]
      · rw [if_neg g, if_neg (by omega)]
theorem rem_8 {z : ZZ} {k i : Nat} (hB : Bz z) (hk : k < nc z) : (remR z k i 8).toInt = (nc z : Int) - 1 := by
  have h := nc_e hB
  show (z 8 - 1 : Int64).toInt = _
  rw [L_sub (by rw [h.1, show (1 : Int64).toInt = 1 by decide]; omega) (by rw [h.1, show (1 : Int64).toInt = 1 by decide]; omega), h.1]
  rfl
theorem nc_rem {z : ZZ} {k i : Nat} (hB : Bz z) (hk : k < nc z) : nc (remR z k i) = nc z - 1 := by
  unfold nc
  rw [rem_8 hB hk]
  unfold nc
  omega
theorem B_rem {z : ZZ} {k i : Nat} (hB : Bz z) (hk : k < nc z) (hi : i ≤ 9 + 3 * (nc z - 1)) : Bz (remR z k i) := by
  have hn := (nc_e hB).2
  have hl : ∀ j, j < 8 ∨ 69 ≤ j → remR z k i j = z j := fun j hj => by unfold remR; rw [if_neg (by omega), if_neg (by omega)]
  have er : nr (remR z k i) = nr z := by unfold nr; rw [hl 69 (by omega)]
  unfold Bz
  rw [nc_rem hB hk, er, hl 0 (by omega), hl 1 (by omega), hl 2 (by omega), hl 3 (by omega), hl 4 (by omega), hl 5 (by omega), hl 6 (by omega), hl 7 (by omega), hl 69 (by omega)]
  refine ⟨hB.1, hB.2.1, hB.2.2.1, ⟨by rw [rem_8 hB hk]; omega, by rw [rem_8 hB hk]; omega⟩, hB.2.2.2.2.1, fun c hc => ?_, fun r hr => ?_⟩
  · have a := hB.2.2.2.2.2.1 c (by omega)
    have b := hB.2.2.2.2.2.1 (c + 1) (by omega)
    have e : ∀ t, t < 3 → remR z k i (9 + 3 * c + t) = z (9 + 3 * c + t) ∨ remR z k i (9 + 3 * c + t) = z (9 + 3 * (c + 1) + t) := fun t ht => by
      unfold remR
      rw [if_neg (by omega)]
      split
      · exact .inr (congrArg z (by omega))
      · exact .inl rfl
    refine ⟨?_, ?_, ?_⟩
    · rcases e 0 (by omega) with g | g
      · rw [show remR z k i (9 + 3 * c) = _ from g]; exact a.1
      · rw [show remR z k i (9 + 3 * c) = _ from g]; exact b.1
    · rcases e 1 (by omega) with g | g
      · rw [g]; exact a.2.1
      · rw [g]; exact b.2.1
    · rcases e 2 (by omega) with g | g
      · rw [g]; exact a.2.2
      · rw [g]; exact b.2.2
  · rw [hl _ (by omega), hl _ (by omega), hl _ (by omega)]; exact hB.2.2.2.2.2.2 r hr
def tRem (z : ZZ) (k : Int32) : Int32 := if isC z k then 0 else 1
theorem tRem_i {z : ZZ} {k : Int32} (h : tRem z k ≤ 0) : tRem z k = 0 ∧ isC z k ∧ True := by
  unfold tRem at h ⊢
  split
  · next g => exact ⟨rfl, g, trivial⟩
  · next g => rw [if_neg g] at h; exact absurd h (by decide)
def zRem (z : ZZ) (k : Int32) : ZZ := vp_updL (remR z k.toInt.toNat (9 + 3 * (nc z - 1))) 69 0
def oRem (k : Int32) (w : WW) : Int32 × Int32 × WW := if tRem w.1 k = 0 then (0, nI (nc w.1 - 1), (zRem w.1 k, psh w.2.1 w.1, w.2.2)) else (tRem w.1 k, 0, w)
theorem nI_m1 {n : Nat} (h : 1 ≤ n) : nI n + (-1) = nI (n - 1) := by
  rw [← Int32.sub_eq_add_neg]
  exact nsub rfl rfl h
/-- the row with the cells above i moved up for one corner more -/
def insR (z : ZZ) (i : Nat) : ZZ := fun j => if i + 4 ≤ j ∧ j < 12 + 3 * nc z then z (j - 3) else z j
theorem ins_0 {z : ZZ} : z = insR z (9 + 3 * nc z - 1) := by
  funext j
  unfold insR
  rw [if_neg (by omega)]
theorem ins_s {z : ZZ} {i : Nat} (h : 1 ≤ i) (h2 : i ≤ 8 + 3 * nc z) : vp_updL (insR z i) (i + 3) (insR z i i) = insR z (i - 1) := by
  funext j
  show (if j = i + 3 then insR z i i else insR z i j) = insR z (i - 1) j
  unfold insR
  by_cases e : j = i + 3
  · rw [if_pos e, if_neg (by omega), if_pos (by omega), e]; rfl
  · rw [if_neg e]
    by_cases g : i + 4 ≤ j ∧ j < 12 + 3 * nc z
    · rw [if_pos g, if_pos (by omega)]
    · rw [if_neg g, if_neg (by omega)]
def zInP (z : ZZ) (k : Nat) (x y : Int32) : ZZ := fun j => if j = 8 then z 8 + 1 else if j = 9 + 3 * k + 2 then 0 else if j = 9 + 3 * k + 1 then y.toInt64 else if j = 9 + 3 * k then x.toInt64 else if 12 + 3 * k ≤ j ∧ j < 12 + 3 * nc z then z (j - 3) else z j
def pC (z : ZZ) (k : Nat) (x y s : Int32) : ZZ := vp_updL (vp_updL (vp_updL z (9 + 3 * k) x.toInt64) (9 + 3 * k + 1) y.toInt64) (9 + 3 * k + 2) s.toInt64
theorem zInP_e {z : ZZ} {k : Nat} {x y : Int32} : vp_updL (pC (insR z (8 + 3 * k)) k x y 0) 8 (pC (insR z (8 + 3 * k)) k x y 0 8 + 1) = zInP z k x y := by
  have e8 : pC (insR z (8 + 3 * k)) k x y 0 8 = z 8 := by
    unfold pC
    rw [uLn (by omega), uLn (by omega), uLn (by omega)]
    unfold insR
    rw [if_neg (by omega)]
  rw [e8]
  funext j
  show (if j = 8 then z 8 + 1 else if j = 9 + 3 * k + 2 then (0 : Int32).toInt64 else if j = 9 + 3 * k + 1 then y.toInt64 else if j = 9 + 3 * k then x.toInt64 else if (8 + 3 * k) + 4 ≤ j ∧ j < 12 + 3 * nc z then z (j - 3) else z j) = zInP z k x y j
  unfold zInP
  rw [show (8 + 3 * k) + 4 = 12 + 3 * k by omega]
  rfl
theorem ins_8 {z : ZZ} {k : Nat} {x y : Int32} (hB : Bz z) : (zInP z k x y 8).toInt = (nc z : Int) + 1 := by
  have h := nc_e hB
  show (z 8 + 1 : Int64).toInt = _
  rw [L_add (by rw [h.1, show (1 : Int64).toInt = 1 by decide]; omega) (by rw [h.1, show (1 : Int64).toInt = 1 by decide]; omega), h.1]
  rfl
theorem nc_ins {z : ZZ} {k : Nat} {x y : Int32} (hB : Bz z) : nc (zInP z k x y) = nc z + 1 := by
  show (zInP z k x y 8).toInt.toNat = _
  rw [ins_8 hB]
  omega
theorem B_ins {z : ZZ} {k : Nat} {x y : Int32} (hB : Bz z) (hk : k ≤ nc z) (h20 : nc z ≠ 20) (hp : isPt x y) : Bz (zInP z k x y) := by
  have hn := (nc_e hB).2
  have hl : ∀ j, j < 8 ∨ 69 ≤ j → zInP z k x y j = z j := fun j hj => by unfold zInP; rw [if_neg (by omega), if_neg (by omega), if_neg (by omega), if_neg (by omega), if_neg (by omega)]
  have er : nr (zInP z k x y) = nr z := by unfold nr; rw [hl 69 (by omega)]
  unfold Bz
  rw [nc_ins hB, er, hl 0 (by omega), hl 1 (by omega), hl 2 (by omega), hl 3 (by omega), hl 4 (by omega), hl 5 (by omega), hl 6 (by omega), hl 7 (by omega), hl 69 (by omega)]
  refine ⟨hB.1, hB.2.1, hB.2.2.1, ⟨by rw [ins_8 hB]; omega, by rw [ins_8 hB]; omega⟩, hB.2.2.2.2.1, fun c hc => ?_, fun r hr => ?_⟩
  · rcases Nat.lt_trichotomy c k with g | g | g
    · have e : ∀ t, t < 3 → zInP z k x y (9 + 3 * c + t) = z (9 + 3 * c + t) := fun t ht => by
        unfold zInP; rw [if_neg (by omega), if_neg (by omega), if_neg (by omega), if_neg (by omega), if_neg (by omega)]
      rw [show zInP z k x y (9 + 3 * c) = _ from e 0 (by omega), e 1 (by omega), e 2 (by omega)]
      exact hB.2.2.2.2.2.1 c (by omega)
    · subst g
      rw [show zInP z c x y (9 + 3 * c) = x.toInt64 by unfold zInP; rw [if_neg (by omega), if_neg (by omega), if_neg (by omega), if_pos rfl], show zInP z c x y (9 + 3 * c + 1) = y.toInt64 by unfold zInP; rw [if_neg (by omega), if_neg (by omega), if_pos rfl], show zInP z c x y (9 + 3 * c + 2) = 0 by unfold zInP; rw [if_neg (by omega), if_pos rfl]]
      exact ⟨wtn_I hp.1, wtn_I hp.2, by unfold wtn; rw [L0_0]; omega⟩
    · have e : ∀ t, t < 3 → zInP z k x y (9 + 3 * c + t) = z (9 + 3 * (c - 1) + t) := fun t ht => by
        unfold zInP; rw [if_neg (by omega), if_neg (by omega), if_neg (by omega), if_neg (by omega), if_pos (by omega)]; exact congrArg z (by omega)
      rw [show zInP z k x y (9 + 3 * c) = _ from e 0 (by omega), e 1 (by omega), e 2 (by omega)]
      exact hB.2.2.2.2.2.1 (c - 1) (by omega)
  · rw [hl _ (by omega), hl _ (by omega), hl _ (by omega)]; exact hB.2.2.2.2.2.2 r hr
def tIns (z : ZZ) (k x y : Int32) : Int32 := if ¬ (0 ≤ k.toInt ∧ k.toInt ≤ (nc z : Int)) then 1 else if ¬ isPt x y then 2 else if nc z = 20 then 3 else 0
theorem tIns_i {z : ZZ} {k x y : Int32} (h : tIns z k x y ≤ 0) : tIns z k x y = 0 ∧ (0 ≤ k.toInt ∧ k.toInt ≤ (nc z : Int)) ∧ isPt x y ∧ nc z ≠ 20 := by
  unfold tIns at h ⊢
  split
  · next g => rw [if_pos g] at h; exact absurd h (by decide)
  · next g =>
    rw [if_neg g] at h
    split
    · next g2 => rw [if_pos g2] at h; exact absurd h (by decide)
    · next g2 =>
      rw [if_neg g2] at h
      split
      · next g3 => rw [if_pos g3] at h; exact absurd h (by decide)
      · next g3 => exact ⟨rfl, Decidable.not_not.mp g, Decidable.not_not.mp g2, g3⟩
def zIns (z : ZZ) (k x y : Int32) : ZZ := vp_updL (zInP z k.toInt.toNat x y) 69 0
def oIns (k x y : Int32) (w : WW) : Int32 × Int32 × WW := if tIns w.1 k x y = 0 then (0, nI (nc w.1 + 1), (zIns w.1 k x y, psh w.2.1 w.1, w.2.2)) else (tIns w.1 k x y, 0, w)
theorem nc_64 {n : Nat} (h : n ≤ 20) : ((nI n).toInt64).toInt = (n : Int) := by
  rw [Int32.toInt_toInt64, nI_toInt (by omega)]
