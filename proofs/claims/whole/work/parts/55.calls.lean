/-- the model's own state, apart from the call's outcome -/
def Mo (S : PS) (q : Nat → Nat) (z : ZZ) (H : List ZZ) (l : Int32) (n : Nat) (tx : Nat → Int32) : Prop := pJ S (q 95) = z ∧ Sv S q H ∧ pI S (q 94) 4 = l ∧ pI S (q 94) 5 = nI n ∧ ∀ j, j < n → pI S (q 97) j = tx j
abbrev WW : Type := ZZ × List ZZ × Int32 × Nat × (Nat → Int32)
def Mw (S : PS) (q : Nat → Nat) (w : WW) : Prop := Mo S q w.1 w.2.1 w.2.2.1 w.2.2.2.1 w.2.2.2.2
theorem Sv_of {S S' : PS} {q : Nat → Nat} {H : List ZZ} (h : Sv S q H) (e : pI S' (q 94) 2 = pI S (q 94) 2) (e2 : pJ S' (q 96) = pJ S (q 96)) : Sv S' q H := ⟨e.trans h.1, h.2.1, fun i y hy k hk => by rw [e2]; exact h.2.2 i y hy k hk⟩
theorem uLs {f : ZZ} {k : Nat} {x : Int64} : vp_updL f k x k = x := if_pos rfl
theorem uLn {f : ZZ} {k j : Nat} {x : Int64} (h : j ≠ k) : vp_updL f k x j = f j := if_neg h
/-- what the method within says of an int -/
theorem wI_t {v r : Int32} {a b : Int64} {lo hi : Int} (e : r = if a ≤ v.toInt64 ∧ v.toInt64 ≤ b then 1 else 0) (c : ¬ r = 0) (ha : a.toInt = lo) (hb : b.toInt = hi) : lo ≤ v.toInt ∧ v.toInt ≤ hi := by
  have h := if01_1 e c
  rw [Int64.le_iff_toInt_le, Int64.le_iff_toInt_le, Int32.toInt_toInt64] at h
  omega
theorem wI_f {v r : Int32} {a b : Int64} {lo hi : Int} (e : r = if a ≤ v.toInt64 ∧ v.toInt64 ≤ b then 1 else 0) (c : r = 0) (ha : a.toInt = lo) (hb : b.toInt = hi) : ¬ (lo ≤ v.toInt ∧ v.toInt ≤ hi) := by
  have h := if01_0 e c
  rw [Int64.le_iff_toInt_le, Int64.le_iff_toInt_le, Int32.toInt_toInt64] at h
  omega
/-- a row with other cells below 69, and no run -/
theorem nr_0 {z : ZZ} (h : z 69 = 0) : nr z = 0 := by unfold nr; rw [h]; rfl
def tAnc (a b : Int32) : Int32 := if (-2000 ≤ a.toInt ∧ a.toInt ≤ 2000) ∧ (-2000 ≤ b.toInt ∧ b.toInt ≤ 2000) then 0 else 1
def zAnc (z : ZZ) (a b : Int32) : ZZ := vp_updL (vp_updL (vp_updL z 0 a.toInt64) 1 b.toInt64) 69 0
def oAnc (a b : Int32) (w : WW) : Int32 × Int32 × WW := if tAnc a b = 0 then (0, nI (nr w.1), (zAnc w.1 a b, psh w.2.1 w.1, w.2.2)) else (tAnc a b, 0, w)
theorem wtn_I {v : Int32} {lo hi : Int} (h : lo ≤ v.toInt ∧ v.toInt ≤ hi) : wtn v.toInt64 lo hi := by
  unfold wtn
  rw [Int32.toInt_toInt64]
  exact h
theorem B_anc {z : ZZ} {a b : Int32} (hB : Bz z) (h : tAnc a b = 0) : Bz (vp_updL (vp_updL z 0 a.toInt64) 1 b.toInt64) := by
  unfold tAnc at h
  split at h
  · next h9 =>
    have e : ∀ j, 2 ≤ j → vp_updL (vp_updL z 0 a.toInt64) 1 b.toInt64 j = z j := fun j hj => by rw [uLn (by omega), uLn (by omega)]
    refine ⟨⟨by rw [uLn (by omega), uLs]; exact wtn_I h9.1, by rw [uLs]; exact wtn_I h9.2⟩, ?_⟩
    have en : nc (vp_updL (vp_updL z 0 a.toInt64) 1 b.toInt64) = nc z := by unfold nc; rw [e 8 (by omega)]
    have er : nr (vp_updL (vp_updL z 0 a.toInt64) 1 b.toInt64) = nr z := by unfold nr; rw [e 69 (by omega)]
    rw [en, er, e 2 (by omega), e 3 (by omega), e 4 (by omega), e 5 (by omega), e 6 (by omega), e 7 (by omega), e 8 (by omega), e 69 (by omega)]
    refine ⟨hB.2.1, hB.2.2.1, hB.2.2.2.1, hB.2.2.2.2.1, fun k hk => ?_, fun r hr => ?_⟩
    · rw [e _ (by omega), e _ (by omega), e _ (by omega)]; exact hB.2.2.2.2.2.1 k hk
    · rw [e _ (by omega), e _ (by omega), e _ (by omega)]; exact hB.2.2.2.2.2.2 r hr
  · exact absurd h (by decide)
theorem tAnc_0 {a b : Int32} (h : tAnc a b ≤ 0) : tAnc a b = 0 := by
  unfold tAnc at h ⊢
  split
  · rfl
  · next g => rw [if_neg g] at h; exact absurd h (by decide)
theorem wI_e {v r : Int32} {a b : Int64} {lo hi : Int} (e : r = if a ≤ v.toInt64 ∧ v.toInt64 ≤ b then 1 else 0) (ha : a.toInt = lo) (hb : b.toInt = hi) : r = if lo ≤ v.toInt ∧ v.toInt ≤ hi then 1 else 0 := by
  by_cases c : r = 0
  · rw [if_neg (wI_f e c ha hb)]; exact c
  · rw [if_pos (wI_t e c ha hb)]
    rw [if_pos (if01_1 e c)] at e
    exact e
def vLo (k : Int32) : Int := if k = 0 ∨ k = 1 then 200 else if k = 2 then 20 else 0
def vHi (k : Int32) : Int := if k = 0 ∨ k = 1 then 3000 else if k = 2 then 200 else if k = 3 then 1 else 10000
abbrev vOk (k v : Int32) : Prop := vLo k ≤ v.toInt ∧ v.toInt ≤ vHi k
abbrev isC (z : ZZ) (k : Int32) : Prop := 0 ≤ k.toInt ∧ k.toInt ≤ (nc z : Int) - 1
abbrev isPt (x y : Int32) : Prop := (-1000 ≤ x.toInt ∧ x.toInt ≤ 1000) ∧ (-1000 ≤ y.toInt ∧ y.toInt ≤ 1000)
theorem nc_m1 {n : Nat} (h : n ≤ 20) : ((nI n - 1).toInt64).toInt = (n : Int) - 1 := by
  rw [Int32.toInt_toInt64]
  rcases Nat.eq_zero_or_pos n with e | e
  · rw [e]; decide
  · rw [show (nI n - 1 : Int32) = nI (n - 1) from nsub rfl rfl e, nI_toInt (by omega)]
    omega
theorem L0_0 : (0 : Int64).toInt = 0 := by decide
