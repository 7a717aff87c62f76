/-! means: out tells which runs are left out -/
def cntF (p : Nat → Bool) : Nat → Nat
  | 0 => 0
  | n + 1 => cntF p n + (if p n then 1 else 0)
def ahd (A : Nat → Int64) (o r : Nat) : Bool := decide (A o < A r) || (decide (A o = A r) && decide (o < r))
def lfF (out : Nat → Bool) (n : Nat) : Nat := cntF (fun o => !out o) n
def rkF (A : Nat → Int64) (out : Nat → Bool) (n r : Nat) : Nat := cntF (fun o => !out o && ahd A o r) n
def fstF (p : Nat → Bool) : Nat → Option Nat
  | 0 => none
  | n + 1 => match fstF p n with
    | some i => some i
    | none => if p n then some n else none
def isM (A : Nat → Int64) (out : Nat → Bool) (n r : Nat) : Bool := !out r && decide (rkF A out n r = (lfF out n - 1) / 2)
def midF (A : Nat → Int64) (out : Nat → Bool) (n : Nat) : Int64 := match fstF (isM A out n) n with
  | some r => A r
  | none => 0
def wfS (A : Nat → Int64) (out : Nat → Bool) (m : Int64) (r : Nat) (a : Option Nat × Int64) : Option Nat × Int64 := if out r = false ∧ (a.1 = none ∨ a.2 < sz (A r - m)) then (some r, sz (A r - m)) else a
def wfF (A : Nat → Int64) (out : Nat → Bool) (m : Int64) (n : Nat) : Option Nat × Int64 := foldF (wfS A out m) n (none, 0)
def setB (out : Nat → Bool) (w : Option Nat) : Nat → Bool := fun j => if w = some j then true else out j
def lmF (A : Nat → Int64) (tol : Int64) (n : Nat) : Nat → (Nat → Bool) → (Nat → Bool)
  | 0, out => out
  | f + 1, out => if 2 < lfF out n ∧ tol < (wfF A out (midF A out n) n).2 then lmF A tol n f (setB out (wfF A out (midF A out n) n).1) else out
def zOut (z : ZZ) : Nat → Bool := lmF (zAr z) (z 7) (nr z) 13 (fun _ => false)
def zMs (z : ZZ) (out : Nat → Bool) : Nat → Int64 := sumF (fun r => if out r then 0 else zAr z r)
def zMe (z : ZZ) : Int64 := if nr z = 0 then 0 else zMs z (zOut z) (nr z) / lN (lfF (zOut z) (nr z))
theorem cntF_le (p : Nat → Bool) : ∀ n, cntF p n ≤ n
  | 0 => Nat.le_refl 0
  | n + 1 => by have h := cntF_le p n; unfold cntF; split <;> omega
theorem lfF_le (out : Nat → Bool) (n : Nat) : lfF out n ≤ n := cntF_le _ n
theorem lfF_t {out : Nat → Bool} {i : Nat} (h : out i = true) : lfF out (i + 1) = lfF out i + 0 := by unfold lfF; simp [cntF, h]
theorem lfF_f {out : Nat → Bool} {i : Nat} (h : out i = false) : lfF out (i + 1) = lfF out i + 1 := by unfold lfF; simp [cntF, h]
theorem cnt_t {p : Nat → Bool} {i : Nat} (h : p i = true) : cntF p (i + 1) = cntF p i + 1 := by simp [cntF, h]
theorem cnt_f {p : Nat → Bool} {i : Nat} (h : p i = false) : cntF p (i + 1) = cntF p i + 0 := by simp [cntF, h]
theorem ahd_t {A : Nat → Int64} {o r : Nat} (h : A o < A r ∨ A o = A r ∧ o < r) : ahd A o r = true := by
  unfold ahd
  rcases h with h | ⟨h, h2⟩
  · simp [h]
  · simp [h, h2]
theorem ahd_f {A : Nat → Int64} {o r : Nat} (h : ¬ A o < A r) (h2 : ¬ (A o = A r ∧ o < r)) : ahd A o r = false := by
  unfold ahd
  simp only [Bool.or_eq_false_iff, Bool.and_eq_false_iff, decide_eq_false_iff_not]
  refine ⟨h, ?_⟩
  by_cases e : A o = A r
  · exact Or.inr (fun z => h2 ⟨e, z⟩)
  · exact Or.inl e
theorem fst_none {p : Nat → Bool} : ∀ {n : Nat}, (∀ j, j < n → p j = false) → fstF p n = none
  | 0, _ => rfl
  | n + 1, h => by
    unfold fstF
    rw [fst_none (fun j hj => h j (by omega))]
    simp [h n (by omega)]
theorem fst_some {p : Nat → Bool} : ∀ {n i : Nat}, i < n → p i = true → (∀ j, j < i → p j = false) → fstF p n = some i
  | 0, _, h, _, _ => absurd h (by omega)
  | n + 1, i, h, hp, hj => by
    unfold fstF
    rcases Nat.lt_or_ge i n with g | g
    · rw [fst_some g hp hj]
    · obtain rfl : i = n := by omega
      rw [fst_none hj]
      simp [hp]
theorem mid_some {A : Nat → Int64} {out : Nat → Bool} {n i : Nat} (h : i < n) (hp : isM A out n i = true) (hj : ∀ j, j < i → isM A out n j = false) : midF A out n = A i := by
  unfold midF
  rw [fst_some h hp hj]
theorem mid_none {A : Nat → Int64} {out : Nat → Bool} {n : Nat} (hj : ∀ j, j < n → isM A out n j = false) : midF A out n = 0 := by
  unfold midF
  rw [fst_none hj]
theorem isM_t {A : Nat → Int64} {out : Nat → Bool} {n r : Nat} (h : out r = false) (h2 : rkF A out n r = (lfF out n - 1) / 2) : isM A out n r = true := by unfold isM; simp [h, h2]
theorem isM_f1 {A : Nat → Int64} {out : Nat → Bool} {n r : Nat} (h : out r = true) : isM A out n r = false := by unfold isM; simp [h]
theorem isM_f2 {A : Nat → Int64} {out : Nat → Bool} {n r : Nat} (h2 : ¬ rkF A out n r = (lfF out n - 1) / 2) : isM A out n r = false := by unfold isM; simp [h2]
theorem z69 {z : ZZ} (hB : Bz z) : z 69 = lN (nr z) := L64n (nr_e hB).1 (by have := (nr_e hB).2; omega)
theorem bI_t {b : Bool} {x : Int32} (e : x = bI b) (c : ¬ x = 0) : b = true := bI_1 (by rw [← e]; exact c)
theorem bI_f {b : Bool} {x : Int32} (e : x = bI b) (c : x = 0) : b = false := bI_0 (by rw [← e]; exact c)
theorem all_s {p : Nat → Bool} {i : Nat} (h : ∀ j, j < i → p j = false) (e : p i = false) : ∀ j, j < i + 1 → p j = false := fun j hj => by
  rcases Nat.lt_or_ge j i with g | g
  · exact h j g
  · obtain rfl : j = i := by omega
    exact e
