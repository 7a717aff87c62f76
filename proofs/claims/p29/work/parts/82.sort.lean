/-! the class's mean: kept values in ascending order -/
def Sorted (asc : Nat → Int64) (m : Nat) : Prop := ∀ j k, j < k → k < m → asc j ≤ asc k
def shA (asc : Nat → Int64) (m p : Nat) : Nat → Int64 := fun j => if p < j ∧ j ≤ m then asc (j - 1) else asc j
def inA (asc : Nat → Int64) (m p : Nat) (a : Int64) : Nat → Int64 := fun j => if j < p then asc j else if j = p then a else if j ≤ m then asc (j - 1) else asc j
theorem sh_0 {asc : Nat → Int64} {m : Nat} : asc = shA asc m m := by funext j; unfold shA; rw [if_neg (by omega)]
theorem sh_s {asc : Nat → Int64} {m p : Nat} (h : 0 < p) (h2 : p ≤ m) : vp_updL (shA asc m p) p (shA asc m p (p - 1)) = shA asc m (p - 1) := by
  funext j
  show (if j = p then shA asc m p (p - 1) else shA asc m p j) = shA asc m (p - 1) j
  unfold shA
  by_cases e : j = p
  · rw [if_pos e, if_neg (by omega), if_pos (by omega), e]
  · rw [if_neg e]
    by_cases g : p < j ∧ j ≤ m
    · rw [if_pos g, if_pos (by omega)]
    · rw [if_neg g, if_neg (by omega)]
theorem sh_e {asc : Nat → Int64} {m p : Nat} {a : Int64} : vp_updL (shA asc m p) p a = inA asc m p a := by
  funext j
  show (if j = p then a else shA asc m p j) = inA asc m p a j
  unfold shA inA
  by_cases e : j = p
  · rw [if_pos e, if_neg (by omega), if_pos e]
  · rw [if_neg e]
    by_cases g : j < p
    · rw [if_pos g, if_neg (by omega)]
    · rw [if_neg g, if_neg e]
      by_cases g2 : j ≤ m
      · rw [if_pos g2, if_pos (by omega)]
      · rw [if_neg g2, if_neg (by omega)]
theorem sh_v {asc : Nat → Int64} {m p : Nat} (h : 0 < p) : shA asc m p (p - 1) = asc (p - 1) := by unfold shA; rw [if_neg (by omega)]
theorem in_sorted {asc : Nat → Int64} {m p : Nat} {a : Int64} (hs : Sorted asc m) (hp : p ≤ m) (h1 : ∀ j, j < p → asc j ≤ a) (h2 : ∀ j, p ≤ j → j < m → a < asc j) : Sorted (inA asc m p a) (m + 1) := by
  intro j k hjk hk
  have hle : ∀ x y : Int64, x < y → x ≤ y := fun x y h => by rw [Int64.lt_iff_toInt_lt] at h; rw [Int64.le_iff_toInt_le]; omega
  unfold inA
  by_cases g1 : j < p
  · rw [if_pos g1]
    by_cases g2 : k < p
    · rw [if_pos g2]; exact hs j k hjk (by omega)
    · rw [if_neg g2]
      by_cases g3 : k = p
      · rw [if_pos g3]; exact h1 j g1
      · rw [if_neg g3, if_pos (by omega)]
        exact L_le_t (h1 j g1) (hle _ _ (h2 (k - 1) (by omega) (by omega)))
  · rw [if_neg g1, if_neg (show ¬ k < p by omega), if_neg (show ¬ k = p by omega), if_pos (show k ≤ m by omega)]
    by_cases g3 : j = p
    · rw [if_pos g3]; exact hle _ _ (h2 (k - 1) (by omega) (by omega))
    · rw [if_neg g3, if_pos (by omega)]; exact hs (j - 1) (k - 1) (by omega) (by omega)
theorem cnt_mono {p r : Nat → Bool} : ∀ {n : Nat}, (∀ o, o < n → p o = true → r o = true) → cntF p n ≤ cntF r n
  | 0, _ => Nat.le_refl 0
  | n + 1, h => by
    have ih := cnt_mono (p := p) (r := r) (n := n) (fun o ho => h o (by omega))
    cases hp : p n
    · rw [cnt_f hp]
      cases hr : r n
      · rw [cnt_f hr]; omega
      · rw [cnt_t hr]; omega
    · rw [cnt_t hp, cnt_t (h n (by omega) hp)]; omega
theorem cnt_strict {p r : Nat → Bool} {x : Nat} : ∀ {n : Nat}, x < n → p x = false → r x = true → (∀ o, o < n → p o = true → r o = true) → cntF p n + 1 ≤ cntF r n
  | 0, h, _, _, _ => absurd h (by omega)
  | n + 1, h, h1, h2, h3 => by
    rcases Nat.lt_or_ge x n with g | g
    · have ih := cnt_strict (n := n) g h1 h2 (fun o ho => h3 o (by omega))
      cases hp : p n
      · rw [cnt_f hp]
        cases hr : r n
        · rw [cnt_f hr]; omega
        · rw [cnt_t hr]; omega
      · rw [cnt_t hp, cnt_t (h3 n (by omega) hp)]; omega
    · obtain rfl : x = n := by omega
      rw [cnt_f h1, cnt_t h2]
      have := cnt_mono (p := p) (r := r) (n := x) (fun o ho => h3 o (by omega))
      omega
/-- how many kept ones among the first i are ahead of r -/
def rkI (A : Nat → Int64) (out : Nat → Bool) (i r : Nat) : Nat := cntF (fun o => !out o && ahd A o r) i
def SoI (A : Nat → Int64) (out : Nat → Bool) (i m : Nat) (asc : Nat → Int64) : Prop := Sorted asc m ∧ m = lfF out i ∧ (∀ r, r < i → out r = false → rkI A out i r < m ∧ asc (rkI A out i r) = A r) ∧ ∀ j, j < m → ∃ r, r < i ∧ out r = false ∧ rkI A out i r = j
theorem So_0 {A : Nat → Int64} {out : Nat → Bool} {asc : Nat → Int64} : SoI A out 0 0 asc := ⟨fun j k _ h => absurd h (by omega), rfl, fun r h => absurd h (by omega), fun j h => absurd h (by omega)⟩
theorem So_t {A : Nat → Int64} {out : Nat → Bool} {i m : Nat} {asc : Nat → Int64} (h : SoI A out i m asc) (ho : out i = true) : SoI A out (i + 1) m asc := by
  obtain ⟨h1, h2, h3, h4⟩ := h
  have e : ∀ r, rkI A out (i + 1) r = rkI A out i r := fun r => cnt_f (by simp [ho])
  refine ⟨h1, by rw [lfF_t ho]; exact h2, fun r hr hor => ?_, fun j hj => ?_⟩
  · rw [e]
    rcases Nat.lt_or_ge r i with g | g
    · exact h3 r g hor
    · obtain rfl : r = i := by omega
      rw [ho] at hor; cases hor
  · obtain ⟨r, a, b, c⟩ := h4 j hj
    exact ⟨r, by omega, b, by rw [e]; exact c⟩
theorem ahd_lt {A : Nat → Int64} {o r : Nat} (h : A o < A r) : ahd A o r = true := ahd_t (.inl h)
theorem ahd_self {A : Nat → Int64} {r : Nat} : ahd A r r = false := ahd_f (fun h => by rw [Int64.lt_iff_toInt_lt] at h; omega) (fun h => absurd h.2 (by omega))
theorem ahd_i {A : Nat → Int64} {o r : Nat} (h : ahd A o r = true) : A o ≤ A r := by
  unfold ahd at h
  simp only [Bool.or_eq_true, Bool.and_eq_true, decide_eq_true_eq] at h
  rcases h with h | h
  · rw [Int64.lt_iff_toInt_lt] at h; rw [Int64.le_iff_toInt_le]; omega
  · rw [h.1]; exact L_le_r
theorem ahd_le {A : Nat → Int64} {o r : Nat} (h : A o ≤ A r) (h2 : o < r) : ahd A o r = true := by
  by_cases g : A o < A r
  · exact ahd_lt g
  · refine ahd_t (.inr ⟨?_, h2⟩)
    apply Int64.toInt_inj.mp
    rw [Int64.lt_iff_toInt_lt] at g
    rw [Int64.le_iff_toInt_le] at h
    omega
theorem So_f {A : Nat → Int64} {out : Nat → Bool} {i m p : Nat} {asc : Nat → Int64} (h : SoI A out i m asc) (ho : out i = false) (hp : p ≤ m) (g1 : ∀ j, j < p → asc j ≤ A i) (g2 : ∀ j, p ≤ j → j < m → A i < asc j) : SoI A out (i + 1) (m + 1) (inA asc m p (A i)) := by
  obtain ⟨h1, h2, h3, h4⟩ := h
  have er : ∀ r, A i < A r → rkI A out (i + 1) r = rkI A out i r + 1 := fun r h => cnt_t (by simp [ho, ahd_lt h])
  have en : ∀ r, r < i → ¬ A i < A r → rkI A out (i + 1) r = rkI A out i r := fun r hr h => cnt_f (by simp [ho, ahd_f h (fun g => absurd g.2 (by omega))])
  have ei : rkI A out (i + 1) i = rkI A out i i := cnt_f (by simp [ahd_self])
  have hcp : rkI A out i i = p := by
    have hle : rkI A out i i ≤ p := by
      rcases Nat.lt_or_ge p m with g | g
      · obtain ⟨r, a, b, c⟩ := h4 p g
        have hv := (h3 r a b).2
        rw [c] at hv
        have hlt := g2 p (Nat.le_refl p) g
        rw [hv] at hlt
        rw [← c]
        refine cnt_mono (fun o hoi hb => ?_)
        simp only [Bool.and_eq_true] at hb ⊢
        refine ⟨hb.1, ahd_lt ?_⟩
        have := ahd_i hb.2
        rw [Int64.le_iff_toInt_le] at this
        rw [Int64.lt_iff_toInt_lt] at hlt ⊢
        omega
      · have : rkI A out i i ≤ lfF out i := cnt_mono (fun o hoi hb => by simp only [Bool.and_eq_true] at hb; exact hb.1)
        omega
    have hge : p ≤ rkI A out i i := by
      rcases Nat.eq_zero_or_pos p with g | g
      · omega
      · obtain ⟨r, a, b, c⟩ := h4 (p - 1) (by omega)
        have hv := (h3 r a b).2
        rw [c] at hv
        have hl := g1 (p - 1) (by omega)
        rw [hv] at hl
        have := cnt_strict (p := fun o => !out o && ahd A o r) (r := fun o => !out o && ahd A o i) (x := r) (n := i) a (by simp [ahd_self]) (by simp [b, ahd_le hl a]) (fun o hoi hb => by
          simp only [Bool.and_eq_true] at hb ⊢
          exact ⟨hb.1, ahd_le (L_le_t (ahd_i hb.2) hl) hoi⟩)
        have e : cntF (fun o => !out o && ahd A o r) i = p - 1 := c
        have e2 : cntF (fun o => !out o && ahd A o i) i = rkI A out i i := rfl
        omega
    omega
  refine ⟨in_sorted h1 hp g1 g2, by rw [lfF_f ho, h2], fun r hr hor => ?_, fun j hj => ?_⟩
  · rcases Nat.lt_or_ge r i with g | g
    · obtain ⟨a, b⟩ := h3 r g hor
      by_cases c : A i < A r
      · rw [er r c]
        have hpr : p ≤ rkI A out i r := by
          rcases Nat.lt_or_ge (rkI A out i r) p with x | x
          · have := g1 _ x
            rw [b] at this
            rw [Int64.le_iff_toInt_le] at this
            rw [Int64.lt_iff_toInt_lt] at c
            omega
          · exact x
        refine ⟨by omega, ?_⟩
        unfold inA
        rw [if_neg (by omega), if_neg (by omega), if_pos (by omega)]
        exact b
      · rw [en r g c]
        have hpr : rkI A out i r < p := by
          rcases Nat.lt_or_ge (rkI A out i r) p with x | x
          · exact x
          · have := g2 _ x a
            rw [b] at this
            exact absurd this c
        refine ⟨by omega, ?_⟩
        unfold inA
        rw [if_pos hpr]
        exact b
    · obtain rfl : r = i := by omega
      rw [ei, hcp]
      refine ⟨by omega, ?_⟩
      unfold inA
      rw [if_neg (by omega), if_pos rfl]
  · rcases Nat.lt_trichotomy j p with g | g | g
    · obtain ⟨r, a, b, c⟩ := h4 j (by omega)
      have hv := (h3 r a b).2
      rw [c] at hv
      have hl := g1 j g
      rw [hv] at hl
      exact ⟨r, by omega, b, by rw [en r a (fun x => by rw [Int64.le_iff_toInt_le] at hl; rw [Int64.lt_iff_toInt_lt] at x; omega)]; exact c⟩
    · exact ⟨i, by omega, ho, by rw [ei, hcp, g]⟩
    · obtain ⟨r, a, b, c⟩ := h4 (j - 1) (by omega)
      have hv := (h3 r a b).2
      rw [c] at hv
      have hl := g2 (j - 1) (by omega) (by omega)
      rw [hv] at hl
      exact ⟨r, by omega, b, by rw [er r hl, c]; omega⟩
theorem rk_rkI {A : Nat → Int64} {out : Nat → Bool} {n r : Nat} : rkF A out n r = rkI A out n r := rfl
theorem So_mid {A : Nat → Int64} {out : Nat → Bool} {n m : Nat} {asc : Nat → Int64} (h : SoI A out n m asc) (hm : 0 < m) : asc ((m - 1) / 2) = midF A out n := by
  obtain ⟨h1, h2, h3, h4⟩ := h
  have key : ∀ k, (∀ r, r < k → isM A out n r = false) ∨ ∃ r, r < k ∧ isM A out n r = true ∧ ∀ j, j < r → isM A out n j = false := by
    intro k
    induction k with
    | zero => exact .inl (fun r hr => absurd hr (by omega))
    | succ k ih =>
      rcases ih with ih | ⟨r, a, b, c⟩
      · cases hk : isM A out n k
        · exact .inl (all_s ih hk)
        · exact .inr ⟨k, by omega, hk, ih⟩
      · exact .inr ⟨r, by omega, b, c⟩
  have isMt : ∀ r, isM A out n r = true → out r = false ∧ rkI A out n r = (lfF out n - 1) / 2 := by
    intro r hr
    unfold isM at hr
    simp only [Bool.and_eq_true, Bool.not_eq_true', decide_eq_true_eq] at hr
    exact hr
  rcases key n with g | ⟨r, a, b, c⟩
  · obtain ⟨r, a, b, c⟩ := h4 ((m - 1) / 2) (by omega)
    have := isM_t (A := A) (n := n) b (by rw [rk_rkI, c, h2])
    rw [g r a] at this; cases this
  · obtain ⟨x, y⟩ := isMt r b
    rw [mid_some a b c, ← (h3 r a x).2, y, h2]
