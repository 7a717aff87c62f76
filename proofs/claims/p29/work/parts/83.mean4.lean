/-! the class's mean: the other lemmas -/
def Mn (S : PS) (q : Nat → Nat) (z : ZZ) (out : Nat → Bool) : Prop := pI S (q 86) 3 = nI (nr z) ∧ (∀ j, j < nr z → pJ S (q 87) j = zAr z j) ∧ ∀ j, j < nr z → pI S (q 89) j = bI (out j)
theorem Mn.fr {S S' : PS} {q : Nat → Nat} {z : ZZ} {out : Nat → Bool} {l : List Nat} (hf : Fr S S' q l) (h6 : 86 ∉ l) (h7 : 87 ∉ l) (h9 : 89 ∉ l) (h : Mn S q z out) : Mn S' q z out := by
  unfold Mn
  rw [(hf.2.2 86 (by decide) h6).1, (hf.2.2 87 (by decide) h7).2, (hf.2.2 89 (by decide) h9).1]
  exact h
theorem mx0 {n : Nat} (h : n < 2147483648) : (if (0 : Int32) < nI n then nI n else 0) = nI n := by
  split
  · rfl
  · next g =>
    rw [show (0 : Int32) = nI 0 from rfl, nI_ltI (by omega) (by omega)] at g
    obtain rfl : n = 0 := by omega
    rfl
theorem zWi_b {z : ZZ} (hB : Bz z) : -20 ≤ (zWi z).toInt ∧ (zWi z).toInt ≤ 20 := by
  have hn := (nc_e hB).2
  have := sumF_b (f := zCr z) (B := 1) (by omega) (fun i => by
    unfold zCr
    split
    · decide
    · split
      · decide
      · decide) (nc z) (by omega)
  unfold zWi
  omega
theorem zCo_b {z : ZZ} (hB : Bz z) : -600000000 ≤ (zCo z).toInt ∧ (zCo z).toInt ≤ 600000000 := by
  have hw := zWi_b hB
  have h2 := hB.2.1.1
  unfold wtn at h2
  have e355 : (355 : Int64).toInt = 355 := by decide
  have e113 : (113 : Int64).toInt = 113 := by decide
  have e1 : (355 * z 2).toInt = 355 * (z 2).toInt := by rw [L_mul] <;> rw [e355] <;> omega
  have hm := mulb (a := 355 * (z 2).toInt) (b := (z 2).toInt) (A := 1065000) (B := 3000) (by omega) (by omega) (by omega) (by omega)
  have e2 : (355 * z 2 * z 2).toInt = 355 * (z 2).toInt * (z 2).toInt := by rw [L_mul] <;> rw [e1] <;> omega
  have hq := tdiv_q (a := 355 * (z 2).toInt * (z 2).toInt) (b := 113) (B := 28300000) (by omega) (by omega)
  have e3 : (355 * z 2 * z 2 / 113).toInt = (355 * (z 2).toInt * (z 2).toInt).tdiv 113 := by
    rw [Int64.toInt_div, e2, e113, Int.bmod_def]; omega
  have hm2 := mulb (a := (zWi z).toInt) (b := (355 * (z 2).toInt * (z 2).toInt).tdiv 113) (A := 20) (B := 28300000) (by omega) (by omega) (by omega) (by omega)
  unfold zCo
  rw [L_mul (by rw [e3]; omega) (by rw [e3]; omega), e3]
  omega
theorem zAr_b {z : ZZ} (hB : Bz z) (r : Nat) : -72057594037927936 ≤ (zAr z r).toInt ∧ (zAr z r).toInt ≤ 72057594037927936 := by
  have hc := zCo_b hB
  have hz := L_b (z (70 + 3 * r + 2))
  have hq := tdiv_q (a := (z (70 + 3 * r + 2)).toInt) (b := 512) (B := 18014398509481984) (by omega) (by omega)
  have e512 : (512 : Int64).toInt = 512 := by decide
  have e : (z (70 + 3 * r + 2) / 512).toInt = (z (70 + 3 * r + 2)).toInt.tdiv 512 := by
    rw [Int64.toInt_div, e512, Int.bmod_def]; omega
  unfold zAr
  rw [L_add (by rw [e]; omega) (by rw [e]; omega), e]
  omega
theorem midF_b {z : ZZ} (hB : Bz z) {out : Nat → Bool} {n : Nat} : -72057594037927936 ≤ (midF (zAr z) out n).toInt ∧ (midF (zAr z) out n).toInt ≤ 72057594037927936 := by
  unfold midF
  split
  · exact zAr_b hB _
  · rw [L0_0]; omega
theorem sz_0 {a b : Int64} (ha : -72057594037927936 ≤ a.toInt ∧ a.toInt ≤ 72057594037927936) (hb : -72057594037927936 ≤ b.toInt ∧ b.toInt ≤ 72057594037927936) : 0 ≤ (sz (a - b)).toInt := by
  have e : (a - b).toInt = a.toInt - b.toInt := L_sub (by omega) (by omega)
  unfold sz
  split
  · next g => rw [Int64.lt_iff_toInt_lt, L0_0] at g; rw [L_neg (by omega)]; omega
  · next g => rw [Int64.lt_iff_toInt_lt, L0_0] at g; omega
def WfI (A : Nat → Int64) (out : Nat → Bool) (m : Int64) (i : Nat) (f : Int32) (g : Int64) : Prop := ((wfF A out m i).1 = none ∧ f = 0 ∧ g = -1) ∨ ∃ r, (wfF A out m i).1 = some r ∧ f = nI r ∧ g = (wfF A out m i).2
theorem wfI_0 {A : Nat → Int64} {out : Nat → Bool} {m : Int64} : WfI A out m 0 0 (-1) := .inl ⟨rfl, rfl, rfl⟩
theorem wfI_t {A : Nat → Int64} {out : Nat → Bool} {m : Int64} {i : Nat} {f : Int32} {g : Int64} (h : WfI A out m i f g) (ho : out i = true) : WfI A out m (i + 1) f g := by
  unfold WfI
  rw [wf_keep1 ho]
  exact h
theorem wfI_k {A : Nat → Int64} {out : Nat → Bool} {m : Int64} {i : Nat} {f : Int32} {g : Int64} (h : WfI A out m i f g) (c : ¬ g < sz (A i - m)) (hs : 0 ≤ (sz (A i - m)).toInt) : WfI A out m (i + 1) f g := by
  rcases h with ⟨-, -, h⟩ | ⟨r, h1, h2, h3⟩
  · exfalso
    apply c
    rw [h, Int64.lt_iff_toInt_lt, show (-1 : Int64).toInt = -1 by decide]
    omega
  · have e : wfF A out m (i + 1) = wfF A out m i := wf_keep2 (by rw [h1]; intro x; cases x) (by rw [← h3]; exact c)
    exact .inr ⟨r, by rw [e]; exact h1, h2, by rw [e]; exact h3⟩
theorem wfI_n {A : Nat → Int64} {out : Nat → Bool} {m : Int64} {i : Nat} {f : Int32} {g : Int64} (h : WfI A out m i f g) (ho : out i = false) (c : g < sz (A i - m)) : WfI A out m (i + 1) (nI i) (sz (A i - m)) := by
  have e : wfF A out m (i + 1) = (some i, sz (A i - m)) := by
    refine wf_new ho ?_
    rcases h with ⟨h, -⟩ | ⟨r, h1, h2, h3⟩
    · exact .inl h
    · exact .inr (by rw [← h3]; exact c)
  exact .inr ⟨i, by rw [e], rfl, by rw [e]⟩
theorem wfI_e {A : Nat → Int64} {out : Nat → Bool} {m : Int64} {n : Nat} {f : Int32} {g : Int64} (h : WfI A out m n f g) (hl : 0 < lfF out n) : ∃ r, r < n ∧ f = nI r ∧ (wfF A out m n).1 = some r := by
  obtain ⟨r, a, b, c⟩ := wf_some (A := A) (m := m) hl
  rcases h with ⟨h, -⟩ | ⟨r2, h1, h2, h3⟩
  · rw [c] at h; cases h
  · rw [c] at h1
    obtain rfl := Option.some.inj h1
    exact ⟨r, a, h2, c⟩
theorem wf_val {A : Nat → Int64} {out : Nat → Bool} {m : Int64} : ∀ {i r : Nat}, (wfF A out m i).1 = some r → (wfF A out m i).2 = sz (A r - m) ∧ out r = false
  | 0, _, h => by cases h
  | i + 1, r, h => by
    by_cases c : out i = false ∧ ((wfF A out m i).1 = none ∨ (wfF A out m i).2 < sz (A i - m))
    · rw [wf_new c.1 c.2] at h ⊢
      have e : i = r := Option.some.inj h
      subst e
      exact ⟨rfl, c.1⟩
    · have e : wfF A out m (i + 1) = wfF A out m i := by rw [wfF_s]; unfold wfS; rw [if_neg c]
      rw [e] at h ⊢
      exact wf_val h
theorem Mn_set {S : PS} {q : Nat → Nat} {z : ZZ} {out : Nat → Bool} {r : Nat} (hq : Shp S.1 S.2.1 q) (h : Mn S q z out) : Mn (wI S (q 89) r 1) q z (setB out (some r)) := by
  refine ⟨(up2_a (qne hq (by decide) (by decide) (by decide))).trans h.1, h.2.1, fun j hj => ?_⟩
  by_cases e : j = r
  · subst e
    rw [show pI (wI S (q 89) j 1) (q 89) j = 1 from up2_s]
    unfold setB; rw [if_pos rfl]; rfl
  · rw [show pI (wI S (q 89) r 1) (q 89) j = pI S (q 89) j from up2_k e, h.2.2 j hj]
    unfold setB; rw [if_neg (fun z => e (Option.some.inj z).symm)]
theorem Mn_k {S : PS} {q : Nat → Nat} {z : ZZ} {out : Nat → Bool} {v : Int32} (hq : Shp S.1 S.2.1 q) (h : Mn S q z out) : Mn (wI S (q 86) 4 v) q z out := by
  refine ⟨(up2_k (by decide)).trans h.1, h.2.1, fun j hj => ?_⟩
  exact (up2_a (qne hq (by decide) (by decide) (by decide))).trans (h.2.2 j hj)
theorem le_lm {A : Nat → Int64} {tol : Int64} {n i r : Nat} {out : Nat → Bool} {o : Nat → Bool} (h : o = lmF A tol n (13 - i) out) (hi : i < 12) (h2 : 2 < lfF out n) (e : (wfF A out (midF A out n) n).1 = some r) (c : tol < sz (A r - midF A out n)) : o = lmF A tol n (13 - (i + 1)) (setB out (some r)) := by
  rw [h, lm_go (by omega) h2 (by rw [(wf_val e).1]; exact c) e, show 13 - i - 1 = 13 - (i + 1) by omega]
theorem le_stay {A : Nat → Int64} {tol : Int64} {n i r : Nat} {out : Nat → Bool} {o : Nat → Bool} (h : o = lmF A tol n (13 - i) out) (e : (wfF A out (midF A out n) n).1 = some r) (c : ¬ tol < sz (A r - midF A out n)) : o = out := by
  rw [h, lm_stay (by rw [(wf_val e).1]; exact c)]
theorem le_stop {A : Nat → Int64} {tol : Int64} {n i : Nat} {out : Nat → Bool} {o : Nat → Bool} (h : o = lmF A tol n (13 - i) out) (c : ¬ 2 < lfF out n) : o = out := by
  rw [h, lm_stop c]
theorem Cs.r {S : PS} {q : Nat → Nat} {s : Nat} {z : ZZ} (h : Cs S q s z) {r : Nat} (hr : r < nr z) : pJ S (q (10 * s + 9)) r = z (70 + 3 * r + 2) := (h.2.2.2.2.2 r hr).2.2
theorem me_q {z : ZZ} {s : Int64} (hn : nr z ≤ 12) (hs : s = zMs z (zOut z) (nr z)) {r : Int64} (hr : r = if (nI (lfF (zOut z) (nr z))).toInt64 = 0 then 0 else s / (nI (lfF (zOut z) (nr z))).toInt64) : r = zMe z := by
  have hl := lfF_le (zOut z) (nr z)
  rw [nI_L (by omega)] at hr
  unfold zMe
  rcases Nat.eq_zero_or_pos (nr z) with h | h
  · rw [if_pos h, hr]
    have : lfF (zOut z) (nr z) = 0 := by omega
    rw [this]
    exact if_pos rfl
  · rw [if_neg (by omega), hr, hs, if_neg (lN_ne0 (lfO_pos h) (by omega))]
theorem zJ_set {S : PS} {a i : Nat} {x : Int64} {g : Nat → Int64} (h : ∀ j, j < i → pJ S a j = g j) (hx : x = g i) : ∀ j, j < i + 1 → pJ (wJ S a i x) a j = g j := by
  intro j hj
  by_cases e : j = i
  · subst e; exact up2_s.trans hx
  · exact (up2_k e).trans (h j (by omega))
