/-! the history: states are told by places; pm tells which place is at which index -/
def FrP (S S' : PS) (q : Nat → Nat) (P : Nat → Prop) : Prop := S'.1 = S.1 ∧ (∀ b, b ≠ q 82 → S'.2.1 b = S.2.1 b) ∧ ∀ i, i < 98 → P i → pI S' (q i) = pI S (q i) ∧ pJ S' (q i) = pJ S (q i)
theorem FrP.rf {S : PS} {q : Nat → Nat} {P : Nat → Prop} : FrP S S q P := ⟨rfl, fun _ _ => rfl, fun _ _ _ => ⟨rfl, rfl⟩⟩
theorem FrP.tr {S S' S2 : PS} {q : Nat → Nat} {P P1 P2 : Nat → Prop} (h : FrP S S' q P1) (h2 : FrP S' S2 q P2) (e1 : ∀ i, i < 98 → P i → P1 i) (e2 : ∀ i, i < 98 → P i → P2 i) : FrP S S2 q P := by
  refine ⟨h2.1.trans h.1, fun b hb => (h2.2.1 b hb).trans (h.2.1 b hb), fun i hi hp => ?_⟩
  obtain ⟨a, b⟩ := h.2.2 i hi (e1 i hi hp)
  obtain ⟨a2, b2⟩ := h2.2.2 i hi (e2 i hi hp)
  exact ⟨a2.trans a, b2.trans b⟩
theorem FrP.of {S S' : PS} {q : Nat → Nat} {P : Nat → Prop} {l : List Nat} (h : Fr S S' q l) (e : ∀ i, i < 98 → P i → i ∉ l) : FrP S S' q P := ⟨h.1, fun b _ => by rw [h.2.1], fun i hi hp => h.2.2 i hi (e i hi hp)⟩
theorem FrP.wR {S S' : PS} {q : Nat → Nat} {P : Nat → Prop} {k : Nat} {v : Option Nat} (h : FrP S S' q P) : FrP S (wR S' (q 82) k v) q P := ⟨h.1, fun b hb => (up2_r hb).trans (h.2.1 b hb), h.2.2⟩
theorem ShpR_ch {R R' : Nat → Nat → Option Nat} {sh : Sh} {q : Nat → Nat} (h : Shp sh R q) (e : ∀ b, b ≠ q 82 → R' b = R b) : Shp sh R' q := by
  refine ⟨h.1, h.2.1, h.2.2.1, ?_⟩
  have e2 : ∀ i, i < 98 → i ≠ 82 → R' (q i) = R (q i) := fun i hi hn => e _ (qne h hi (by decide) hn)
  obtain ⟨g, g2⟩ := h.2.2.2
  unfold ShpR
  rw [e2 80 (by decide) (by decide), e2 81 (by decide) (by decide), e2 83 (by decide) (by decide), e2 86 (by decide) (by decide), e2 90 (by decide) (by decide)]
  refine ⟨fun s hs => ?_, g2⟩
  rw [e2 (10 * s) (by omega) (by omega), e2 (10 * s + 2) (by omega) (by omega), e2 (10 * s + 6) (by omega) (by omega)]
  exact g s hs
theorem FrP.q {S S' : PS} {q : Nat → Nat} {P : Nat → Prop} (h : FrP S S' q P) (hq : Shp S.1 S.2.1 q) : Shp S'.1 S'.2.1 q := by
  rw [h.1]
  exact ShpR_ch hq h.2.1
theorem Cs.frp {S S' : PS} {q : Nat → Nat} {s : Nat} {z : ZZ} {P : Nat → Prop} (hs : s < 8) (hf : FrP S S' q P) (hl : ∀ i, i < 10 → P (10 * s + i)) (h : Cs S q s z) : Cs S' q s z := h.of (fun i hi => hf.2.2 _ (by omega) (hl i hi))
/-- the saved states: H, the oldest one first -/
def Hs (S : PS) (q : Nat → Nat) (pm : Nat → Nat) (H : List ZZ) : Prop := pI S (q 81) 0 = nI H.length ∧ H.length ≤ 6 ∧ (∀ i, i < 6 → pR S (q 82) i = some (q (10 * pm i))) ∧ (∀ i, i < 6 → 2 ≤ pm i ∧ pm i < 8) ∧ (∀ i j, i < 6 → j < 6 → pm i = pm j → i = j) ∧ ∀ i y, H[i]? = some y → Cs S q (pm i) y
def pmR (pm : Nat → Nat) : Nat → Nat := fun i => if i < 5 then pm (i + 1) else pm 0
theorem Hs_drop {S S' : PS} {q : Nat → Nat} {pm : Nat → Nat} {H : List ZZ} {P : Nat → Prop} (h : Hs S q pm H) (h6 : H.length = 6) (hf : FrP S S' q P) (hP : ∀ i, i < 80 → P i) (hr : ∀ i, i < 6 → pR S' (q 82) i = if i < 5 then pR S (q 82) (i + 1) else pR S (q 82) 0) (hs : pI S' (q 81) 0 = nI 5) : Hs S' q (pmR pm) H.tail := by
  obtain ⟨h1, h2, h3, h4, h5, h7⟩ := h
  refine ⟨by rw [hs, List.length_tail, h6], by rw [List.length_tail]; omega, fun i hi => ?_, fun i hi => ?_, fun i j hi hj e => ?_, fun i y hy => ?_⟩
  · rw [hr i hi]
    unfold pmR
    split
    · exact h3 (i + 1) (by omega)
    · exact h3 0 (by omega)
  · unfold pmR
    split
    · exact h4 (i + 1) (by omega)
    · exact h4 0 (by omega)
  · unfold pmR at e
    split at e
    · split at e
      · have := h5 _ _ (by omega) (by omega) e; omega
      · have := h5 _ _ (by omega) (by omega) e; omega
    · split at e
      · have := h5 _ _ (by omega) (by omega) e; omega
      · omega
  · have hi := (List.getElem?_eq_some_iff.mp hy).1
    rw [List.length_tail] at hi
    rw [List.getElem?_tail] at hy
    have e : pmR pm i = pm (i + 1) := by unfold pmR; rw [if_pos (by omega)]
    rw [e]
    have hb := h4 (i + 1) (by omega)
    exact (h7 (i + 1) y hy).frp (by omega) hf (fun k hk => hP _ (by omega))
theorem Hs_push {S S' : PS} {q : Nat → Nat} {pm : Nat → Nat} {H : List ZZ} {z : ZZ} (h : Hs S q pm H) (h6 : H.length < 6) (hf : Fr S S' q [10 * pm H.length, 10 * pm H.length + 1, 10 * pm H.length + 2, 10 * pm H.length + 3, 10 * pm H.length + 4, 10 * pm H.length + 5, 10 * pm H.length + 6, 10 * pm H.length + 7, 10 * pm H.length + 8, 10 * pm H.length + 9, 81]) (hs : pI S' (q 81) 0 = nI (H.length + 1)) (hc : Cs S' q (pm H.length) z) : Hs S' q pm (H ++ [z]) := by
  obtain ⟨h1, h2, h3, h4, h5, h7⟩ := h
  refine ⟨by rw [hs]; simp, by simp; omega, fun i hi => ?_, h4, h5, fun i y hy => ?_⟩
  · show S'.2.1 (q 82) i = _
    rw [hf.2.1]; exact h3 i hi
  · rcases Nat.lt_or_ge i H.length with g | g
    · rw [List.getElem?_append_left g] at hy
      have hb := h4 i (by omega)
      have hn : pm i ≠ pm H.length := fun e => by have := h5 _ _ (by omega) (by omega) e; omega
      have hb2 := h4 H.length (by omega)
      exact (h7 i y hy).fr (by omega) hf (fun k hk => by simp; omega)
    · have hi := (List.getElem?_eq_some_iff.mp hy).1
      simp at hi
      have e : i = H.length := by omega
      subst e
      rw [List.getElem?_append_right (by omega)] at hy
      simp at hy
      rw [← hy]; exact hc
theorem Hs_pop {S S' : PS} {q : Nat → Nat} {pm : Nat → Nat} {H : List ZZ} (h : Hs S q pm H) (hf : Fr S S' q [0, 1, 2, 3, 4, 5, 6, 7, 8, 9, 81]) (hs : pI S' (q 81) 0 = nI (H.length - 1)) : Hs S' q pm H.dropLast := by
  obtain ⟨h1, h2, h3, h4, h5, h7⟩ := h
  refine ⟨by rw [hs, List.length_dropLast], by rw [List.length_dropLast]; omega, fun i hi => ?_, h4, h5, fun i y hy => ?_⟩
  · show S'.2.1 (q 82) i = _
    rw [hf.2.1]; exact h3 i hi
  · rw [List.getElem?_dropLast] at hy
    split at hy
    · next g =>
      have hb := h4 i (by omega)
      exact (h7 i y hy).fr (by omega) hf (fun k hk => by simp; omega)
    · cases hy
theorem Hs.frp {S S' : PS} {q : Nat → Nat} {pm : Nat → Nat} {H : List ZZ} {l : List Nat} (hf : Fr S S' q l) (hl : ∀ i, i < 98 → 20 ≤ i → i < 82 → i ∉ l) (h8 : 81 ∉ l) (h : Hs S q pm H) : Hs S' q pm H := by
  obtain ⟨h1, h2, h3, h4, h5, h7⟩ := h
  refine ⟨((congrFun (hf.2.2 81 (by decide) h8).1 0)).trans h1, h2, fun i hi => ?_, h4, h5, fun i y hy => ?_⟩
  · show S'.2.1 (q 82) i = _
    rw [hf.2.1]; exact h3 i hi
  · have hi := (List.getElem?_eq_some_iff.mp hy).1
    have hb := h4 i (by omega)
    exact (h7 i y hy).fr (by omega) hf (fun k hk => hl _ (by omega) (by omega) (by omega))
theorem dr_s {R : Nat → Option Nat} {R1 : Nat → Option Nat} {i : Nat} (hi : 1 ≤ i) (h : ∀ j, R1 j = if j + 1 < i then R (j + 1) else R j) : ∀ j, (if j = i - 1 then R1 i else R1 j) = if j + 1 < i + 1 then R (j + 1) else R j := by
  intro j
  by_cases e : j = i - 1
  · rw [if_pos e, h, if_neg (by omega), if_pos (by omega), show j + 1 = i by omega]
  · rw [if_neg e, h]
    by_cases g : j + 1 < i
    · rw [if_pos g, if_pos (by omega)]
    · rw [if_neg g, if_neg (by omega)]
theorem FrP.wI {S S' : PS} {q : Nat → Nat} {P : Nat → Prop} {j k : Nat} {v : Int32} (hq : Shp S.1 S.2.1 q) (h : FrP S S' q P) (hj : j < 98) (hn : ¬ P j) : FrP S (wI S' (q j) k v) q P := by
  refine ⟨h.1, h.2.1, fun i hi hp => ⟨?_, (h.2.2 i hi hp).2⟩⟩
  rw [← (h.2.2 i hi hp).1]
  exact up2_r (qne hq hi hj (fun e => hn (e ▸ hp)))
theorem wR_row {S : PS} {a k : Nat} {v : Option Nat} (j : Nat) : pR (wR S a k v) a j = if j = k then v else pR S a j := by
  show up2 S.2.1 a k v a j = _
  unfold up2
  rw [if_pos rfl]
theorem wR_q {S : PS} {q : Nat → Nat} {k : Nat} {v : Option Nat} (hq : Shp S.1 S.2.1 q) : Shp (wR S (q 82) k v).1 (wR S (q 82) k v).2.1 q := FrP.q (FrP.wR (P := fun _ => True) FrP.rf) hq
theorem dr_e {R R1 R2 : Nat → Option Nat} {v : Option Nat} (h : ∀ j, R1 j = if j + 1 < 6 then R (j + 1) else R j) (h2 : ∀ j, R2 j = if j = 5 then v else R1 j) (hv : v = R 0) : ∀ i, i < 6 → R2 i = if i < 5 then R (i + 1) else R 0 := by
  intro i hi
  rw [h2]
  by_cases e : i = 5
  · rw [if_pos e, if_neg (by omega), hv]
  · rw [if_neg e, h, if_pos (by omega), if_pos (by omega)]
