/-! the class: its relation to (state, saved states, latest reason, length, text) -/
def P94 : Nat → Prop := fun i => 94 ≤ i
abbrev FC : List Nat := [0, 1, 2, 3, 4, 5, 6, 7, 8, 9, 10, 11, 12, 13, 14, 15, 16, 17, 18, 19, 80, 83, 84, 85, 86, 87, 88, 89, 90, 91, 92, 93]
theorem FC_94 : ∀ i, i < 98 → P94 i → i ∉ FC := fun i hi h => by unfold P94 at h; simp; omega
def Cl (S : PS) (q : Nat → Nat) (w : WW) : Prop := Cs S q 0 w.1 ∧ (∃ pm, Hs S q pm w.2.1) ∧ pI S (q 80) 7 = nI w.2.2.2.1 ∧ pI S (q 80) 8 = w.2.2.1 ∧ ∀ j, j < w.2.2.2.1 → pI S (q 93) j = w.2.2.2.2 j
theorem Hs.frq {S S' : PS} {q : Nat → Nat} {pm : Nat → Nat} {H : List ZZ} {l : List Nat} (hf : Fr S S' q l) (hl : ∀ i, 20 ≤ i → i < 80 → i ∉ l) (h8 : 81 ∉ l) (h : Hs S q pm H) : Hs S' q pm H := by
  obtain ⟨h1, h2, h3, h4, h5, h7⟩ := h
  refine ⟨((congrFun (hf.2.2 81 (by decide) h8).1 0)).trans h1, h2, fun i hi => ?_, h4, h5, fun i y hy => ?_⟩
  · show S'.2.1 (q 82) i = _
    rw [hf.2.1]; exact h3 i hi
  · have hi := (List.getElem?_eq_some_iff.mp hy).1
    have hb := h4 i (by omega)
    exact (h7 i y hy).fr (by omega) hf (fun k hk => hl _ (by omega) (by omega))
theorem FC_hs : ∀ i, 20 ≤ i → i < 80 → i ∉ FC := fun i h1 h2 => by simp; omega
theorem Cl_up {S S' : PS} {q : Nat → Nat} {z' : ZZ} {H : List ZZ} {l' : Int32} {n' : Nat} {tx' : Nat → Int32} (hV : ∃ pm, Hs S q pm H) (hf : Fr S S' q FC) (c : Cs S' q 0 z') (h7 : pI S' (q 80) 7 = nI n') (h8 : pI S' (q 80) 8 = l') (hb : ∀ j, j < n' → pI S' (q 93) j = tx' j) : Cl S' q (z', H, l', n', tx') := by
  obtain ⟨pm, hH⟩ := hV
  exact ⟨c, ⟨pm, hH.frq hf FC_hs (by decide)⟩, h7, h8, hb⟩
theorem P_fc {S S' : PS} {q : Nat → Nat} (hf : Fr S S' q FC) : FrP S S' q P94 := FrP.of hf FC_94
theorem P_tr {S S' S2 : PS} {q : Nat → Nat} (h : FrP S S' q P94) (h2 : FrP S' S2 q P94) : FrP S S2 q P94 := FrP.tr h h2 (fun _ _ h => h) (fun _ _ h => h)
theorem P_sv {S S' : PS} {q : Nat → Nat} (h : FrP S S' q (fun i => i < 20 ∨ i = 80 ∨ 82 ≤ i)) : FrP S S' q P94 := FrP.tr h FrP.rf (fun i _ g => .inr (.inr (by unfold P94 at g; omega))) (fun _ _ h => h)
theorem t_err {t c : Int32} {α : Type} {A : Int32 × α} {w : α} (h : t = c) (h0 : c ≠ 0) : (if t = 0 then A else (t, w)) = (c, w) := by subst h; exact if_neg h0
section CsMut
variable {S : PS} {q : Nat → Nat} {s : Nat} {z : ZZ}
theorem oth {o j : Nat} {v : Int32} (hq : Shp S.1 S.2.1 q) (hs : s < 8) (ho : o < 10) : ∀ i, i < 10 → i ≠ o → pI (wI S (q (10 * s + o)) j v) (q (10 * s + i)) = pI S (q (10 * s + i)) := fun i hi h => up2_r (qne hq (by omega) (by omega) (by omega))
theorem Cs_f {j c : Nat} {x : Int32} (hq : Shp S.1 S.2.1 q) (hs : s < 8) (hjc : j = 0 ∧ c = 0 ∨ j = 1 ∧ c = 1 ∨ j = 2 ∧ c = 7) (hc : Cs S q s z) : Cs (wI S (q (10 * s)) j x) q s (vp_updL z c x.toInt64) := by
  have e := oth (o := 0) (j := j) (v := x) hq hs (by omega)
  have hne : ∀ k, 2 ≤ k → k ≠ 7 → vp_updL z c x.toInt64 k = z k := fun k h h2 => uLn (by omega)
  have en : nc (vp_updL z c x.toInt64) = nc z := by unfold nc; rw [hne 8 (by omega) (by omega)]
  have er : nr (vp_updL z c x.toInt64) = nr z := by unfold nr; rw [hne 69 (by omega) (by omega)]
  unfold Cs
  rw [en, er]
  refine ⟨?_, fun i hi => ?_, (congrFun (e 2 (by omega) (by omega)) 0).trans hc.2.2.1, fun k hk => ?_, (congrFun (e 6 (by omega) (by omega)) 0).trans hc.2.2.2.2.1, fun r hr => ?_⟩
  · obtain ⟨a, b, d⟩ := hc.1
    rcases hjc with ⟨rfl, rfl⟩ | ⟨rfl, rfl⟩ | ⟨rfl, rfl⟩
    · exact ⟨by rw [uLs]; exact congrArg Int32.toInt64 up2_s, by rw [uLn (by omega)]; exact (congrArg Int32.toInt64 (up2_k (by decide))).trans b, by rw [uLn (by omega)]; exact (congrArg Int32.toInt64 (up2_k (by decide))).trans d⟩
    · exact ⟨by rw [uLn (by omega)]; exact (congrArg Int32.toInt64 (up2_k (by decide))).trans a, by rw [uLs]; exact congrArg Int32.toInt64 up2_s, by rw [uLn (by omega)]; exact (congrArg Int32.toInt64 (up2_k (by decide))).trans d⟩
    · exact ⟨by rw [uLn (by omega)]; exact (congrArg Int32.toInt64 (up2_k (by decide))).trans a, by rw [uLn (by omega)]; exact (congrArg Int32.toInt64 (up2_k (by decide))).trans b, by rw [uLs]; exact congrArg Int32.toInt64 up2_s⟩
  · rw [hne _ (by omega) (by omega)]; exact (congrArg Int32.toInt64 (congrFun (e 1 (by omega) (by omega)) i)).trans (hc.2.1 i hi)
  · rw [hne _ (by omega) (by omega), hne _ (by omega) (by omega), hne _ (by omega) (by omega)]
    have g3 := e 3 (by omega) (by omega)
    have g4 := e 4 (by omega) (by omega)
    have g5 := e 5 (by omega) (by omega)
    obtain ⟨a, b, d⟩ := hc.2.2.2.1 k hk
    exact ⟨(congrArg Int32.toInt64 (congrFun g3 k)).trans a, (congrArg Int32.toInt64 (congrFun g4 k)).trans b, (congrArg Int32.toInt64 (congrFun g5 k)).trans d⟩
  · rw [hne _ (by omega) (by omega), hne _ (by omega) (by omega), hne _ (by omega) (by omega)]
    obtain ⟨a, b, d⟩ := hc.2.2.2.2.2 r hr
    exact ⟨(congrArg Int32.toInt64 (congrFun (e 7 (by omega) (by omega)) r)).trans a, (congrArg Int32.toInt64 (congrFun (e 8 (by omega) (by omega)) r)).trans b, d⟩
theorem Cs_st {j : Nat} {x : Int32} (hq : Shp S.1 S.2.1 q) (hs : s < 8) (hj : j < 5) (hc : Cs S q s z) : Cs (wI S (q (10 * s + 1)) j x) q s (vp_updL z (2 + j) x.toInt64) := by
  have e := oth (o := 1) (j := j) (v := x) hq hs (by omega)
  have hne : ∀ k, k < 2 ∨ 6 < k → vp_updL z (2 + j) x.toInt64 k = z k := fun k h => uLn (by omega)
  have en : nc (vp_updL z (2 + j) x.toInt64) = nc z := by unfold nc; rw [hne 8 (by omega)]
  have er : nr (vp_updL z (2 + j) x.toInt64) = nr z := by unfold nr; rw [hne 69 (by omega)]
  have e0 : pI (wI S (q (10 * s + 1)) j x) (q (10 * s)) = pI S (q (10 * s)) := e 0 (by omega) (by omega)
  unfold Cs
  rw [en, er, e0, hne 0 (by omega), hne 1 (by omega), hne 7 (by omega)]
  refine ⟨hc.1, fun i hi => ?_, (congrFun (e 2 (by omega) (by omega)) 0).trans hc.2.2.1, fun k hk => ?_, (congrFun (e 6 (by omega) (by omega)) 0).trans hc.2.2.2.2.1, fun r hr => ?_⟩
  · by_cases g : i = j
    · subst g; rw [uLs]; exact congrArg Int32.toInt64 up2_s
    · rw [uLn (by omega)]; exact (congrArg Int32.toInt64 (up2_k g)).trans (hc.2.1 i hi)
  · rw [hne _ (by omega), hne _ (by omega), hne _ (by omega)]
    have g3 := e 3 (by omega) (by omega)
    have g4 := e 4 (by omega) (by omega)
    have g5 := e 5 (by omega) (by omega)
    obtain ⟨a, b, d⟩ := hc.2.2.2.1 k hk
    exact ⟨(congrArg Int32.toInt64 (congrFun g3 k)).trans a, (congrArg Int32.toInt64 (congrFun g4 k)).trans b, (congrArg Int32.toInt64 (congrFun g5 k)).trans d⟩
  · rw [hne _ (by omega), hne _ (by omega), hne _ (by omega)]
    obtain ⟨a, b, d⟩ := hc.2.2.2.2.2 r hr
    exact ⟨(congrArg Int32.toInt64 (congrFun (e 7 (by omega) (by omega)) r)).trans a, (congrArg Int32.toInt64 (congrFun (e 8 (by omega) (by omega)) r)).trans b, d⟩
/-- a corner's cell: o = 3, 4, 5 -/
theorem Cs_pt {o j c : Nat} {x : Int32} (hq : Shp S.1 S.2.1 q) (hs : s < 8) (ho : 3 ≤ o ∧ o ≤ 5) (h20 : nc z ≤ 20) (hj : j < nc z) (hcc : c = 9 + 3 * j + (o - 3)) (hc : Cs S q s z) : Cs (wI S (q (10 * s + o)) j x) q s (vp_updL z c x.toInt64) := by
  have e := oth (o := o) (j := j) (v := x) hq hs (by omega)
  have hne : ∀ k, k < 9 ∨ 69 ≤ k → vp_updL z c x.toInt64 k = z k := fun k h => uLn (by omega)
  have en : nc (vp_updL z c x.toInt64) = nc z := by unfold nc; rw [hne 8 (by omega)]
  have er : nr (vp_updL z c x.toInt64) = nr z := by unfold nr; rw [hne 69 (by omega)]
  have e0 : pI (wI S (q (10 * s + o)) j x) (q (10 * s)) = pI S (q (10 * s)) := e 0 (by omega) (by omega)
  unfold Cs
  rw [en, er, e0, hne 0 (by omega), hne 1 (by omega), hne 7 (by omega)]
  refine ⟨hc.1, fun i hi => ?_, (congrFun (e 2 (by omega) (by omega)) 0).trans hc.2.2.1, fun k hk => ?_, (congrFun (e 6 (by omega) (by omega)) 0).trans hc.2.2.2.2.1, fun r hr => ?_⟩
  · rw [hne _ (by omega)]; exact (congrArg Int32.toInt64 (congrFun (e 1 (by omega) (by omega)) i)).trans (hc.2.1 i hi)
  · have cell : ∀ t, t < 3 → (pI S (q (10 * s + (3 + t))) k).toInt64 = z (9 + 3 * k + t) → (pI (wI S (q (10 * s + o)) j x) (q (10 * s + (3 + t))) k).toInt64 = vp_updL z c x.toInt64 (9 + 3 * k + t) := fun t ht h9 => by
      by_cases g : 3 + t = o
      · by_cases g2 : k = j
        · subst g2; subst g
          rw [show 9 + 3 * k + t = c by omega, uLs]; exact congrArg Int32.toInt64 up2_s
        · rw [uLn (by omega)]; subst g; exact (congrArg Int32.toInt64 (up2_k g2)).trans h9
      · rw [uLn (by omega)]; exact (congrArg Int32.toInt64 (congrFun (e (3 + t) (by omega) g) k)).trans h9
    obtain ⟨a, b, d⟩ := hc.2.2.2.1 k hk
    exact ⟨cell 0 (by omega) a, cell 1 (by omega) b, cell 2 (by omega) d⟩
  · rw [hne _ (by omega), hne _ (by omega), hne _ (by omega)]
    obtain ⟨a, b, d⟩ := hc.2.2.2.2.2 r hr
    exact ⟨(congrArg Int32.toInt64 (congrFun (e 7 (by omega) (by omega)) r)).trans a, (congrArg Int32.toInt64 (congrFun (e 8 (by omega) (by omega)) r)).trans b, d⟩
end CsMut
theorem i32_k {x : Int32} {y : Int64} (h : x.toInt64 = y) : x = y.toInt32 := by rw [← h, Int32.toInt32_toInt64]
theorem uL_nc {z : ZZ} {c : Nat} {x : Int64} (h : c ≠ 8) : nc (vp_updL z c x) = nc z := by unfold nc; rw [uLn (fun e => h e.symm)]
