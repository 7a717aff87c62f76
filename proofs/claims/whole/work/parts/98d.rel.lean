theorem Mo_x {S S' : PS} {q : Nat → Nat} {w : WW} (h : FrP S S' q P94x) (hm : Mw S q w) : Mw S' q w := by
  have e : ∀ i, i < 101 → 94 ≤ i → i ≠ 100 → pI S' (q i) = pI S (q i) ∧ pJ S' (q i) = pJ S (q i) := fun i hi h1 h2 => h.2.2 i hi ⟨h1, h2⟩
  unfold Mw Mo Sv at hm ⊢
  rw [(e 95 (by decide) (by decide) (by decide)).2, (e 94 (by decide) (by decide) (by decide)).1, (e 96 (by decide) (by decide) (by decide)).2, (e 97 (by decide) (by decide) (by decide)).1]
  exact hm
theorem Cl_m {S S' : PS} {q : Nat → Nat} {w : WW} {l : List Nat} (h : Fr S S' q l) (hl : ∀ i, i ∈ l → 94 ≤ i) (hc : Cl S q w) : Cl S' q w := by
  have e : ∀ i, i < 94 → pI S' (q i) = pI S (q i) ∧ pJ S' (q i) = pJ S (q i) := fun i hi => h.2.2 i (by omega) (fun g => by have := hl i g; omega)
  obtain ⟨a, ⟨pm, b1, b2, b3, b4, b5, b6⟩, c1, c2, c3⟩ := hc
  refine ⟨a.of (fun i hi => e _ (by omega)), ⟨pm, (congrFun (e 81 (by decide)).1 0).trans b1, b2, fun i hi => ?_, b4, b5, fun i y hy => ?_⟩, (congrFun (e 80 (by decide)).1 7).trans c1, (congrFun (e 80 (by decide)).1 8).trans c2, fun j hj => (congrFun (e 93 (by decide)).1 j).trans (c3 j hj)⟩
  · show S'.2.1 (q 82) i = _
    rw [h.2.1]; exact b3 i hi
  · have hi := (List.getElem?_eq_some_iff.mp hy).1
    have hb := b4 i (by omega)
    exact (b6 i y hy).of (fun k hk => e _ (by omega))
