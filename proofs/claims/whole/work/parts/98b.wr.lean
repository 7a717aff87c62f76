theorem P_x {S S' : PS} {q : Nat → Nat} (h : FrP S S' q P94) : FrP S S' q P94x := FrP.tr h FrP.rf (fun i _ g => g.1) (fun _ _ h => h)
theorem P_100 {S S' : PS} {q : Nat → Nat} {v : Int64} (hq : Shp S.1 S.2.1 q) (h : FrP S S' q P94) : FrP S (wJ S' (q 100) 0 v) q P94x := by
  refine ⟨h.1, h.2.1, fun i hi hp => ?_⟩
  obtain ⟨a, b⟩ := h.2.2 i hi hp.1
  exact ⟨a, (up2_r (qne hq hi (by decide) hp.2)).trans b⟩
theorem Cs_J {S : PS} {q : Nat → Nat} {s : Nat} {z : ZZ} {v : Int64} (hq : Shp S.1 S.2.1 q) (hs : s < 8) (h : Cs S q s z) : Cs (wJ S (q 100) 0 v) q s z := h.of (fun i hi => ⟨rfl, up2_r (qne hq (by omega) (by decide) (by omega))⟩)
theorem Cl_100 {S : PS} {q : Nat → Nat} {w : WW} {v : Int64} (hq : Shp S.1 S.2.1 q) (h : Cl S q w) : Cl (wJ S (q 100) 0 v) q w := by
  obtain ⟨a, ⟨pm, b1, b2, b3, b4, b5, b6⟩, c⟩ := h
  refine ⟨Cs_J hq (by decide) a, ⟨pm, b1, b2, b3, b4, b5, fun i y hy => ?_⟩, c⟩
  have hi := (List.getElem?_eq_some_iff.mp hy).1
  exact Cs_J hq (b4 i (by omega)).2 (b6 i y hy)
