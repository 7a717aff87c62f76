/-! the shape out of the cells in the order of making -/
def pi9 (i : Nat) : Nat := if i < 20 then i + 1 else if i < 80 then i + 3 else if i = 80 then 0 else if i < 83 then i - 60 else i
def KB : List (Nat × Nat) := [(6, 0), (11, 5), (4, 0), (11, 20), (11, 20), (11, 20), (5, 0), (11, 12), (13, 12), (12, 12)]
def KC : List (Nat × Nat) := [(9, 0)] ++ KB ++ KB ++ [(2, 0), (14, 6)] ++ KB ++ KB ++ KB ++ KB ++ KB ++ KB ++ [(1, 0), (0, 0), (8, 0), (3, 0), (12, 12), (12, 12), (13, 12), (7, 0), (11, 20), (11, 20), (11, 60), (11, 7), (11, 27), (11, 2), (12, 3)]
theorem KC_l : KC.length = 98 := by decide
theorem KC_i : ∀ i, i < 98 → KC[pi9 i]? = some (kd i, ln i) := by decide
theorem pi9_l {i : Nat} (h : i < 98) : pi9 i < 98 := by unfold pi9; split <;> (try split) <;> (try split) <;> (try split) <;> omega
theorem pi9_i {i j : Nat} (hi : i < 98) (hj : j < 98) (h : pi9 i = pi9 j) : i = j := by
  unfold pi9 at h
  repeat' split at h
  all_goals omega
def q9 (T : NL) (i : Nat) : Nat := (T.map (fun e => e.1)).getD (pi9 i) 0
theorem shp_of {S0 S : PS} {a : Nat} {T : NL} (h : Nw S0 S a T) (hK : T.map (fun e => e.2) = KC) (hR : ShpR S.2.1 (q9 T)) : Shp S.1 S.2.1 (q9 T) := by
  have hl : T.length = 98 := by rw [← List.length_map (f := fun e : Nat × Nat × Nat => e.2), hK]; exact KC_l
  have key : ∀ i, i < 98 → ∃ hp : pi9 i < T.length, T[pi9 i] = (q9 T i, kd i, ln i) := fun i hi => by
    have hp := pi9_l hi
    refine ⟨by omega, ?_⟩
    have e1 : q9 T i = T[pi9 i].1 := by
      unfold q9
      rw [List.getD_eq_getElem?_getD, List.getElem?_map, List.getElem?_eq_getElem (by omega)]
      rfl
    have e2 : some (T[pi9 i].2) = some (kd i, ln i) := by
      rw [← KC_i i hi, ← hK, List.getElem?_map, List.getElem?_eq_getElem (by omega)]
      rfl
    have e3 := Option.some.inj e2
    rw [e1, ← e3]
  have on : ∀ i, i < 98 → Is S.1 (q9 T i) (kd i) ∧ pN S (q9 T i) = ln i := fun i hi => by
    obtain ⟨hp, e⟩ := key i hi
    exact h.on (by rw [← e]; exact List.getElem_mem hp)
  refine ⟨fun i hi => (on i hi).1, fun i j hi hj e => ?_, fun i hi => (on i hi).2, hR⟩
  obtain ⟨hp1, e1⟩ := key i hi
  obtain ⟨hp2, e2⟩ := key j hj
  have hnd := List.pairwise_iff_getElem.mp h.2.1
  have l1 : pi9 i < (T.map (fun e => e.1)).length := by rw [List.length_map]; exact hp1
  have l2 : pi9 j < (T.map (fun e => e.1)).length := by rw [List.length_map]; exact hp2
  have f1 : (T.map (fun e => e.1))[pi9 i] = q9 T i := by rw [List.getElem_map, e1]
  have f2 : (T.map (fun e => e.1))[pi9 j] = q9 T j := by rw [List.getElem_map, e2]
  rcases Nat.lt_trichotomy (pi9 i) (pi9 j) with g | g | g
  · exact absurd (f1.trans (e.trans f2.symm)) (hnd _ _ l1 l2 g)
  · exact pi9_i hi hj g
  · exact absurd (f2.trans (e.symm.trans f1.symm)) (hnd _ _ l2 l1 g)
/-- the first row -/
def z00 : ZZ := vp_updL (vp_updL (vp_updL (vp_updL (vp_updL (fun _ => 0) 2 1200) 3 1000) 4 50) 6 50) 7 200
theorem z00_nc : nc z00 = 0 := by decide
theorem z00_nr : nr z00 = 0 := by decide
theorem Iw_00 : Iw (z00, [], 0, 0, fun _ => 0) := by
  refine ⟨⟨?_, fun j hj => ?_⟩, fun y hy => (by cases hy), by decide, by decide⟩
  · unfold Bz
    rw [z00_nc, z00_nr]
    refine ⟨⟨?_, ?_⟩, ⟨?_, ?_, ?_, ?_, ?_⟩, ?_, ?_, ?_, fun k hk => absurd hk (Nat.not_lt_zero k), fun r hr => absurd hr (Nat.not_lt_zero r)⟩ <;> (unfold wtn; decide)
  · show z00 j = 0
    unfold z00
    rw [uLn (by omega), uLn (by omega), uLn (by omega), uLn (by omega), uLn (by omega)]
