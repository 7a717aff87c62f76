theorem w32 {v : Int32} {N : Int32} : (-N ≤ v ∧ v ≤ N) ↔ ((-N).toInt ≤ v.toInt ∧ v.toInt ≤ N.toInt) := by rw [Int32.le_iff_toInt_le, Int32.le_iff_toInt_le]
theorem rf_1 {z : ZZ} (h : ¬ 3 ≤ nc z) : (1 : Int32) = nI (zRf z) := by
  have e : zSh z = 1 := by unfold zSh; rw [if_pos (by omega)]
  unfold zRf
  rw [e, if_neg (fun h => absurd h.1 (by decide))]
  rfl
theorem rf_2 {z : ZZ} (h : 3 ≤ nc z) (h2 : zOO z) : (2 : Int32) = nI (zRf z) := by
  have e : zSh z = 2 := by unfold zSh; rw [if_neg (by omega), ifP_t h2]
  unfold zRf
  rw [e, if_neg (fun h => absurd h.1 (by decide))]
  rfl
theorem rf_3 {z : ZZ} (h : 3 ≤ nc z) (h2 : ¬ zOO z) (h3 : ¬ zRa z) : (3 : Int32) = nI (zRf z) := by
  have e : zSh z = 3 := by unfold zSh; rw [if_neg (by omega), ifP_f h2, ifP_f h3]
  unfold zRf
  rw [e, if_neg (fun h => absurd h.1 (by decide))]
  rfl
theorem rf_s {z : ZZ} (h : 3 ≤ nc z) (h2 : ¬ zOO z) (h3 : zRa z) : zSh z = 0 := by unfold zSh; rw [if_neg (by omega), ifP_f h2, ifP_t h3]
theorem rf_4 {z : ZZ} (hB : Bz z) (h : 3 ≤ nc z) (h2 : ¬ zOO z) (h3 : zRa z) (h4 : ¬ nr z < 12) : (4 : Int32) = nI (zRf z) := by
  have hr := (nr_e hB).2
  unfold zRf
  rw [rf_s h h2 h3, if_pos ⟨rfl, by rw [z69 hB, show nr z = 12 by omega]; rfl⟩]
  rfl
theorem rf_0 {z : ZZ} (hB : Bz z) (h : 3 ≤ nc z) (h2 : ¬ zOO z) (h3 : zRa z) (h4 : nr z < 12) : (0 : Int32) = nI (zRf z) := by
  unfold zRf
  rw [rf_s h h2 h3, if_neg (fun g => ?_)]
  · rfl
  · have e := g.2
    rw [z69 hB, show (12 : Int64) = lN 12 from rfl, pk_lEQ (by omega) (by omega)] at e
    omega
