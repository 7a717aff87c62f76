/-! what every call keeps -/
def Iz (z : ZZ) : Prop := Bz z ∧ zE z
def Iw (w : WW) : Prop := Iz w.1 ∧ (∀ y, y ∈ w.2.1 → Iz y) ∧ w.2.1.length ≤ 6 ∧ w.2.2.2.1 ≤ 60
theorem E_up {z : ZZ} {k : Nat} {x : Int64} (h : zE z) (hk : k < 106) : zE (vp_updL z k x) := fun j hj => (uLn (by omega)).trans (h j hj)
theorem I_no {z : ZZ} (h : Iz z) : Iz (vp_updL z 69 0) := ⟨B_no h.1, E_up h.2 (by omega)⟩
theorem I_psh {H : List ZZ} {z : ZZ} (h : ∀ y, y ∈ H → Iz y) (hz : Iz z) : ∀ y, y ∈ psh H z → Iz y := by
  intro y hy
  unfold psh at hy
  split at hy
  · rcases List.mem_append.mp hy with g | g
    · exact h y (List.mem_of_mem_tail g)
    · rw [List.mem_singleton.mp g]; exact hz
  · rcases List.mem_append.mp hy with g | g
    · exact h y g
    · rw [List.mem_singleton.mp g]; exact hz
/-- a call that saves -/
theorem I_sv {z z' : ZZ} {H : List ZZ} {l l' : Int32} {n n' : Nat} {tx tx' : Nat → Int32} (h : Iw (z, H, l, n, tx)) (hz : Iz z') (hn : n' ≤ 60) : Iw (z', psh H z, l', n', tx') := ⟨hz, I_psh h.2.1 h.1, (psh_len h.2.2.1).1, hn⟩
section Inv
variable {z : ZZ} {H : List ZZ} {l : Int32} {n : Nat} {tx : Nat → Int32}
theorem I_Anc {x y : Int32} (h : Iw (z, H, l, n, tx)) : Iw (oAnc x y (z, H, l, n, tx)).2.2 := by
  unfold oAnc
  split
  · next g => exact I_sv h ⟨B_no (B_anc h.1.1 g), E_up (E_up (E_up h.1.2 (by omega)) (by omega)) (by omega)⟩ h.2.2.2
  · exact h
theorem I_Set {k v : Int32} (h : Iw (z, H, l, n, tx)) : Iw (oSet k v (z, H, l, n, tx)).2.2 := by
  unfold oSet
  split
  · next g =>
    obtain ⟨-, a, b⟩ := tSet_i (Int32.le_of_eq g)
    exact I_sv h (I_no ⟨B_set h.1.1 a b, E_up h.1.2 (by omega)⟩) h.2.2.2
  · exact h
theorem I_Tol {v : Int32} (h : Iw (z, H, l, n, tx)) : Iw (oTol v (z, H, l, n, tx)).2.2 := by
  unfold oTol
  split
  · next g =>
    refine I_sv h ⟨B_tol h.1.1 ?_, E_up h.1.2 (by omega)⟩ h.2.2.2
    unfold tTol at g
    split at g
    · assumption
    · exact absurd g (by decide)
  · exact h
theorem I_Slp {k v : Int32} (h : Iw (z, H, l, n, tx)) : Iw (oSlp k v (z, H, l, n, tx)).2.2 := by
  have hn := (nc_e h.1.1).2
  unfold oSlp
  split
  · next g =>
    obtain ⟨-, a, b⟩ := tSlp_i (Int32.le_of_eq g)
    have a2 : 0 ≤ k.toInt ∧ k.toInt ≤ (nc z : Int) - 1 := a
    have hn2 : nc z ≤ 20 := hn
    exact I_sv h ⟨B_slp h.1.1 a b, E_up h.1.2 (by omega)⟩ h.2.2.2
  · exact h
theorem I_Mov {k x y : Int32} (h : Iw (z, H, l, n, tx)) : Iw (oMov k x y (z, H, l, n, tx)).2.2 := by
  have hn2 : nc z ≤ 20 := (nc_e h.1.1).2
  unfold oMov
  split
  · next g =>
    obtain ⟨-, a, b⟩ := tMov_i (Int32.le_of_eq g)
    have a2 : 0 ≤ k.toInt ∧ k.toInt ≤ (nc z : Int) - 1 := a
    exact I_sv h (I_no ⟨B_mov h.1.1 a b, E_up (E_up h.1.2 (by omega)) (by omega)⟩) h.2.2.2
  · exact h
theorem I_For (h : Iw (z, H, l, n, tx)) : Iw (oFor (z, H, l, n, tx)).2.2 := I_sv h (I_no h.1) h.2.2.2
theorem I_Rem {k : Int32} (h : Iw (z, H, l, n, tx)) : Iw (oRem k (z, H, l, n, tx)).2.2 := by
  have hn2 : nc z ≤ 20 := (nc_e h.1.1).2
  unfold oRem
  split
  · next g =>
    obtain ⟨-, a, -⟩ := tRem_i (Int32.le_of_eq g)
    have a2 : 0 ≤ k.toInt ∧ k.toInt ≤ (nc z : Int) - 1 := a
    refine I_sv h (I_no ⟨B_rem h.1.1 (by omega) (Nat.le_refl _), fun j hj => ?_⟩) h.2.2.2
    show remR z k.toInt.toNat (9 + 3 * (nc z - 1)) j = 0
    unfold remR
    rw [if_neg (by omega), if_neg (by omega)]
    exact h.1.2 j hj
  · exact h
theorem I_Ins {k x y : Int32} (h : Iw (z, H, l, n, tx)) : Iw (oIns k x y (z, H, l, n, tx)).2.2 := by
  have hn2 : nc z ≤ 20 := (nc_e h.1.1).2
  unfold oIns
  split
  · next g =>
    obtain ⟨-, a, b, c⟩ := tIns_i (Int32.le_of_eq g)
    have a2 : 0 ≤ k.toInt ∧ k.toInt ≤ (nc z : Int) := a
    have c2 : nc z ≠ 20 := c
    refine I_sv h (I_no ⟨B_ins h.1.1 (by omega) c2 b, fun j hj => ?_⟩) h.2.2.2
    show zInP z k.toInt.toNat x y j = 0
    unfold zInP
    rw [if_neg (by omega), if_neg (by omega), if_neg (by omega), if_neg (by omega), if_neg (by omega)]
    exact h.1.2 j hj
  · exact h
theorem I_Run {k : Int32} {b : Bool} (h : Iw (z, H, l, n, tx)) : Iw (oRun k b (z, H, l, n, tx)).2.2 := by
  have hn2 : nc z ≤ 20 := (nc_e h.1.1).2
  unfold oRun
  split
  · next g =>
    split
    · next g2 =>
      obtain ⟨-, a, -⟩ := tRem_i (Int32.le_of_eq g)
      have a2 : 0 ≤ k.toInt ∧ k.toInt ≤ (nc z : Int) - 1 := a
      obtain ⟨-, -, c⟩ := zRf_0 h.1.1 g2
      exact I_sv h ⟨mk_B h.1.1 (by omega) c, mk_E h.1.2 c⟩ h.2.2.2
    · exact h
  · exact h
theorem I_Ral (h : Iw (z, H, l, n, tx)) : Iw (oRal (z, H, l, n, tx)).2.2 := by
  obtain ⟨a, -, -, b⟩ := raF_B h.1.1 (i := 2 * nc z) (Nat.le_refl _)
  exact I_sv h ⟨a, b h.1.2⟩ h.2.2.2
theorem I_App {c : Int32} (h : Iw (z, H, l, n, tx)) : Iw (oApp c (z, H, l, n, tx)).2.2 := by
  have hn : n ≤ 60 := h.2.2.2
  unfold oApp
  split
  · next g =>
    obtain ⟨-, -, a⟩ := tApp_i (Int32.le_of_eq g)
    have a2 : ¬ n = 60 := a
    exact ⟨h.1, h.2.1, h.2.2.1, by show n + 1 ≤ 60; omega⟩
  · exact h
theorem I_Clr (h : Iw (z, H, l, n, tx)) : Iw (oClr (z, H, l, n, tx)).2.2 := ⟨h.1, h.2.1, h.2.2.1, Nat.zero_le _⟩
theorem I_Und (h : Iw (z, H, l, n, tx)) : Iw (oUnd (z, H, l, n, tx)).2.2 := by
  unfold oUnd
  split
  · exact h
  · next g =>
    have hl : H.length ≤ 6 := h.2.2.1
    exact ⟨h.2.1 _ (List.mem_of_getElem? (zLast_e g)), fun y hy => h.2.1 y (List.dropLast_subset H hy), by show H.dropLast.length ≤ 6; rw [List.length_dropLast]; omega, h.2.2.2⟩
theorem I_Lod (h : Iw (z, H, l, n, tx)) : Iw (oLod (z, H, l, n, tx)).2.2 := by
  unfold oLod
  split
  · next g =>
    obtain ⟨-, h2, h3, h4⟩ := tLod_1 g
    have hI : rdI (rdS tx n).2 := (rdS_I n).1
    have h39 := hI.2.1
    refine I_sv h (I_no ⟨ld_B h.1.1 (show ((rdS tx n).2.2.2.2.1 + 1) / 2 ≤ 20 by omega) (fun i hi => (rdI_E hI h2).2 i (by show i < (rdS tx n).2.2.2.2.1 + 1; have hi2 : i < 2 * (((rdS tx n).2.2.2.2.1 + 1) / 2) := hi; omega)), fun j hj => ?_⟩) (Nat.zero_le _)
    rw [ld_o (.inr (by show 9 + 3 * (((rdS tx n).2.2.2.2.1 + 1) / 2) ≤ j; omega))]
    exact (uLn (by omega)).trans (h.1.2 j hj)
  · exact h
end Inv
