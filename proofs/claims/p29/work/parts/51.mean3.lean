theorem lm_pos {A : Nat → Int64} {tol : Int64} {n : Nat} : ∀ {f : Nat} {out : Nat → Bool}, 0 < lfF out n → 0 < lfF (lmF A tol n f out) n
  | 0, _, h => h
  | f + 1, out, h => by
    unfold lmF
    split
    · next c =>
      obtain ⟨r, hr, ho, e⟩ := wf_some (A := A) (out := out) (m := midF A out n) (n := n) h
      rw [e]
      have := lfF_set ho hr
      exact lm_pos (by omega)
    · exact h
theorem lf_all : ∀ n : Nat, lfF (fun _ => false) n = n
  | 0 => rfl
  | n + 1 => by rw [lfF_f rfl, lf_all n]
theorem lfO_pos {z : ZZ} (h : 0 < nr z) : 0 < lfF (zOut z) (nr z) := by
  unfold zOut
  exact lm_pos (by rw [lf_all]; exact h)
def zDi (z : ZZ) : Int64 := if nr z = 0 then 0 else zMe z - zTw z / 2
def zOu (z : ZZ) : Int64 := lN (nr z) - lN (lfF (zOut z) (nr z))
theorem z69_0 {z : ZZ} (hB : Bz z) : z 69 = 0 ↔ nr z = 0 := by
  rw [z69 hB, show (0 : Int64) = lN 0 from rfl, pk_lEQ (by have := (nr_e hB).2; omega) (by omega)]
theorem ms_f {z : ZZ} {out : Nat → Bool} {i : Nat} (h : out i = false) : zMs z out (i + 1) = zMs z out i + zAr z i := by
  show sumF _ i + (if out i then 0 else zAr z i) = _
  rw [h]; rfl
theorem ms_t {z : ZZ} {out : Nat → Bool} {i : Nat} (h : out i = true) : zMs z out (i + 1) = zMs z out i + 0 := by
  show sumF _ i + (if out i then 0 else zAr z i) = _
  rw [h]; rfl
theorem mean_nz {z : ZZ} (hB : Bz z) (h : ¬ z 69 = 0) : ¬ (nI (lfF (zOut z) (nr z))).toInt64 = 0 := by
  have h1 : ¬ nr z = 0 := fun g => h ((z69_0 hB).mpr g)
  have h2 := lfF_le (zOut z) (nr z)
  have h3 := (nr_e hB).2
  rw [nI_L (by omega)]
  exact lN_ne0 (lfO_pos (by omega)) (by omega)
