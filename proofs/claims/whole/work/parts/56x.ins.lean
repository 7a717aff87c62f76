theorem nc_insU {z : ZZ} (k : Nat) (x y : Int32) (hB : Bz z) : nc (vp_updL (zInP z k x y) 69 0) = nc z + 1 := by
  rw [← nc_ins (k := k) (x := x) (y := y) hB]
  unfold nc
  rw [uLn (by omega)]
theorem zInP_t {S : PS} {q : Nat → Nat} {z : ZZ} (k : Nat) (x y : Int32) (h : pJ S (q 95) = vp_updL (pC (insR z (8 + 3 * k)) k x y 0) 8 (pC (insR z (8 + 3 * k)) k x y 0 8 + 1)) : pJ S (q 95) = zInP z k x y := h.trans zInP_e
