/-! what the actions do, on the class's side and on the law's -/
section ActE
variable {z : ZZ} {H : List ZZ} {l : Int32} {n : Nat} {tx : Nat → Int32}
theorem ins_e {k : Nat} {x y : Int32} (hk : k ≤ nc z) (h7 : nc z ≤ 7) (hp : isPt x y) : oIns (nI k) x y (z, H, l, n, tx) = (0, nI (nc z + 1), (zIns z (nI k) x y, psh H z, l, n, tx)) := by
  have h1 : tIns z (nI k) x y = 0 := by
    unfold tIns
    rw [if_neg (fun h => h (by rw [nI_toInt (by omega)]; omega)), if_neg (fun h => h hp), if_neg (by omega)]
  unfold oIns
  rw [if_pos h1]
theorem tRem_0 {k : Nat} (hk : k < nc z) (h8 : nc z ≤ 8) : tRem z (nI k) = 0 := by
  unfold tRem
  rw [if_pos (isC_n hk h8)]
theorem mov_e {k : Nat} {x y : Int32} (hk : k < nc z) (h8 : nc z ≤ 8) (hp : isPt x y) : oMov (nI k) x y (z, H, l, n, tx) = (0, nI (nr z), (vp_updL (zMov z (nI k) x y) 69 0, psh H z, l, n, tx)) := by
  have h1 : tMov z (nI k) x y = 0 := by
    unfold tMov
    rw [if_neg (fun h => h (isC_n hk h8)), if_pos hp]
  unfold oMov
  rw [if_pos h1]
theorem rem_e {k : Nat} (hk : k < nc z) (h8 : nc z ≤ 8) : oRem (nI k) (z, H, l, n, tx) = (0, nI (nc z - 1), (zRem z (nI k), psh H z, l, n, tx)) := by
  unfold oRem
  rw [if_pos (tRem_0 hk h8)]
theorem slq_e {k j : Nat} (hk : k < nc z) (h8 : nc z ≤ 8) (hj : j < 101) : oSlp (nI k) (nI j) (z, H, l, n, tx) = (0, (z (9 + 3 * k + 2)).toInt32, (zSlp z (nI k) (nI j), psh H z, l, n, tx)) := by
  have h1 : tSlp z (nI k) (nI j) = 0 := by
    unfold tSlp
    rw [if_neg (fun h => h (isC_n hk h8)), if_pos (by rw [nI_toInt (by omega)]; omega)]
  unfold oSlp
  rw [if_pos h1, nIt (by omega)]
theorem anc_e {a b : Int32} (ha : -2000 ≤ a.toInt ∧ a.toInt ≤ 2000) (hb : -2000 ≤ b.toInt ∧ b.toInt ≤ 2000) : oAnc a b (z, H, l, n, tx) = (0, nI (nr z), (zAnc z a b, psh H z, l, n, tx)) := by
  have h1 : tAnc a b = 0 := by
    unfold tAnc
    rw [if_pos ⟨ha, hb⟩]
  unfold oAnc
  rw [if_pos h1]
theorem set_e {k : Nat} {v : Int32} (hk : k ≤ 4) (hv : vOk (nI k) v) : oSet (nI k) v (z, H, l, n, tx) = (0, (z (2 + k)).toInt32, (zSet z (nI k) v, psh H z, l, n, tx)) := by
  have h1 : tSet (nI k) v = 0 := by
    unfold tSet
    rw [if_neg (fun h => h (by rw [nI_toInt (by omega)]; omega)), if_pos hv]
  unfold oSet
  rw [if_pos h1, nIt (by omega)]
theorem run_e {k : Nat} {b : Bool} (hk : k < nc z) (h8 : nc z ≤ 8) (h0 : zRf z = 0) : oRun (nI k) b (z, H, l, n, tx) = (0, nI (nr z), (zMk z k b, psh H z, 0, n, tx)) := by
  unfold oRun
  rw [if_pos (tRem_0 hk h8), if_pos h0, nIt (by omega)]
theorem rea_e : oRea (z, H, l, n, tx) = (0, l, (z, H, l, n, tx)) := rfl
end ActE
theorem uL_comm {f : ZZ} {a b : Nat} {x y : Int64} (h : a ≠ b) : vp_updL (vp_updL f a x) b y = vp_updL (vp_updL f b y) a x := by
  funext j
  by_cases ja : j = a
  · subst ja
    rw [uLn h, uLs, uLs]
  · by_cases jb : j = b
    · subst jb
      rw [uLs, uLn ja, uLs]
    · rw [uLn jb, uLn ja, uLn ja, uLn jb]
theorem Lv.co {S : PS} {q : Nat → Nat} {w : WW} {y : ZZ} {j m : Nat} {v : Int32} (hn : nc y = m) (hj : j < 3 * m) (h : Lv S q w y) : Lv (wI S (q 95) j v) q w (vp_updL y (9 + j) v.toInt64) := by
  obtain ⟨hq, hc, hs, hk, hr⟩ := h
  have hf := fr_wI (k := j) (v := v) hq (show 95 < 98 by decide)
  have h8 := hk.2.2
  have e8 : nc (vp_updL y (9 + j) v.toInt64) = nc y := uL_nc (by omega)
  have e69 : nr (vp_updL y (9 + j) v.toInt64) = nr y := by unfold nr; rw [uLn (by omega)]
  refine ⟨hq, hc.wI hq (by decide), ?_, ⟨fun i hi => ?_, ?_, ?_⟩, ?_⟩
  · have hs' := hs.fr hf (by decide)
    exact Ls.mk2 (fun k hk9 => by rw [uLn (by omega)]; exact hs'.e hk9) (by rw [uLn (by omega)]; exact hs'.2.1) (by rw [uLn (by omega)]; exact hs'.2.2)
  · rw [e8] at hi
    by_cases e : i = j
    · subst e
      rw [uLs]
      exact congrArg Int32.toInt64 up2_s
    · rw [uLn (by omega)]
      exact (congrArg Int32.toInt64 (up2_k e)).trans (hk.1 i hi)
  · rw [e8, (hf.2.2 96 (by decide) (by decide)).1]
    exact hk.2.1
  · rw [e8]; exact h8
  · rw [e69, (hf.2.2 96 (by decide) (by decide)).1]
    exact hr
theorem Lv.d1 {S : PS} {q : Nat → Nat} {w : WW} {y : ZZ} (h : Lv S q w y) : Lv (wI S (q 96) 1 0) q w (vp_updL y 69 0) := by
  obtain ⟨hq, hc, hs, hk, hr⟩ := h
  have hf := fr_wI (k := 1) (v := 0) hq (show 96 < 98 by decide)
  have e8 : nc (vp_updL y 69 0) = nc y := uL_nc (by omega)
  have h8 := hk.2.2
  refine ⟨hq, hc.wI hq (by decide), ?_, ⟨fun i hi => ?_, ?_, ?_⟩, ?_⟩
  · have hs' := hs.fr hf (by decide)
    exact Ls.mk2 (fun k hk9 => by rw [uLn (by omega)]; exact hs'.e hk9) (by rw [uLn (by omega)]; exact hs'.2.1) (by rw [uLn (by omega)]; exact hs'.2.2)
  · rw [e8] at hi
    rw [uLn (by omega), (hf.2.2 95 (by decide) (by decide)).1]
    exact hk.1 i hi
  · rw [e8]
    exact (up2_k (by decide)).trans hk.2.1
  · rw [e8]; exact h8
  · rw [nr_0 uLs]
    exact up2_s
theorem Lv.d1i {S : PS} {q : Nat → Nat} {w : WW} {z : ZZ} {k : Nat} {b : Bool} (hB : Bz z) (h12 : nr z < 12) (h : Lv S q w z) : Lv (wI S (q 96) 1 (nI (nr z + 1))) q w (zMk z k b) := by
  obtain ⟨hq, hc, hs, hk, hr⟩ := h
  have hf := fr_wI (k := 1) (v := nI (nr z + 1)) hq (show 96 < 98 by decide)
  have lo := mk_lo (z := z) (c := k) (b := b)
  have e8 : nc (zMk z k b) = nc z := lo.c8
  have h8 := hk.2.2
  refine ⟨hq, hc.wI hq (by decide), ?_, ⟨fun i hi => ?_, ?_, ?_⟩, ?_⟩
  · have hs' := hs.fr hf (by decide)
    exact Ls.mk2 (fun k hk9 => by rw [lo _ (by omega)]; exact hs'.e hk9) (by rw [lo _ (by omega)]; exact hs'.2.1) (by rw [lo _ (by omega)]; exact hs'.2.2)
  · rw [e8] at hi
    rw [lo _ (by omega), (hf.2.2 95 (by decide) (by decide)).1]
    exact hk.1 i hi
  · rw [e8]
    exact (up2_k (by decide)).trans hk.2.1
  · rw [e8]; exact h8
  · rw [mk_nr2 hB h12]
    exact up2_s
theorem Lv.an {S : PS} {q : Nat → Nat} {w : WW} {y : ZZ} {a b : Int32} (h : Lv S q w y) : Lv (wI (wI S (q 94) 5 a) (q 94) 6 b) q w (vp_updL (vp_updL y 0 a.toInt64) 1 b.toInt64) := by
  obtain ⟨hq, hc, hs, hk, hr⟩ := h
  have hf1 := fr_wI (k := 5) (v := a) hq (show 94 < 98 by decide)
  have hf : Fr S (wI (wI S (q 94) 5 a) (q 94) 6 b) q [94] := Fr.wI hq hf1 (by decide) (by decide)
  have e8 : nc (vp_updL (vp_updL y 0 a.toInt64) 1 b.toInt64) = nc y := by rw [uL_nc (by decide), uL_nc (by decide)]
  have e69 : nr (vp_updL (vp_updL y 0 a.toInt64) 1 b.toInt64) = nr y := by unfold nr; rw [uLn (by decide), uLn (by decide)]
  refine ⟨hq, hc.fr hf (fun i hi => m94 (by decide) hi), ?_, ⟨fun i hi => ?_, ?_, ?_⟩, ?_⟩
  · refine Ls.mk2 (fun k hk9 => ?_) ?_ ?_
    · rw [uLn (by omega), uLn (by omega)]
      exact (congrArg Int32.toInt64 ((up2_k (by omega)).trans (up2_k (by omega)))).trans (hs.e hk9)
    · rw [uLn (by decide), uLs]
      exact congrArg Int32.toInt64 ((up2_k (by decide)).trans up2_s)
    · rw [uLs]
      exact congrArg Int32.toInt64 up2_s
  · rw [e8] at hi
    rw [uLn (by omega), uLn (by omega), (hf.2.2 95 (by decide) (by decide)).1]
    exact hk.1 i hi
  · rw [e8, (hf.2.2 96 (by decide) (by decide)).1]
    exact hk.2.1
  · rw [e8]; exact hk.2.2
  · rw [e69, (hf.2.2 96 (by decide) (by decide)).1]
    exact hr
theorem mov_q {z : ZZ} {k : Nat} {x y : Int32} (hk : k < 8) : vp_updL (vp_updL (vp_updL z 69 0) (9 + 3 * k) x.toInt64) (9 + (3 * k + 1)) y.toInt64 = vp_updL (zMov z (nI k) x y) 69 0 := by
  unfold zMov
  rw [nIt (by omega), uL_comm (f := z) (a := 69) (b := 9 + 3 * k) (by omega), uL_comm (a := 69) (b := 9 + (3 * k + 1)) (by omega)]
  rfl
theorem slp_q {z : ZZ} {k : Nat} {v : Int32} (hk : k < 8) : vp_updL z (9 + (3 * k + 2)) v.toInt64 = zSlp z (nI k) v := by
  unfold zSlp
  rw [nIt (by omega)]
  rfl
theorem anc_q {z : ZZ} {a b : Int32} : vp_updL (vp_updL (vp_updL z 69 0) 0 a.toInt64) 1 b.toInt64 = zAnc z a b := by
  unfold zAnc
  rw [uL_comm (a := 69) (b := 0) (by decide), uL_comm (a := 69) (b := 1) (by decide)]
theorem set_q {z : ZZ} {k : Nat} {v : Int32} (hk : k < 5) : vp_updL (vp_updL z 69 0) (2 + k) v.toInt64 = zSet z (nI k) v := by
  unfold zSet
  rw [nIt (by omega), uL_comm (by omega)]
theorem zins_lo {z : ZZ} {k j : Nat} {x y : Int32} (hk : k < 8) (hj : j < 8) : zIns z (nI k) x y j = z j := by
  unfold zIns
  rw [uLn (by omega), nIt (by omega)]
  unfold zInP
  rw [if_neg (by omega), if_neg (by omega), if_neg (by omega), if_neg (by omega), if_neg (by omega)]
theorem nc_zins {z : ZZ} {k : Nat} {x y : Int32} (hB : Bz z) : nc (zIns z (nI k) x y) = nc z + 1 := by
  unfold zIns
  rw [uL_nc (by decide), nc_ins hB]
theorem Fr.sub {S S' : PS} {q : Nat → Nat} {l l2 : List Nat} (h : Fr S S' q l) (hl : ∀ i, i ∈ l → i ∈ l2) : Fr S S' q l2 := h.up hl
theorem ins_L {S S1 : PS} {q : Nat → Nat} {w : WW} {z : ZZ} {k : Nat} {x y : Int32} (hB : Bz z) (h : Lv S q w z) (hk : k ≤ nc z) (h7 : nc z ≤ 7) (hf : Fr S S1 q [95]) (c1 : ∀ j, j < 3 * k → pI S1 (q 95) j = pI S (q 95) j) (c2 : ∀ j, 3 * k + 3 ≤ j → j < 3 * nc z + 3 → pI S1 (q 95) j = pI S (q 95) (j - 3)) : Lv (wI (wI (wI (wI (wI S1 (q 95) (3 * k) x) (q 95) (3 * k + 1) y) (q 95) (3 * k + 2) 0) (q 96) 0 (nI (nc z + 1))) (q 96) 1 0) q w (zIns z (nI k) x y) := by
  obtain ⟨hq, hc, hs, hk9, hr⟩ := h
  have hq1 := hf.q hq
  have g1 : Fr S1 (wI S1 (q 95) (3 * k) x) q [95, 96] := Fr.wI hq1 Fr.rf (by decide) (by decide)
  have g2 : Fr S1 (wI (wI S1 (q 95) (3 * k) x) (q 95) (3 * k + 1) y) q [95, 96] := Fr.wI hq1 g1 (by decide) (by decide)
  have g3 : Fr S1 (wI (wI (wI S1 (q 95) (3 * k) x) (q 95) (3 * k + 1) y) (q 95) (3 * k + 2) 0) q [95, 96] := Fr.wI hq1 g2 (by decide) (by decide)
  have g4 : Fr S1 (wI (wI (wI (wI S1 (q 95) (3 * k) x) (q 95) (3 * k + 1) y) (q 95) (3 * k + 2) 0) (q 96) 0 (nI (nc z + 1))) q [95, 96] := Fr.wI hq1 g3 (by decide) (by decide)
  have g5 : Fr S1 (wI (wI (wI (wI (wI S1 (q 95) (3 * k) x) (q 95) (3 * k + 1) y) (q 95) (3 * k + 2) 0) (q 96) 0 (nI (nc z + 1))) (q 96) 1 0) q [95, 96] := Fr.wI hq1 g4 (by decide) (by decide)
  have hF := Fr.tr (l3 := [95, 96]) hf g5 (by decide) (by decide)
  have e8 := nc_zins (k := k) (x := x) (y := y) hB
  have n96 : q 95 ≠ q 96 := qne hq (by decide) (by decide) (by decide)
  refine ⟨hF.q hq, hc.fr hF (fun i hi => by simp; omega), ?_, ⟨fun j hj => ?_, ?_, ?_⟩, ?_⟩
  · have hs' := hs.fr hF (by decide)
    exact Ls.mk2 (fun i hi => by rw [zins_lo (by omega) (by omega)]; exact hs'.e hi) (by rw [zins_lo (by omega) (by omega)]; exact hs'.2.1) (by rw [zins_lo (by omega) (by omega)]; exact hs'.2.2)
  · rw [e8] at hj
    have e5 : ∀ i, pI (wI (wI (wI (wI (wI S1 (q 95) (3 * k) x) (q 95) (3 * k + 1) y) (q 95) (3 * k + 2) 0) (q 96) 0 (nI (nc z + 1))) (q 96) 1 0) (q 95) i = pI (wI (wI (wI S1 (q 95) (3 * k) x) (q 95) (3 * k + 1) y) (q 95) (3 * k + 2) 0) (q 95) i := fun i => (up2_a n96).trans (up2_a n96)
    rw [e5]
    have ez : zIns z (nI k) x y (9 + j) = zInP z k x y (9 + j) := by
      unfold zIns
      rw [uLn (by omega), nIt (by omega)]
    rw [ez]
    unfold zInP
    rw [if_neg (by omega)]
    by_cases a2 : j = 3 * k + 2
    · subst a2
      rw [if_pos (by omega)]
      exact congrArg Int32.toInt64 up2_s
    · rw [if_neg (by omega)]
      by_cases a1 : j = 3 * k + 1
      · subst a1
        rw [if_pos (by omega)]
        exact congrArg Int32.toInt64 ((up2_k a2).trans up2_s)
      · rw [if_neg (by omega)]
        by_cases a0 : j = 3 * k
        · subst a0
          rw [if_pos (by omega)]
          exact congrArg Int32.toInt64 ((up2_k a2).trans ((up2_k a1).trans up2_s))
        · rw [if_neg (by omega)]
          have e9 : pI (wI (wI (wI S1 (q 95) (3 * k) x) (q 95) (3 * k + 1) y) (q 95) (3 * k + 2) 0) (q 95) j = pI S1 (q 95) j := (up2_k a2).trans ((up2_k a1).trans (up2_k a0))
          rw [e9]
          by_cases b : j < 3 * k
          · rw [if_neg (by omega), c1 j b]
            exact hk9.1 j (by omega)
          · rw [if_pos (by omega), c2 j (by omega) (by omega), hk9.1 (j - 3) (by omega)]
            exact congrArg z (by omega)
  · rw [e8]
    exact (up2_k (by decide)).trans up2_s
  · rw [e8]; omega
  · rw [show nr (zIns z (nI k) x y) = 0 from nr_0 uLs]
    exact up2_s
theorem zrem_lo {z : ZZ} {k j : Nat} (hk : k < 8) (hj : j < 8) : zRem z (nI k) j = z j := by
  unfold zRem
  rw [uLn (by omega), nIt (by omega)]
  unfold remR
  rw [if_neg (by omega), if_neg (by omega)]
theorem nc_zrem {z : ZZ} {k : Nat} (hB : Bz z) (hk : k < nc z) : nc (zRem z (nI k)) = nc z - 1 := by
  have h20 := (nc_e hB).2
  unfold zRem
  rw [uL_nc (by decide), nIt (by omega), nc_rem hB hk]
theorem rem_L {Sa S1 : PS} {q : Nat → Nat} {w : WW} {z : ZZ} {k : Nat} (hB : Bz z) (h : Lv Sa q w (vp_updL z 69 0)) (hk : k < nc z) (hf : Fr (wI Sa (q 96) 0 (nI (nc z - 1))) S1 q [95]) (c1 : ∀ j, j < 3 * k → pI S1 (q 95) j = pI Sa (q 95) j) (c2 : ∀ j, 3 * k ≤ j → j < 3 * (nc z - 1) → pI S1 (q 95) j = pI Sa (q 95) (j + 3)) : Lv S1 q w (zRem z (nI k)) := by
  obtain ⟨hq, hc, hs, hk9, hr⟩ := h
  have e9 : nc (vp_updL z 69 0) = nc z := uL_nc (by decide)
  have h8 : nc z ≤ 8 := by have := hk9.2.2; rw [e9] at this; exact this
  have g1 : Fr Sa (wI Sa (q 96) 0 (nI (nc z - 1))) q [95, 96] := Fr.wI hq Fr.rf (by decide) (by decide)
  have hF := Fr.tr (l3 := [95, 96]) g1 hf (by decide) (by decide)
  have e8 := nc_zrem hB hk
  have hd := (hf.2.2 96 (by decide) (by decide)).1
  refine ⟨hF.q hq, hc.fr hF (fun i hi => by simp; omega), ?_, ⟨fun j hj => ?_, ?_, ?_⟩, ?_⟩
  · have hs' := hs.fr hF (by decide)
    have hz : ∀ i, i < 8 → vp_updL z 69 0 i = zRem z (nI k) i := fun i hi => by rw [zrem_lo (by omega) hi, uLn (by omega)]
    exact Ls.mk2 (fun i hi => by rw [← hz _ (by omega)]; exact hs'.e hi) (by rw [← hz _ (by omega)]; exact hs'.2.1) (by rw [← hz _ (by omega)]; exact hs'.2.2)
  · rw [e8] at hj
    have h1 : ∀ i, i < 3 * nc z → (pI Sa (q 95) i).toInt64 = z (9 + i) := fun i hi => by
      have := hk9.1 i (by rw [e9]; exact hi)
      rw [uLn (by omega)] at this
      exact this
    have ez : zRem z (nI k) (9 + j) = remR z k (9 + 3 * (nc z - 1)) (9 + j) := by
      unfold zRem
      rw [uLn (by omega), nIt (by omega)]
    rw [ez]
    unfold remR
    rw [if_neg (by omega)]
    by_cases b : j < 3 * k
    · rw [if_neg (by omega), c1 j b]
      exact h1 j (by omega)
    · rw [if_pos (by omega), c2 j (by omega) hj, h1 (j + 3) (by omega)]
      exact congrArg z (by omega)
  · rw [e8, hd]
    exact up2_s
  · rw [e8]; omega
  · rw [show nr (zRem z (nI k)) = 0 from nr_0 uLs, hd]
    have hr' : pI Sa (q 96) 1 = nI (nr (vp_updL z 69 0)) := hr
    rw [nr_0 uLs] at hr'
    exact (up2_k (by decide)).trans hr'
theorem I_m1 {x : Int32} : x + (-1) = x - 1 := (Int32.sub_eq_add_neg x 1).symm
theorem nI_m1b {m : Nat} (h : 1 ≤ m) : nI m - 1 = nI (m - 1) := pk_sub h
theorem lt_m1 {m K : Nat} (hm : m < 1000) (hK : K < 1000) : nI m - 1 < nI K ↔ m ≤ K := by
  rw [Int32.lt_iff_toInt_lt, I_sub (by rw [nI_toInt (by omega), show (1 : Int32).toInt = 1 by decide]; omega) (by rw [nI_toInt (by omega), show (1 : Int32).toInt = 1 by decide]; omega), nI_toInt (by omega), nI_toInt (by omega), show (1 : Int32).toInt = 1 by decide]
  omega
theorem at_b {j M c : Nat} {x : Int32} (hj : j < M) (hM : M ≤ 3000) (hc : c ≤ 3000) (e : x = nI j - nI c) : -(c : Int) ≤ x.toInt ∧ x.toInt < (M : Int) - c := by
  rw [e, I_sub (by rw [nI_toInt (by omega), nI_toInt (by omega)]; omega) (by rw [nI_toInt (by omega), nI_toInt (by omega)]; omega), nI_toInt (by omega), nI_toInt (by omega)]
  omega
theorem mk_v {z : ZZ} {c : Nat} {b : Bool} : zMk z c b (70 + 3 * nr z) = (nI c).toInt64 ∧ zMk z c b (70 + 3 * nr z + 1) = bL b ∧ zMk z c b (70 + 3 * nr z + 2) = zSum z c b := by
  unfold zMk
  refine ⟨?_, ?_, ?_⟩
  · rw [uLn (by omega), uLn (by omega), uLn (by omega), uLs]
  · rw [uLn (by omega), uLn (by omega), uLs]
  · rw [uLn (by omega), uLs]
theorem psh_p {H : List ZZ} {z : ZZ} : 0 < (psh H z).length := by
  unfold psh
  split <;> simp
theorem bL_b {b : Bool} (h : bI b = 0) : 0 = bL b := by rw [bI_0 h]; rfl
theorem bL_b1 {b : Bool} (h : ¬ bI b = 0) : 1 = bL b := by rw [bI_1 h]; rfl
