/-! the class and the law's arrays side by side -/
def La (S : PS) (q : Nat → Nat) (z : ZZ) : Prop := Ls S q z ∧ Lk S q z ∧ pI S (q 96) 1 = nI (nr z)
def Lv (S : PS) (q : Nat → Nat) (w : WW) (y : ZZ) : Prop := Shp S.1 S.2.1 q ∧ Cl S q w ∧ La S q y
abbrev Lw (S : PS) (q : Nat → Nat) (w : WW) : Prop := Lv S q w w.1
theorem La.of {S S' : PS} {q : Nat → Nat} {z : ZZ} (h4 : pI S' (q 94) = pI S (q 94)) (h5 : pI S' (q 95) = pI S (q 95)) (h6 : pI S' (q 96) = pI S (q 96)) (h : La S q z) : La S' q z := by
  unfold La Ls Lk
  rw [h4, h5, h6]
  exact h
theorem La.fr {S S' : PS} {q : Nat → Nat} {z : ZZ} {l : List Nat} (hf : Fr S S' q l) (h4 : 94 ∉ l) (h5 : 95 ∉ l) (h6 : 96 ∉ l) (h : La S q z) : La S' q z := h.of (hf.2.2 94 (by decide) h4).1 (hf.2.2 95 (by decide) h5).1 (hf.2.2 96 (by decide) h6).1
theorem La.cl {S S' : PS} {q : Nat → Nat} {z : ZZ} (hf : FrP S S' q P94) (h : La S q z) : La S' q z := h.of (hf.2.2 94 (by decide) (by unfold P94; omega)).1 (hf.2.2 95 (by decide) (by unfold P94; omega)).1 (hf.2.2 96 (by decide) (by unfold P94; omega)).1
theorem Cl.fr {S S' : PS} {q : Nat → Nat} {w : WW} {l : List Nat} (hf : Fr S S' q l) (hl : ∀ i, i < 94 → i ∉ l) (h : Cl S q w) : Cl S' q w := by
  obtain ⟨h1, ⟨pm, h2⟩, h3, h4, h5⟩ := h
  refine ⟨Cs.fr (by decide) hf (fun i hi => hl _ (by omega)) h1, ⟨pm, Hs.frq hf (fun i _ hi => hl _ (by omega)) (hl 81 (by decide)) h2⟩, ?_, ?_, ?_⟩
  · rw [(hf.2.2 80 (by decide) (hl 80 (by decide))).1]; exact h3
  · rw [(hf.2.2 80 (by decide) (hl 80 (by decide))).1]; exact h4
  · rw [(hf.2.2 93 (by decide) (hl 93 (by decide))).1]; exact h5
theorem m94 {i j : Nat} (hj : 94 ≤ j) (hi : i < 94) : i ∉ [j] := by
  rw [List.mem_singleton]; omega
theorem Lw.f97 {S S' : PS} {q : Nat → Nat} {w : WW} {y : ZZ} (h : Lv S q w y) (hf : Fr S S' q [97]) : Lv S' q w y := ⟨hf.q h.1, h.2.1.fr hf (fun i hi => m94 (by decide) hi), h.2.2.fr hf (by decide) (by decide) (by decide)⟩
theorem Lw.cl {S S' : PS} {q : Nat → Nat} {w w' : WW} {y : ZZ} (h : Lv S q w y) (hf : FrP S S' q P94) (hc : Cl S' q w') : Lv S' q w' y := ⟨hf.q h.1, hc, h.2.2.cl hf⟩
theorem Po.cl {S S' : PS} {q : Nat → Nat} {z : ZZ} {tx ty : Int64} (h : Po S q z tx ty) (hf : FrP S S' q P94) : Po S' q z tx ty := by
  unfold Po
  rw [(hf.2.2 97 (by decide) (by unfold P94; omega)).2]
  exact h
theorem nIt {k : Nat} (h : k < 2147483648) : (nI k).toInt.toNat = k := by rw [nI_toInt h]; omega
theorem isC_n {z : ZZ} {k : Nat} (hk : k < nc z) (h8 : nc z ≤ 8) : isC z (nI k) := by
  unfold isC
  rw [nI_toInt (by omega)]
  omega
section CallE
variable {z : ZZ} {H : List ZZ} {l : Int32} {n : Nat} {tx : Nat → Int32}
theorem cor_e {k i : Nat} (hk : k < nc z) (h8 : nc z ≤ 8) (hi : i ≤ 5) : oCor (nI k) (nI i) (z, H, l, n, tx) = (0, zCn z k (nI i)) := by
  have h1 : tCor z (nI k) (nI i) = 0 := by
    unfold tCor
    rw [if_neg (fun h => h (isC_n hk h8)), if_pos (by rw [nI_toInt (by omega)]; omega)]
  unfold oCor
  rw [if_pos h1, nIt (by omega)]
theorem mad_e {k i : Nat} (hk : k < nr z) (h8 : nr z ≤ 12) (hi : i ≤ 5) : oMad (nI k) (nI i) (z, H, l, n, tx) = (0, zMn z k (nI i)) := by
  have h1 : tMad z (nI k) (nI i) = 0 := by
    unfold tMad isR
    rw [if_neg (fun h => h (by rw [nI_toInt (by omega)]; omega)), if_pos (by rw [nI_toInt (by omega)]; omega)]
  unfold oMad
  rw [if_pos h1, nIt (by omega)]
theorem elb_e {a b : Int32} {i : Nat} (ha : -30000 ≤ a.toInt ∧ a.toInt ≤ 30000) (hb : -30000 ≤ b.toInt ∧ b.toInt ≤ 30000) (hi : i ≤ 2) : oElb a b (nI i) (z, H, l, n, tx) = (0, zEn z a.toInt64 b.toInt64 (nI i)) := by
  have h1 : tElb a b (nI i) = 0 := by
    unfold tElb
    rw [if_pos (by rw [nI_toInt (by omega)]; omega)]
  unfold oElb
  rw [if_pos h1]
theorem cnt_e {i : Nat} (hi : i ≤ 14) : oCnt (nI i) (z, H, l, n, tx) = (0, zCt z H.length (nI i)) := by
  have h1 : tCnt (nI i) = 0 := by
    unfold tCnt
    rw [if_pos (by rw [nI_toInt (by omega)]; omega)]
  unfold oCnt
  rw [if_pos h1]
theorem stg_e {k : Nat} (hk : k ≤ 4) : oStg (nI k) (z, H, l, n, tx) = (0, (z (2 + k)).toInt32) := by
  have h1 : tStg (nI k) = 0 := by
    unfold tStg
    rw [if_pos (by rw [nI_toInt (by omega)]; omega)]
  unfold oStg
  rw [if_pos h1, nIt (by omega)]
theorem why_e {k : Nat} (hk : k < nc z) (h8 : nc z ≤ 8) : oWhy (nI k) (z, H, l, n, tx) = (0, nI (zRf z)) := by
  have h1 : tRem z (nI k) = 0 := by
    unfold tRem
    rw [if_pos (isC_n hk h8)]
  unfold oWhy
  rw [if_pos h1]
end CallE
theorem el_0 {S : PS} {q : Nat → Nat} {z : ZZ} {tx ty : Int64} (h : Po S q z tx ty) : zEn z tx ty (nI 0) = pJ S (q 97) 2 := by
  unfold zEn
  rcases h with h | h
  · rw [ifP_t h.1, h.2.1]; rfl
  · rw [ifP_f h.1, h.2]
theorem el_1t {S : PS} {q : Nat → Nat} {z : ZZ} {tx ty : Int64} (h : Po S q z tx ty) (hr : zRe z tx ty) : pJ S (q 97) 0 = zEn z tx ty (nI 1) := by
  unfold zEn
  rw [ifP_t hr, (h.t hr).1]
  rfl
theorem el_2t {S : PS} {q : Nat → Nat} {z : ZZ} {tx ty : Int64} (h : Po S q z tx ty) (hr : zRe z tx ty) : pJ S (q 97) 1 = zEn z tx ty (nI 2) := by
  unfold zEn
  rw [ifP_t hr, (h.t hr).2]
  rfl
theorem el_f {z : ZZ} {tx ty : Int64} {w : Int32} (hr : ¬ zRe z tx ty) : 0 = zEn z tx ty w := by
  unfold zEn
  rw [ifP_f hr]
theorem Po.i1 {S : PS} {q : Nat → Nat} {z : ZZ} {tx ty : Int64} (h : Po S q z tx ty) (c : pJ S (q 97) 2 = 1) : zRe z tx ty := h.f1 (fun e => absurd (c.symm.trans e) (by decide))
theorem Po.i0 {S : PS} {q : Nat → Nat} {z : ZZ} {tx ty : Int64} (h : Po S q z tx ty) (c : ¬ pJ S (q 97) 2 = 1) : ¬ zRe z tx ty := fun hr => by
  rcases h with h | h
  · exact c h.2.1
  · exact h.1 hr
theorem el_b {j : Nat} {x : Int32} (hj : j < 60001) (e : x = nI j - 30000) : -30000 ≤ x.toInt ∧ x.toInt ≤ 30000 := by
  have h3 : (30000 : Int32).toInt = 30000 := by decide
  rw [e, I_sub (by rw [nI_toInt (by omega), h3]; omega) (by rw [nI_toInt (by omega), h3]; omega), nI_toInt (by omega), h3]
  omega
theorem el_w {x : Int32} (h : -30000 ≤ x.toInt ∧ x.toInt ≤ 30000) : wtn x.toInt64 (-50000) 50000 := by
  unfold wtn
  rw [I64_t]
  omega
theorem ex_b {w : Int32} (h : w = 1 ∨ w = 0) : ∃ b, w = bI b := by
  rcases h with h | h
  · exact ⟨true, h⟩
  · exact ⟨false, h⟩
theorem cor_v {S : PS} {q : Nat → Nat} {z : ZZ} (h : Lk S q z) {k j : Nat} (hk : k < nc z) (hj : j < 3) : zCn z k (nI j) = (pI S (q 95) (3 * k + j)).toInt64 := by
  rw [h.1 _ (by omega)]
  rcases (by omega : j = 0 ∨ j = 1 ∨ j = 2) with e | e | e <;> subst e
  · exact cn_0.trans (congrArg z (by omega))
  · exact cn_1.trans (congrArg z (by omega))
  · exact cn_2.trans (congrArg z (by omega))
theorem stg_v {S : PS} {q : Nat → Nat} {z : ZZ} (h : Ls S q z) {k : Nat} (hk : k < 5) : (z (2 + k)).toInt32 = pI S (q 94) k := by
  obtain ⟨⟨h0, h1, h2, h3, h4⟩, -⟩ := h
  rcases (by omega : k = 0 ∨ k = 1 ∨ k = 2 ∨ k = 3 ∨ k = 4) with e | e | e | e | e <;> subst e
  · exact (i32_k h0).symm
  · exact (i32_k h1).symm
  · exact (i32_k h2).symm
  · exact (i32_k h3).symm
  · exact (i32_k h4).symm
theorem g_gen {Γ : Ctx} {S : PS} {c n pc : Nat} {L : List (Nat × Value)} {st : List Value} {P : PS → Prop} (h : P S) (k : ∀ S', P S' → G Γ S' c n pc L st) : G Γ S c n pc L st := k S h
theorem Lv.eq {S : PS} {q : Nat → Nat} {w : WW} {y y' : ZZ} (h : Lv S q w y) (e : y = y') : Lv S q w y' := by rw [← e]; exact h
theorem Ls.e {S : PS} {q : Nat → Nat} {z : ZZ} (h : Ls S q z) {k : Nat} (hk : k < 5) : (pI S (q 94) k).toInt64 = z (2 + k) := by
  obtain ⟨⟨h0, h1, h2, h3, h4⟩, -⟩ := h
  rcases (by omega : k = 0 ∨ k = 1 ∨ k = 2 ∨ k = 3 ∨ k = 4) with e | e | e | e | e <;> subst e
  · exact h0
  · exact h1
  · exact h2
  · exact h3
  · exact h4
theorem Ls.mk2 {S : PS} {q : Nat → Nat} {z : ZZ} (h : ∀ k, k < 5 → (pI S (q 94) k).toInt64 = z (2 + k)) (h5 : (pI S (q 94) 5).toInt64 = z 0) (h6 : (pI S (q 94) 6).toInt64 = z 1) : Ls S q z := ⟨⟨h 0 (by decide), h 1 (by decide), h 2 (by decide), h 3 (by decide), h 4 (by decide)⟩, h5, h6⟩
theorem fr_wI {S : PS} {q : Nat → Nat} {j k : Nat} {v : Int32} (hq : Shp S.1 S.2.1 q) (hj : j < 98) : Fr S (wI S (q j) k v) q [j] := Fr.wI hq Fr.rf hj (List.mem_singleton.mpr rfl)
theorem Cl.wI {S : PS} {q : Nat → Nat} {w : WW} {j k : Nat} {v : Int32} (hq : Shp S.1 S.2.1 q) (hj : 94 ≤ j ∧ j < 98) (h : Cl S q w) : Cl (wI S (q j) k v) q w := h.fr (fr_wI hq hj.2) (fun i hi => m94 hj.1 hi)
theorem Lv.se {S : PS} {q : Nat → Nat} {w : WW} {y : ZZ} {i : Nat} {v : Int32} (hi : i < 5) (h : Lv S q w y) : Lv (wI S (q 94) i v) q w (vp_updL y (2 + i) v.toInt64) := by
  obtain ⟨hq, hc, hs, hk, hn⟩ := h
  have hf := fr_wI (k := i) (v := v) hq (show 94 < 98 by decide)
  have e8 : nc (vp_updL y (2 + i) v.toInt64) = nc y := uL_nc (by omega)
  have e69 : nr (vp_updL y (2 + i) v.toInt64) = nr y := by unfold nr; rw [uLn (by omega)]
  refine ⟨hq, hc.wI hq (by decide), ?_, ⟨fun j hj => ?_, ?_, ?_⟩, ?_⟩
  · refine Ls.mk2 (fun k hk9 => ?_) ?_ ?_
    · by_cases e : k = i
      · subst e
        rw [uLs]
        exact congrArg Int32.toInt64 up2_s
      · rw [uLn (by omega)]
        exact (congrArg Int32.toInt64 (up2_k e)).trans (hs.e hk9)
    · rw [uLn (by omega)]
      exact (congrArg Int32.toInt64 (up2_k (by omega))).trans hs.2.1
    · rw [uLn (by omega)]
      exact (congrArg Int32.toInt64 (up2_k (by omega))).trans hs.2.2
  · rw [e8] at hj
    rw [uLn (by omega), (hf.2.2 95 (by decide) (by decide)).1]
    exact hk.1 j hj
  · rw [e8, (hf.2.2 96 (by decide) (by decide)).1]
    exact hk.2.1
  · rw [e8]; exact hk.2.2
  · rw [e69, (hf.2.2 96 (by decide) (by decide)).1]
    exact hn
theorem rf_sh {y : ZZ} (h : zRf y = 0 ∨ zRf y = 4) : zSh y = 0 := by
  have h3 := zSh_le y
  unfold zRf at h
  split at h
  · next g => exact g.1
  · omega
theorem rf_ns {y : ZZ} (h : ¬ zRf y = 0) (h4 : ¬ zRf y = 4) : ¬ zSh y = 0 := by
  unfold zRf at h h4
  split at h
  · next g => rw [if_pos g] at h4; exact absurd rfl h4
  · exact h
theorem ifs_e {z : ZZ} {H : List ZZ} {l : Int32} {n : Nat} {tx : Nat → Int32} {c k : Nat} {b : Bool} {v : Int32} (hc : c < nc z) (h8 : nc z ≤ 8) (hk : k ≤ 4) (hv : vOk (nI k) v) : oIfs (nI c) b (nI k) v (z, H, l, n, tx) = (0, zIf z c b k v) := by
  have h1 : tIfs z (nI c) (nI k) v = 0 := by
    unfold tIfs
    rw [if_neg, if_pos hv]
    intro h
    rcases h with h | h
    · exact h (isC_n hc h8)
    · exact h (by rw [nI_toInt (by omega)]; omega)
  unfold oIfs
  rw [if_pos h1, nIt (by omega), nIt (by omega)]
theorem ws_Bn {z : ZZ} {k : Nat} {v : Int32} (hB : Bz z) (hk : k ≤ 4) (hv : vOk (nI k) v) : Bz (zWs z k v) := by
  have h := ws_B hB (k := nI k) (v := v) (by rw [nI_toInt (by omega)]; omega) hv
  rw [nIt (by omega)] at h
  exact h
theorem i32_e {x y : Int32} (h : x.toInt64 = y.toInt64) : x = y := by rw [i32_k h, Int32.toInt32_toInt64]
theorem zLe_0 {z : ZZ} (h : nc z = 0) : -1 = zLe z := by unfold zLe; rw [if_pos h]
theorem nI_0le {n : Nat} (h : n < 2147483648) : 0 ≤ nI n := by
  rw [Int32.le_iff_toInt_le, nI_toInt h, show (0 : Int32).toInt = 0 by decide]
  omega
theorem nI_le0 {n : Nat} (h : nI n ≤ 0) (hn : n < 2147483648) : n = 0 := by
  rw [Int32.le_iff_toInt_le, nI_toInt hn, show (0 : Int32).toInt = 0 by decide] at h
  omega
theorem rf_I {y : ZZ} (h : nI (zRf y) = 0) : zRf y = 0 := by
  have h4 := zRf_le (z := y)
  rw [show (0 : Int32) = nI 0 from rfl, nI_eq (by omega) (by omega)] at h
  exact h
theorem rf_I4 {y : ZZ} (h : nI (zRf y) = 4) : zRf y = 4 := by
  have h4 := zRf_le (z := y)
  rw [show (4 : Int32) = nI 4 from rfl, nI_eq (by omega) (by omega)] at h
  exact h
