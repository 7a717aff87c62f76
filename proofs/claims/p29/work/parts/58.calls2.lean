/-! the model's later calls: undo, runs, texts -/
def cpR (y z : ZZ) (k : Nat) : ZZ := fun j => if j < k then y j else z j
theorem cp_0 {y z : ZZ} : z = cpR y z 0 := by funext j; unfold cpR; rw [if_neg (by omega)]
theorem cp_s {y z : ZZ} {k : Nat} {v : Int64} (e : v = y k) : vp_updL (cpR y z k) k v = cpR y z (k + 1) := by
  funext j
  show (if j = k then v else cpR y z k j) = cpR y z (k + 1) j
  unfold cpR
  by_cases h : j = k
  · rw [if_pos h, if_pos (by omega), e, h]
  · rw [if_neg h]
    by_cases g : j < k
    · rw [if_pos g, if_pos (by omega)]
    · rw [if_neg g, if_neg (by omega)]
def zE (z : ZZ) : Prop := ∀ j, 106 ≤ j → z j = 0
theorem cp_e {y z : ZZ} (hz : zE z) (hy : zE y) : cpR y z 106 = y := by
  funext j
  unfold cpR
  by_cases g : j < 106
  · rw [if_pos g]
  · rw [if_neg g, hz j (by omega), hy j (by omega)]
def zLast (H : List ZZ) : ZZ := (H[H.length - 1]?).getD (fun _ => 0)
theorem zLast_e {H : List ZZ} (h : ¬ H.length = 0) : H[H.length - 1]? = some (zLast H) := by
  unfold zLast
  rw [List.getElem?_eq_getElem (by omega)]
  rfl
theorem zLast_m {H : List ZZ} (h : ¬ H.length = 0) : zLast H ∈ H := List.mem_of_getElem? (zLast_e h)
def tUnd (H : List ZZ) : Int32 := if H.length = 0 then 1 else 0
def oUnd (w : WW) : Int32 × Int32 × WW := if w.2.1.length = 0 then (1, 0, w) else (0, nI (w.2.1.length - 1), (zLast w.2.1, w.2.1.dropLast, w.2.2))
theorem Sv_pop {S S' : PS} {q : Nat → Nat} {H : List ZZ} (h : Sv S q H) (e : pI S' (q 94) 2 = nI (H.length - 1)) (e2 : pJ S' (q 96) = pJ S (q 96)) : Sv S' q H.dropLast := by
  refine ⟨by rw [e, List.length_dropLast], by rw [List.length_dropLast]; have := h.2.1; omega, fun i y hy k hk => ?_⟩
  rw [e2]
  rw [List.getElem?_dropLast] at hy
  split at hy
  · exact h.2.2 i y hy k hk
  · cases hy
theorem sv_lt {H : List ZZ} {k : Nat} (h0 : ¬ H.length = 0) (h6 : H.length ≤ 6) (hk : k < 106) : 106 * (H.length - 1) + k < 636 := by omega
/-- rows that are alike below the runs -/
def Lo (z1 z : ZZ) : Prop := ∀ j, j < 69 → z1 j = z j
section LoRows
variable {z1 z : ZZ}
theorem Lo.c8 (h : Lo z1 z) : nc z1 = nc z := by unfold nc; rw [h 8 (by omega)]
theorem Lo.X (h : Lo z1 z) (hB : Bz z) (h0 : 0 < nc z) : zX z1 = zX z := by
  funext k
  have h1 := Nat.mod_lt k h0
  have h2 := (nc_e hB).2
  unfold zX
  rw [h.c8, h _ (by omega)]
theorem Lo.Y (h : Lo z1 z) (hB : Bz z) (h0 : 0 < nc z) : zY z1 = zY z := by
  funext k
  have h1 := Nat.mod_lt k h0
  have h2 := (nc_e hB).2
  unfold zY
  rw [h.c8, h _ (by omega)]
theorem Lo.S (h : Lo z1 z) {k : Nat} (hk : k < 20) : zS z1 k = zS z k := by unfold zS; rw [h _ (by omega)]
theorem Lo.D (h : Lo z1 z) : zD z1 = zD z := by funext a b; unfold zD; rw [h 0 (by omega), h 1 (by omega)]
theorem Lo.A (h : Lo z1 z) : zA z1 = zA z := by funext a b; unfold zA; rw [h.D, h 2 (by omega), h 3 (by omega)]
theorem Lo.Hb (h : Lo z1 z) : zHb z1 = zHb z := by funext a b; unfold zHb; rw [h.A, h 2 (by omega)]
theorem Lo.H (h : Lo z1 z) : zH z1 = zH z := by funext a b; unfold zH; rw [h.Hb, h 5 (by omega)]
theorem Lo.Ex (h : Lo z1 z) : zEx z1 = zEx z := by funext a b; unfold zEx; rw [h.D, h.A, h.H, h 0 (by omega), h 1 (by omega)]
theorem Lo.Ey (h : Lo z1 z) : zEy z1 = zEy z := by funext a b; unfold zEy; rw [h.D, h.A, h.H, h 0 (by omega), h 1 (by omega)]
theorem Lo.Re (h : Lo z1 z) : zRe z1 = zRe z := by funext a b; unfold zRe; rw [h.D, h 2 (by omega), h 3 (by omega)]
theorem Lo.N (h : Lo z1 z) (hB : Bz z) (h0 : 0 < nc z) : zN z1 = zN z := by funext k; unfold zN; rw [h.X hB h0, h.Y hB h0, h 4 (by omega)]
theorem Lo.Px (h : Lo z1 z) (hB : Bz z) (h0 : 0 < nc z) : zPx z1 = zPx z := by funext k i; unfold zPx; rw [h.X hB h0, h.N hB h0]
theorem Lo.Py (h : Lo z1 z) (hB : Bz z) (h0 : 0 < nc z) : zPy z1 = zPy z := by funext k i; unfold zPy; rw [h.Y hB h0, h.N hB h0]
theorem Lo.Rk (h : Lo z1 z) (hB : Bz z) (h0 : 0 < nc z) : zRk z1 = zRk z := by funext k; unfold zRk; rw [h.N hB h0, h.Re, h.Px hB h0, h.Py hB h0]
theorem Lo.Ra (h : Lo z1 z) (hB : Bz z) (h0 : 0 < nc z) : zRa z1 = zRa z := by unfold zRa; rw [h.c8, h.Rk hB h0]
theorem Lo.Sw (h : Lo z1 z) : zSw z1 = zSw z := by funext a b c d; unfold zSw; rw [h.Ex, h.Ey]
theorem Lo.Si (h : Lo z1 z) (hB : Bz z) (h0 : 0 < nc z) : zSi z1 = zSi z := by funext k i j; unfold zSi; rw [h.Sw, h.Px hB h0, h.Py hB h0]
theorem Lo.Fs (h : Lo z1 z) (hB : Bz z) (h0 : 0 < nc z) : zFs z1 = zFs z := by funext b k i; unfold zFs; rw [h.Si hB h0, h.N hB h0]
theorem Lo.Fo (h : Lo z1 z) (hB : Bz z) (h0 : 0 < nc z) {b : Bool} {k : Nat} (hk : k < 20) : zFo z1 b k = zFo z b k := by
  funext n a
  unfold zFo
  rw [h.Fs hB h0, h.S hk, h 6 (by omega)]
theorem sk_lt {n c : Nat} {b : Bool} (h : 0 < n) (i : Nat) : zSk n c b i < n := by unfold zSk; split <;> exact Nat.mod_lt _ h
theorem Lo.Su (h : Lo z1 z) (hB : Bz z) (h0 : 0 < nc z) {b : Bool} {c : Nat} : zSu z1 c b = zSu z c b := by
  funext n
  unfold zSu
  have e : (fun i a => zFo z1 b (zSk (nc z1) c b i) (zN z1 (zSk (nc z1) c b i)) a) = (fun i a => zFo z b (zSk (nc z) c b i) (zN z (zSk (nc z) c b i)) a) := by
    funext i a
    have h2 := (nc_e hB).2
    have h3 := sk_lt (c := c) (b := b) h0 i
    rw [h.c8, h.N hB h0, h.Fo hB h0 (by omega)]
  rw [e]
theorem Lo.Sum (h : Lo z1 z) (hB : Bz z) (h0 : 0 < nc z) {b : Bool} {c : Nat} : zSum z1 c b = zSum z c b := by unfold zSum; rw [h.c8, h.Su hB h0]
end LoRows
def bL (b : Bool) : Int64 := if b then 1 else 0
def zMk (z : ZZ) (c : Nat) (b : Bool) : ZZ := vp_updL (vp_updL (vp_updL (vp_updL z (70 + 3 * nr z) (nI c).toInt64) (70 + 3 * nr z + 1) (bL b)) (70 + 3 * nr z + 2) (zSum z c b)) 69 (z 69 + 1)
def zMk1 (z : ZZ) (c : Nat) (w : Int64) : ZZ := vp_updL (vp_updL z (70 + 3 * nr z) (nI c).toInt64) (70 + 3 * nr z + 1) w
theorem mk1_lo {z : ZZ} {c : Nat} {w : Int64} : Lo (zMk1 z c w) z := fun j hj => by unfold zMk1; rw [uLn (by omega), uLn (by omega)]
theorem mk1_B {z : ZZ} {c : Nat} {w : Int64} (hB : Bz z) : Bz (zMk1 z c w) := by
  have h12 := (nr_e hB).2
  have hn := (nc_e hB).2
  have e : ∀ j, j < 70 + 3 * nr z → zMk1 z c w j = z j := fun j hj => by unfold zMk1; rw [uLn (by omega), uLn (by omega)]
  have en : nc (zMk1 z c w) = nc z := mk1_lo.c8
  have er : nr (zMk1 z c w) = nr z := by unfold nr; rw [e 69 (by omega)]
  unfold Bz
  rw [en, er, e 0 (by omega), e 1 (by omega), e 2 (by omega), e 3 (by omega), e 4 (by omega), e 5 (by omega), e 6 (by omega), e 7 (by omega), e 8 (by omega), e 69 (by omega)]
  refine ⟨hB.1, hB.2.1, hB.2.2.1, hB.2.2.2.1, hB.2.2.2.2.1, fun k hk => ?_, fun r hr => ?_⟩
  · rw [e _ (by omega), e _ (by omega), e _ (by omega)]; exact hB.2.2.2.2.2.1 k hk
  · rw [e _ (by omega), e _ (by omega), e _ (by omega)]; exact hB.2.2.2.2.2.2 r hr
theorem zMk_e {z : ZZ} {c : Nat} {b : Bool} {w r : Int64} (hB : Bz z) (h0 : 0 < nc z) (hw : w = bL b) (hr : r = zSum (zMk1 z c w) c b) : vp_updL (vp_updL (zMk1 z c w) (70 + 3 * nr z + 2) r) 69 (vp_updL (zMk1 z c w) (70 + 3 * nr z + 2) r 69 + 1) = zMk z c b := by
  rw [hr, mk1_lo.Sum hB h0, hw, uLn (by omega)]
  unfold zMk1
  rw [uLn (by omega), uLn (by omega)]
  rfl
theorem mk_nr {z : ZZ} {c : Nat} {b : Bool} (hB : Bz z) (h12 : nr z < 12) : (zMk z c b 69).toInt = (nr z : Int) + 1 := by
  have h := (nr_e hB).1
  unfold zMk
  rw [uLs, L_add (by rw [h, show (1 : Int64).toInt = 1 by decide]; omega) (by rw [h, show (1 : Int64).toInt = 1 by decide]; omega), h]
  rfl
theorem mk_nr2 {z : ZZ} {c : Nat} {b : Bool} (hB : Bz z) (h12 : nr z < 12) : nr (zMk z c b) = nr z + 1 := by
  show (zMk z c b 69).toInt.toNat = _
  rw [mk_nr hB h12]
  omega
theorem mk_ret {z : ZZ} {c : Nat} {b : Bool} (hB : Bz z) (h12 : nr z < 12) : (zMk z c b 69).toInt32 - 1 = nI (nr z) := by
  rw [L32n (n := nr z + 1) (by rw [mk_nr hB h12]; omega) (by omega)]
  exact nsub (b := 1) rfl rfl (by omega)
theorem mk_lo {z : ZZ} {c : Nat} {b : Bool} : Lo (zMk z c b) z := fun j hj => by unfold zMk; rw [uLn (by omega), uLn (by omega), uLn (by omega), uLn (by omega)]
theorem mk_B {z : ZZ} {c : Nat} {b : Bool} (hB : Bz z) (hc : c < 20) (h12 : nr z < 12) : Bz (zMk z c b) := by
  have hn := (nc_e hB).2
  have e : ∀ j, j < 69 ∨ 69 < j → j < 70 + 3 * nr z → zMk z c b j = z j := fun j h1 hj => by unfold zMk; rw [uLn (by omega), uLn (by omega), uLn (by omega), uLn (by omega)]
  have en : nc (zMk z c b) = nc z := mk_lo.c8
  unfold Bz
  rw [en, mk_nr2 hB h12, e 0 (by omega) (by omega), e 1 (by omega) (by omega), e 2 (by omega) (by omega), e 3 (by omega) (by omega), e 4 (by omega) (by omega), e 5 (by omega) (by omega), e 6 (by omega) (by omega), e 7 (by omega) (by omega), e 8 (by omega) (by omega)]
  refine ⟨hB.1, hB.2.1, hB.2.2.1, hB.2.2.2.1, ⟨by rw [mk_nr hB h12]; omega, by rw [mk_nr hB h12]; omega⟩, fun k hk => ?_, fun r hr => ?_⟩
  · rw [e _ (by omega) (by omega), e _ (by omega) (by omega), e _ (by omega) (by omega)]; exact hB.2.2.2.2.2.1 k hk
  · rcases Nat.lt_or_ge r (nr z) with g | g
    · rw [e _ (by omega) (by omega), e _ (by omega) (by omega), e _ (by omega) (by omega)]; exact hB.2.2.2.2.2.2 r g
    · obtain rfl : r = nr z := by omega
      refine ⟨?_, ?_, ?_⟩
      · unfold zMk
        rw [uLn (by omega), uLn (by omega), uLn (by omega), uLs]
        exact wtn_I (by rw [nI_toInt (by omega)]; omega)
      · unfold zMk
        rw [uLn (by omega), uLn (by omega), uLs]
        unfold bL wtn
        split <;> decide
      · unfold wtn
        have := L_b (zMk z c b (70 + 3 * nr z + 2))
        omega
theorem mk_E {z : ZZ} {c : Nat} {b : Bool} (hE : zE z) (h12 : nr z < 12) : zE (zMk z c b) := fun j hj => by
  unfold zMk
  rw [uLn (by omega), uLn (by omega), uLn (by omega), uLn (by omega)]
  exact hE j hj
theorem zRf_le {z : ZZ} : zRf z ≤ 4 := by
  have := zSh_le (z := z)
  unfold zRf
  split <;> omega
theorem zSh_ra {z : ZZ} (h : zSh z = 0) : 3 ≤ nc z ∧ ¬ zOO z ∧ zRa z := by
  unfold zSh ifP at h
  split at h
  · omega
  · split at h
    · omega
    · next g =>
      split at h
      · next g2 => exact ⟨by omega, g, g2⟩
      · omega
theorem zRf_0 {z : ZZ} (hB : Bz z) (h : zRf z = 0) : 0 < nc z ∧ zRa z ∧ nr z < 12 := by
  unfold zRf at h
  split at h
  · omega
  · next g =>
    obtain ⟨a, -, b⟩ := zSh_ra h
    refine ⟨by omega, b, ?_⟩
    have h1 := nr_e hB
    rcases Nat.lt_or_ge (nr z) 12 with c | c
    · exact c
    · exact absurd ⟨h, (z69 hB).trans (by rw [show nr z = 12 by omega]; rfl)⟩ g
noncomputable def oRun (k : Int32) (b : Bool) (w : WW) : Int32 × Int32 × WW := if tRem w.1 k = 0 then (if zRf w.1 = 0 then (0, nI (nr w.1), (zMk w.1 k.toInt.toNat b, psh w.2.1 w.1, 0, w.2.2.2)) else (2, 0, (w.1, w.2.1, nI (zRf w.1), w.2.2.2))) else (tRem w.1 k, 0, w)
noncomputable def raS (i : Nat) (a : Int32 × Nat × ZZ) : Int32 × Nat × ZZ := if a.1 = 0 then (if zRf a.2.2 = 0 then (0, a.2.1 + 1, zMk a.2.2 (i / 2) (decide (i % 2 = 1))) else (nI (zRf a.2.2), a.2.1, a.2.2)) else a
noncomputable def raF (z : ZZ) (i : Nat) : Int32 × Nat × ZZ := foldF raS i (0, 0, z)
theorem raF_s {z : ZZ} {i : Nat} : raF z (i + 1) = raS i (raF z i) := rfl
theorem raF_B {z : ZZ} (hB : Bz z) : ∀ {i : Nat}, i ≤ 2 * nc z → Bz (raF z i).2.2 ∧ Lo (raF z i).2.2 z ∧ (raF z i).2.1 ≤ i ∧ (zE z → zE (raF z i).2.2)
  | 0, _ => ⟨hB, fun _ _ => rfl, Nat.le_refl 0, fun h => h⟩
  | i + 1, hi => by
    obtain ⟨h1, h2, h3, h4⟩ := raF_B hB (i := i) (by omega)
    have hn := (nc_e hB).2
    rw [raF_s]
    unfold raS
    split
    · split
      · next g2 =>
        obtain ⟨a, b, c⟩ := zRf_0 h1 g2
        exact ⟨mk_B h1 (by omega) c, fun j hj => (mk_lo j hj).trans (h2 j hj), by show _ + 1 ≤ i + 1; omega, fun h => mk_E (h4 h) c⟩
      · exact ⟨h1, h2, by show (raF z i).2.1 ≤ i + 1; omega, h4⟩
    · exact ⟨h1, h2, by omega, h4⟩
theorem raF_stay {z : ZZ} {i : Nat} (h : ¬ (raF z i).1 = 0) : ∀ k, raF z (i + k) = raF z i
  | 0 => rfl
  | k + 1 => by
    have ih := raF_stay h k
    rw [← Nat.add_assoc, raF_s, ih]
    unfold raS
    rw [if_neg h]
theorem raF_go {z : ZZ} {i m : Nat} {y : ZZ} (h : raF z i = (0, m, y)) (h2 : zRf y = 0) {b : Bool} (hb : b = decide (i % 2 = 1)) : raF z (i + 1) = (0, m + 1, zMk y (i / 2) b) := by
  rw [raF_s, h, hb]
  unfold raS
  rw [if_pos rfl, if_pos h2]
theorem raF_no {z : ZZ} {i m : Nat} {y : ZZ} (h : raF z i = (0, m, y)) (h2 : ¬ zRf y = 0) : raF z (i + 1) = (nI (zRf y), m, y) := by
  rw [raF_s, h]
  unfold raS
  rw [if_pos rfl, if_neg h2]
theorem raF_end {z : ZZ} {i m n : Nat} {l : Int32} {y : ZZ} (h : raF z i = (l, m, y)) (hl : ¬ l = 0) (hi : i ≤ n) : raF z n = (l, m, y) := by
  have h1 := raF_stay (z := z) (i := i) (by rw [h]; exact hl) (n - i)
  rw [show i + (n - i) = n by omega, h] at h1
  exact h1
theorem nI_zRf {z : ZZ} (h : ¬ zRf z = 0) : ¬ nI (zRf z) = 0 := by
  have := zRf_le (z := z)
  rw [show (0 : Int32) = nI 0 from rfl, nI_eq (by omega) (by omega)]
  exact h
noncomputable def oRal (w : WW) : Int32 × Int32 × WW := (0, nI (raF w.1 (2 * nc w.1)).2.1, ((raF w.1 (2 * nc w.1)).2.2, psh w.2.1 w.1, (raF w.1 (2 * nc w.1)).1, w.2.2.2))
def tApp (n : Nat) (c : Int32) : Int32 := if ¬ (33 ≤ c.toInt ∧ c.toInt ≤ 126) then 1 else if n = 60 then 2 else 0
theorem tApp_i {n : Nat} {c : Int32} (h : tApp n c ≤ 0) : tApp n c = 0 ∧ (33 ≤ c.toInt ∧ c.toInt ≤ 126) ∧ ¬ n = 60 := by
  unfold tApp at h ⊢
  split
  · next g => rw [if_pos g] at h; exact absurd h (by decide)
  · next g =>
    rw [if_neg g] at h
    split
    · next g2 => rw [if_pos g2] at h; exact absurd h (by decide)
    · next g2 => exact ⟨rfl, Decidable.not_not.mp g, g2⟩
def oApp (c : Int32) (w : WW) : Int32 × Int32 × WW := if tApp w.2.2.2.1 c = 0 then (0, nI (w.2.2.2.1 + 1), (w.1, w.2.1, w.2.2.1, w.2.2.2.1 + 1, upd w.2.2.2.2 w.2.2.2.1 c)) else (tApp w.2.2.2.1 c, 0, w)
theorem app_tx {f tx : Nat → Int32} {n j : Nat} {c : Int32} (h : ∀ j, j < n → f j = tx j) (hj : j < n + 1) : upd f n c j = upd tx n c j := by
  unfold upd
  by_cases e : j = n
  · rw [if_pos e, if_pos e]
  · rw [if_neg e, if_neg e]; exact h j (by omega)
def oClr (w : WW) : Int32 × Int32 × WW := (0, nI w.2.2.2.1, (w.1, w.2.1, w.2.2.1, 0, w.2.2.2.2))
def oRea (w : WW) : Int32 × Int32 × WW := (0, w.2.2.1, w)
theorem tUnd_i {H : List ZZ} (h : tUnd H ≤ 0) : ¬ H.length = 0 := fun g => by
  unfold tUnd at h
  rw [if_pos g] at h
  exact absurd h (by decide)
theorem tUnd_n {H : List ZZ} (h : ¬ tUnd H ≤ 0) : H.length = 0 := by
  by_cases g : H.length = 0
  · exact g
  · exfalso
    apply h
    unfold tUnd
    rw [if_neg g]
    decide
theorem oRal_e {z y : ZZ} {H : List ZZ} {l l1 : Int32} {n m : Nat} {tx : Nat → Int32} (h : raF z (2 * nc z) = (l1, m, y)) : oRal (z, H, l, n, tx) = (0, nI m, (y, psh H z, l1, n, tx)) := by
  show (0, nI (raF z (2 * nc z)).2.1, ((raF z (2 * nc z)).2.2, psh H z, (raF z (2 * nc z)).1, n, tx)) = _
  rw [h]
