/-! what changes a state -/
/-- a state whose cells are those of another one but for some: the row z' against z -/
theorem Cs_mk {S S' : PS} {q : Nat → Nat} {s : Nat} {z z' : ZZ} (hc : Cs S q s z) (hn : nc z' = nc z) (hr : nr z' = nr z)
    (a : (pI S' (q (10 * s)) 0).toInt64 = z' 0 ∧ (pI S' (q (10 * s)) 1).toInt64 = z' 1 ∧ (pI S' (q (10 * s)) 2).toInt64 = z' 7)
    (b : ∀ i, i < 5 → (pI S' (q (10 * s + 1)) i).toInt64 = z' (2 + i)) (n : pI S' (q (10 * s + 2)) 0 = pI S (q (10 * s + 2)) 0)
    (k : ∀ k, k < nc z → (pI S' (q (10 * s + 3)) k).toInt64 = z' (9 + 3 * k) ∧ (pI S' (q (10 * s + 4)) k).toInt64 = z' (9 + 3 * k + 1) ∧ (pI S' (q (10 * s + 5)) k).toInt64 = z' (9 + 3 * k + 2))
    (m : pI S' (q (10 * s + 6)) 0 = pI S (q (10 * s + 6)) 0) (r : ∀ r, r < nr z → (pI S' (q (10 * s + 7)) r).toInt64 = z' (70 + 3 * r) ∧ (pI S' (q (10 * s + 8)) r).toInt64 = z' (70 + 3 * r + 1) ∧ pJ S' (q (10 * s + 9)) r = z' (70 + 3 * r + 2)) : Cs S' q s z' := by
  unfold Cs
  rw [hn, hr]
  exact ⟨a, b, n.trans hc.n, k, m.trans hc.m, r⟩
theorem Cs_clear {S S' : PS} {q : Nat → Nat} {s : Nat} {z : ZZ} (hs : s < 8) (hB : Bz z) (hc : Cs S q s z) (hf : Fr S S' q [10 * s + 6]) (h : pI S' (q (10 * s + 6)) 0 = 0) : Cs S' q s (vp_updL z 69 0) := by
  have h20 := (nc_e hB).2
  have e : ∀ i, i < 10 → i ≠ 6 → pI S' (q (10 * s + i)) = pI S (q (10 * s + i)) := fun i hi h6 => (hf.2.2 _ (by omega) (by simp; omega)).1
  have en : nc (vp_updL z 69 0) = nc z := by unfold nc; rw [uLn (by omega)]
  have er : nr (vp_updL z 69 0) = 0 := nr_0 uLs
  unfold Cs
  rw [en, er, show pI S' (q (10 * s)) = pI S (q (10 * s)) from e 0 (by omega) (by omega), e 1 (by omega) (by omega), e 2 (by omega) (by omega), e 3 (by omega) (by omega), e 4 (by omega) (by omega), e 5 (by omega) (by omega), uLn (by omega), uLn (by omega), uLn (by omega)]
  refine ⟨hc.1, fun i hi => ?_, hc.2.2.1, fun k hk => ?_, h, fun r hr => absurd hr (by omega)⟩
  · rw [uLn (by omega)]; exact hc.2.1 i hi
  · rw [uLn (by omega), uLn (by omega), uLn (by omega)]; exact hc.2.2.2.1 k hk
theorem Cs_add {S S' : PS} {q : Nat → Nat} {s : Nat} {z : ZZ} {c : Nat} {b : Bool} (hs : s < 8) (hB : Bz z) (h12 : nr z < 12) (hc : Cs S q s z) (hf : Fr S S' q [10 * s + 6, 10 * s + 7, 10 * s + 8, 10 * s + 9]) (h6 : pI S' (q (10 * s + 6)) 0 = nI (nr z + 1)) (h7 : pI S' (q (10 * s + 7)) = upd (pI S (q (10 * s + 7))) (nr z) (nI c)) (h8 : pI S' (q (10 * s + 8)) = upd (pI S (q (10 * s + 8))) (nr z) (bI b)) (h9 : pJ S' (q (10 * s + 9)) = vp_updL (pJ S (q (10 * s + 9))) (nr z) (zSum z c b)) : Cs S' q s (zMk z c b) := by
  have h20 := (nc_e hB).2
  have e : ∀ i, i < 6 → pI S' (q (10 * s + i)) = pI S (q (10 * s + i)) := fun i hi => (hf.2.2 _ (by omega) (by simp; omega)).1
  have en : nc (zMk z c b) = nc z := mk_lo.c8
  have lo : ∀ j, j < 69 → zMk z c b j = z j := mk_lo
  unfold Cs
  rw [en, mk_nr2 hB h12, show pI S' (q (10 * s)) = pI S (q (10 * s)) from e 0 (by omega), e 1 (by omega), e 2 (by omega), e 3 (by omega), e 4 (by omega), e 5 (by omega), lo 0 (by omega), lo 1 (by omega), lo 7 (by omega)]
  refine ⟨hc.1, fun i hi => ?_, hc.2.2.1, fun k hk => ?_, h6, fun r hr => ?_⟩
  · rw [lo _ (by omega)]; exact hc.2.1 i hi
  · rw [lo _ (by omega), lo _ (by omega), lo _ (by omega)]; exact hc.2.2.2.1 k hk
  · rw [h7, h8, h9]
    unfold zMk
    rcases Nat.lt_or_ge r (nr z) with g | g
    · rw [uLn (by omega), uLn (by omega), uLn (by omega), uLn (by omega), uLn (by omega), uLn (by omega), uLn (by omega), uLn (by omega), uLn (by omega), uLn (by omega), uLn (by omega), uLn (by omega), uLn (by omega)]
      unfold upd
      rw [if_neg (by omega), if_neg (by omega)]
      exact hc.2.2.2.2.2 r g
    · obtain rfl : r = nr z := by omega
      refine ⟨?_, ?_, ?_⟩
      · rw [uLn (by omega), uLn (by omega), uLn (by omega), uLs]
        unfold upd
        rw [if_pos rfl]
      · rw [uLn (by omega), uLn (by omega), uLs]
        unfold upd
        rw [if_pos rfl]
        cases b <;> rfl
      · rw [uLs, uLn (by omega), uLs]
def opI (f : Nat → Int32) (n k : Nat) (v : Int32) : Nat → Int32 := fun j => if j < k then f j else if j = k then v else if j ≤ n then f (j - 1) else f j
def shI (f : Nat → Int32) (n i : Nat) : Nat → Int32 := fun j => if i < j ∧ j ≤ n then f (j - 1) else f j
theorem shI_0 {f : Nat → Int32} {n : Nat} : f = shI f n n := by funext j; unfold shI; rw [if_neg (by omega)]
theorem shI_s {f : Nat → Int32} {n p : Nat} (h : 0 < p) (h2 : p ≤ n) : upd (shI f n p) p (shI f n p (p - 1)) = shI f n (p - 1) := by
  funext j
  unfold upd shI
  by_cases e : j = p
  · rw [if_pos e, if_neg (by omega), if_pos (by omega), e]
  · rw [if_neg e]
    by_cases g : p < j ∧ j ≤ n
    · rw [if_pos g, if_pos (by omega)]
    · rw [if_neg g, if_neg (by omega)]
theorem shI_e {f : Nat → Int32} {n p : Nat} {a : Int32} : upd (shI f n p) p a = opI f n p a := by
  funext j
  unfold upd shI opI
  by_cases e : j = p
  · rw [if_pos e, if_neg (by omega), if_pos e]
  · rw [if_neg e]
    by_cases g : j < p
    · rw [if_pos g, if_neg (by omega)]
    · rw [if_neg g, if_neg e]
      by_cases g2 : j ≤ n
      · rw [if_pos g2, if_pos (by omega)]
      · rw [if_neg g2, if_neg (by omega)]
theorem Cs_open {S S' : PS} {q : Nat → Nat} {s : Nat} {z : ZZ} {k : Nat} {x y : Int32} (hs : s < 8) (hB : Bz z) (hk : k ≤ nc z) (h20 : nc z < 20) (hc : Cs S q s z) (hf : Fr S S' q [10 * s + 2, 10 * s + 3, 10 * s + 4, 10 * s + 5]) (h2 : pI S' (q (10 * s + 2)) 0 = nI (nc z + 1)) (h3 : pI S' (q (10 * s + 3)) = opI (pI S (q (10 * s + 3))) (nc z) k x) (h4 : pI S' (q (10 * s + 4)) = opI (pI S (q (10 * s + 4))) (nc z) k y) (h5 : pI S' (q (10 * s + 5)) = opI (pI S (q (10 * s + 5))) (nc z) k 0) : Cs S' q s (zInP z k x y) := by
  have h12 := (nr_e hB).2
  have e : ∀ i, i < 10 → i < 2 ∨ 5 < i → pI S' (q (10 * s + i)) = pI S (q (10 * s + i)) ∧ pJ S' (q (10 * s + i)) = pJ S (q (10 * s + i)) := fun i hi g => hf.2.2 _ (by omega) (by simp; omega)
  have lo : ∀ j, j < 8 ∨ 69 ≤ j → zInP z k x y j = z j := fun j hj => by unfold zInP; rw [if_neg (by omega), if_neg (by omega), if_neg (by omega), if_neg (by omega), if_neg (by omega)]
  have er : nr (zInP z k x y) = nr z := by unfold nr; rw [lo 69 (by omega)]
  unfold Cs
  rw [nc_ins hB, er, show pI S' (q (10 * s)) = pI S (q (10 * s)) from (e 0 (by omega) (by omega)).1, (e 1 (by omega) (by omega)).1, (e 6 (by omega) (by omega)).1, (e 7 (by omega) (by omega)).1, (e 8 (by omega) (by omega)).1, (e 9 (by omega) (by omega)).2, lo 0 (by omega), lo 1 (by omega), lo 7 (by omega)]
  refine ⟨hc.1, fun i hi => ?_, h2, fun c hcn => ?_, hc.m, fun r hr => ?_⟩
  · rw [lo _ (by omega)]; exact hc.2.1 i hi
  · rw [h3, h4, h5]
    unfold opI
    rcases Nat.lt_trichotomy c k with g | g | g
    · have ez : ∀ t, t < 3 → zInP z k x y (9 + 3 * c + t) = z (9 + 3 * c + t) := fun t ht => by
        unfold zInP; rw [if_neg (by omega), if_neg (by omega), if_neg (by omega), if_neg (by omega), if_neg (by omega)]
      rw [if_pos g, if_pos g, if_pos g, show zInP z k x y (9 + 3 * c) = _ from ez 0 (by omega), ez 1 (by omega), ez 2 (by omega)]
      exact hc.2.2.2.1 c (by omega)
    · subst g
      rw [if_neg (by omega), if_pos rfl, if_neg (by omega), if_pos rfl, if_neg (by omega), if_pos rfl]
      unfold zInP
      refine ⟨?_, ?_, ?_⟩
      · rw [if_neg (by omega), if_neg (by omega), if_neg (by omega), if_pos rfl]
      · rw [if_neg (by omega), if_neg (by omega), if_pos rfl]
      · rw [if_neg (by omega), if_pos rfl]; rfl
    · have ez : ∀ t, t < 3 → zInP z k x y (9 + 3 * c + t) = z (9 + 3 * (c - 1) + t) := fun t ht => by
        unfold zInP; rw [if_neg (by omega), if_neg (by omega), if_neg (by omega), if_neg (by omega), if_pos (by omega)]; exact congrArg z (by omega)
      rw [if_neg (by omega), if_neg (by omega), if_pos (by omega), if_neg (by omega), if_neg (by omega), if_pos (by omega), if_neg (by omega), if_neg (by omega), if_pos (by omega), show zInP z k x y (9 + 3 * c) = _ from ez 0 (by omega), ez 1 (by omega), ez 2 (by omega)]
      exact hc.2.2.2.1 (c - 1) (by omega)
  · rw [lo _ (by omega), lo _ (by omega), lo _ (by omega)]; exact hc.2.2.2.2.2 r hr
def clI (f : Nat → Int32) (k i : Nat) : Nat → Int32 := fun j => if k ≤ j ∧ j < i then f (j + 1) else f j
theorem clI_0 {f : Nat → Int32} {k : Nat} : f = clI f k k := by funext j; unfold clI; rw [if_neg (by omega)]
theorem clI_s {f : Nat → Int32} {k i : Nat} (h : k ≤ i) : upd (clI f k i) i (clI f k i (i + 1)) = clI f k (i + 1) := by
  funext j
  unfold upd clI
  by_cases e : j = i
  · rw [if_pos e, if_neg (by omega), if_pos (by omega), e]
  · rw [if_neg e]
    by_cases g : k ≤ j ∧ j < i
    · rw [if_pos g, if_pos (by omega)]
    · rw [if_neg g, if_neg (by omega)]
theorem Cs_close {S S' : PS} {q : Nat → Nat} {s : Nat} {z : ZZ} {k : Nat} (hs : s < 8) (hB : Bz z) (hk : k < nc z) (hc : Cs S q s z) (hf : Fr S S' q [10 * s + 2, 10 * s + 3, 10 * s + 4, 10 * s + 5]) (h2 : pI S' (q (10 * s + 2)) 0 = nI (nc z - 1)) (h3 : pI S' (q (10 * s + 3)) = clI (pI S (q (10 * s + 3))) k (nc z - 1)) (h4 : pI S' (q (10 * s + 4)) = clI (pI S (q (10 * s + 4))) k (nc z - 1)) (h5 : pI S' (q (10 * s + 5)) = clI (pI S (q (10 * s + 5))) k (nc z - 1)) : Cs S' q s (remR z k (9 + 3 * (nc z - 1))) := by
  have h12 := (nr_e hB).2
  have h20 := (nc_e hB).2
  have e : ∀ i, i < 10 → i < 2 ∨ 5 < i → pI S' (q (10 * s + i)) = pI S (q (10 * s + i)) ∧ pJ S' (q (10 * s + i)) = pJ S (q (10 * s + i)) := fun i hi g => hf.2.2 _ (by omega) (by simp; omega)
  have lo : ∀ j, j < 8 ∨ 69 ≤ j → remR z k (9 + 3 * (nc z - 1)) j = z j := fun j hj => by unfold remR; rw [if_neg (by omega), if_neg (by omega)]
  have er : nr (remR z k (9 + 3 * (nc z - 1))) = nr z := by unfold nr; rw [lo 69 (by omega)]
  unfold Cs
  rw [nc_rem hB hk, er, show pI S' (q (10 * s)) = pI S (q (10 * s)) from (e 0 (by omega) (by omega)).1, (e 1 (by omega) (by omega)).1, (e 6 (by omega) (by omega)).1, (e 7 (by omega) (by omega)).1, (e 8 (by omega) (by omega)).1, (e 9 (by omega) (by omega)).2, lo 0 (by omega), lo 1 (by omega), lo 7 (by omega)]
  refine ⟨hc.1, fun i hi => ?_, h2, fun c hcn => ?_, hc.m, fun r hr => ?_⟩
  · rw [lo _ (by omega)]; exact hc.2.1 i hi
  · rw [h3, h4, h5]
    unfold clI
    rcases Nat.lt_or_ge c k with g | g
    · have ez : ∀ t, t < 3 → remR z k (9 + 3 * (nc z - 1)) (9 + 3 * c + t) = z (9 + 3 * c + t) := fun t ht => by
        unfold remR; rw [if_neg (by omega), if_neg (by omega)]
      rw [if_neg (by omega), if_neg (by omega), if_neg (by omega), show remR z k (9 + 3 * (nc z - 1)) (9 + 3 * c) = _ from ez 0 (by omega), ez 1 (by omega), ez 2 (by omega)]
      exact hc.2.2.2.1 c (by omega)
    · have ez : ∀ t, t < 3 → remR z k (9 + 3 * (nc z - 1)) (9 + 3 * c + t) = z (9 + 3 * (c + 1) + t) := fun t ht => by
        unfold remR; rw [if_neg (by omega), if_pos (by omega)]; exact congrArg z (by omega)
      rw [if_pos (by omega), if_pos (by omega), if_pos (by omega), show remR z k (9 + 3 * (nc z - 1)) (9 + 3 * c) = _ from ez 0 (by omega), ez 1 (by omega), ez 2 (by omega)]
      exact hc.2.2.2.1 (c + 1) (by omega)
  · rw [lo _ (by omega), lo _ (by omega), lo _ (by omega)]; exact hc.2.2.2.2.2 r hr
theorem Cs_load {S S' : PS} {q : Nat → Nat} {s : Nat} {z : ZZ} {K : Nat} {rd : Nat → Int32} (hs : s < 8) (hB : Bz z) (hK : K ≤ 20) (hc : Cs S q s z) (hf : Fr S S' q [10 * s + 2, 10 * s + 3, 10 * s + 4, 10 * s + 5]) (h2 : pI S' (q (10 * s + 2)) 0 = nI K) (h : ∀ k, k < K → pI S' (q (10 * s + 3)) k = rd (2 * k) ∧ pI S' (q (10 * s + 4)) k = rd (2 * k + 1) ∧ pI S' (q (10 * s + 5)) k = 0) : Cs S' q s (ldR (zL8 z K) rd K) := by
  have h12 := (nr_e hB).2
  have e : ∀ i, i < 10 → i < 2 ∨ 5 < i → pI S' (q (10 * s + i)) = pI S (q (10 * s + i)) ∧ pJ S' (q (10 * s + i)) = pJ S (q (10 * s + i)) := fun i hi g => hf.2.2 _ (by omega) (by simp; omega)
  have lo : ∀ j, j < 8 ∨ 69 ≤ j → ldR (zL8 z K) rd K j = z j := fun j hj => by
    rw [ld_o (by omega)]
    unfold zL8
    rw [uLn (by omega)]
  unfold Cs
  rw [ld_nc (by omega), ld_nr hK, show pI S' (q (10 * s)) = pI S (q (10 * s)) from (e 0 (by omega) (by omega)).1, (e 1 (by omega) (by omega)).1, (e 6 (by omega) (by omega)).1, (e 7 (by omega) (by omega)).1, (e 8 (by omega) (by omega)).1, (e 9 (by omega) (by omega)).2, lo 0 (by omega), lo 1 (by omega), lo 7 (by omega)]
  refine ⟨hc.1, fun i hi => ?_, h2, fun c hcn => ?_, hc.m, fun r hr => ?_⟩
  · rw [lo _ (by omega)]; exact hc.2.1 i hi
  · obtain ⟨a, b, d⟩ := ld_i (z := zL8 z K) (rd := rd) hcn
    obtain ⟨x, y, w⟩ := h c hcn
    rw [a, b, d, x, y, w]
    exact ⟨rfl, rfl, rfl⟩
  · rw [lo _ (by omega), lo _ (by omega), lo _ (by omega)]; exact hc.2.2.2.2.2 r hr
theorem rd_X {S : PS} {q : Nat → Nat} {t : TT} {k : Nat} (h : Tc S q t) (h2 : t.1 = 2) (hN : t.2.2.2.1 % 2 = 1) (hk : k ≤ t.2.2.2.1 / 2) : pI S (q 91) k = (rdE t).2.2.2.2 (2 * k) := by
  have e : rXY S q (2 * k) = pI S (q 91) k := by
    unfold rXY
    rw [if_pos (by omega), show 2 * k / 2 = k by omega]
  rw [← e]
  show _ = upd t.2.2.2.2 t.2.2.2.1 (if t.2.1 then -t.2.2.1 else t.2.2.1) (2 * k)
  unfold upd
  rw [if_neg (by omega)]
  exact h.2.1 _ (by omega)
theorem rd_Y {S : PS} {q : Nat → Nat} {t : TT} {k : Nat} (h : Tc S q t) (h2 : t.1 = 2) (hN : t.2.2.2.1 % 2 = 1) (hk : k ≤ t.2.2.2.1 / 2) : pI S (q 92) k = (rdE t).2.2.2.2 (2 * k + 1) := by
  have e : rXY S q (2 * k + 1) = pI S (q 92) k := by
    unfold rXY
    rw [if_neg (by omega), show (2 * k + 1) / 2 = k by omega]
  rw [← e]
  show _ = upd t.2.2.2.2 t.2.2.2.1 (if t.2.1 then -t.2.2.1 else t.2.2.1) (2 * k + 1)
  unfold upd
  by_cases g : 2 * k + 1 = t.2.2.2.1
  · rw [if_pos g, g]; exact h.2.2 h2
  · rw [if_neg g]; exact h.2.1 _ (by omega)
theorem ld_step {f3 f4 f5 g3 g4 g5 : Nat → Int32} {rd : Nat → Int32} {k : Nat} (h : ∀ j, j < k → f3 j = rd (2 * j) ∧ f4 j = rd (2 * j + 1) ∧ f5 j = 0) (h3 : g3 = upd f3 k (rd (2 * k))) (h4 : g4 = upd f4 k (rd (2 * k + 1))) (h5 : g5 = upd f5 k 0) : ∀ j, j < k + 1 → g3 j = rd (2 * j) ∧ g4 j = rd (2 * j + 1) ∧ g5 j = 0 := by
  intro j hj
  rw [h3, h4, h5]
  unfold upd
  by_cases e : j = k
  · rw [if_pos e, if_pos e, if_pos e, e]; exact ⟨rfl, rfl, rfl⟩
  · rw [if_neg e, if_neg e, if_neg e]; exact h j (by omega)
