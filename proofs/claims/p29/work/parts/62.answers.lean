/-! what load lays, and what the answering calls tell -/
noncomputable def tLod (tx : Nat → Int32) (n : Nat) : Int32 := if ((rdS tx n).1 = n ∧ (rdS tx n).2.1 = 2) ∧ (rdS tx n).2.2.2.2.1 % 2 = 1 ∧ 4 < (rdS tx n).2.2.2.2.1 then 0 else 1
theorem tLod_1 {tx : Nat → Int32} {n : Nat} (h : tLod tx n = 0) : (rdS tx n).1 = n ∧ (rdS tx n).2.1 = 2 ∧ (rdS tx n).2.2.2.2.1 % 2 = 1 ∧ 4 < (rdS tx n).2.2.2.2.1 := by
  unfold tLod at h
  split at h
  · next g => exact ⟨g.1.1, g.1.2, g.2⟩
  · exact absurd h (by decide)
theorem tLod_y {tx : Nat → Int32} {n : Nat} (h : (rdS tx n).1 = n) (h2 : (rdS tx n).2.1 = 2) (h3 : (rdS tx n).2.2.2.2.1 % 2 = 1) (h4 : 4 < (rdS tx n).2.2.2.2.1) : tLod tx n = 0 := if_pos ⟨⟨h, h2⟩, h3, h4⟩
theorem tLod_n {tx : Nat → Int32} {n : Nat} (h : ¬ tLod tx n = 0) : tLod tx n = 1 := by
  unfold tLod at h ⊢
  split
  · next g => rw [if_pos g] at h; exact absurd rfl h
  · rfl
theorem tLod_0 {tx : Nat → Int32} {n : Nat} (h : tLod tx n ≤ 0) : tLod tx n = 0 := by
  by_cases g : tLod tx n = 0
  · exact g
  · rw [tLod_n g] at h; exact absurd h (by decide)
def ldR (z : ZZ) (rd : Nat → Int32) : Nat → ZZ
  | 0 => z
  | k + 1 => pC (ldR z rd k) k (rd (2 * k)) (rd (2 * k + 1)) 0
def zL8 (z : ZZ) (K : Nat) : ZZ := vp_updL z 8 (nI K).toInt64
def zLod (z : ZZ) (K : Nat) (rd : Nat → Int32) : ZZ := vp_updL (ldR (zL8 z K) rd K) 69 0
theorem ld_o {z : ZZ} {rd : Nat → Int32} : ∀ {k j : Nat}, j < 9 ∨ 9 + 3 * k ≤ j → ldR z rd k j = z j
  | 0, _, _ => rfl
  | k + 1, j, h => by
    unfold ldR pC
    rw [uLn (by omega), uLn (by omega), uLn (by omega)]
    exact ld_o (by omega)
theorem ld_i {z : ZZ} {rd : Nat → Int32} : ∀ {k c : Nat}, c < k → ldR z rd k (9 + 3 * c) = (rd (2 * c)).toInt64 ∧ ldR z rd k (9 + 3 * c + 1) = (rd (2 * c + 1)).toInt64 ∧ ldR z rd k (9 + 3 * c + 2) = 0
  | 0, _, h => absurd h (by omega)
  | k + 1, c, h => by
    unfold ldR pC
    by_cases e : c = k
    · subst e
      refine ⟨?_, ?_, ?_⟩
      · rw [uLn (by omega), uLn (by omega), uLs]
      · rw [uLn (by omega), uLs]
      · rw [uLs]; rfl
    · have ih := ld_i (z := z) (rd := rd) (k := k) (c := c) (by omega)
      refine ⟨?_, ?_, ?_⟩
      · rw [uLn (by omega), uLn (by omega), uLn (by omega)]; exact ih.1
      · rw [uLn (by omega), uLn (by omega), uLn (by omega)]; exact ih.2.1
      · rw [uLn (by omega), uLn (by omega), uLn (by omega)]; exact ih.2.2
theorem ld_8i {z : ZZ} {rd : Nat → Int32} {K k : Nat} (hK : K < 100) : (ldR (zL8 z K) rd k 8).toInt = (K : Int) := by
  rw [ld_o (by omega)]
  unfold zL8
  rw [uLs, Int32.toInt_toInt64, nI_toInt (by omega)]
theorem ld_8 {z : ZZ} {rd : Nat → Int32} {K k : Nat} (hK : K < 100) : (ldR (zL8 z K) rd k 8).toInt32 = nI K := L32n (ld_8i hK) (by omega)
theorem ld_nr {z : ZZ} {rd : Nat → Int32} {K k : Nat} (hk : k ≤ 20) : nr (ldR (zL8 z K) rd k) = nr z := by
  unfold nr
  rw [ld_o (by omega)]
  unfold zL8
  rw [uLn (by omega)]
theorem ld_nc {z : ZZ} {rd : Nat → Int32} {K k : Nat} (hK : K < 100) : nc (ldR (zL8 z K) rd k) = K := by
  unfold nc
  rw [ld_8i hK]
  omega
theorem ld_B {z : ZZ} {rd : Nat → Int32} {K : Nat} (hB : Bz z) (hK : K ≤ 20) (hr : ∀ i, i < 2 * K → -1000 ≤ (rd i).toInt ∧ (rd i).toInt ≤ 1000) : Bz (ldR (zL8 z K) rd K) := by
  have e : ∀ j, j < 8 ∨ 69 ≤ j → ldR (zL8 z K) rd K j = z j := fun j hj => by
    rw [ld_o (by omega)]
    unfold zL8
    rw [uLn (by omega)]
  unfold Bz
  rw [ld_nc (by omega), ld_nr hK, e 0 (by omega), e 1 (by omega), e 2 (by omega), e 3 (by omega), e 4 (by omega), e 5 (by omega), e 6 (by omega), e 7 (by omega), e 69 (by omega)]
  refine ⟨hB.1, hB.2.1, hB.2.2.1, ⟨by rw [ld_8i (by omega)]; omega, by rw [ld_8i (by omega)]; omega⟩, hB.2.2.2.2.1, fun k hk => ?_, fun r hr => ?_⟩
  · obtain ⟨a, b, c⟩ := ld_i (z := zL8 z K) (rd := rd) hk
    rw [a, b, c]
    exact ⟨wtn_I (hr _ (by omega)), wtn_I (hr _ (by omega)), by unfold wtn; rw [L0_0]; omega⟩
  · rw [e _ (by omega), e _ (by omega), e _ (by omega)]; exact hB.2.2.2.2.2.2 r hr
noncomputable def oLod (w : WW) : Int32 × Int32 × WW := if tLod w.2.2.2.2 w.2.2.2.1 = 0 then (0, nI (((rdS w.2.2.2.2 w.2.2.2.1).2.2.2.2.1 + 1) / 2), (zLod w.1 (((rdS w.2.2.2.2 w.2.2.2.1).2.2.2.2.1 + 1) / 2) (rdE (rdS w.2.2.2.2 w.2.2.2.1).2).2.2.2.2, psh w.2.1 w.1, w.2.2.1, 0, w.2.2.2.2)) else (1, 0, w)
noncomputable def oFst (w : WW) : Int32 × Int32 × WW := (0, nI (rdS w.2.2.2.2 w.2.2.2.1).1, w)
/-- a property of a corner -/
noncomputable def zCn (z : ZZ) (k : Nat) (w : Int32) : Int64 := if w = 3 then lN (zN z k) else if w = 4 then ifP (zRk z k) (zRoll z k) 0 else if w = 5 then ifP (zRk z k) 1 0 else z (9 + 3 * k + w.toInt.toNat)
def tCor (z : ZZ) (k w : Int32) : Int32 := if ¬ isC z k then 1 else if 0 ≤ w.toInt ∧ w.toInt ≤ 5 then 0 else 2
noncomputable def oCor (k w : Int32) (a : WW) : Int32 × Int64 := if tCor a.1 k w = 0 then (0, zCn a.1 k.toInt.toNat w) else (tCor a.1 k w, 0)
theorem tCor_i {z : ZZ} {k w : Int32} (h : tCor z k w ≤ 0) : tCor z k w = 0 ∧ isC z k ∧ 0 ≤ w.toInt ∧ w.toInt ≤ 5 := by
  unfold tCor at h ⊢
  split
  · next g => rw [if_pos g] at h; exact absurd h (by decide)
  · next g =>
    rw [if_neg g] at h
    split
    · next g2 => exact ⟨rfl, Decidable.not_not.mp g, g2⟩
    · next g2 => rw [if_neg g2] at h; exact absurd h (by decide)
/-- a property of a run -/
def zMn (z : ZZ) (r : Nat) (w : Int32) : Int64 := if w = 3 then z (70 + 3 * r + 2) / (512 * z 3) else if w = 4 then zAr z r else if w = 5 then (if zOut z r then 1 else 0) else z (70 + 3 * r + w.toInt.toNat)
abbrev isR (z : ZZ) (k : Int32) : Prop := 0 ≤ k.toInt ∧ k.toInt ≤ (nr z : Int) - 1
def tMad (z : ZZ) (k w : Int32) : Int32 := if ¬ isR z k then 1 else if 0 ≤ w.toInt ∧ w.toInt ≤ 5 then 0 else 2
def oMad (k w : Int32) (a : WW) : Int32 × Int64 := if tMad a.1 k w = 0 then (0, zMn a.1 k.toInt.toNat w) else (tMad a.1 k w, 0)
theorem tMad_i {z : ZZ} {k w : Int32} (h : tMad z k w ≤ 0) : tMad z k w = 0 ∧ isR z k ∧ 0 ≤ w.toInt ∧ w.toInt ≤ 5 := by
  unfold tMad at h ⊢
  split
  · next g => rw [if_pos g] at h; exact absurd h (by decide)
  · next g =>
    rw [if_neg g] at h
    split
    · next g2 => exact ⟨rfl, Decidable.not_not.mp g, g2⟩
    · next g2 => rw [if_neg g2] at h; exact absurd h (by decide)
theorem z69m {z : ZZ} (hB : Bz z) : (z 69 - 1).toInt = (nr z : Int) - 1 := by
  have h := nr_e hB
  rw [L_sub (by rw [h.1, show (1 : Int64).toInt = 1 by decide]; omega) (by rw [h.1, show (1 : Int64).toInt = 1 by decide]; omega), h.1]
  rfl
theorem ne512 {z : ZZ} (hB : Bz z) : ¬ 512 * z 3 = 0 := by
  have h := hB.2.1.2.1
  unfold wtn at h
  intro e
  have e2 := congrArg Int64.toInt e
  rw [L_mul (by rw [show (512 : Int64).toInt = 512 by decide]; omega) (by rw [show (512 : Int64).toInt = 512 by decide]; omega), L0_0, show (512 : Int64).toInt = 512 by decide] at e2
  omega
noncomputable def zEn (z : ZZ) (tx ty : Int64) (w : Int32) : Int64 := ifP (zRe z tx ty) (if w = 0 then 1 else if w = 1 then zEx z tx ty else zEy z tx ty) 0
def tElb (a b w : Int32) : Int32 := if (-40000 ≤ a.toInt ∧ a.toInt ≤ 40000) ∧ (-40000 ≤ b.toInt ∧ b.toInt ≤ 40000) ∧ 0 ≤ w.toInt ∧ w.toInt ≤ 2 then 0 else 1
noncomputable def oElb (a b w : Int32) (x : WW) : Int32 × Int64 := if tElb a b w = 0 then (0, zEn x.1 a.toInt64 b.toInt64 w) else (tElb a b w, 0)
theorem tElb_i {a b w : Int32} (h : tElb a b w ≤ 0) : tElb a b w = 0 ∧ wtn a.toInt64 (-50000) 50000 ∧ wtn b.toInt64 (-50000) 50000 := by
  unfold tElb at h ⊢
  split
  · next g => exact ⟨rfl, wtn_I (by omega), wtn_I (by omega)⟩
  · next g => rw [if_neg g] at h; exact absurd h (by decide)
noncomputable def zCt (z : ZZ) (s : Nat) (w : Int32) : Int64 := if w = 0 then z 8 else if w = 1 then z 69 else if w = 2 then z 0 else if w = 3 then z 1 else if w = 4 then z 7 else if w = 5 then zTw z else if w = 6 then zTw z / 2 else if w = 7 then zWi z else if w = 8 then zCo z else if w = 9 then ifP (zOO z) 1 0 else if w = 10 then zMe z else if w = 11 then zOu z else if w = 12 then zDi z else if w = 13 then zAs z else lN s
def tCnt (w : Int32) : Int32 := if 0 ≤ w.toInt ∧ w.toInt ≤ 14 then 0 else 1
noncomputable def oCnt (w : Int32) (a : WW) : Int32 × Int64 := if tCnt w = 0 then (0, zCt a.1 a.2.1.length w) else (tCnt w, 0)
theorem tCnt_i {w : Int32} (h : tCnt w ≤ 0) : tCnt w = 0 ∧ 0 ≤ w.toInt ∧ w.toInt ≤ 14 := by
  unfold tCnt at h ⊢
  split
  · next g => exact ⟨rfl, g⟩
  · next g => rw [if_neg g] at h; exact absurd h (by decide)
def tStg (k : Int32) : Int32 := if 0 ≤ k.toInt ∧ k.toInt ≤ 4 then 0 else 1
def oStg (k : Int32) (a : WW) : Int32 × Int32 := if tStg k = 0 then (0, (a.1 (2 + k.toInt.toNat)).toInt32) else (tStg k, 0)
theorem tStg_i {k : Int32} (h : tStg k ≤ 0) : tStg k = 0 ∧ 0 ≤ k.toInt ∧ k.toInt ≤ 4 := by
  unfold tStg at h ⊢
  split
  · next g => exact ⟨rfl, g⟩
  · next g => rw [if_neg g] at h; exact absurd h (by decide)
noncomputable def oWhy (k : Int32) (a : WW) : Int32 × Int32 := if tRem a.1 k = 0 then (0, nI (zRf a.1)) else (tRem a.1 k, 0)
/-- with another setting -/
def zWs (z : ZZ) (k : Nat) (v : Int32) : ZZ := vp_updL z (2 + k) v.toInt64
noncomputable def zIf (z : ZZ) (c : Nat) (b : Bool) (k : Nat) (v : Int32) : Int64 := if zSh (zWs z k v) = 0 then zSum (zWs z k v) c b else 0
theorem uL_back {z : ZZ} {k : Nat} {x : Int64} : vp_updL (vp_updL z k x) k (z k) = z := by
  funext j
  show (if j = k then z k else if j = k then x else z j) = z j
  split
  · next h => rw [h]
  · rfl
theorem uL_two {z : ZZ} {k : Nat} {x y : Int64} : vp_updL (vp_updL z k x) k y = vp_updL z k y := by
  funext j
  show (if j = k then y else if j = k then x else z j) = (if j = k then y else z j)
  split <;> rfl
theorem ws_B {z : ZZ} {k v : Int32} (hB : Bz z) (hk : 0 ≤ k.toInt ∧ k.toInt ≤ 4) (hv : vOk k v) : Bz (zWs z k.toInt.toNat v) := B_set hB hk hv
theorem ws_nc {z : ZZ} {k : Nat} {v : Int32} (h : k ≤ 4) : nc (zWs z k v) = nc z := by unfold nc zWs; rw [uLn (by omega)]
def tIfs (z : ZZ) (c k v : Int32) : Int32 := if ¬ isC z c ∨ ¬ (0 ≤ k.toInt ∧ k.toInt ≤ 4) then 1 else if vOk k v then 0 else 2
noncomputable def oIfs (c : Int32) (b : Bool) (k v : Int32) (a : WW) : Int32 × Int64 := if tIfs a.1 c k v = 0 then (0, zIf a.1 c.toInt.toNat b k.toInt.toNat v) else (tIfs a.1 c k v, 0)
theorem tIfs_i {z : ZZ} {c k v : Int32} (h : tIfs z c k v ≤ 0) : tIfs z c k v = 0 ∧ isC z c ∧ (0 ≤ k.toInt ∧ k.toInt ≤ 4) ∧ vOk k v := by
  unfold tIfs at h ⊢
  split
  · next g => rw [if_pos g] at h; exact absurd h (by decide)
  · next g =>
    rw [if_neg g] at h
    split
    · next g2 => exact ⟨rfl, Decidable.not_not.mp (fun x => g (.inl x)), Decidable.not_not.mp (fun x => g (.inr x)), g2⟩
    · next g2 => rw [if_neg g2] at h; exact absurd h (by decide)
/-- the least arm: the model goes down -/
def zAm (z : ZZ) (a : Nat) : ZZ := vp_updL z 3 (nI a).toInt64
noncomputable def zLeF (z : ZZ) (n : Nat) : Int32 := foldF (fun j a => ifP (zRa (zAm z (3000 - 100 * j))) (nI (3000 - 100 * j)) a) n (-1)
noncomputable def zLe (z : ZZ) : Int32 := if nc z = 0 then -1 else zLeF z 29
theorem am_B {z : ZZ} {a : Nat} (hB : Bz z) (h : 200 ≤ a ∧ a ≤ 3000) : Bz (zAm z a) := by
  unfold zAm
  refine B_low hB (fun j hj => uLn (by omega)) ?_
  rw [uLn (show 0 ≠ 3 by omega), uLn (show 1 ≠ 3 by omega), uLn (show 2 ≠ 3 by omega), uLs, uLn (show 4 ≠ 3 by omega), uLn (show 5 ≠ 3 by omega), uLn (show 6 ≠ 3 by omega), uLn (show 7 ≠ 3 by omega)]
  exact ⟨hB.1, ⟨hB.2.1.1, wtn_I (by rw [nI_toInt (by omega)]; omega), hB.2.1.2.2⟩, hB.2.2.1⟩
theorem am_nc {z : ZZ} {a : Nat} : nc (zAm z a) = nc z := by unfold nc zAm; rw [uLn (by omega)]
theorem nI_m100 {n : Nat} (h : 100 ≤ n) : nI n + (-100) = nI (n - 100) := by
  rw [← Int32.sub_eq_add_neg]
  exact nsub (b := 100) rfl rfl h
theorem am_s {z zr : ZZ} {a : Nat} (h : zr = z ∨ ∃ x, zr = vp_updL z 3 x) : vp_updL zr 3 (nI a).toInt64 = zAm z a := by
  rcases h with h | ⟨x, h⟩
  · rw [h]; rfl
  · rw [h, uL_two]; rfl
theorem am_b {z zr : ZZ} (h : zr = z ∨ ∃ x, zr = vp_updL z 3 x) : vp_updL zr 3 (z 3) = z := by
  rcases h with h | ⟨x, h⟩
  · rw [h]
    funext j
    show (if j = 3 then z 3 else z j) = z j
    split
    · next e => rw [e]
    · rfl
  · rw [h, uL_back]
theorem leF_s {z : ZZ} {j a : Nat} {l : Int32} (ha : a + 100 * j = 3000) (hl : l = zLeF z j) {r : Int32} (h : (r = nI a ∧ zRa (zAm z a)) ∨ (r = l ∧ ¬ zRa (zAm z a))) : r = zLeF z (j + 1) := by
  have e : zLeF z (j + 1) = ifP (zRa (zAm z (3000 - 100 * j))) (nI (3000 - 100 * j)) (zLeF z j) := rfl
  rw [e, show 3000 - 100 * j = a by omega, ← hl]
  rcases h with ⟨h, g⟩ | ⟨h, g⟩
  · rw [ifP_t g, h]
  · rw [ifP_f g, h]
theorem w_le2 {w : Int32} (hw : 0 ≤ w.toInt ∧ w.toInt ≤ 5) (h3 : ¬ w = 3) (h4 : ¬ w = 4) (h5 : ¬ w = 5) : w.toInt ≤ 2 := by
  have a3 : ¬ w.toInt = 3 := fun h => h3 (Int32.toInt_inj.mp h)
  have a4 : ¬ w.toInt = 4 := fun h => h4 (Int32.toInt_inj.mp h)
  have a5 : ¬ w.toInt = 5 := fun h => h5 (Int32.toInt_inj.mp h)
  omega
theorem am_8 {z zr : ZZ} (h : zr = z ∨ ∃ x, zr = vp_updL z 3 x) : zr 8 = z 8 := by
  rcases h with h | ⟨x, h⟩
  · rw [h]
  · rw [h, uLn (by omega)]
theorem am_8I {z zr : ZZ} (hB : Bz z) (h : zr = z ∨ ∃ x, zr = vp_updL z 3 x) : (zr 8).toInt32 = nI (nc z) := by rw [am_8 h]; exact nc_I hB
theorem le_29 {z : ZZ} {j : Nat} {l : Int32} (hn : 0 < j → 0 < nc z) (hj : j = 29) (hl : l = zLeF z j) : l = zLe z := by
  have h := hn (by omega)
  rw [hl, hj]
  unfold zLe
  rw [if_neg (by omega)]
theorem le_00 {z : ZZ} {j : Nat} {l : Int32} (hn : 0 < j → 0 < nc z) (h0 : nc z = 0) (hl : l = zLeF z j) : l = zLe z := by
  have hj : j = 0 := by
    rcases Nat.eq_zero_or_pos j with h | h
    · exact h
    · have := hn h; omega
  rw [hl, hj]
  unfold zLe
  rw [if_pos h0]
  rfl
