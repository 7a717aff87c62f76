/-! the law's own instrument: what its arrays hold, and that its numbers are those of the spec -/
def Ls (S : PS) (q : Nat → Nat) (z : ZZ) : Prop := ((pI S (q 94) 0).toInt64 = z 2 ∧ (pI S (q 94) 1).toInt64 = z 3 ∧ (pI S (q 94) 2).toInt64 = z 4 ∧ (pI S (q 94) 3).toInt64 = z 5 ∧ (pI S (q 94) 4).toInt64 = z 6) ∧ (pI S (q 94) 5).toInt64 = z 0 ∧ (pI S (q 94) 6).toInt64 = z 1
def Lk (S : PS) (q : Nat → Nat) (z : ZZ) : Prop := (∀ j, j < 3 * nc z → (pI S (q 95) j).toInt64 = z (9 + j)) ∧ pI S (q 96) 0 = nI (nc z) ∧ nc z ≤ 8
theorem Ls.fr {S S' : PS} {q : Nat → Nat} {z : ZZ} {l : List Nat} (hf : Fr S S' q l) (h : 94 ∉ l) (hs : Ls S q z) : Ls S' q z := by
  unfold Ls
  rw [(hf.2.2 94 (by decide) h).1]
  exact hs
theorem Lk.fr {S S' : PS} {q : Nat → Nat} {z : ZZ} {l : List Nat} (hf : Fr S S' q l) (h : 95 ∉ l) (h6 : 96 ∉ l) (hs : Lk S q z) : Lk S' q z := by
  unfold Lk
  rw [(hf.2.2 95 (by decide) h).1, (hf.2.2 96 (by decide) h6).1]
  exact hs
def zC (z : ZZ) (k y : Nat) : Int64 := z (9 + 3 * (k % nc z) + y)
theorem Lk.C {S : PS} {q : Nat → Nat} {z : ZZ} (h : Lk S q z) {k y : Nat} (hk : k < nc z) (hy : y ≤ 2) : (pI S (q 95) (3 * k + y)).toInt64 = zC z k y := by
  unfold zC
  rw [Nat.mod_eq_of_lt hk, h.1 _ (by omega)]
  exact congrArg z (by omega)
theorem Lk.C1 {S : PS} {q : Nat → Nat} {z : ZZ} (h : Lk S q z) {k y : Nat} (hk : k < nc z) (hy : y ≤ 2) : (pI S (q 95) (3 * nx (nc z) k + y)).toInt64 = zC z (k + 1) y := by
  rw [h.C (nx_lt hk) hy]
  unfold zC
  rw [nx_m hk]
theorem Lk.X {S : PS} {q : Nat → Nat} {z : ZZ} (h : Lk S q z) {k : Nat} (hk : k < nc z) : (pI S (q 95) (3 * k)).toInt64 = zX z k := h.C (y := 0) hk (by omega)
theorem Lk.Y {S : PS} {q : Nat → Nat} {z : ZZ} (h : Lk S q z) {k : Nat} (hk : k < nc z) : (pI S (q 95) (3 * k + 1)).toInt64 = zY z k := h.C (y := 1) hk (by omega)
theorem Lk.X1 {S : PS} {q : Nat → Nat} {z : ZZ} (h : Lk S q z) {k : Nat} (hk : k < nc z) : (pI S (q 95) (3 * nx (nc z) k)).toInt64 = zX z (k + 1) := h.C1 (y := 0) hk (by omega)
theorem Lk.Y1 {S : PS} {q : Nat → Nat} {z : ZZ} (h : Lk S q z) {k : Nat} (hk : k < nc z) : (pI S (q 95) (3 * nx (nc z) k + 1)).toInt64 = zY z (k + 1) := h.C1 (y := 1) hk (by omega)
theorem Lk.S {S : PS} {q : Nat → Nat} {z : ZZ} (h : Lk S q z) {k : Nat} (hk : k < nc z) : (pI S (q 95) (3 * k + 2)).toInt64 = zS z k := by
  rw [h.1 _ (by omega)]
  exact congrArg z (by omega)
theorem zC_b {z : ZZ} (hB : Bz z) (h0 : 0 < nc z) (k : Nat) {y : Nat} (hy : y ≤ 1) : wtn (zC z k y) (-1000) 1000 := by
  have h := hB.2.2.2.2.2.1 (k % nc z) (Nat.mod_lt _ h0)
  rcases (by omega : y = 0 ∨ y = 1) with e | e <;> subst e
  · exact h.1
  · exact h.2.1
theorem d64 {a b : Int32} {x y : Int64} (ha : a.toInt64 = x) (hb : b.toInt64 = y) (hx : wtn x (-4000) 4000) (hy : wtn y (-4000) 4000) : (a - b).toInt64 = x - y := by
  subst ha hb
  unfold wtn at hx hy
  rw [I64_t] at hx hy
  apply Int64.toInt_inj.mp
  rw [I64_t, I_sub (by omega) (by omega), L_sub (by rw [I64_t, I64_t]; omega) (by rw [I64_t, I64_t]; omega), I64_t, I64_t]
theorem wtn_w {v : Int64} {a b A B : Int} (h : wtn v a b) (h1 : A ≤ a) (h2 : b ≤ B) : wtn v A B := by unfold wtn at *; omega
theorem sz_p {v : Int64} (h : 0 ≤ v) : v = sz v := by unfold sz; rw [if_neg (L_nlt.mpr h)]
theorem sz_m {v : Int64} (h : ¬ 0 ≤ v) : -v = sz v := by unfold sz; rw [if_pos (L_nle.mp h)]
theorem nxI_t {n k : Nat} (hk : k < n) (hn : n ≤ 20) (c : nI (k + 1) = nI n) : nx n k = 0 := by
  rw [nI_eq (by omega) (by omega)] at c
  exact nx_t (by omega)
theorem nxI_f {n k : Nat} (hk : k < n) (hn : n ≤ 20) (c : ¬ nI (k + 1) = nI n) : nx n k = k + 1 := by
  rw [nI_eq (by omega) (by omega)] at c
  exact nx_f (by omega)
/-- the root, bit by bit -/
def RoI (V r b : Nat) : Prop := r * r ≤ V ∧ r + 2 * b ≤ 33554432 ∧ ((b = 0 ∧ V < (r + 1) * (r + 1)) ∨ ∃ k, k ≤ 24 ∧ b = 2 ^ k ∧ V < (r + 2 * b) * (r + 2 * b))
theorem ro_s0 {V : Nat} (h : V < 1125899906842624) : RoI V 0 16777216 := ⟨by omega, by omega, .inr ⟨24, by omega, by decide, by omega⟩⟩
theorem ro_2 {b k : Nat} (h : b = 2 ^ (k + 1)) : b / 2 = 2 ^ k ∧ b = 2 * (b / 2) := by
  rw [Nat.pow_succ] at h
  omega
theorem ro_t {V r b : Nat} (h : RoI V r b) (h0 : 0 < b) (c : V < (r + b) * (r + b)) : RoI V r (b / 2) := by
  obtain ⟨h1, h2, h3⟩ := h
  refine ⟨h1, by omega, ?_⟩
  rcases h3 with ⟨e, -⟩ | ⟨k, hk, e, h3⟩
  · omega
  · cases k with
    | zero =>
      obtain rfl : b = 1 := e
      exact .inl ⟨rfl, c⟩
    | succ k =>
      obtain ⟨e1, e2⟩ := ro_2 e
      refine .inr ⟨k, by omega, e1, ?_⟩
      rw [← e2]
      exact c
theorem ro_f {V r b : Nat} (h : RoI V r b) (h0 : 0 < b) (c : ¬ V < (r + b) * (r + b)) : RoI V (r + b) (b / 2) := by
  obtain ⟨h1, h2, h3⟩ := h
  refine ⟨by omega, by omega, ?_⟩
  rcases h3 with ⟨e, -⟩ | ⟨k, hk, e, h3⟩
  · omega
  · cases k with
    | zero =>
      obtain rfl : b = 1 := e
      exact .inl ⟨rfl, h3⟩
    | succ k =>
      obtain ⟨e1, e2⟩ := ro_2 e
      refine .inr ⟨k, by omega, e1, ?_⟩
      rw [Nat.add_assoc, show b + 2 * (b / 2) = 2 * b by omega]
      exact h3
theorem ro_e {V r : Nat} (h : RoI V r 0) : isq V = r := by
  obtain ⟨h1, -, h3⟩ := h
  rcases h3 with ⟨-, h3⟩ | ⟨k, -, e, -⟩
  · exact isq_uniq h1 h3
  · have := Nat.two_pow_pos k; omega
theorem ro_c {V r b : Nat} {v : Int64} (h : RoI V r b) (hv : v.toInt = (V : Int)) (hV : V < 1125899906842624) : v < (lN r + lN b) * (lN r + lN b) ↔ V < (r + b) * (r + b) := by
  have hb : r + b ≤ 33554432 := by have := h.2.1; omega
  have hm := sq_le hb
  rw [lN_add, lN_mul, Int64.lt_iff_toInt_lt, hv, pk_lT (by omega)]
  omega
theorem shr1 {b : Nat} (hb : b < 33554433) : lN b >>> ((1 : Int32).toInt64 &&& 63) = lN (b / 2) := by
  apply Int64.toInt_inj.mp
  rw [show ((1 : Int32).toInt64 &&& 63) = (1 : Int64) by decide]
  show (lN b >>> 1).toBitVec.toInt = _
  rw [Int64.toBitVec_shiftRight, show ((1 : Int64).toBitVec.smod 64) = 1#64 by decide]
  unfold BitVec.sshiftRight'
  rw [BitVec.toInt_sshiftRight, show (lN b).toBitVec.toInt = (lN b).toInt from rfl, pk_lT (by omega), pk_lT (by omega), Int.shiftRight_eq_div_pow]
  show (b : Int) / 2 = _
  omega
/-- how many steps -/
theorem nst_l {M st : Nat} (h : 0 < st) : ((0 < M % st ∨ M / st = 0) → M / st + 1 = max 1 ((M + st - 1) / st)) ∧ (¬ (0 < M % st ∨ M / st = 0) → M / st = max 1 ((M + st - 1) / st)) := by
  have hm := Nat.div_add_mod M st
  have hr := Nat.mod_lt M h
  have e : (M + st - 1) / st = (M % st + st - 1) / st + M / st := by
    rw [show M + st - 1 = (M % st + st - 1) + st * (M / st) by omega, Nat.add_mul_div_left _ _ h]
  have e1 : M % st = 0 → (M % st + st - 1) / st = 0 := fun g => by rw [g, Nat.zero_add]; exact Nat.div_eq_of_lt (by omega)
  have e2 : 0 < M % st → (M % st + st - 1) / st = 1 := fun g => by
    rw [show M % st + st - 1 = (M % st - 1) + st by omega, Nat.add_div_right _ h, Nat.div_eq_of_lt (show M % st - 1 < st by omega)]
  rw [e]
  clear e hm
  generalize (M % st + st - 1) / st = K at e1 e2
  generalize M / st = Q
  generalize M % st = R at hr e1 e2
  rcases Nat.eq_zero_or_pos R with g | g
  · have := e1 g; omega
  · have := e2 g; omega
theorem zN_l {z : ZZ} {k M : Nat} (hB : Bz z) (hM : M = max ((zX z (k + 1)).toInt - (zX z k).toInt).natAbs ((zY z (k + 1)).toInt - (zY z k).toInt).natAbs) : ((0 < M % (z 4).toInt.toNat ∨ M / (z 4).toInt.toNat = 0) → M / (z 4).toInt.toNat + 1 = zN z k) ∧ (¬ (0 < M % (z 4).toInt.toNat ∨ M / (z 4).toInt.toNat = 0) → M / (z 4).toInt.toNat = zN z k) := by
  obtain ⟨-, h1, -⟩ := sten hB.2.1.2.2.1
  have h := nst_l (M := M) (st := (z 4).toInt.toNat) (by omega)
  unfold zN nSt
  rw [← hM]
  exact h
/-- the elbow -/
theorem fa_e {z : ZZ} {tx ty : Int64} : (zD z tx ty + (16 * z 2 - 16 * z 3) * (16 * z 2 + 16 * z 3)) / (rt (zD z tx ty) + rt (zD z tx ty)) = zA z tx ty := by
  unfold zA
  rw [show zD z tx ty + (16 * z 2 - 16 * z 3) * (16 * z 2 + 16 * z 3) = zD z tx ty + 16 * z 2 * (16 * z 2) - 16 * z 3 * (16 * z 3) by grind, show rt (zD z tx ty) + rt (zD z tx ty) = 2 * rt (zD z tx ty) by grind]
theorem fh_e {z : ZZ} {tx ty a : Int64} (h : a = zA z tx ty) : (16 * z 2 - a) * (16 * z 2 + a) = zHb z tx ty := by
  unfold zHb
  rw [← h]
  grind
theorem rt_zero : rt 0 = 0 := by decide
def Po (S : PS) (q : Nat → Nat) (z : ZZ) (tx ty : Int64) : Prop := (zRe z tx ty ∧ pJ S (q 97) 2 = 1 ∧ pJ S (q 97) 0 = zEx z tx ty ∧ pJ S (q 97) 1 = zEy z tx ty) ∨ (¬ zRe z tx ty ∧ pJ S (q 97) 2 = 0)
theorem Po.t {S : PS} {q : Nat → Nat} {z : ZZ} {tx ty : Int64} (h : Po S q z tx ty) (hr : zRe z tx ty) : pJ S (q 97) 0 = zEx z tx ty ∧ pJ S (q 97) 1 = zEy z tx ty := by
  rcases h with h | h
  · exact h.2.2
  · exact absurd hr h.1
theorem Po.f0 {S : PS} {q : Nat → Nat} {z : ZZ} {tx ty : Int64} (h : Po S q z tx ty) (c : pJ S (q 97) 2 = 0) : ¬ zRe z tx ty := by
  rcases h with h | h
  · exact absurd (h.2.1.symm.trans c) (by decide)
  · exact h.1
theorem Po.f1 {S : PS} {q : Nat → Nat} {z : ZZ} {tx ty : Int64} (h : Po S q z tx ty) (c : ¬ pJ S (q 97) 2 = 0) : zRe z tx ty := by
  rcases h with h | h
  · exact h.1
  · exact absurd h.2 c
theorem four_e (a b c d e f g h : Int64) : a * d - c * b + c * f - e * d + e * h - g * f + g * b - a * h = tn a b c d e f + tn a b e f g h := by
  unfold tn
  grind
/-- the wheel, by what it keeps -/
theorem ro_l0 {play sl x : Int64} {a : Int64 × Int64} {s : Int64} (hp : 0 ≤ play) (hs : s = a.1 + x * (100 - sl) / 100) (c : s < 0) : ((0 : Int64), a.2 + (s - 0)) = ro play sl x a := by
  unfold ro roP roW
  have hn : ¬ play < s := fun h => by
    rw [Int64.lt_iff_toInt_lt] at c h
    rw [Int64.le_iff_toInt_le] at hp
    omega
  rw [← hs, if_neg hn, if_neg hn, if_pos c, if_pos c, Int64.sub_zero]
theorem ro_l1 {play sl x : Int64} {a : Int64 × Int64} {s : Int64} (hs : s = a.1 + x * (100 - sl) / 100) (c : play < s) : (play, a.2 + (s - play)) = ro play sl x a := by
  unfold ro roP roW
  rw [← hs, if_pos c, if_pos c]
theorem ro_l2 {play sl x : Int64} {a : Int64 × Int64} {s : Int64} (hs : s = a.1 + x * (100 - sl) / 100) (c : ¬ s < 0) (c1 : ¬ play < s) : (s, a.2 + (s - s)) = ro play sl x a := by
  unfold ro roP roW
  rw [← hs, if_neg c1, if_neg c1, if_neg c, if_neg c, Int64.sub_self, Int64.add_zero]
theorem play_p {z : ZZ} (hB : Bz z) : 0 ≤ 512 * z 6 := by
  have h := hB.2.1.2.2.2.2
  unfold wtn at h
  have e : (512 : Int64).toInt = 512 := by decide
  rw [Int64.le_iff_toInt_le, L_mul (by rw [e]; omega) (by rw [e]; omega), e, show (0 : Int64).toInt = 0 by decide]
  omega
/-- the outline's area as a fan -/
def fanT (z : ZZ) (k : Nat) : Int64 := (zX z k - zX z 0) * (zY z (k + 1) - zY z 0) - (zY z k - zY z 0) * (zX z (k + 1) - zX z 0)
theorem fan_s {z : ZZ} : ∀ m : Nat, sumF (fun k => zX z k * zY z (k + 1) - zX z (k + 1) * zY z k) m + (zX z m * zY z 0 - zX z 0 * zY z m) = sumF (fanT z) m
  | 0 => by show (0 : Int64) + _ = 0; grind
  | m + 1 => by
    have ih := fan_s (z := z) m
    show sumF _ m + _ + _ = sumF (fanT z) m + fanT z m
    rw [← ih]
    unfold fanT
    grind
theorem fan_1 {z : ZZ} {m : Nat} (h : 1 ≤ m) : sumF (fanT z) m = sumF (fun k => fanT z (k + 1)) (m - 1) := by
  induction m with
  | zero => omega
  | succ m ih =>
    rcases Nat.eq_zero_or_pos m with e | e
    · subst e
      show (0 : Int64) + fanT z 0 = 0
      unfold fanT
      grind
    · show sumF (fanT z) m + fanT z m = _
      rw [ih e, show m + 1 - 1 = (m - 1) + 1 by omega]
      show _ = sumF _ (m - 1) + fanT z (m - 1 + 1)
      rw [show m - 1 + 1 = m by omega]
theorem fan_e {z : ZZ} : zTw z = sumF (fun k => fanT z (k + 1)) (nc z - 2) := by
  rcases Nat.eq_zero_or_pos (nc z) with e | e
  · unfold zTw; rw [e]; rfl
  · obtain ⟨n, hn⟩ : ∃ n, nc z = n + 1 := ⟨nc z - 1, by omega⟩
    have h0 : zX z (n + 1) = zX z 0 ∧ zY z (n + 1) = zY z 0 := zX_m (by rw [hn, Nat.mod_self, Nat.zero_mod])
    have h := fan_s (z := z) n
    unfold zTw
    rw [hn]
    show sumF _ n + (zX z n * zY z (n + 1) - zX z (n + 1) * zY z n) = _
    rw [h0.1, h0.2, h]
    rcases Nat.eq_zero_or_pos n with e | e
    · subst e; rfl
    · rw [fan_1 e]
      rfl
/-- on a segment, seen from the anchor -/
theorem on_i {p r x y : Int} (h : p * y = r * x) : p * x + r * y ≤ 0 ↔ p * x ≤ 0 ∧ r * y ≤ 0 := by
  refine ⟨fun g => ?_, fun g => by omega⟩
  have hq : 0 ≤ (p * x) * (r * y) := by
    have e : (p * x) * (r * y) = (p * y) * (p * y) := by
      have e1 : (p * x) * (r * y) = (p * y) * (r * x) := by grind
      rw [e1, ← h]
    rw [e]
    rcases Int.le_total 0 (p * y) with k | k
    · exact Int.mul_nonneg k k
    · exact Int.mul_nonneg_of_nonpos_of_nonpos k k
  generalize p * x = A at g hq
  generalize r * y = B at g hq
  rcases Int.lt_or_le 0 A with a | a
  · exfalso
    have hB : B < 0 := by omega
    have := Int.mul_neg_of_pos_of_neg a hB
    omega
  · rcases Int.lt_or_le 0 B with b | b
    · exfalso
      have hA : A < 0 := by omega
      have := Int.mul_neg_of_neg_of_pos hA b
      omega
    · exact ⟨a, b⟩
theorem btw_i {v a b : Int} : (v - a) * (v - b) ≤ 0 ↔ (if a < b then a else b) ≤ v ∧ v ≤ (if a < b then b else a) := by
  constructor
  · intro h
    rcases Int.lt_or_le v a with g | g
    · have g2 : b ≤ v := by
        rcases Int.lt_or_le v b with k | k
        · have := Int.mul_pos_of_neg_of_neg (show v - a < 0 by omega) (show v - b < 0 by omega); omega
        · exact k
      split <;> omega
    · rcases Int.lt_or_le v b with k | k
      · split <;> omega
      · rcases (by omega : v = a ∨ a < v) with e | e
        · split <;> omega
        · rcases (by omega : v = b ∨ b < v) with e2 | e2
          · split <;> omega
          · have := Int.mul_pos (show 0 < v - a by omega) (show 0 < v - b by omega); omega
  · intro h
    split at h
    · exact Int.mul_nonpos_of_nonneg_of_nonpos (by omega) (by omega)
    · rw [Int.mul_comm]; exact Int.mul_nonpos_of_nonneg_of_nonpos (by omega) (by omega)
theorem fi_h0 {z : ZZ} {tx ty : Int64} (h : ¬ 0 < zHb z tx ty) : (0 : Int64) = if zHb z tx ty < 0 then 0 else rt (zHb z tx ty) := by
  split
  · rfl
  · next g =>
    have e : zHb z tx ty = 0 := by
      apply Int64.toInt_inj.mp
      rw [Int64.lt_iff_toInt_lt, L0_0] at h g
      rw [L0_0]
      omega
    rw [e]
    decide
theorem fi_h1 {z : ZZ} {tx ty : Int64} (h : 0 < zHb z tx ty) : rt (zHb z tx ty) = if zHb z tx ty < 0 then 0 else rt (zHb z tx ty) := by
  rw [if_neg]
  intro g
  rw [Int64.lt_iff_toInt_lt, L0_0] at h g
  omega
theorem Lk.X0 {S : PS} {q : Nat → Nat} {z : ZZ} (h : Lk S q z) (h0 : 0 < nc z) : (pI S (q 95) 0).toInt64 = zX z 0 := h.X (k := 0) h0
theorem Lk.Y0 {S : PS} {q : Nat → Nat} {z : ZZ} (h : Lk S q z) (h0 : 0 < nc z) : (pI S (q 95) 1).toInt64 = zY z 0 := h.Y (k := 0) h0
theorem Lk.X3 {S : PS} {q : Nat → Nat} {z : ZZ} (h : Lk S q z) {i : Nat} (hi : i + 1 + 1 < nc z) : (pI S (q 95) (3 * (i + 1) + 3)).toInt64 = zX z (i + 1 + 1) := by
  rw [zX_k hi, h.1 _ (by omega)]
  exact congrArg z (by omega)
theorem Lk.Y4 {S : PS} {q : Nat → Nat} {z : ZZ} (h : Lk S q z) {i : Nat} (hi : i + 1 + 1 < nc z) : (pI S (q 95) (3 * (i + 1) + 4)).toInt64 = zY z (i + 1 + 1) := by
  rw [zY_k hi, h.1 _ (by omega)]
  exact congrArg z (by omega)
theorem btw_I {v a b : Int64} : btw v a b ↔ ((if a.toInt < b.toInt then a.toInt else b.toInt) ≤ v.toInt ∧ v.toInt ≤ (if a.toInt < b.toInt then b.toInt else a.toInt)) := by
  unfold btw
  by_cases h : a.toInt < b.toInt
  · rw [if_pos (Int64.lt_iff_toInt_lt.mpr h), if_pos (Int64.lt_iff_toInt_lt.mpr h), if_pos h, if_pos h, Int64.le_iff_toInt_le, Int64.le_iff_toInt_le]
  · have g : ¬ a < b := fun k => h (Int64.lt_iff_toInt_lt.mp k)
    rw [if_neg g, if_neg g, if_neg h, if_neg h, Int64.le_iff_toInt_le, Int64.le_iff_toInt_le]
theorem on_l {z : ZZ} (hB : Bz z) (h0 : 0 < nc z) {k : Nat} {a b c d : Int64} (ha : a = z 0 - zX z k) (hb : b = z 1 - zY z k) (hc : c = z 0 - zX z (k + 1)) (hd : d = z 1 - zY z (k + 1)) : zOn z k ↔ (a * d = b * c ∧ ¬ 0 < a * c + b * d) := by
  have b0 := hB.1.1
  have b1 := hB.1.2
  have x0 := zX_b hB h0 k
  have x1 := zX_b hB h0 (k + 1)
  have y0 := zY_b hB h0 k
  have y1 := zY_b hB h0 (k + 1)
  unfold wtn at b0 b1 x0 x1 y0 y1
  have ea : a.toInt = (z 0).toInt - (zX z k).toInt := by rw [ha]; exact L_sub (by omega) (by omega)
  have eb : b.toInt = (z 1).toInt - (zY z k).toInt := by rw [hb]; exact L_sub (by omega) (by omega)
  have ec : c.toInt = (z 0).toInt - (zX z (k + 1)).toInt := by rw [hc]; exact L_sub (by omega) (by omega)
  have ed : d.toInt = (z 1).toInt - (zY z (k + 1)).toInt := by rw [hd]; exact L_sub (by omega) (by omega)
  have hz : zSd z k = a * d - b * c := by rw [ha, hb, hc, hd]; unfold zSd tn; grind
  have m1 := mulb (a := a.toInt) (b := d.toInt) (A := 3000) (B := 3000) (by omega) (by omega) (by omega) (by omega)
  have m2 := mulb (a := b.toInt) (b := c.toInt) (A := 3000) (B := 3000) (by omega) (by omega) (by omega) (by omega)
  have m3 := mulb (a := a.toInt) (b := c.toInt) (A := 3000) (B := 3000) (by omega) (by omega) (by omega) (by omega)
  have m4 := mulb (a := b.toInt) (b := d.toInt) (A := 3000) (B := 3000) (by omega) (by omega) (by omega) (by omega)
  have e1 : (a * d).toInt = a.toInt * d.toInt := L_mul (by omega) (by omega)
  have e2 : (b * c).toInt = b.toInt * c.toInt := L_mul (by omega) (by omega)
  have e3 : (a * c).toInt = a.toInt * c.toInt := L_mul (by omega) (by omega)
  have e4 : (b * d).toInt = b.toInt * d.toInt := L_mul (by omega) (by omega)
  have e5 : (a * c + b * d).toInt = a.toInt * c.toInt + b.toInt * d.toInt := by rw [L_add (by omega) (by omega), e3, e4]
  have q1 : zSd z k = 0 ↔ a * d = b * c := by
    rw [hz]
    constructor
    · intro h
      have : a * d = a * d - b * c + b * c := by grind
      rw [this, h]
      grind
    · intro h
      rw [h]
      grind
  have q2 : ¬ 0 < a * c + b * d ↔ a.toInt * c.toInt + b.toInt * d.toInt ≤ 0 := by
    rw [Int64.lt_iff_toInt_lt, e5, L0_0]
    omega
  have q3 : a * d = b * c ↔ a.toInt * d.toInt = b.toInt * c.toInt := by
    rw [← Int64.toInt_inj, e1, e2]
  unfold zOn
  rw [q1, q2, btw_I, btw_I, ← btw_i, ← btw_i, ← ea, ← eb, ← ec, ← ed]
  constructor
  · intro h
    exact ⟨h.1, (on_i (q3.mp h.1)).mpr h.2⟩
  · intro h
    exact ⟨h.1, (on_i (q3.mp h.1)).mp h.2⟩
theorem at_v {x : Int32} : ∃ a : Nat, a < 2147483648 ∧ (x.toUInt32 >>> ((1 : Int32).toUInt32 &&& Int32.toUInt32 31)).toInt32 = nI a := by
  refine ⟨(x.toUInt32 >>> ((1 : Int32).toUInt32 &&& Int32.toUInt32 31)).toNat, ?_, ?_⟩
  · rw [show ((1 : Int32).toUInt32 &&& Int32.toUInt32 31) = 1 by decide, UInt32.toNat_shiftRight, show (1 : UInt32).toNat % 32 = 1 by decide]
    have h : x.toUInt32.toNat < 4294967296 := x.toUInt32.toNat_lt
    rw [Nat.shiftRight_eq_div_pow]
    omega
  · exact (congrArg UInt32.toInt32 UInt32.ofNat_toNat).symm
theorem vo_i {k : Nat} {v : Nat} (hk : k ≤ 4) (hv : v < 2147483648) (h : (if k < 2 then 200 else if k = 2 then 20 else 0) ≤ v ∧ v ≤ (if k < 2 then 3000 else if k = 2 then 200 else if k = 3 then 1 else 10000)) : vOk (nI k) (nI v) := by
  unfold vOk
  rw [nI_toInt hv]
  rcases (by omega : k = 0 ∨ k = 1 ∨ k = 2 ∨ k = 3 ∨ k = 4) with e | e | e | e | e <;> subst e
  · rw [show vLo (nI 0) = 200 by decide, show vHi (nI 0) = 3000 by decide]; simp at h; omega
  · rw [show vLo (nI 1) = 200 by decide, show vHi (nI 1) = 3000 by decide]; simp at h; omega
  · rw [show vLo (nI 2) = 20 by decide, show vHi (nI 2) = 200 by decide]; simp at h; omega
  · rw [show vLo (nI 3) = 0 by decide, show vHi (nI 3) = 1 by decide]; simp at h; omega
  · rw [show vLo (nI 4) = 0 by decide, show vHi (nI 4) = 10000 by decide]; simp at h; omega
theorem zS_b {z : ZZ} (hB : Bz z) {k : Nat} (hk : k < nc z) : wtn (zS z k) (-4000) 4000 := wtn_w (hB.2.2.2.2.2.1 k hk).2.2 (by omega) (by omega)
theorem zFs_t {z : ZZ} {b : Bool} {k i : Nat} (h : b = true) : zFs z b k i = zSi z k (zN z k - i) (zN z k - i - 1) := by subst h; rfl
theorem zFs_f {z : ZZ} {b : Bool} {k i : Nat} (h : b = false) : zFs z b k i = zSi z k i (i + 1) := by subst h; rfl
theorem skn {n c i kk : Nat} {b : Bool} (h : (if b then pv n kk else kk) = zSk n c b i) : (b = true → pv n kk = zSk n c b i) ∧ (b = false → kk = zSk n c b i) := by
  constructor
  · intro e; subst e; exact h
  · intro e; subst e; exact h
theorem sks {n c i K : Nat} {b : Bool} (hc : c < n) (hi : i < n) (eK : K = zSk n c b i) : (b = true → (if b then pv n K else K) = zSk n c b (i + 1)) ∧ (b = false → (if b then pv n (nx n K) else nx n K) = zSk n c b (i + 1)) := by
  rw [sk_s hc hi, ← eK]
  constructor
  · intro e; subst e; rfl
  · intro e; subst e; rfl
theorem zsum_t {z : ZZ} {c : Nat} {b : Bool} {s w : Int64} (h : (s, w) = zSu z c b (nc z)) (hb : b = true) : -w = zSum z c b := by
  unfold zSum
  rw [← h, hb]
  rfl
theorem zsum_f {z : ZZ} {c : Nat} {b : Bool} {s w : Int64} (h : (s, w) = zSu z c b (nc z)) (hb : b = false) : w = zSum z c b := by
  unfold zSum
  rw [← h, hb]
  rfl
