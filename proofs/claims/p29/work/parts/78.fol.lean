/-! the follower -/
def zDp (z : ZZ) (k i : Nat) : Int64 := zD z (zPx z k i) (zPy z k i)
def mS (z : ZZ) (k i : Nat) (a : Int64 × Int64) : Int64 × Int64 := (if zDp z k i < a.1 then zDp z k i else a.1, if zDp z k i < a.2 then a.2 else zDp z k i)
def mF (z : ZZ) (k n : Nat) (a : Int64 × Int64) : Int64 × Int64 := foldF (mS z k) n a
def maF (z : ZZ) (n : Nat) : Int64 × Int64 := foldF (fun k a => mF z k (zN z k + 1) a) n (4611686018427387904, 0)
def moF (z : ZZ) (k : Nat) : Int64 × Int64 := mF z k (zN z k + 1) (4611686018427387904, 0)
def Ms (S : PS) (q : Nat → Nat) (a : Int64 × Int64) : Prop := pJ S (q 83) 2 = a.1 ∧ pJ S (q 83) 3 = a.2
theorem Ms.fr {S S' : PS} {q : Nat → Nat} {a : Int64 × Int64} {l : List Nat} (hf : Fr S S' q l) (hl : 83 ∉ l) (h : Ms S q a) : Ms S' q a := by
  unfold Ms
  rw [(hf.2.2 83 (by decide) hl).2]
  exact h
/-- a is the least and the greatest of the squares of the points P, of which there is one -/
def Mm (z : ZZ) (P : Nat → Nat → Prop) (a : Int64 × Int64) : Prop := (∀ k i, P k i → a.1 ≤ zDp z k i ∧ zDp z k i ≤ a.2) ∧ (∃ k i, P k i ∧ a.1 = zDp z k i) ∧ ∃ k i, P k i ∧ a.2 = zDp z k i
theorem L_le_t {a b c : Int64} (h : a ≤ b) (h2 : b ≤ c) : a ≤ c := by rw [Int64.le_iff_toInt_le] at *; omega
theorem L_le_r {a : Int64} : a ≤ a := by rw [Int64.le_iff_toInt_le]; omega
theorem Mm_step {z : ZZ} {P Q : Nat → Nat → Prop} {k i : Nat} {a : Int64 × Int64} (h : Mm z P a) (hQ : ∀ k' i', Q k' i' ↔ (P k' i' ∨ (k' = k ∧ i' = i))) : Mm z Q (mS z k i a) := by
  obtain ⟨h1, ⟨k1, i1, p1, e1⟩, k2, i2, p2, e2⟩ := h
  have m1 : (mS z k i a).1 ≤ a.1 ∧ (mS z k i a).1 ≤ zDp z k i := by
    show (if zDp z k i < a.1 then zDp z k i else a.1) ≤ _ ∧ (if zDp z k i < a.1 then zDp z k i else a.1) ≤ _
    split
    · next g => exact ⟨by rw [Int64.lt_iff_toInt_lt] at g; rw [Int64.le_iff_toInt_le]; omega, L_le_r⟩
    · next g => exact ⟨L_le_r, L_nlt.mp g⟩
  have m2 : a.2 ≤ (mS z k i a).2 ∧ zDp z k i ≤ (mS z k i a).2 := by
    show _ ≤ (if zDp z k i < a.2 then a.2 else zDp z k i) ∧ _ ≤ (if zDp z k i < a.2 then a.2 else zDp z k i)
    split
    · next g => exact ⟨L_le_r, by rw [Int64.lt_iff_toInt_lt] at g; rw [Int64.le_iff_toInt_le]; omega⟩
    · next g => exact ⟨L_nlt.mp g, L_le_r⟩
  refine ⟨fun k' i' hq => ?_, ?_, ?_⟩
  · rcases (hQ k' i').mp hq with g | ⟨rfl, rfl⟩
    · exact ⟨L_le_t m1.1 (h1 k' i' g).1, L_le_t (h1 k' i' g).2 m2.1⟩
    · exact ⟨m1.2, m2.2⟩
  · show ∃ k' i', Q k' i' ∧ (if zDp z k i < a.1 then zDp z k i else a.1) = _
    split
    · exact ⟨k, i, (hQ k i).mpr (.inr ⟨rfl, rfl⟩), rfl⟩
    · exact ⟨k1, i1, (hQ _ _).mpr (.inl p1), e1⟩
  · show ∃ k' i', Q k' i' ∧ (if zDp z k i < a.2 then a.2 else zDp z k i) = _
    split
    · exact ⟨k2, i2, (hQ _ _).mpr (.inl p2), e2⟩
    · exact ⟨k, i, (hQ k i).mpr (.inr ⟨rfl, rfl⟩), rfl⟩
theorem Dp_b {z : ZZ} (hB : Bz z) (h0 : 0 < nc z) {k i : Nat} (hi : i ≤ zN z k) : 0 ≤ (zDp z k i).toInt ∧ (zDp z k i).toInt ≤ 13448000000 := by
  have h := zP_b hB h0 (k := k) hi
  exact (zD_b hB h.1 h.2).2
theorem Mm_first {z : ZZ} (hB : Bz z) (h0 : 0 < nc z) {k : Nat} {P : Nat → Nat → Prop} (hP : ∀ k' i', P k' i' ↔ (k' = k ∧ i' = 0)) : Mm z P (mS z k 0 (4611686018427387904, 0)) := by
  have hb := Dp_b hB h0 (k := k) (i := 0) (Nat.zero_le _)
  have e1 : (mS z k 0 (4611686018427387904, 0)).1 = zDp z k 0 := by
    show (if zDp z k 0 < 4611686018427387904 then zDp z k 0 else 4611686018427387904) = _
    rw [if_pos (by rw [Int64.lt_iff_toInt_lt, show (4611686018427387904 : Int64).toInt = 4611686018427387904 by decide]; omega)]
  have e2 : (mS z k 0 (4611686018427387904, 0)).2 = zDp z k 0 := by
    show (if zDp z k 0 < 0 then 0 else zDp z k 0) = _
    rw [if_neg (by rw [Int64.lt_iff_toInt_lt, L0_0]; omega)]
  refine ⟨fun k' i' hq => ?_, ⟨k, 0, (hP _ _).mpr ⟨rfl, rfl⟩, e1⟩, k, 0, (hP _ _).mpr ⟨rfl, rfl⟩, e2⟩
  obtain ⟨rfl, rfl⟩ := (hP k' i').mp hq
  rw [e1, e2]
  exact ⟨L_le_r, L_le_r⟩
theorem Mm_seg {z : ZZ} {P : Nat → Nat → Prop} {k : Nat} {a : Int64 × Int64} (h : Mm z P a) : ∀ n : Nat, Mm z (fun k' i' => P k' i' ∨ (k' = k ∧ i' < n)) (mF z k n a)
  | 0 => by
    refine ⟨fun k' i' hq => ?_, ?_, ?_⟩
    · rcases hq with g | g
      · exact h.1 k' i' g
      · exact absurd g.2 (Nat.not_lt_zero _)
    · obtain ⟨k1, i1, p, e⟩ := h.2.1; exact ⟨k1, i1, .inl p, e⟩
    · obtain ⟨k1, i1, p, e⟩ := h.2.2; exact ⟨k1, i1, .inl p, e⟩
  | n + 1 => by
    refine Mm_step (Mm_seg h n) (fun k' i' => ⟨fun g => ?_, fun g => ?_⟩)
    · rcases g with g | ⟨rfl, g⟩
      · exact .inl (.inl g)
      · rcases Nat.lt_or_ge i' n with x | x
        · exact .inl (.inr ⟨rfl, x⟩)
        · exact .inr ⟨rfl, by omega⟩
    · rcases g with (g | g) | g
      · exact .inl g
      · exact .inr ⟨g.1, by omega⟩
      · exact .inr ⟨g.1, by omega⟩
theorem Mm_one {z : ZZ} (hB : Bz z) (h0 : 0 < nc z) {k : Nat} : ∀ n : Nat, 0 < n → Mm z (fun k' i' => k' = k ∧ i' < n) (mF z k n (4611686018427387904, 0))
  | 0, h => absurd h (by omega)
  | 1, _ => Mm_first hB h0 (fun k' i' => ⟨fun g => ⟨g.1, by omega⟩, fun g => ⟨g.1, by omega⟩⟩)
  | n + 2, _ => Mm_step (Mm_one hB h0 (n + 1) (by omega)) (fun k' i' => ⟨fun g => by
      rcases Nat.lt_or_ge i' (n + 1) with x | x
      · exact .inl ⟨g.1, x⟩
      · exact .inr ⟨g.1, by omega⟩, fun g => by
      rcases g with g | g
      · exact ⟨g.1, by omega⟩
      · exact ⟨g.1, by omega⟩⟩)
theorem Mm_iff {z : ZZ} {P Q : Nat → Nat → Prop} {a : Int64 × Int64} (h : Mm z P a) (e : ∀ k i, P k i ↔ Q k i) : Mm z Q a := by
  have : P = Q := by funext k i; exact propext (e k i)
  rw [← this]; exact h
theorem Mm_all {z : ZZ} (hB : Bz z) (h0 : 0 < nc z) : ∀ n : Nat, 0 < n → Mm z (fun k i => k < n ∧ i ≤ zN z k) (maF z n)
  | 0, h => absurd h (by omega)
  | 1, _ => Mm_iff (Mm_one hB h0 (k := 0) (zN z 0 + 1) (by omega)) (fun k i => ⟨fun g => by
      obtain ⟨rfl, g⟩ := g
      exact ⟨by omega, by omega⟩, fun g => by
      obtain ⟨g1, g2⟩ := g
      obtain rfl : k = 0 := by omega
      exact ⟨rfl, by omega⟩⟩)
  | n + 2, _ => Mm_iff (Mm_seg (Mm_all hB h0 (n + 1) (by omega)) (k := n + 1) (zN z (n + 1) + 1)) (fun k i => ⟨fun g => by
      rcases g with g | ⟨rfl, g⟩
      · exact ⟨by omega, g.2⟩
      · exact ⟨by omega, by omega⟩, fun g => by
      rcases Nat.lt_or_ge k (n + 1) with x | x
      · exact .inl ⟨x, g.2⟩
      · obtain rfl : k = n + 1 := by omega
        exact .inr ⟨rfl, by omega⟩⟩)
theorem rt_mono {a b : Int64} (h : a ≤ b) : rt a ≤ rt b := by
  rw [Int64.le_iff_toInt_le] at h
  have hb := L_b b
  have ha := L_b a
  unfold rt
  have h1 := isq_mono (show a.toInt.toNat ≤ b.toInt.toNat by omega)
  have h2 := (isq_spec b.toInt.toNat).1
  have h3 : isq b.toInt.toNat < 4000000000 := by
    rcases Nat.lt_or_ge (isq b.toInt.toNat) 4000000000 with h | h
    · exact h
    · have := sq_le h; omega
  rw [Int64.le_iff_toInt_le, pk_lT (by omega), pk_lT (by omega)]
  omega
theorem sp_mid {p l a b c : Int64} (h1 : sp p l a) (h2 : sp p l b) (h3 : a ≤ c) (h4 : c ≤ b) : sp p l c := by
  unfold sp at *
  exact ⟨by have := h1.1; rw [Int64.lt_iff_toInt_lt] at *; rw [Int64.le_iff_toInt_le] at h3; omega, L_le_t h4 h2.2.1, L_le_t h1.2.2 h3⟩
/-- the nearest and the farthest point tell of all -/
theorem Mm_reach {z : ZZ} {P : Nat → Nat → Prop} {a : Int64 × Int64} (h : Mm z P a) {p l : Int64} : (sp p l (rt a.1) ∧ sp p l (rt a.2)) ↔ ∀ k i, P k i → sp p l (rt (zDp z k i)) := by
  obtain ⟨h1, ⟨k1, i1, p1, e1⟩, k2, i2, p2, e2⟩ := h
  constructor
  · intro g k i hp
    exact sp_mid g.1 g.2 (rt_mono (h1 k i hp).1) (rt_mono (h1 k i hp).2)
  · intro g
    rw [e1, e2]
    exact ⟨g _ _ p1, g _ _ p2⟩
theorem Mm_b {z : ZZ} (hB : Bz z) (h0 : 0 < nc z) {P : Nat → Nat → Prop} {a : Int64 × Int64} (h : Mm z P a) (hP : ∀ k i, P k i → i ≤ zN z k) : a.1.toInt < 16000000000000 ∧ a.2.toInt < 16000000000000 := by
  obtain ⟨h1, ⟨k1, i1, p1, e1⟩, k2, i2, p2, e2⟩ := h
  have a1 := Dp_b hB h0 (hP _ _ p1)
  have a2 := Dp_b hB h0 (hP _ _ p2)
  rw [e1, e2]
  omega
theorem ma_Ra {z : ZZ} (hB : Bz z) (h0 : 0 < nc z) : (sp (16 * z 2) (16 * z 3) (rt (maF z (nc z)).1) ∧ sp (16 * z 2) (16 * z 3) (rt (maF z (nc z)).2)) ↔ zRa z := by
  rw [Mm_reach (Mm_all hB h0 (nc z) h0)]
  exact ⟨fun h k hk i hi => h k i ⟨hk, hi⟩, fun h k i g => h k g.1 i g.2⟩
theorem ma_b {z : ZZ} (hB : Bz z) (h0 : 0 < nc z) : (maF z (nc z)).1.toInt < 16000000000000 ∧ (maF z (nc z)).2.toInt < 16000000000000 := Mm_b hB h0 (Mm_all hB h0 (nc z) h0) (fun _ _ g => g.2)
theorem mo_Rk {z : ZZ} (hB : Bz z) (h0 : 0 < nc z) {k : Nat} : (sp (16 * z 2) (16 * z 3) (rt (moF z k).1) ∧ sp (16 * z 2) (16 * z 3) (rt (moF z k).2)) ↔ zRk z k := by
  unfold moF
  rw [Mm_reach (Mm_one hB h0 (k := k) (zN z k + 1) (by omega))]
  exact ⟨fun h i hi => h k i ⟨rfl, by omega⟩, fun h k' i g => by obtain ⟨rfl, g⟩ := g; exact h i (by omega)⟩
theorem mo_b {z : ZZ} (hB : Bz z) (h0 : 0 < nc z) {k : Nat} : (moF z k).1.toInt < 16000000000000 ∧ (moF z k).2.toInt < 16000000000000 := Mm_b hB h0 (Mm_one hB h0 (k := k) (zN z k + 1) (by omega)) (fun k' i g => by obtain ⟨rfl, g⟩ := g; omega)
/-- another arm: the same points -/
theorem am_P {z : ZZ} {a : Nat} : zN (zAm z a) = zN z ∧ zDp (zAm z a) = zDp z ∧ zPx (zAm z a) = zPx z ∧ zPy (zAm z a) = zPy z := by
  have hx : zX (zAm z a) = zX z := by funext k; unfold zX; rw [am_nc]; exact uLn (by omega)
  have hy : zY (zAm z a) = zY z := by funext k; unfold zY; rw [am_nc]; exact uLn (by omega)
  have hn : zN (zAm z a) = zN z := by funext k; unfold zN; rw [hx, hy]; rfl
  have h1 : zPx (zAm z a) = zPx z := by funext k i; unfold zPx; rw [hx, hn]
  have h2 : zPy (zAm z a) = zPy z := by funext k i; unfold zPy; rw [hy, hn]
  refine ⟨hn, ?_, h1, h2⟩
  funext k i
  unfold zDp zD
  rw [h1, h2]
  rfl
theorem am_Ra {z : ZZ} (hB : Bz z) (h0 : 0 < nc z) {a : Nat} : (sp (16 * zAm z a 2) (16 * zAm z a 3) (rt (maF z (nc z)).1) ∧ sp (16 * zAm z a 2) (16 * zAm z a 3) (rt (maF z (nc z)).2)) ↔ zRa (zAm z a) := by
  rw [Mm_reach (Mm_all hB h0 (nc z) h0)]
  obtain ⟨e1, e2, -, -⟩ := am_P (z := z) (a := a)
  have e : zRa (zAm z a) = ∀ k, k < nc z → ∀ i, i ≤ zN z k → sp (16 * zAm z a 2) (16 * zAm z a 3) (rt (zDp z k i)) := by
    unfold zRa zRk
    rw [am_nc, e1]
    show (∀ k, k < nc z → ∀ i, i ≤ zN z k → sp (16 * zAm z a 2) (16 * zAm z a 3) (rt (zDp (zAm z a) k i))) = _
    rw [e2]
  rw [e]
  exact ⟨fun h k hk i hi => h k i ⟨hk, hi⟩, fun h k i g => h k g.1 i g.2⟩
/-- the ends of a segment -/
theorem p0_e {z : ZZ} {k : Nat} : zPx z k 0 = 16 * zX z k ∧ zPy z k 0 = 16 * zY z k := by
  have h : ∀ f t : Int64, ∀ n : Nat, pt f t 0 n = 16 * f := fun f t n => by
    unfold pt
    rw [show lN 0 = 0 from rfl, Int64.mul_zero, Int64.zero_div, Int64.add_zero]
  exact ⟨h _ _ _, h _ _ _⟩
theorem pt_n {f t : Int64} {n : Nat} (hf : wtn f (-1000) 1000) (ht : wtn t (-1000) 1000) (h0 : 0 < n) (hn : n ≤ 3000) : pt f t n n = 16 * t := by
  unfold pt
  have e1 : (16 * f).toInt = 16 * f.toInt := L16 hf (by omega)
  have e9 : (16 * t).toInt = 16 * t.toInt := L16 ht (by omega)
  unfold wtn at hf ht
  have e2 : (t - f).toInt = t.toInt - f.toInt := by rw [L_sub] <;> omega
  have e3 : (16 * (t - f)).toInt = 16 * (t.toInt - f.toInt) := by rw [L_mul] <;> rw [e2, show (16 : Int64).toInt = 16 from rfl] <;> omega
  have e4 : (lN n).toInt = n := pk_lT (by omega)
  have hm := mulb (a := 16 * (t.toInt - f.toInt)) (b := (n : Int)) (A := 32000) (B := 3000) (by omega) (by omega) (by omega) (by omega)
  have e6 : (16 * (t - f) * lN n).toInt = 16 * (t.toInt - f.toInt) * n := by rw [L_mul] <;> rw [e3, e4] <;> omega
  have e7 : (16 * (t - f) * lN n / lN n).toInt = 16 * (t.toInt - f.toInt) := by
    rw [Int64.toInt_div, e6, e4, Int.mul_tdiv_cancel _ (by omega), Int.bmod_def]; omega
  apply Int64.toInt_inj.mp
  rw [L_add (by rw [e1, e7]; omega) (by rw [e1, e7]; omega), e1, e7, e9]
  omega
theorem pn_e {z : ZZ} (hB : Bz z) (h0 : 0 < nc z) {k : Nat} : zPx z k (zN z k) = 16 * zX z (k + 1) ∧ zPy z k (zN z k) = 16 * zY z (k + 1) := by
  have hn := zN_b hB h0 k
  exact ⟨pt_n (zX_b hB h0 k) (zX_b hB h0 (k + 1)) (by omega) (by omega), pt_n (zY_b hB h0 k) (zY_b hB h0 (k + 1)) (by omega) (by omega)⟩
/-- the order of the segments -/
theorem sk_0 {n c : Nat} {b : Bool} (h : c < n) : zSk n c b 0 = if b then pv n c else c := by
  unfold zSk pv
  cases b
  · show (c + 0) % n = c
    rw [Nat.add_zero, Nat.mod_eq_of_lt h]
  · show (c + 2 * n - 1 - 0) % n = if 0 < c then c - 1 else n - 1
    split
    · next g => rw [show c + 2 * n - 1 - 0 = (c - 1) + n + n by omega, Nat.add_mod_right, Nat.add_mod_right, Nat.mod_eq_of_lt (by omega)]
    · next g => rw [show c + 2 * n - 1 - 0 = (n - 1) + n by omega, Nat.add_mod_right, Nat.mod_eq_of_lt (by omega)]
theorem pv_mod {n m : Nat} (h0 : 0 < n) (h1 : 1 ≤ m) : pv n (m % n) = (m - 1) % n := by
  unfold pv
  have hd := Nat.div_add_mod m n
  have hl := Nat.mod_lt m h0
  split
  · next g =>
    have e : m - 1 = (m % n - 1) + n * (m / n) := by omega
    have e2 : (m - 1) % n = (m % n - 1) % n := by rw [e, Nat.add_mul_mod_self_left]
    rw [e2]
    exact (Nat.mod_eq_of_lt (by omega)).symm
  · next g =>
    have hm : m / n ≠ 0 := fun e => by rw [e] at hd; omega
    obtain ⟨c, hc⟩ := Nat.exists_eq_succ_of_ne_zero hm
    have e : m - 1 = (n - 1) + n * c := by rw [hc, Nat.succ_eq_add_one, Nat.mul_add, Nat.mul_one] at hd; omega
    have e2 : (m - 1) % n = (n - 1) % n := by rw [e, Nat.add_mul_mod_self_left]
    rw [e2]
    exact (Nat.mod_eq_of_lt (by omega)).symm
theorem sk_s {n c i : Nat} {b : Bool} (h : c < n) (hi : i < n) : zSk n c b (i + 1) = if b then pv n (zSk n c b i) else nx n (zSk n c b i) := by
  have h0 : 0 < n := by omega
  cases b
  · show (c + (i + 1)) % n = nx n ((c + i) % n)
    rw [nx_mod (Nat.mod_lt _ h0), Nat.mod_add_mod, Nat.add_assoc]
  · show (c + 2 * n - 1 - (i + 1)) % n = pv n ((c + 2 * n - 1 - i) % n)
    rw [pv_mod h0 (by omega), Nat.sub_sub (c + 2 * n - 1)]
theorem zX_m {z : ZZ} {k m : Nat} (h : k % nc z = m % nc z) : zX z k = zX z m ∧ zY z k = zY z m := by
  unfold zX zY
  rw [h]
  exact ⟨rfl, rfl⟩
theorem pv_p1 {n k : Nat} (h : k < n) : (pv n k + 1) % n = k % n := by
  unfold pv
  split
  · rw [show k - 1 + 1 = k by omega]
  · rw [show n - 1 + 1 = n by omega, show k = 0 by omega, Nat.mod_self, Nat.zero_mod]
theorem nx_m {n k : Nat} (h : k < n) : nx n k % n = (k + 1) % n := by rw [nx_mod h, Nat.mod_mod]
