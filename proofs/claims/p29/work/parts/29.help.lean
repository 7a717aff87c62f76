theorem L_nlt {x y : Int64} : ¬ x < y ↔ y ≤ x := by rw [Int64.lt_iff_toInt_lt, Int64.le_iff_toInt_le]; omega
theorem L_nle {x y : Int64} : ¬ x ≤ y ↔ y < x := by rw [Int64.lt_iff_toInt_lt, Int64.le_iff_toInt_le]; omega
theorem I_nlt {x y : Int32} : ¬ x < y ↔ y ≤ x := by rw [Int32.lt_iff_toInt_lt, Int32.le_iff_toInt_le]; omega
theorem I_nle {x y : Int32} : ¬ x ≤ y ↔ y < x := by rw [Int32.lt_iff_toInt_lt, Int32.le_iff_toInt_le]; omega
theorem L_ne {x y : Int64} : ¬ x = y ↔ (x < y ∨ y < x) := by rw [Int64.lt_iff_toInt_lt, Int64.lt_iff_toInt_lt, ← Int64.toInt_inj]; omega
theorem lc_cases (x y : Int64) : (x < y ∧ lg_cmp x y = -1) ∨ (x = y ∧ lg_cmp x y = 0) ∨ (y < x ∧ lg_cmp x y = 1) := by
  unfold lg_cmp
  by_cases h : y < x
  · right; right; exact ⟨h, by simp [h]⟩
  · by_cases e : x = y
    · right; left; exact ⟨e, by simp [h, e]⟩
    · left
      refine ⟨?_, by simp [h, e]⟩
      rcases L_ne.mp e with a | a
      · exact a
      · exact absurd a h
theorem lc_eq {x y : Int64} : lg_cmp x y = 0 ↔ x = y := by
  rcases lc_cases x y with ⟨a, b⟩ | ⟨a, b⟩ | ⟨a, b⟩ <;> rw [b]
  · exact ⟨fun z => absurd z (by decide), fun z => absurd z (L_ne.mpr (Or.inl a))⟩
  · exact ⟨fun _ => a, fun _ => rfl⟩
  · exact ⟨fun z => absurd z (by decide), fun z => absurd z (L_ne.mpr (Or.inr a))⟩
theorem lc_lt {x y : Int64} : lg_cmp x y < 0 ↔ x < y := by
  rcases lc_cases x y with ⟨a, b⟩ | ⟨a, b⟩ | ⟨a, b⟩ <;> rw [b]
  · exact ⟨fun _ => a, fun _ => by decide⟩
  · exact ⟨fun z => absurd z (by decide), fun z => absurd a (L_ne.mpr (Or.inl z))⟩
  · exact ⟨fun z => absurd z (by decide), fun z => by rw [Int64.lt_iff_toInt_lt] at a z; omega⟩
theorem lc_gt {x y : Int64} : 0 < lg_cmp x y ↔ y < x := by
  rcases lc_cases x y with ⟨a, b⟩ | ⟨a, b⟩ | ⟨a, b⟩ <;> rw [b]
  · exact ⟨fun z => absurd z (by decide), fun z => by rw [Int64.lt_iff_toInt_lt] at a z; omega⟩
  · exact ⟨fun z => absurd z (by decide), fun z => absurd a (L_ne.mpr (Or.inr z))⟩
  · exact ⟨fun _ => a, fun _ => by decide⟩
theorem lc_le {x y : Int64} : lg_cmp x y ≤ 0 ↔ x ≤ y := by rw [← I_nlt, lc_gt, L_nlt]
theorem lc_ge {x y : Int64} : 0 ≤ lg_cmp x y ↔ y ≤ x := by rw [← I_nlt, lc_lt, L_nlt]
def nx (n k : Nat) : Nat := if k + 1 < n then k + 1 else 0
def pv (n k : Nat) : Nat := if 0 < k then k - 1 else n - 1
theorem nx_t {n k : Nat} (h : n ≤ k + 1) : nx n k = 0 := by unfold nx; rw [if_neg (by omega)]
theorem nx_f {n k : Nat} (h : ¬ n ≤ k + 1) : nx n k = k + 1 := by unfold nx; rw [if_pos (by omega)]
theorem nx_lt {n k : Nat} (h : k < n) : nx n k < n := by unfold nx; split <;> omega
theorem pv_lt {n k : Nat} (h : k < n) : pv n k < n := by unfold pv; split <;> omega
theorem if01_t {P : Prop} [Decidable P] (h : P) : (1 : Int32) = if P then 1 else 0 := by rw [if_pos h]
theorem if01_f {P : Prop} [Decidable P] (h : ¬ P) : (0 : Int32) = if P then 1 else 0 := by rw [if_neg h]
theorem if01_0 {P : Prop} [Decidable P] {r : Int32} (e : r = if P then 1 else 0) (c : r = 0) : ¬ P := by
  intro h
  rw [if_pos h] at e
  rw [e] at c
  exact absurd c (by decide)
theorem if01_1 {P : Prop} [Decidable P] {r : Int32} (e : r = if P then 1 else 0) (c : ¬ r = 0) : P := by
  by_cases h : P
  · exact h
  · rw [if_neg h] at e
    exact absurd e c
theorem nadd {x y : Int32} {a b : Nat} (h : x = nI a) (h2 : y = nI b) : x + y = nI (a + b) := by subst h h2; exact nI_add a b
theorem nmul {x y : Int32} {a b : Nat} (h : x = nI a) (h2 : y = nI b) : x * y = nI (a * b) := by subst h h2; exact pk_mul a b
theorem nsub {x y : Int32} {a b : Nat} (h : x = nI a) (h2 : y = nI b) (hle : b ≤ a) : x - y = nI (a - b) := by subst h h2; exact pk_sub hle
theorem nrem {x y : Int32} {a b : Nat} (h : x = nI a) (h2 : y = nI b) (ha : a < 2 ^ 31) (h0 : 0 < b) (hb : b < 2 ^ 31) : x - x / y * y = nI (a % b) := by subst h h2; exact pk_rem ha h0 hb
theorem ndiv {x y : Int32} {a b : Nat} (h : x = nI a) (h2 : y = nI b) (ha : a < 2 ^ 31) (h0 : 0 < b) (hb : b < 2 ^ 31) : x / y = nI (a / b) := by subst h h2; exact pk_div ha h0 hb
theorem g_rei {Γ : Ctx} {S : PS} {c n pc : Nat} {L : List (Nat × Value)} {st : List Value} {x : Int32} (y : Int32) (e : x = y) (k9 : G Γ S c n pc L (.int y :: st)) : G Γ S c n pc L (.int x :: st) := by subst e; exact k9
theorem g_rel {Γ : Ctx} {S : PS} {c n pc : Nat} {L : List (Nat × Value)} {st : List Value} {x : Int64} (y : Int64) (e : x = y) (k9 : G Γ S c n pc L (.long y :: st)) : G Γ S c n pc L (.long x :: st) := by subst e; exact k9
