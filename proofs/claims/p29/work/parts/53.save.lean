/-- the saved rows, the oldest one first -/
def Sv (S : PS) (q : Nat → Nat) (H : List ZZ) : Prop := pI S (q 94) 2 = nI H.length ∧ H.length ≤ 6 ∧ ∀ (i : Nat) (y : ZZ), H[i]? = some y → ∀ k, k < 106 → pJ S (q 96) (106 * i + k) = y k
def psh (H : List ZZ) (z : ZZ) : List ZZ := if H.length = 6 then H.tail ++ [z] else H ++ [z]
theorem psh_len {H : List ZZ} {z : ZZ} (h : H.length ≤ 6) : (psh H z).length ≤ 6 ∧ (psh H z).length = (if H.length = 6 then 5 else H.length) + 1 := by
  unfold psh
  split
  · next e => simp [e]
  · next e => simp; omega
/-- behind a copy of z into the row n: rows of B, and z -/
theorem Sv_copy {S' B : PS} {q : Nat → Nat} {H : List ZZ} {z : ZZ} {n : Nat} (hn : n = H.length) (h6 : n < 6) (hrows : ∀ (i : Nat) (y : ZZ), H[i]? = some y → ∀ k, k < 106 → pJ B (q 96) (106 * i + k) = y k) (hs : pI S' (q 94) 2 = nI (n + 1)) (hc : ∀ j, pJ S' (q 96) j = if 106 * n ≤ j ∧ j < 106 * n + 106 then z (j - 106 * n) else pJ B (q 96) j) : Sv S' q (H ++ [z]) := by
  refine ⟨by rw [hs]; simp [hn], by simp; omega, fun i y hy k hk => ?_⟩
  rw [hc]
  rcases Nat.lt_or_ge i n with g | g
  · rw [if_neg (by omega)]
    rw [List.getElem?_append_left (by omega)] at hy
    exact hrows i y hy k hk
  · have hi := (List.getElem?_eq_some_iff.mp hy).1
    simp at hi
    have e : i = n := by omega
    subst e
    rw [if_pos (by omega), show 106 * i + k - 106 * i = k by omega]
    rw [List.getElem?_append_right (by omega), show i - H.length = 0 by omega] at hy
    simp at hy
    rw [hy]
theorem Sv_shift {S S' : PS} {q : Nat → Nat} {H : List ZZ} (h : Sv S q H) (h6 : H.length = 6) (hc : ∀ j, pJ S' (q 96) j = if j + 106 < 636 then pJ S (q 96) (j + 106) else pJ S (q 96) j) : ∀ (i : Nat) (y : ZZ), H.tail[i]? = some y → ∀ k, k < 106 → pJ S' (q 96) (106 * i + k) = y k := by
  intro i y hy k hk
  have hi := (List.getElem?_eq_some_iff.mp hy).1
  rw [List.length_tail] at hi
  rw [List.getElem?_tail] at hy
  rw [hc, if_pos (by omega), ← h.2.2 (i + 1) y hy k hk]
  congr 1
  omega
theorem shift_step {S S1 : PS} {a k : Nat} (hk : 106 ≤ k) (h : ∀ j, pJ S1 a j = if j + 106 < k then pJ S a (j + 106) else pJ S a j) : ∀ j, pJ (wJ S1 a (k - 106) (pJ S1 a k)) a j = if j + 106 < k + 1 then pJ S a (j + 106) else pJ S a j := by
  intro j
  by_cases e : j = k - 106
  · subst e
    rw [show pJ (wJ S1 a (k - 106) (pJ S1 a k)) a (k - 106) = pJ S1 a k from up2_s, h, if_neg (by omega), if_pos (by omega)]
    congr 1
    omega
  · rw [show pJ (wJ S1 a (k - 106) (pJ S1 a k)) a j = pJ S1 a j from up2_k e, h]
    by_cases g : j + 106 < k
    · rw [if_pos g, if_pos (by omega)]
    · rw [if_neg g, if_neg (by omega)]
theorem copy_step {B T1 : PS} {a n k : Nat} {z : ZZ} (h : ∀ j, pJ T1 a j = if 106 * n ≤ j ∧ j < 106 * n + k then z (j - 106 * n) else pJ B a j) : ∀ j, pJ (wJ T1 a (106 * n + k) (z k)) a j = if 106 * n ≤ j ∧ j < 106 * n + (k + 1) then z (j - 106 * n) else pJ B a j := by
  intro j
  by_cases e : j = 106 * n + k
  · subst e
    rw [show pJ (wJ T1 a (106 * n + k) (z k)) a (106 * n + k) = z k from up2_s, if_pos (by omega)]
    congr 1
    omega
  · rw [show pJ (wJ T1 a (106 * n + k) (z k)) a j = pJ T1 a j from up2_k e, h]
    by_cases g : 106 * n ≤ j ∧ j < 106 * n + k
    · rw [if_pos g, if_pos (by omega)]
    · rw [if_neg g, if_neg (by omega)]
