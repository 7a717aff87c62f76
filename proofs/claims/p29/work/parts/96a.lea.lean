theorem nI_p100 {n : Nat} : nI n + 100 = nI (n + 100) := nadd rfl rfl
section Lea
variable {z : ZZ}
theorem zle_s (n : Nat) : zLeF z (n + 1) = ifP (zRa (zAm z (3000 - 100 * n))) (nI (3000 - 100 * n)) (zLeF z n) := rfl
theorem zle_hit {n : Nat} (h : zRa (zAm z (3000 - 100 * n))) : ∀ m, (∀ j, j < m → ¬ zRa (zAm z (3000 - 100 * (n + 1 + j)))) → zLeF z (n + 1 + m) = nI (3000 - 100 * n)
  | 0, _ => by rw [Nat.add_zero, zle_s, ifP_t h]
  | m + 1, h2 => by
    show zLeF z (n + 1 + m + 1) = _
    rw [zle_s, ifP_f (h2 m (by omega)), zle_hit h m (fun j hj => h2 j (by omega))]
theorem zle_none : ∀ n, (∀ j, j < n → ¬ zRa (zAm z (3000 - 100 * j))) → zLeF z n = -1
  | 0, _ => rfl
  | n + 1, h => by rw [zle_s, ifP_f (h n (by omega)), zle_none n (fun j hj => h j (by omega))]
theorem le_hit {a i : Nat} (h0 : ¬ nc z = 0) (ha : a = 200 + 100 * i) (hi : i ≤ 28) (h1 : ∀ j, j < i → ¬ zRa (zAm z (200 + 100 * j))) (h2 : zRa (zAm z a)) : nI a = zLe z := by
  unfold zLe
  rw [if_neg h0]
  have e := zle_hit (z := z) (n := 28 - i) (by rw [show 3000 - 100 * (28 - i) = a by omega]; exact h2) i (fun j hj => by
    have := h1 (i - 1 - j) (by omega)
    rw [show 3000 - 100 * (28 - i + 1 + j) = 200 + 100 * (i - 1 - j) by omega]
    exact this)
  rw [show 28 - i + 1 + i = 29 by omega] at e
  rw [e]
  exact congrArg nI (by omega)
theorem le_none {a i : Nat} (h0 : ¬ nc z = 0) (ha : a = 200 + 100 * i) (hi : 3000 < a) (h1 : ∀ j, j < i → ¬ zRa (zAm z (200 + 100 * j))) : -1 = zLe z := by
  unfold zLe
  rw [if_neg h0, zle_none 29 (fun j hj => by
    have := h1 (28 - j) (by omega)
    rw [show 3000 - 100 * j = 200 + 100 * (28 - j) by omega]
    exact this)]
end Lea
