theorem i64lt {a b : Int32} : a < b ↔ a.toInt64 < b.toInt64 := by rw [Int32.lt_iff_toInt_lt, Int64.lt_iff_toInt_lt, I64_t, I64_t]
theorem i64le {a b : Int32} : a ≤ b ↔ a.toInt64 ≤ b.toInt64 := by rw [Int32.le_iff_toInt_le, Int64.le_iff_toInt_le, I64_t, I64_t]
theorem btw32 {v a b : Int32} : ((if b < a then b else a) ≤ v ∧ v ≤ (if a < b then b else a)) ↔ btw v.toInt64 a.toInt64 b.toInt64 := by
  unfold btw
  have h1 : (if b < a then b else a).toInt64 = if a.toInt64 < b.toInt64 then a.toInt64 else b.toInt64 := by
    by_cases g : b < a
    · rw [if_pos g, if_neg (fun h => by rw [i64lt] at g; rw [Int64.lt_iff_toInt_lt] at g h; omega)]
    · rw [if_neg g]
      by_cases g2 : a.toInt64 < b.toInt64
      · rw [if_pos g2]
      · rw [if_neg g2]
        apply Int64.toInt_inj.mp
        rw [i64lt, Int64.lt_iff_toInt_lt] at g
        rw [Int64.lt_iff_toInt_lt] at g2
        omega
  have h2 : (if a < b then b else a).toInt64 = if a.toInt64 < b.toInt64 then b.toInt64 else a.toInt64 := by
    by_cases g : a < b
    · rw [if_pos g, if_pos (i64lt.mp g)]
    · rw [if_neg g, if_neg (fun h => g (i64lt.mpr h))]
  rw [i64le, i64le, h1, h2]
theorem fp_e {a b : Int32} {i n : Nat} {r : Int64} (ha : wtn a.toInt64 (-1000) 1000) (hb : wtn b.toInt64 (-1000) 1000) (hn : 0 < n) (hi : i < 1000000) (hn2 : n < 1000000) (hr : r = if (nI n).toInt64 = 0 then 0 else 16 * (b - a).toInt64 * (nI i).toInt64 / (nI n).toInt64) : 16 * a.toInt64 + r = pt a.toInt64 b.toInt64 i n := by
  rw [nI_L (by omega), nI_L (by omega), sub64 (by omega) ha hb, if_neg (lN_ne0 hn (by omega))] at hr
  rw [hr]
  rfl
theorem on_s {z : ZZ} {i : Nat} (h : ∀ j, j < i → ¬ zOn z j) (h2 : ¬ zOn z i) : ∀ j, j < i + 1 → ¬ zOn z j := fun j hj => by
  rcases Nat.lt_or_ge j i with g | g
  · exact h j g
  · obtain rfl : j = i := by omega
    exact h2
theorem on_n {z : ZZ} {i : Nat} (h : ∀ j, j < i → ¬ zOn z j) (h2 : nc z ≤ i) : ¬ zOO z := fun ⟨k, hk, hz3⟩ => h k (by omega) hz3
theorem pv_e {n k : Nat} (hn : n ≤ 20) (hk : k < n) : (0 < k → nI k - 1 = nI (pv n k)) ∧ (¬ 0 < k → nI n - 1 = nI (pv n k)) := by
  refine ⟨fun h => ?_, fun h => ?_⟩
  · unfold pv; rw [if_pos h]; exact nsub (b := 1) rfl rfl (by omega)
  · unfold pv; rw [if_neg h]; exact nsub (b := 1) rfl rfl (by omega)
theorem nc_t {k n : Nat} (h1 : k < 2147483648) (h2 : n < 2147483648) (h : nI n ≤ nI k) : n ≤ k := (nI_leI h2 h1).mp h
theorem nc_f {k n : Nat} (h1 : k < 2147483648) (h2 : n < 2147483648) (h : ¬ nI n ≤ nI k) : k < n := by
  rw [nI_leI h2 h1] at h
  omega
