/-! the law begins: the cells of the class and of the model by their places -/
def TT9 (a : Nat) (f0 f1 : Nat → Nat) (hs rr : Nat) (fh : Nat → Nat → Nat) (fo ar wh me m1 m2 m3 rd t1 t2 bf mm mz msv mtx mis mre oo : Nat) : NL := ((((([] ++ [(a, 9, 0)]) ++ ((((((((((((((((((((([] ++ [(f0 0, 6, 0)]) ++ (stl f0)) ++ []) ++ [(f1 0, 6, 0)]) ++ (stl f1)) ++ []) ++ [(hs, 2, 0)]) ++ ((rr, 14, 6) :: hl fh 6)) ++ []) ++ [(fo, 1, 0)]) ++ [(ar, 0, 0), (wh, 8, 0)]) ++ []) ++ [(me, 3, 0)]) ++ [(m1, 12, 12), (m2, 12, 12), (m3, 13, 12)]) ++ []) ++ [(rd, 7, 0)]) ++ [(t1, 11, 20), (t2, 11, 20)]) ++ []) ++ [(bf, 11, 60)]) ++ []))) ++ [(mm, 10, 0)]) ++ (((((((((((((((([] ++ [(mz, 12, 106)]) ++ []) ++ [(msv, 12, 636)]) ++ []) ++ [(mtx, 11, 60)]) ++ []) ++ [(mis, 13, 12)]) ++ []) ++ [(mre, 11, 64)]) ++ []) ++ []) ++ []) ++ []) ++ []) ++ []))) ++ [(oo, 12, 1)])
set_option maxRecDepth 100000 in
theorem TT_K {a : Nat} {f0 f1 : Nat → Nat} {hs rr : Nat} {fh : Nat → Nat → Nat} {fo ar wh me m1 m2 m3 rd t1 t2 bf mm mz msv mtx mis mre oo : Nat} : (TT9 a f0 f1 hs rr fh fo ar wh me m1 m2 m3 rd t1 t2 bf mm mz msv mtx mis mre oo).map (fun e => e.2) = KC := rfl
set_option maxRecDepth 100000 in
theorem TT_0 {a : Nat} {f0 f1 : Nat → Nat} {hs rr : Nat} {fh : Nat → Nat → Nat} {fo ar wh me m1 m2 m3 rd t1 t2 bf mm mz msv mtx mis mre oo : Nat} : ∀ k, k < 10 → q9 (TT9 a f0 f1 hs rr fh fo ar wh me m1 m2 m3 rd t1 t2 bf mm mz msv mtx mis mre oo) k = f0 k := by
  intro k hk
  rcases (by omega : k = 0 ∨ k = 1 ∨ k = 2 ∨ k = 3 ∨ k = 4 ∨ k = 5 ∨ k = 6 ∨ k = 7 ∨ k = 8 ∨ k = 9) with e | e | e | e | e | e | e | e | e | e <;> subst e <;> rfl
set_option maxRecDepth 100000 in
theorem TT_1 {a : Nat} {f0 f1 : Nat → Nat} {hs rr : Nat} {fh : Nat → Nat → Nat} {fo ar wh me m1 m2 m3 rd t1 t2 bf mm mz msv mtx mis mre oo : Nat} : ∀ k, k < 10 → q9 (TT9 a f0 f1 hs rr fh fo ar wh me m1 m2 m3 rd t1 t2 bf mm mz msv mtx mis mre oo) (10 + k) = f1 k := by
  intro k hk
  rcases (by omega : k = 0 ∨ k = 1 ∨ k = 2 ∨ k = 3 ∨ k = 4 ∨ k = 5 ∨ k = 6 ∨ k = 7 ∨ k = 8 ∨ k = 9) with e | e | e | e | e | e | e | e | e | e <;> subst e <;> rfl
set_option maxRecDepth 100000 in
theorem TT_h0 {a : Nat} {f0 f1 : Nat → Nat} {hs rr : Nat} {fh : Nat → Nat → Nat} {fo ar wh me m1 m2 m3 rd t1 t2 bf mm mz msv mtx mis mre oo : Nat} : ∀ k, k < 10 → q9 (TT9 a f0 f1 hs rr fh fo ar wh me m1 m2 m3 rd t1 t2 bf mm mz msv mtx mis mre oo) (20 + 10 * 0 + k) = fh 0 k := by
  intro k hk
  rcases (by omega : k = 0 ∨ k = 1 ∨ k = 2 ∨ k = 3 ∨ k = 4 ∨ k = 5 ∨ k = 6 ∨ k = 7 ∨ k = 8 ∨ k = 9) with e | e | e | e | e | e | e | e | e | e <;> subst e <;> rfl
set_option maxRecDepth 100000 in
theorem TT_h1 {a : Nat} {f0 f1 : Nat → Nat} {hs rr : Nat} {fh : Nat → Nat → Nat} {fo ar wh me m1 m2 m3 rd t1 t2 bf mm mz msv mtx mis mre oo : Nat} : ∀ k, k < 10 → q9 (TT9 a f0 f1 hs rr fh fo ar wh me m1 m2 m3 rd t1 t2 bf mm mz msv mtx mis mre oo) (20 + 10 * 1 + k) = fh 1 k := by
  intro k hk
  rcases (by omega : k = 0 ∨ k = 1 ∨ k = 2 ∨ k = 3 ∨ k = 4 ∨ k = 5 ∨ k = 6 ∨ k = 7 ∨ k = 8 ∨ k = 9) with e | e | e | e | e | e | e | e | e | e <;> subst e <;> rfl
set_option maxRecDepth 100000 in
theorem TT_h2 {a : Nat} {f0 f1 : Nat → Nat} {hs rr : Nat} {fh : Nat → Nat → Nat} {fo ar wh me m1 m2 m3 rd t1 t2 bf mm mz msv mtx mis mre oo : Nat} : ∀ k, k < 10 → q9 (TT9 a f0 f1 hs rr fh fo ar wh me m1 m2 m3 rd t1 t2 bf mm mz msv mtx mis mre oo) (20 + 10 * 2 + k) = fh 2 k := by
  intro k hk
  rcases (by omega : k = 0 ∨ k = 1 ∨ k = 2 ∨ k = 3 ∨ k = 4 ∨ k = 5 ∨ k = 6 ∨ k = 7 ∨ k = 8 ∨ k = 9) with e | e | e | e | e | e | e | e | e | e <;> subst e <;> rfl
set_option maxRecDepth 100000 in
theorem TT_h3 {a : Nat} {f0 f1 : Nat → Nat} {hs rr : Nat} {fh : Nat → Nat → Nat} {fo ar wh me m1 m2 m3 rd t1 t2 bf mm mz msv mtx mis mre oo : Nat} : ∀ k, k < 10 → q9 (TT9 a f0 f1 hs rr fh fo ar wh me m1 m2 m3 rd t1 t2 bf mm mz msv mtx mis mre oo) (20 + 10 * 3 + k) = fh 3 k := by
  intro k hk
  rcases (by omega : k = 0 ∨ k = 1 ∨ k = 2 ∨ k = 3 ∨ k = 4 ∨ k = 5 ∨ k = 6 ∨ k = 7 ∨ k = 8 ∨ k = 9) with e | e | e | e | e | e | e | e | e | e <;> subst e <;> rfl
set_option maxRecDepth 100000 in
theorem TT_h4 {a : Nat} {f0 f1 : Nat → Nat} {hs rr : Nat} {fh : Nat → Nat → Nat} {fo ar wh me m1 m2 m3 rd t1 t2 bf mm mz msv mtx mis mre oo : Nat} : ∀ k, k < 10 → q9 (TT9 a f0 f1 hs rr fh fo ar wh me m1 m2 m3 rd t1 t2 bf mm mz msv mtx mis mre oo) (20 + 10 * 4 + k) = fh 4 k := by
  intro k hk
  rcases (by omega : k = 0 ∨ k = 1 ∨ k = 2 ∨ k = 3 ∨ k = 4 ∨ k = 5 ∨ k = 6 ∨ k = 7 ∨ k = 8 ∨ k = 9) with e | e | e | e | e | e | e | e | e | e <;> subst e <;> rfl
set_option maxRecDepth 100000 in
theorem TT_h5 {a : Nat} {f0 f1 : Nat → Nat} {hs rr : Nat} {fh : Nat → Nat → Nat} {fo ar wh me m1 m2 m3 rd t1 t2 bf mm mz msv mtx mis mre oo : Nat} : ∀ k, k < 10 → q9 (TT9 a f0 f1 hs rr fh fo ar wh me m1 m2 m3 rd t1 t2 bf mm mz msv mtx mis mre oo) (20 + 10 * 5 + k) = fh 5 k := by
  intro k hk
  rcases (by omega : k = 0 ∨ k = 1 ∨ k = 2 ∨ k = 3 ∨ k = 4 ∨ k = 5 ∨ k = 6 ∨ k = 7 ∨ k = 8 ∨ k = 9) with e | e | e | e | e | e | e | e | e | e <;> subst e <;> rfl
theorem TT_h {a : Nat} {f0 f1 : Nat → Nat} {hs rr : Nat} {fh : Nat → Nat → Nat} {fo ar wh me m1 m2 m3 rd t1 t2 bf mm mz msv mtx mis mre oo : Nat} : ∀ j, j < 6 → ∀ k, k < 10 → q9 (TT9 a f0 f1 hs rr fh fo ar wh me m1 m2 m3 rd t1 t2 bf mm mz msv mtx mis mre oo) (20 + 10 * j + k) = fh j k := by
  intro j hj
  rcases (by omega : j = 0 ∨ j = 1 ∨ j = 2 ∨ j = 3 ∨ j = 4 ∨ j = 5) with e | e | e | e | e | e <;> subst e
  · exact TT_h0
  · exact TT_h1
  · exact TT_h2
  · exact TT_h3
  · exact TT_h4
  · exact TT_h5
set_option maxRecDepth 100000 in
theorem TT_q {a : Nat} {f0 f1 : Nat → Nat} {hs rr : Nat} {fh : Nat → Nat → Nat} {fo ar wh me m1 m2 m3 rd t1 t2 bf mm mz msv mtx mis mre oo : Nat} : q9 (TT9 a f0 f1 hs rr fh fo ar wh me m1 m2 m3 rd t1 t2 bf mm mz msv mtx mis mre oo) 80 = a ∧ q9 (TT9 a f0 f1 hs rr fh fo ar wh me m1 m2 m3 rd t1 t2 bf mm mz msv mtx mis mre oo) 81 = hs ∧ q9 (TT9 a f0 f1 hs rr fh fo ar wh me m1 m2 m3 rd t1 t2 bf mm mz msv mtx mis mre oo) 82 = rr ∧ q9 (TT9 a f0 f1 hs rr fh fo ar wh me m1 m2 m3 rd t1 t2 bf mm mz msv mtx mis mre oo) 83 = fo ∧ q9 (TT9 a f0 f1 hs rr fh fo ar wh me m1 m2 m3 rd t1 t2 bf mm mz msv mtx mis mre oo) 84 = ar ∧ q9 (TT9 a f0 f1 hs rr fh fo ar wh me m1 m2 m3 rd t1 t2 bf mm mz msv mtx mis mre oo) 85 = wh ∧ q9 (TT9 a f0 f1 hs rr fh fo ar wh me m1 m2 m3 rd t1 t2 bf mm mz msv mtx mis mre oo) 86 = me ∧ q9 (TT9 a f0 f1 hs rr fh fo ar wh me m1 m2 m3 rd t1 t2 bf mm mz msv mtx mis mre oo) 87 = m1 ∧ q9 (TT9 a f0 f1 hs rr fh fo ar wh me m1 m2 m3 rd t1 t2 bf mm mz msv mtx mis mre oo) 88 = m2 ∧ q9 (TT9 a f0 f1 hs rr fh fo ar wh me m1 m2 m3 rd t1 t2 bf mm mz msv mtx mis mre oo) 89 = m3 ∧ q9 (TT9 a f0 f1 hs rr fh fo ar wh me m1 m2 m3 rd t1 t2 bf mm mz msv mtx mis mre oo) 90 = rd ∧ q9 (TT9 a f0 f1 hs rr fh fo ar wh me m1 m2 m3 rd t1 t2 bf mm mz msv mtx mis mre oo) 91 = t1 ∧ q9 (TT9 a f0 f1 hs rr fh fo ar wh me m1 m2 m3 rd t1 t2 bf mm mz msv mtx mis mre oo) 92 = t2 ∧ q9 (TT9 a f0 f1 hs rr fh fo ar wh me m1 m2 m3 rd t1 t2 bf mm mz msv mtx mis mre oo) 93 = bf ∧ q9 (TT9 a f0 f1 hs rr fh fo ar wh me m1 m2 m3 rd t1 t2 bf mm mz msv mtx mis mre oo) 94 = mm ∧ q9 (TT9 a f0 f1 hs rr fh fo ar wh me m1 m2 m3 rd t1 t2 bf mm mz msv mtx mis mre oo) 95 = mz ∧ q9 (TT9 a f0 f1 hs rr fh fo ar wh me m1 m2 m3 rd t1 t2 bf mm mz msv mtx mis mre oo) 96 = msv ∧ q9 (TT9 a f0 f1 hs rr fh fo ar wh me m1 m2 m3 rd t1 t2 bf mm mz msv mtx mis mre oo) 97 = mtx ∧ q9 (TT9 a f0 f1 hs rr fh fo ar wh me m1 m2 m3 rd t1 t2 bf mm mz msv mtx mis mre oo) 98 = mis ∧ q9 (TT9 a f0 f1 hs rr fh fo ar wh me m1 m2 m3 rd t1 t2 bf mm mz msv mtx mis mre oo) 99 = mre ∧ q9 (TT9 a f0 f1 hs rr fh fo ar wh me m1 m2 m3 rd t1 t2 bf mm mz msv mtx mis mre oo) 100 = oo := ⟨rfl, rfl, rfl, rfl, rfl, rfl, rfl, rfl, rfl, rfl, rfl, rfl, rfl, rfl, rfl, rfl, rfl, rfl, rfl, rfl, rfl⟩
