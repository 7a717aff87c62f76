/-! the law begins: the cells of the class and of the law by their places -/
def TT9 (a : Nat) (f0 f1 : Nat → Nat) (hs rr : Nat) (fh : Nat → Nat → Nat) (fo ar wh me m1 m2 m3 rd t1 t2 bf se co dd po : Nat) : NL := [(a, 9, 0), (f0 0, 6, 0), (f0 1, 11, 5), (f0 2, 4, 0), (f0 3, 11, 20), (f0 4, 11, 20), (f0 5, 11, 20), (f0 6, 5, 0), (f0 7, 11, 12), (f0 8, 13, 12), (f0 9, 12, 12), (f1 0, 6, 0), (f1 1, 11, 5), (f1 2, 4, 0), (f1 3, 11, 20), (f1 4, 11, 20), (f1 5, 11, 20), (f1 6, 5, 0), (f1 7, 11, 12), (f1 8, 13, 12), (f1 9, 12, 12), (hs, 2, 0), (rr, 14, 6), (fh 0 0, 6, 0), (fh 0 1, 11, 5), (fh 0 2, 4, 0), (fh 0 3, 11, 20), (fh 0 4, 11, 20), (fh 0 5, 11, 20), (fh 0 6, 5, 0), (fh 0 7, 11, 12), (fh 0 8, 13, 12), (fh 0 9, 12, 12), (fh 1 0, 6, 0), (fh 1 1, 11, 5), (fh 1 2, 4, 0), (fh 1 3, 11, 20), (fh 1 4, 11, 20), (fh 1 5, 11, 20), (fh 1 6, 5, 0), (fh 1 7, 11, 12), (fh 1 8, 13, 12), (fh 1 9, 12, 12), (fh 2 0, 6, 0), (fh 2 1, 11, 5), (fh 2 2, 4, 0), (fh 2 3, 11, 20), (fh 2 4, 11, 20), (fh 2 5, 11, 20), (fh 2 6, 5, 0), (fh 2 7, 11, 12), (fh 2 8, 13, 12), (fh 2 9, 12, 12), (fh 3 0, 6, 0), (fh 3 1, 11, 5), (fh 3 2, 4, 0), (fh 3 3, 11, 20), (fh 3 4, 11, 20), (fh 3 5, 11, 20), (fh 3 6, 5, 0), (fh 3 7, 11, 12), (fh 3 8, 13, 12), (fh 3 9, 12, 12), (fh 4 0, 6, 0), (fh 4 1, 11, 5), (fh 4 2, 4, 0), (fh 4 3, 11, 20), (fh 4 4, 11, 20), (fh 4 5, 11, 20), (fh 4 6, 5, 0), (fh 4 7, 11, 12), (fh 4 8, 13, 12), (fh 4 9, 12, 12), (fh 5 0, 6, 0), (fh 5 1, 11, 5), (fh 5 2, 4, 0), (fh 5 3, 11, 20), (fh 5 4, 11, 20), (fh 5 5, 11, 20), (fh 5 6, 5, 0), (fh 5 7, 11, 12), (fh 5 8, 13, 12), (fh 5 9, 12, 12), (fo, 1, 0), (ar, 0, 0), (wh, 8, 0), (me, 3, 0), (m1, 12, 12), (m2, 12, 12), (m3, 13, 12), (rd, 7, 0), (t1, 11, 20), (t2, 11, 20), (bf, 11, 60), (se, 11, 7), (co, 11, 27), (dd, 11, 2), (po, 12, 3)]
def TA9 (a : Nat) (f0 f1 : Nat → Nat) (hs rr : Nat) (fh : Nat → Nat → Nat) (fo ar wh me m1 m2 m3 rd t1 t2 bf se co dd po : Nat) : List Nat := [a, f0 0, f0 1, f0 2, f0 3, f0 4, f0 5, f0 6, f0 7, f0 8, f0 9, f1 0, f1 1, f1 2, f1 3, f1 4, f1 5, f1 6, f1 7, f1 8, f1 9, hs, rr, fh 0 0, fh 0 1, fh 0 2, fh 0 3, fh 0 4, fh 0 5, fh 0 6, fh 0 7, fh 0 8, fh 0 9, fh 1 0, fh 1 1, fh 1 2, fh 1 3, fh 1 4, fh 1 5, fh 1 6, fh 1 7, fh 1 8, fh 1 9, fh 2 0, fh 2 1, fh 2 2, fh 2 3, fh 2 4, fh 2 5, fh 2 6, fh 2 7, fh 2 8, fh 2 9, fh 3 0, fh 3 1, fh 3 2, fh 3 3, fh 3 4, fh 3 5, fh 3 6, fh 3 7, fh 3 8, fh 3 9, fh 4 0, fh 4 1, fh 4 2, fh 4 3, fh 4 4, fh 4 5, fh 4 6, fh 4 7, fh 4 8, fh 4 9, fh 5 0, fh 5 1, fh 5 2, fh 5 3, fh 5 4, fh 5 5, fh 5 6, fh 5 7, fh 5 8, fh 5 9, fo, ar, wh, me, m1, m2, m3, rd, t1, t2, bf, se, co, dd, po]
theorem TT_e {a : Nat} {f0 f1 : Nat → Nat} {hs rr : Nat} {fh : Nat → Nat → Nat} {fo ar wh me m1 m2 m3 rd t1 t2 bf se co dd po : Nat} : (((((([] ++ [(a, 9, 0)]) ++ ((((((((((((((((((((([] ++ [(f0 0, 6, 0)]) ++ (stl f0)) ++ []) ++ [(f1 0, 6, 0)]) ++ (stl f1)) ++ []) ++ [(hs, 2, 0)]) ++ ((rr, 14, 6) :: hl fh 6)) ++ []) ++ [(fo, 1, 0)]) ++ [(ar, 0, 0), (wh, 8, 0)]) ++ []) ++ [(me, 3, 0)]) ++ [(m1, 12, 12), (m2, 12, 12), (m3, 13, 12)]) ++ []) ++ [(rd, 7, 0)]) ++ [(t1, 11, 20), (t2, 11, 20)]) ++ []) ++ [(bf, 11, 60)]) ++ []))) ++ [(se, 11, 7)]) ++ [(co, 11, 27)]) ++ [(dd, 11, 2)]) ++ [(po, 12, 3)]) = TT9 a f0 f1 hs rr fh fo ar wh me m1 m2 m3 rd t1 t2 bf se co dd po := by
  simp only [hl, stl, List.nil_append, List.append_nil, List.cons_append, List.append_assoc]
  rfl
set_option maxRecDepth 100000 in
theorem TT_K {a : Nat} {f0 f1 : Nat → Nat} {hs rr : Nat} {fh : Nat → Nat → Nat} {fo ar wh me m1 m2 m3 rd t1 t2 bf se co dd po : Nat} : (TT9 a f0 f1 hs rr fh fo ar wh me m1 m2 m3 rd t1 t2 bf se co dd po).map (fun e => e.2) = KC := rfl
theorem TT_A {a : Nat} {f0 f1 : Nat → Nat} {hs rr : Nat} {fh : Nat → Nat → Nat} {fo ar wh me m1 m2 m3 rd t1 t2 bf se co dd po : Nat} : (TT9 a f0 f1 hs rr fh fo ar wh me m1 m2 m3 rd t1 t2 bf se co dd po).map (fun e => e.1) = TA9 a f0 f1 hs rr fh fo ar wh me m1 m2 m3 rd t1 t2 bf se co dd po := rfl
theorem TT_i {a : Nat} {f0 f1 : Nat → Nat} {hs rr : Nat} {fh : Nat → Nat → Nat} {fo ar wh me m1 m2 m3 rd t1 t2 bf se co dd po : Nat} {i k n : Nat} (hp : pi9 i = k) (h : (TA9 a f0 f1 hs rr fh fo ar wh me m1 m2 m3 rd t1 t2 bf se co dd po)[k]? = some n) : q9 (TT9 a f0 f1 hs rr fh fo ar wh me m1 m2 m3 rd t1 t2 bf se co dd po) i = n := by
  unfold q9
  rw [TT_A, hp, List.getD_eq_getElem?_getD, h]
  rfl
set_option maxRecDepth 100000 in
theorem TT_0 {a : Nat} {f0 f1 : Nat → Nat} {hs rr : Nat} {fh : Nat → Nat → Nat} {fo ar wh me m1 m2 m3 rd t1 t2 bf se co dd po : Nat} : ∀ k, k < 10 → q9 (TT9 a f0 f1 hs rr fh fo ar wh me m1 m2 m3 rd t1 t2 bf se co dd po) (k) = f0 k := by
  intro k hk
  rcases (by omega : k = 0 ∨ k = 1 ∨ k = 2 ∨ k = 3 ∨ k = 4 ∨ k = 5 ∨ k = 6 ∨ k = 7 ∨ k = 8 ∨ k = 9) with e | e | e | e | e | e | e | e | e | e <;> subst e
  · exact TT_i (k := 1) (by decide) rfl
  · exact TT_i (k := 2) (by decide) rfl
  · exact TT_i (k := 3) (by decide) rfl
  · exact TT_i (k := 4) (by decide) rfl
  · exact TT_i (k := 5) (by decide) rfl
  · exact TT_i (k := 6) (by decide) rfl
  · exact TT_i (k := 7) (by decide) rfl
  · exact TT_i (k := 8) (by decide) rfl
  · exact TT_i (k := 9) (by decide) rfl
  · exact TT_i (k := 10) (by decide) rfl
set_option maxRecDepth 100000 in
theorem TT_1 {a : Nat} {f0 f1 : Nat → Nat} {hs rr : Nat} {fh : Nat → Nat → Nat} {fo ar wh me m1 m2 m3 rd t1 t2 bf se co dd po : Nat} : ∀ k, k < 10 → q9 (TT9 a f0 f1 hs rr fh fo ar wh me m1 m2 m3 rd t1 t2 bf se co dd po) (10 + k) = f1 k := by
  intro k hk
  rcases (by omega : k = 0 ∨ k = 1 ∨ k = 2 ∨ k = 3 ∨ k = 4 ∨ k = 5 ∨ k = 6 ∨ k = 7 ∨ k = 8 ∨ k = 9) with e | e | e | e | e | e | e | e | e | e <;> subst e
  · exact TT_i (k := 11) (by decide) rfl
  · exact TT_i (k := 12) (by decide) rfl
  · exact TT_i (k := 13) (by decide) rfl
  · exact TT_i (k := 14) (by decide) rfl
  · exact TT_i (k := 15) (by decide) rfl
  · exact TT_i (k := 16) (by decide) rfl
  · exact TT_i (k := 17) (by decide) rfl
  · exact TT_i (k := 18) (by decide) rfl
  · exact TT_i (k := 19) (by decide) rfl
  · exact TT_i (k := 20) (by decide) rfl
set_option maxRecDepth 100000 in
theorem TT_h0 {a : Nat} {f0 f1 : Nat → Nat} {hs rr : Nat} {fh : Nat → Nat → Nat} {fo ar wh me m1 m2 m3 rd t1 t2 bf se co dd po : Nat} : ∀ k, k < 10 → q9 (TT9 a f0 f1 hs rr fh fo ar wh me m1 m2 m3 rd t1 t2 bf se co dd po) (20 + 10 * 0 + k) = fh 0 k := by
  intro k hk
  rcases (by omega : k = 0 ∨ k = 1 ∨ k = 2 ∨ k = 3 ∨ k = 4 ∨ k = 5 ∨ k = 6 ∨ k = 7 ∨ k = 8 ∨ k = 9) with e | e | e | e | e | e | e | e | e | e <;> subst e
  · exact TT_i (k := 23) (by decide) rfl
  · exact TT_i (k := 24) (by decide) rfl
  · exact TT_i (k := 25) (by decide) rfl
  · exact TT_i (k := 26) (by decide) rfl
  · exact TT_i (k := 27) (by decide) rfl
  · exact TT_i (k := 28) (by decide) rfl
  · exact TT_i (k := 29) (by decide) rfl
  · exact TT_i (k := 30) (by decide) rfl
  · exact TT_i (k := 31) (by decide) rfl
  · exact TT_i (k := 32) (by decide) rfl
set_option maxRecDepth 100000 in
theorem TT_h1 {a : Nat} {f0 f1 : Nat → Nat} {hs rr : Nat} {fh : Nat → Nat → Nat} {fo ar wh me m1 m2 m3 rd t1 t2 bf se co dd po : Nat} : ∀ k, k < 10 → q9 (TT9 a f0 f1 hs rr fh fo ar wh me m1 m2 m3 rd t1 t2 bf se co dd po) (20 + 10 * 1 + k) = fh 1 k := by
  intro k hk
  rcases (by omega : k = 0 ∨ k = 1 ∨ k = 2 ∨ k = 3 ∨ k = 4 ∨ k = 5 ∨ k = 6 ∨ k = 7 ∨ k = 8 ∨ k = 9) with e | e | e | e | e | e | e | e | e | e <;> subst e
  · exact TT_i (k := 33) (by decide) rfl
  · exact TT_i (k := 34) (by decide) rfl
  · exact TT_i (k := 35) (by decide) rfl
  · exact TT_i (k := 36) (by decide) rfl
  · exact TT_i (k := 37) (by decide) rfl
  · exact TT_i (k := 38) (by decide) rfl
  · exact TT_i (k := 39) (by decide) rfl
  · exact TT_i (k := 40) (by decide) rfl
  · exact TT_i (k := 41) (by decide) rfl
  · exact TT_i (k := 42) (by decide) rfl
set_option maxRecDepth 100000 in
theorem TT_h2 {a : Nat} {f0 f1 : Nat → Nat} {hs rr : Nat} {fh : Nat → Nat → Nat} {fo ar wh me m1 m2 m3 rd t1 t2 bf se co dd po : Nat} : ∀ k, k < 10 → q9 (TT9 a f0 f1 hs rr fh fo ar wh me m1 m2 m3 rd t1 t2 bf se co dd po) (20 + 10 * 2 + k) = fh 2 k := by
  intro k hk
  rcases (by omega : k = 0 ∨ k = 1 ∨ k = 2 ∨ k = 3 ∨ k = 4 ∨ k = 5 ∨ k = 6 ∨ k = 7 ∨ k = 8 ∨ k = 9) with e | e | e | e | e | e | e | e | e | e <;> subst e
  · exact TT_i (k := 43) (by decide) rfl
  · exact TT_i (k := 44) (by decide) rfl
  · exact TT_i (k := 45) (by decide) rfl
  · exact TT_i (k := 46) (by decide) rfl
  · exact TT_i (k := 47) (by decide) rfl
  · exact TT_i (k := 48) (by decide) rfl
  · exact TT_i (k := 49) (by decide) rfl
  · exact TT_i (k := 50) (by decide) rfl
  · exact TT_i (k := 51) (by decide) rfl
  · exact TT_i (k := 52) (by decide) rfl
set_option maxRecDepth 100000 in
theorem TT_h3 {a : Nat} {f0 f1 : Nat → Nat} {hs rr : Nat} {fh : Nat → Nat → Nat} {fo ar wh me m1 m2 m3 rd t1 t2 bf se co dd po : Nat} : ∀ k, k < 10 → q9 (TT9 a f0 f1 hs rr fh fo ar wh me m1 m2 m3 rd t1 t2 bf se co dd po) (20 + 10 * 3 + k) = fh 3 k := by
  intro k hk
  rcases (by omega : k = 0 ∨ k = 1 ∨ k = 2 ∨ k = 3 ∨ k = 4 ∨ k = 5 ∨ k = 6 ∨ k = 7 ∨ k = 8 ∨ k = 9) with e | e | e | e | e | e | e | e | e | e <;> subst e
  · exact TT_i (k := 53) (by decide) rfl
  · exact TT_i (k := 54) (by decide) rfl
  · exact TT_i (k := 55) (by decide) rfl
  · exact TT_i (k := 56) (by decide) rfl
  · exact TT_i (k := 57) (by decide) rfl
  · exact TT_i (k := 58) (by decide) rfl
  · exact TT_i (k := 59) (by decide) rfl
  · exact TT_i (k := 60) (by decide) rfl
  · exact TT_i (k := 61) (by decide) rfl
  · exact TT_i (k := 62) (by decide) rfl
set_option maxRecDepth 100000 in
theorem TT_h4 {a : Nat} {f0 f1 : Nat → Nat} {hs rr : Nat} {fh : Nat → Nat → Nat} {fo ar wh me m1 m2 m3 rd t1 t2 bf se co dd po : Nat} : ∀ k, k < 10 → q9 (TT9 a f0 f1 hs rr fh fo ar wh me m1 m2 m3 rd t1 t2 bf se co dd po) (20 + 10 * 4 + k) = fh 4 k := by
  intro k hk
  rcases (by omega : k = 0 ∨ k = 1 ∨ k = 2 ∨ k = 3 ∨ k = 4 ∨ k = 5 ∨ k = 6 ∨ k = 7 ∨ k = 8 ∨ k = 9) with e | e | e | e | e | e | e | e | e | e <;> subst e
  · exact TT_i (k := 63) (by decide) rfl
  · exact TT_i (k := 64) (by decide) rfl
  · exact TT_i (k := 65) (by decide) rfl
  · exact TT_i (k := 66) (by decide) rfl
  · exact TT_i (k := 67) (by decide) rfl
  · exact TT_i (k := 68) (by decide) rfl
  · exact TT_i (k := 69) (by decide) rfl
  · exact TT_i (k := 70) (by decide) rfl
  · exact TT_i (k := 71) (by decide) rfl
  · exact TT_i (k := 72) (by decide) rfl
set_option maxRecDepth 100000 in
theorem TT_h5 {a : Nat} {f0 f1 : Nat → Nat} {hs rr : Nat} {fh : Nat → Nat → Nat} {fo ar wh me m1 m2 m3 rd t1 t2 bf se co dd po : Nat} : ∀ k, k < 10 → q9 (TT9 a f0 f1 hs rr fh fo ar wh me m1 m2 m3 rd t1 t2 bf se co dd po) (20 + 10 * 5 + k) = fh 5 k := by
  intro k hk
  rcases (by omega : k = 0 ∨ k = 1 ∨ k = 2 ∨ k = 3 ∨ k = 4 ∨ k = 5 ∨ k = 6 ∨ k = 7 ∨ k = 8 ∨ k = 9) with e | e | e | e | e | e | e | e | e | e <;> subst e
  · exact TT_i (k := 73) (by decide) rfl
  · exact TT_i (k := 74) (by decide) rfl
  · exact TT_i (k := 75) (by decide) rfl
  · exact TT_i (k := 76) (by decide) rfl
  · exact TT_i (k := 77) (by decide) rfl
  · exact TT_i (k := 78) (by decide) rfl
  · exact TT_i (k := 79) (by decide) rfl
  · exact TT_i (k := 80) (by decide) rfl
  · exact TT_i (k := 81) (by decide) rfl
  · exact TT_i (k := 82) (by decide) rfl
theorem TT_h {a : Nat} {f0 f1 : Nat → Nat} {hs rr : Nat} {fh : Nat → Nat → Nat} {fo ar wh me m1 m2 m3 rd t1 t2 bf se co dd po : Nat} : ∀ j, j < 6 → ∀ k, k < 10 → q9 (TT9 a f0 f1 hs rr fh fo ar wh me m1 m2 m3 rd t1 t2 bf se co dd po) (20 + 10 * j + k) = fh j k := by
  intro j hj
  rcases (by omega : j = 0 ∨ j = 1 ∨ j = 2 ∨ j = 3 ∨ j = 4 ∨ j = 5) with e | e | e | e | e | e <;> subst e
  · exact TT_h0
  · exact TT_h1
  · exact TT_h2
  · exact TT_h3
  · exact TT_h4
  · exact TT_h5
set_option maxRecDepth 100000 in
theorem TT_q {a : Nat} {f0 f1 : Nat → Nat} {hs rr : Nat} {fh : Nat → Nat → Nat} {fo ar wh me m1 m2 m3 rd t1 t2 bf se co dd po : Nat} : q9 (TT9 a f0 f1 hs rr fh fo ar wh me m1 m2 m3 rd t1 t2 bf se co dd po) 80 = a ∧ q9 (TT9 a f0 f1 hs rr fh fo ar wh me m1 m2 m3 rd t1 t2 bf se co dd po) 81 = hs ∧ q9 (TT9 a f0 f1 hs rr fh fo ar wh me m1 m2 m3 rd t1 t2 bf se co dd po) 82 = rr ∧ q9 (TT9 a f0 f1 hs rr fh fo ar wh me m1 m2 m3 rd t1 t2 bf se co dd po) 83 = fo ∧ q9 (TT9 a f0 f1 hs rr fh fo ar wh me m1 m2 m3 rd t1 t2 bf se co dd po) 84 = ar ∧ q9 (TT9 a f0 f1 hs rr fh fo ar wh me m1 m2 m3 rd t1 t2 bf se co dd po) 85 = wh ∧ q9 (TT9 a f0 f1 hs rr fh fo ar wh me m1 m2 m3 rd t1 t2 bf se co dd po) 86 = me ∧ q9 (TT9 a f0 f1 hs rr fh fo ar wh me m1 m2 m3 rd t1 t2 bf se co dd po) 87 = m1 ∧ q9 (TT9 a f0 f1 hs rr fh fo ar wh me m1 m2 m3 rd t1 t2 bf se co dd po) 88 = m2 ∧ q9 (TT9 a f0 f1 hs rr fh fo ar wh me m1 m2 m3 rd t1 t2 bf se co dd po) 89 = m3 ∧ q9 (TT9 a f0 f1 hs rr fh fo ar wh me m1 m2 m3 rd t1 t2 bf se co dd po) 90 = rd ∧ q9 (TT9 a f0 f1 hs rr fh fo ar wh me m1 m2 m3 rd t1 t2 bf se co dd po) 91 = t1 ∧ q9 (TT9 a f0 f1 hs rr fh fo ar wh me m1 m2 m3 rd t1 t2 bf se co dd po) 92 = t2 ∧ q9 (TT9 a f0 f1 hs rr fh fo ar wh me m1 m2 m3 rd t1 t2 bf se co dd po) 93 = bf ∧ q9 (TT9 a f0 f1 hs rr fh fo ar wh me m1 m2 m3 rd t1 t2 bf se co dd po) 94 = se ∧ q9 (TT9 a f0 f1 hs rr fh fo ar wh me m1 m2 m3 rd t1 t2 bf se co dd po) 95 = co ∧ q9 (TT9 a f0 f1 hs rr fh fo ar wh me m1 m2 m3 rd t1 t2 bf se co dd po) 96 = dd ∧ q9 (TT9 a f0 f1 hs rr fh fo ar wh me m1 m2 m3 rd t1 t2 bf se co dd po) 97 = po := ⟨TT_i (k := 0) (by decide) rfl, TT_i (k := 21) (by decide) rfl, TT_i (k := 22) (by decide) rfl, TT_i (k := 83) (by decide) rfl, TT_i (k := 84) (by decide) rfl, TT_i (k := 85) (by decide) rfl, TT_i (k := 86) (by decide) rfl, TT_i (k := 87) (by decide) rfl, TT_i (k := 88) (by decide) rfl, TT_i (k := 89) (by decide) rfl, TT_i (k := 90) (by decide) rfl, TT_i (k := 91) (by decide) rfl, TT_i (k := 92) (by decide) rfl, TT_i (k := 93) (by decide) rfl, TT_i (k := 94) (by decide) rfl, TT_i (k := 95) (by decide) rfl, TT_i (k := 96) (by decide) rfl, TT_i (k := 97) (by decide) rfl⟩
