section RowsH
variable {Γ : Ctx} {own : String} {cc : ByteArray} {rm : Room × Nat} {S : PS} {c n pc : Nat} {L L' : List (Nat × Value)} {st : List Value}
/-- rows of the pool -/
theorem g_iald {a j : Nat} {i : Int32} (F : Fx Γ own cc rm) (ha : Is S.1 a 11) (hi : i = nI j) (hj : j < S.1.2.2 a) (hN : S.1.2.2 a < 2 ^ 31) (d : decode cc pc = .ok (.iaload, 1)) (k9 : G Γ S c n (pc + 1) L (.int (pI S a j) :: st)) : G Γ S c n pc L (.int i :: .ref a :: st) := by
  intro H locs ls hP hD hS hl
  subst hi
  obtain ⟨q0, hq, -⟩ := mP_at (cy := gC Γ.1) (S := S) ha.1 (cE_i ha.2)
  have k8 := k9 H locs ls hP hD hS hl
  have e : pI S a j = pI S a (nI j).toNatClampNeg := by rw [nI_clamp (by omega)]
  rw [e] at k8
  exact va_iald F.x F.b F.k hP q0 0 hq rfl (vp_in_nI hj hN) d k8
theorem g_lald {a j : Nat} {i : Int32} (F : Fx Γ own cc rm) (ha : Is S.1 a 12) (hi : i = nI j) (hj : j < S.1.2.2 a) (hN : S.1.2.2 a < 2 ^ 31) (d : decode cc pc = .ok (.laload, 1)) (k9 : G Γ S c n (pc + 1) L (.long (pJ S a j) :: st)) : G Γ S c n pc L (.int i :: .ref a :: st) := by
  intro H locs ls hP hD hS hl
  subst hi
  obtain ⟨q0, hq, -⟩ := mP_at (cy := gC Γ.1) (S := S) ha.1 (cE_j ha.2)
  have k8 := k9 H locs ls hP hD hS hl
  have e : pJ S a j = pJ S a (nI j).toNatClampNeg := by rw [nI_clamp (by omega)]
  rw [e] at k8
  exact va_lald F.x F.b F.k hP q0 1 hq rfl (vp_in_nI hj hN) d k8
theorem g_zald {a j : Nat} {i : Int32} (F : Fx Γ own cc rm) (ha : Is S.1 a 13) (hi : i = nI j) (hj : j < S.1.2.2 a) (hN : S.1.2.2 a < 2 ^ 31) (d : decode cc pc = .ok (.baload, 1)) (k9 : G Γ S c n (pc + 1) L (.int (pI S a j) :: st)) : G Γ S c n pc L (.int i :: .ref a :: st) := by
  intro H locs ls hP hD hS hl
  subst hi
  obtain ⟨q0, hq, -⟩ := mP_at (cy := gC Γ.1) (S := S) ha.1 (cE_z ha.2)
  have k8 := k9 H locs ls hP hD hS hl
  have e : pI S a j = pI S a (nI j).toNatClampNeg := by rw [nI_clamp (by omega)]
  rw [e] at k8
  exact va_zald F.x F.b F.k hP q0 2 hq rfl (vp_in_nI hj hN) d k8
theorem g_aald {a j b : Nat} {i : Int32} (F : Fx Γ own cc rm) (ha : Is S.1 a 14) (hi : i = nI j) (hj : j < S.1.2.2 a) (hN : S.1.2.2 a < 2 ^ 31) (hr : pR S a j = some b) (d : decode cc pc = .ok (.aaload, 1)) (k9 : G Γ S c n (pc + 1) L (.ref b :: st)) : G Γ S c n pc L (.int i :: .ref a :: st) := by
  intro H locs ls hP hD hS hl
  subst hi
  obtain ⟨q0, hq, -⟩ := mP_at (cy := gC Γ.1) (S := S) ha.1 (cE_q ha.2)
  have k8 := k9 H locs ls hP hD hS hl
  have e : Value.ref b = va_rf (pR S a (nI j).toNatClampNeg) := by rw [nI_clamp (by omega), hr]; rfl
  rw [e] at k8
  exact va_aldq F.x F.b F.k hP q0 3 hq rfl (vp_in_nI hj hN) d k8
theorem g_iast {a j : Nat} {i x : Int32} (F : Fx Γ own cc rm) (ha : Is S.1 a 11) (hi : i = nI j) (hj : j < S.1.2.2 a) (hN : S.1.2.2 a < 2 ^ 31) (d : decode cc pc = .ok (.iastore, 1)) (k9 : G Γ (wI S a j x) c n (pc + 1) L st) : G Γ S c n pc L (.int x :: .int i :: .ref a :: st) := by
  intro H locs ls hP hD hS hl
  subst hi
  obtain ⟨q0, hq, hq2⟩ := mP_at (cy := gC Γ.1) (S := S) ha.1 (cE_i ha.2)
  refine va_iast F.x F.b F.k hP hD hS q0 0 hq rfl (vp_in_nI hj hN) d (fun H1 locs1 hP1 hD1 hS1 => ?_)
  rw [nI_clamp (by omega)] at hP1 hD1
  have e := mP_put (S' := wI S a j x) (e := .inl ((gC Γ.1).1, pN S a, .inl (upd (pI S a) j x))) hD ha.1 hq2 rfl (fun b => upE_i ha.2 b)
  rw [e] at hP1 hD1
  exact k9 H1 locs1 ls hP1 hD1 hS1 hl
theorem g_last {a j : Nat} {i : Int32} {x : Int64} (F : Fx Γ own cc rm) (ha : Is S.1 a 12) (hi : i = nI j) (hj : j < S.1.2.2 a) (hN : S.1.2.2 a < 2 ^ 31) (d : decode cc pc = .ok (.lastore, 1)) (k9 : G Γ (wJ S a j x) c n (pc + 1) L st) : G Γ S c n pc L (.long x :: .int i :: .ref a :: st) := by
  intro H locs ls hP hD hS hl
  subst hi
  obtain ⟨q0, hq, hq2⟩ := mP_at (cy := gC Γ.1) (S := S) ha.1 (cE_j ha.2)
  refine va_last F.x F.b F.k hP hD hS q0 1 hq rfl (vp_in_nI hj hN) d (fun H1 locs1 hP1 hD1 hS1 => ?_)
  rw [nI_clamp (by omega)] at hP1 hD1
  have e := mP_put (S' := wJ S a j x) (e := .inl ((gC Γ.1).2.1, pN S a, .inr (.inl (vp_updL (pJ S a) j x)))) hD ha.1 hq2 rfl (fun b => upE_j ha.2 b)
  rw [e] at hP1 hD1
  exact k9 H1 locs1 ls hP1 hD1 hS1 hl
theorem g_zast {a j : Nat} {i x : Int32} (F : Fx Γ own cc rm) (ha : Is S.1 a 13) (hi : i = nI j) (hj : j < S.1.2.2 a) (hN : S.1.2.2 a < 2 ^ 31) (hx : vp_nar .boolean x = x) (d : decode cc pc = .ok (.bastore, 1)) (k9 : G Γ (wI S a j x) c n (pc + 1) L st) : G Γ S c n pc L (.int x :: .int i :: .ref a :: st) := by
  intro H locs ls hP hD hS hl
  subst hi
  obtain ⟨q0, hq, hq2⟩ := mP_at (cy := gC Γ.1) (S := S) ha.1 (cE_z ha.2)
  refine va_zast F.x F.b F.k hP hD hS q0 2 hq rfl (vp_in_nI hj hN) d (fun H1 locs1 hP1 hD1 hS1 => ?_)
  rw [nI_clamp (by omega), hx] at hP1 hD1
  have e := mP_put (S' := wI S a j x) (e := .inl ((gC Γ.1).2.2.1, pN S a, .inl (upd (pI S a) j x))) hD ha.1 hq2 rfl (fun b => upE_z ha.2 b)
  rw [e] at hP1 hD1
  exact k9 H1 locs1 ls hP1 hD1 hS1 hl
theorem g_aast {a j v : Nat} {i : Int32} (F : Fx Γ own cc rm) (ha : Is S.1 a 14) (hv : Is S.1 v 6) (hi : i = nI j) (hj : j < S.1.2.2 a) (hN : S.1.2.2 a < 2 ^ 31) (d : decode cc pc = .ok (.aastore, 1)) (k9 : G Γ (wR S a j (some v)) c n (pc + 1) L st) : G Γ S c n pc L (.ref v :: .int i :: .ref a :: st) := by
  intro H locs ls hP hD hS hl
  subst hi
  obtain ⟨q0, hq, hq2⟩ := mP_at (cy := gC Γ.1) (S := S) ha.1 (cE_q ha.2)
  obtain ⟨q1, hv1, -⟩ := mP_at (cy := gC Γ.1) (S := S) hv.1 (cE_o hv.2 (by decide))
  refine va_astq F.x F.b F.k hP hD hS q0 3 q1 6 (r := (RX6, TX6, 6)) hq rfl hv1 rfl (vp_in_nI hj hN) d (fun H1 locs1 hP1 hD1 hS1 => ?_)
  rw [nI_clamp (by omega)] at hP1 hD1
  have e := mP_put (S' := wR S a j (some v)) (e := .inl ((gC Γ.1).2.2.2, pN S a, .inr (.inr (.inr (.inr (va_up (pR S a) j (some v))))))) hD ha.1 hq2 rfl (fun b => upE_q ha.2 b)
  rw [e] at hP1 hD1
  exact k9 H1 locs1 ls hP1 hD1 hS1 hl
theorem g_ialde {a j : Nat} {i : Int32} {f : Nat → Int32} (hf : pI S a = f) (F : Fx Γ own cc rm) (ha : Is S.1 a 11) (hi : i = nI j) (hj : j < S.1.2.2 a) (hN : S.1.2.2 a < 2 ^ 31) (d : decode cc pc = .ok (.iaload, 1)) (k9 : G Γ S c n (pc + 1) L (.int (f j) :: st)) : G Γ S c n pc L (.int i :: .ref a :: st) := by subst hf; exact g_iald F ha hi hj hN d k9
theorem g_lalde {a j : Nat} {i : Int32} {f : Nat → Int64} (hf : pJ S a = f) (F : Fx Γ own cc rm) (ha : Is S.1 a 12) (hi : i = nI j) (hj : j < S.1.2.2 a) (hN : S.1.2.2 a < 2 ^ 31) (d : decode cc pc = .ok (.laload, 1)) (k9 : G Γ S c n (pc + 1) L (.long (f j) :: st)) : G Γ S c n pc L (.int i :: .ref a :: st) := by subst hf; exact g_lald F ha hi hj hN d k9
theorem g_zalde {a j : Nat} {i : Int32} {f : Nat → Int32} (hf : pI S a = f) (F : Fx Γ own cc rm) (ha : Is S.1 a 13) (hi : i = nI j) (hj : j < S.1.2.2 a) (hN : S.1.2.2 a < 2 ^ 31) (d : decode cc pc = .ok (.baload, 1)) (k9 : G Γ S c n (pc + 1) L (.int (f j) :: st)) : G Γ S c n pc L (.int i :: .ref a :: st) := by subst hf; exact g_zald F ha hi hj hN d k9
/-- a new cell: the pool grows by an address that was not in it -/
def aN (S : PS) (q kd ln : Nat) : PS := ((S.1.1 ++ [q], va_up S.1.2.1 q kd, va_up S.1.2.2 q ln), upr S.2.1 q (fun _ => none), upr S.2.2.1 q (fun _ => 0), upr S.2.2.2 q (fun _ => 0))
theorem aN_K {S : PS} {q kd ln : Nat} : pK (aN S q kd ln) q = kd := by simp [pK, aN, va_up]
theorem aN_N {S : PS} {q kd ln : Nat} : pN (aN S q kd ln) q = ln := by simp [pN, aN, va_up]
theorem aN_I {S : PS} {q kd ln : Nat} : pI (aN S q kd ln) q = fun _ => 0 := by simp [pI, aN, upr]
theorem aN_J {S : PS} {q kd ln : Nat} : pJ (aN S q kd ln) q = fun _ => 0 := by simp [pJ, aN, upr]
theorem aN_R {S : PS} {q kd ln : Nat} : pR (aN S q kd ln) q = fun _ => none := by simp [pR, aN, upr]
theorem aN_e {cy : Cy} {S : PS} {q kd ln : Nat} {e : va_E} (he : cE cy (aN S q kd ln) q = e) (b : Nat) : va_up (cE cy S) q e b = cE cy (aN S q kd ln) b := by
  by_cases h : b = q
  · subst h
    simp [va_up, he]
  · simp only [va_up, if_neg h]
    exact (cE_other (S := S) (S' := aN S q kd ln) (by simp [aN, pK, va_up, h]) (by simp [aN, pN, va_up, h]) (by simp [aN, pI, upr, h]) (by simp [aN, pJ, upr, h]) (by simp [aN, pR, upr, h])).symm
theorem aN_new {cy : Cy} {S : PS} {A : Nat → Prop} {q : Nat} {e : va_E} (hD : va_D A (mP cy S ++ [(q, e)])) : q ∉ pL S := by
  intro h
  obtain ⟨k, hk, -⟩ := mP_at (cy := cy) (S := S) h rfl
  have hl := (List.getElem?_eq_some_iff.mp hk).1
  have h1 : (mP cy S ++ [(q, e)])[k]? = some (q, cE cy S q) := by rw [List.getElem?_append_left hl]; exact hk
  have h2 : (mP cy S ++ [(q, e)])[(mP cy S).length]? = some (q, e) := by simp
  have := hD.1 _ _ _ _ h1 h2 rfl
  omega
theorem aN_push {cy : Cy} {S : PS} {A : Nat → Prop} {q kd ln : Nat} {e : va_E} (hD : va_D A (mP cy S ++ [(q, e)])) (he : cE cy (aN S q kd ln) q = e) : mP cy S ++ [(q, e)] = mP cy (aN S q kd ln) := by
  have h1 := va_pl_push (f := cE cy S) (e := e) (aN_new hD)
  show va_pl (pL S) (cE cy S) ++ [(q, e)] = va_pl (pL S ++ [q]) (cE cy (aN S q kd ln))
  rw [h1]
  exact va_pl_congr (aN_e he)
theorem Is_aN {S : PS} {a k q kd ln : Nat} (h : Is S.1 a k) (hq : q ∉ pL S) : Is (aN S q kd ln).1 a k := by
  refine ⟨List.mem_append_left _ h.1, ?_⟩
  have : a ≠ q := fun e => hq (e ▸ h.1)
  show va_up S.1.2.1 q kd a = k
  simp [va_up, this, h.2]
theorem Is_new {S : PS} {q kd ln : Nat} : Is (aN S q kd ln).1 q kd := ⟨List.mem_append_right _ (List.mem_singleton.mpr rfl), aN_K⟩
theorem ra_eq {U : State} {a b : ClassId} {ty : FieldType} (hty : ∀ C, ty ≠ .object C) (h1 : va_RA U a ty) (h2 : va_RA U b ty) : a = b := by
  cases ty with
  | object C => exact absurd rfl (hty C)
  | _ => exact Option.some.inj (h1.symm.trans h2)
theorem ra_eqO {U : State} {a b : ClassId} {C : String} (h1 : va_RA U a (.object C)) (h2 : va_RA U b (.object C)) : a = b := by
  obtain ⟨_, _, -, -, -, h3⟩ := h1
  obtain ⟨_, _, -, -, -, h4⟩ := h2
  exact Option.some.inj (h3.symm.trans h4)
theorem g_newI {x : Int32} {N : Nat} (F : Fx Γ own cc rm) (hw : Cond.arrayClass .int ∈ wsL_law) (hx : x = nI N) (hN : N < 100000) (hcc : c + 1 ≤ rm.1.cells ∧ n + N ≤ rm.1.slots) (d : decode cc pc = .ok (.newarray .int, 2)) (k9 : ∀ q, q ∉ pL S → G Γ (aN S q 11 N) (c + 1) (n + N) (pc + 2) L (.ref q :: st)) : G Γ S c n pc L (.int x :: st) := by
  intro H locs ls hP hD hS hl
  subst hx
  refine va_newa (atype := .int) (ty := .int) (a0 := (N, .inl (fun _ => 0))) (N' := N) F.x F.b (F.w _ hw) rfl F.k hP hD hS (fun q h => Nat.le_trans F.base h) (fun cA => rfl) (nI_pos (by omega)) (nI_clamp (by omega)) (by simp [componentBytes]; omega) (by rw [F.r]; exact hcc.1) (by rw [F.r]; exact hcc.2) d (fun q cA H1 hK1 hP1 hD1 hS1 => ?_)
  have ec : cA = (gC Γ.1).1 := ra_eq (fun C h => by cases h) (hK1.2 4 (cA, .int) rfl).2 (F.k.2 0 _ rfl).2
  subst ec
  have hq := aN_new hD1
  rw [aN_push (kd := 11) (ln := N) hD1 (by rw [cE_i aN_K, aN_N, aN_I])] at hP1 hD1
  exact k9 q hq H1 locs ls hP1 hD1 hS1 hl
theorem g_newJ {x : Int32} {N : Nat} (F : Fx Γ own cc rm) (hw : Cond.arrayClass .long ∈ wsL_law) (hx : x = nI N) (hN : N < 100000) (hcc : c + 1 ≤ rm.1.cells ∧ n + N ≤ rm.1.slots) (d : decode cc pc = .ok (.newarray .long, 2)) (k9 : ∀ q, q ∉ pL S → G Γ (aN S q 12 N) (c + 1) (n + N) (pc + 2) L (.ref q :: st)) : G Γ S c n pc L (.int x :: st) := by
  intro H locs ls hP hD hS hl
  subst hx
  refine va_newa (atype := .long) (ty := .long) (a0 := (N, .inr (.inl (fun _ => 0)))) (N' := N) F.x F.b (F.w _ hw) rfl F.k hP hD hS (fun q h => Nat.le_trans F.base h) (fun cA => rfl) (nI_pos (by omega)) (nI_clamp (by omega)) (by simp [componentBytes]; omega) (by rw [F.r]; exact hcc.1) (by rw [F.r]; exact hcc.2) d (fun q cA H1 hK1 hP1 hD1 hS1 => ?_)
  have ec : cA = (gC Γ.1).2.1 := ra_eq (fun C h => by cases h) (hK1.2 4 (cA, .long) rfl).2 (F.k.2 1 _ rfl).2
  subst ec
  have hq := aN_new hD1
  rw [aN_push (kd := 12) (ln := N) hD1 (by rw [cE_j aN_K, aN_N, aN_J])] at hP1 hD1
  exact k9 q hq H1 locs ls hP1 hD1 hS1 hl
theorem g_newZ {x : Int32} {N : Nat} (F : Fx Γ own cc rm) (hw : Cond.arrayClass .boolean ∈ wsL_law) (hx : x = nI N) (hN : N < 100000) (hcc : c + 1 ≤ rm.1.cells ∧ n + N ≤ rm.1.slots) (d : decode cc pc = .ok (.newarray .boolean, 2)) (k9 : ∀ q, q ∉ pL S → G Γ (aN S q 13 N) (c + 1) (n + N) (pc + 2) L (.ref q :: st)) : G Γ S c n pc L (.int x :: st) := by
  intro H locs ls hP hD hS hl
  subst hx
  refine va_newa (atype := .boolean) (ty := .boolean) (a0 := (N, .inl (fun _ => 0))) (N' := N) F.x F.b (F.w _ hw) rfl F.k hP hD hS (fun q h => Nat.le_trans F.base h) (fun cA => rfl) (nI_pos (by omega)) (nI_clamp (by omega)) (by simp [componentBytes]; omega) (by rw [F.r]; exact hcc.1) (by rw [F.r]; exact hcc.2) d (fun q cA H1 hK1 hP1 hD1 hS1 => ?_)
  have ec : cA = (gC Γ.1).2.2.1 := ra_eq (fun C h => by cases h) (hK1.2 4 (cA, .boolean) rfl).2 (F.k.2 2 _ rfl).2
  subst ec
  have hq := aN_new hD1
  rw [aN_push (kd := 13) (ln := N) hD1 (by rw [cE_z aN_K, aN_N, aN_I])] at hP1 hD1
  exact k9 q hq H1 locs ls hP1 hD1 hS1 hl
theorem g_new {C : String} {T : u_T} {ty : Nat → FieldType} {N ci idx : Nat} (F : Fx Γ own cc rm) (hc : clOk ci C T N) (hty : ∀ k, k < N → parseFieldDescriptor (T k).2.2.1 = some (ty k)) (h1 : Cond.classLink own idx C ∈ wsL_law) (h2 : Cond.instantiable C N ∈ wsL_law) (h3 : Cond.initialized C ∈ wsL_law) (hft : ∀ k, k < N → defaultValue (ty k) = (if ft ci k = 0 then .int 0 else if ft ci k = 1 then .long 0 else .null)) (hcc : c + 1 ≤ rm.1.cells ∧ n + N ≤ rm.1.slots) (d : decode cc pc = .ok (.new idx, 3)) (k9 : ∀ q, q ∉ pL S → G Γ (aN S q ci 0) (c + 1) (n + N) (pc + 3) L (.ref q :: st)) : G Γ S c n pc L st := by
  intro H locs ls hP hD hS hl
  have hz : ∀ q, cF ci (aN S q ci 0) q = (List.range N).map (fun k => if ft ci k = 0 then Value.int 0 else if ft ci k = 1 then .long 0 else .null) := by
    intro q
    unfold cF
    rw [hc.2.1]
    apply List.map_congr_left
    intro k _
    simp [fv, aN_I, aN_J, aN_R, va_rf]
  refine va_new (fs := (List.range N).map (fun k => if ft ci k = 0 then Value.int 0 else if ft ci k = 1 then .long 0 else .null)) F.x F.b F.w hc.2.2.1 ty hty F.o (F.w _ h1) (F.w _ h2) (F.w _ h3) F.k hP hD hS (fun q h => Nat.le_trans F.base h) hc.1 (fun j hj => ?_) (by rw [F.r]; exact hcc.1) (by rw [F.r]; exact hcc.2) d (fun q H1 hP1 hD1 hS1 => ?_)
  · rw [hft j hj, vp_V, List.getD_eq_getElem?_getD, List.getElem?_map, List.getElem?_range hj]
    rfl
  · have hq := aN_new hD1
    rw [aN_push (kd := ci) (ln := 0) hD1 (by rw [cE_o (c := ci) aN_K hc.2.2.2.2, hz])] at hP1 hD1
    exact k9 q hq H1 locs ls hP1 hD1 hS1 hl
theorem g_objInit {idx a : Nat} (F : Fx Γ own cc rm) (h1 : Cond.methodLink own idx Lib.objectInit ∈ wsL_law) (h2 : Cond.instanceMethod Lib.objectInit ∈ wsL_law) (h3 : Cond.code Lib.objectInit ⟨#[0xb1]⟩ 1 none ∈ wsL_law) (hR : 1 ≤ rm.1.frames ∧ 2 * (F0 (km Γ) pc #[] (.ref a :: st)).monitorRoom + (st.map fun v => v.category).sum + 12 ≤ rm.1.locals) (d : decode cc pc = .ok (.invokespecial idx, 3)) (k9 : G Γ S c n (pc + 3) L st) : G Γ S c n pc L (.ref a :: st) := by
  intro H locs ls hP hD hS hl
  refine W.objInit F.x F.b F.o (F.w _ h1) (F.w _ h2) (F.w _ h3) rfl (by rw [F.ml]; exact hl.1) rfl d (by rw [F.r]; exact hR.1) (by rw [F.r]; exact hR.2) ?_
  exact W.eq (g2 := F0 (km Γ) (pc + 3) ls st) rfl (k9 H locs ls hP hD hS hl)
/-- static rows -/
theorem g_stat {i : Nat} {f : Nat → Int32} {nm host : String} {idx : Nat} (F : Fx Γ own cc rm) (he : va_Z RX9 nm "[I" (.ref (Γ.1.2.2.2.2.1 i)) (gA Γ.1) (ks Γ) (ks Γ).heap) (hlink : (Cond.fieldLink own idx RX9 nm "[I").before (ka Γ) (ks Γ) = true ∨ (Cond.fieldLinkNest own idx RX9 nm "[I" host).before (ka Γ) (ks Γ) = true) (d : decode cc pc = .ok (.getstatic idx, 3)) (k9 : G Γ S c n (pc + 3) L (.ref (Γ.1.2.2.2.2.1 i) :: st)) : G Γ S c n pc L st := by
  intro H locs ls hP hD hS hl
  rcases hlink with h | h
  · exact va_gets F.x F.b he hS F.o h (fun _ h9 => h9) d (k9 H locs ls hP hD hS hl)
  · exact va_getsN F.x F.b he hS F.o h (fun _ h9 => h9) d (k9 H locs ls hP hD hS hl)
theorem g_sald {t N j : Nat} {i : Int32} {f : Nat → Int32} (F : Fx Γ own cc rm) (hX : va_X t N f (ks Γ) (ks Γ).heap) (ht : t < Γ.1.2.2.2.1) (hi : i = nI j) (hj : j < N) (hN : N < 2 ^ 31) (d : decode cc pc = .ok (.iaload, 1)) (k9 : G Γ S c n (pc + 1) L (.int (f j) :: st)) : G Γ S c n pc L (.int i :: .ref t :: st) := by
  intro H locs ls hP hD hS hl
  subst hi
  have k8 := k9 H locs ls hP hD hS hl
  have e : f j = f (nI j).toNatClampNeg := by rw [nI_clamp (by omega)]
  rw [e] at k8
  exact va_sld F.x F.b hX (Nat.lt_of_lt_of_le ht F.base) (Nat.not_le.mpr ht) hS (vp_in_nI hj hN) d k8
theorem g_slen {t N : Nat} {f : Nat → Int32} (F : Fx Γ own cc rm) (hX : va_X t N f (ks Γ) (ks Γ).heap) (ht : t < Γ.1.2.2.2.1) (d : decode cc pc = .ok (.arraylength, 1)) (k9 : G Γ S c n (pc + 1) L (.int (nI N) :: st)) : G Γ S c n pc L (.ref t :: st) := by
  intro H locs ls hP hD hS hl
  exact va_slen F.x F.b hX (Nat.lt_of_lt_of_le ht F.base) (Nat.not_le.mpr ht) hS d (k9 H locs ls hP hD hS hl)
end RowsH
