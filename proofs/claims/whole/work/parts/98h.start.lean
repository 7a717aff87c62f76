theorem nwX9 : ∀ k, k < 9 → parseFieldDescriptor (TX9 k).2.2.1 = some ((parseFieldDescriptor (TX9 k).2.2.1).getD .int) ∧ defaultValue ((parseFieldDescriptor (TX9 k).2.2.1).getD .int) = (if ft 9 k = 0 then .int 0 else if ft 9 k = 1 then .long 0 else .null) := by decide +kernel
theorem nwX10 : ∀ k, k < 18 → parseFieldDescriptor (TX10 k).2.2.1 = some ((parseFieldDescriptor (TX10 k).2.2.1).getD .int) ∧ defaultValue ((parseFieldDescriptor (TX10 k).2.2.1).getD .int) = (if ft 10 k = 0 then .int 0 else if ft 10 k = 1 then .long 0 else .null) := by decide +kernel
abbrev S00 : PS := (([], fun _ => 0, fun _ => 0), fun _ _ => none, fun _ _ => 0, fun _ _ => 0)
set_option maxHeartbeats 8000000 in
set_option maxRecDepth 100000 in
theorem law_start {Γ : Ctx} {b L : Nat} {xs : Nat → Int32} (F : Fx Γ RL cL_law rmL) (hX : va_X b L xs (ks Γ) (ks Γ).heap) (hb : b < Γ.1.2.2.2.1) (hL : L ≤ 2560) (hend : ∀ (q : Nat → Nat) (S : PS) (c m i : Nat), c ≤ 600000 → m ≤ 7000000 → G Γ S c m 1514 [(0, .ref b), (1, .ref (q 80)), (2, .ref (q 94)), (3, .ref (q 100)), (4, .int (nI i))] []) : G Γ S00 0 0 0 [(0, .ref b)] [] := by
  refine g_new (ci := 9) F clX9 (fun k hk => (nwX9 k hk).1) mw0 mw1 mw2 (fun k hk => (nwX9 k hk).2) ⟨(Nat.le_of_ble_eq_true rfl), (Nat.le_of_ble_eq_true rfl)⟩ dL_law_0 (fun a ha => ?_)
  have n0 : Nw S00 (aN S00 a 9 0) a [(a, 9, 0)] := Nw.new ha
  refine g_dup F dL_law_3 rfl ?_
  refine g_callI F (kX9_init Γ.1 (aN S00 a 9 0) a Is_new aN_I aN_J) okX9_init mw7 ⟨(Nat.le_of_ble_eq_true rfl), (Nat.le_of_ble_eq_true rfl)⟩ rfl rfl (Nat.le_of_ble_eq_true rfl) ⟨(Nat.le_of_ble_eq_true rfl), (Nat.le_of_ble_eq_true rfl)⟩ dL_law_4 (toV (fun S2 h2 => ?_))
  obtain ⟨x1, f0, x2, f1, hs, rr, fh, fo, ar, wh, me, m1, m2, m3, rd, t1, t2, bf, nX, h0, h1, h2, h3, h4, h5, h6, h7, h8, h9, h10, h11, h12, h13, h14, h15, e0, st0, e1, st1, hH⟩ := h2
  subst e0
  subst e1
  refine g_astore_n (k := 1) (L' := [(1, .ref a), (0, .ref b)]) F dL_law_7 (Nat.le_of_ble_eq_true rfl) rfl ?_
  refine g_new (ci := 10) F clX10 (fun k hk => (nwX10 k hk).1) mw3 mw4 mw5 (fun k hk => (nwX10 k hk).2) ⟨(Nat.le_of_ble_eq_true rfl), (Nat.le_of_ble_eq_true rfl)⟩ dL_law_8 (fun mm hm => ?_)
  have n2 : Nw S2 (aN S2 mm 10 0) mm [(mm, 10, 0)] := Nw.new hm
  refine g_dup F dL_law_11 rfl ?_
  refine g_callI F (kX10_init Γ.1 (aN S2 mm 10 0) mm Is_new aN_I aN_J) okX10_init mw99 ⟨(Nat.le_of_ble_eq_true rfl), (Nat.le_of_ble_eq_true rfl)⟩ rfl rfl (Nat.le_of_ble_eq_true rfl) ⟨(Nat.le_of_ble_eq_true rfl), (Nat.le_of_ble_eq_true rfl)⟩ dL_law_12 (toV (fun S4 h4 => ?_))
  obtain ⟨mz, msv, mtx, mis, mre, nM, g0, g1, g2, g3, g4, g5, g6, g7⟩ := h4
  refine g_astore_n (k := 2) (L' := [(2, .ref mm), (1, .ref a), (0, .ref b)]) F dL_law_15 (Nat.le_of_ble_eq_true rfl) rfl ?_
  refine g_iconst (v := 1) F (by decide) dL_law_16 ?_
  refine g_newJ (N := 1) F mw6 rfl (by decide) ⟨(Nat.le_of_ble_eq_true rfl), (Nat.le_of_ble_eq_true rfl)⟩ dL_law_17 (fun oo ho => ?_)
  have n4 : Nw S4 (aN S4 oo 12 1) oo [(oo, 12, 1)] := Nw.new ho
  refine g_astore_n (k := 3) (L' := [(3, .ref oo), (2, .ref mm), (1, .ref a), (0, .ref b)]) F dL_law_19 (Nat.le_of_ble_eq_true rfl) rfl ?_
  refine g_iconst (v := 0) F (by decide) dL_law_20 ?_
  refine g_istore (L' := [(4, .int (nI 0)), (3, .ref oo), (2, .ref mm), (1, .ref a), (0, .ref b)]) F dL_law_21 (Nat.le_of_ble_eq_true rfl) rfl ?_
  have n01 : Nw S00 S2 a (([] ++ [(a, 9, 0)]) ++ ((((((((((((((((((((([] ++ [(f0 0, 6, 0)]) ++ (stl f0)) ++ []) ++ [(f1 0, 6, 0)]) ++ (stl f1)) ++ []) ++ [(hs, 2, 0)]) ++ ((rr, 14, 6) :: hl fh 6)) ++ []) ++ [(fo, 1, 0)]) ++ [(ar, 0, 0), (wh, 8, 0)]) ++ []) ++ [(me, 3, 0)]) ++ [(m1, 12, 12), (m2, 12, 12), (m3, 13, 12)]) ++ []) ++ [(rd, 7, 0)]) ++ [(t1, 11, 20), (t2, 11, 20)]) ++ []) ++ [(bf, 11, 60)]) ++ []))) := Nw.tr (Nw.tr (Nw.rf (S := S00) (a := a)) n0 (.inl rfl)) nX (.inl rfl)
  have em : ∀ x : Nat, x ∉ pL S00 := fun x hx => (by cases hx)
  have nA : Nw S00 (aN S4 oo 12 1) a ((((([] ++ [(a, 9, 0)]) ++ ((((((((((((((((((((([] ++ [(f0 0, 6, 0)]) ++ (stl f0)) ++ []) ++ [(f1 0, 6, 0)]) ++ (stl f1)) ++ []) ++ [(hs, 2, 0)]) ++ ((rr, 14, 6) :: hl fh 6)) ++ []) ++ [(fo, 1, 0)]) ++ [(ar, 0, 0), (wh, 8, 0)]) ++ []) ++ [(me, 3, 0)]) ++ [(m1, 12, 12), (m2, 12, 12), (m3, 13, 12)]) ++ []) ++ [(rd, 7, 0)]) ++ [(t1, 11, 20), (t2, 11, 20)]) ++ []) ++ [(bf, 11, 60)]) ++ []))) ++ [(mm, 10, 0)]) ++ (((((((((((((((([] ++ [(mz, 12, 106)]) ++ []) ++ [(msv, 12, 636)]) ++ []) ++ [(mtx, 11, 60)]) ++ []) ++ [(mis, 13, 12)]) ++ []) ++ [(mre, 11, 64)]) ++ []) ++ []) ++ []) ++ []) ++ []) ++ []))) ++ [(oo, 12, 1)]) := Nw.tr (Nw.tr (Nw.tr n01 n2 (.inr (em _))) nM (.inr (em _))) n4 (.inr (em _))
  sorry

