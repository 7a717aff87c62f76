set_option maxHeartbeats 4000000 in
set_option maxRecDepth 100000 in
theorem kX4_init (g : Glo) (S : PS) (a : Nat) (ha : Is S.1 a 4) : Ct g mX4_init 3 60 [.ref a] S (pV9 (fun S' => ∃ x y w, Nw S S' a [(x, 11, 20), (y, 11, 20), (w, 11, 20)] ∧ pR S' a 1 = some x ∧ pR S' a 2 = some y ∧ pR S' a 3 = some w ∧ pI S' a = pI S a ∧ pJ S' a = pJ S a)) := by
  refine Ct.of (by decide) (Nat.le_of_ble_eq_true rfl) (fun Γ hg F T => ?_)
  subst hg
  show G Γ S 0 0 0 [(0, .ref a)] []
  refine g_aload_n (k := 0) F 0 rfl dX4_init_0 ?_
  refine g_objInit F mw55 mw11 mw12 ⟨(Nat.le_of_ble_eq_true rfl), (Nat.le_of_ble_eq_true rfl)⟩ dX4_init_1 ?_
  refine g_aload_n (k := 0) F 0 rfl dX4_init_4 ?_
  refine g_bipush (v := 20) F (by decide) dX4_init_5 ?_
  refine g_newI (N := 20) F mw34 rfl (by decide) ⟨(Nat.le_of_ble_eq_true rfl), (Nat.le_of_ble_eq_true rfl)⟩ dX4_init_7 (fun x1 h2 => ?_)
  have z3 : x1 ∉ pL S := fun h => h2 (Nw.sub (Nw.rf (S := S) (a := a)) h)
  have d4 : a ≠ x1 := fun e => h2 (e ▸ ha.1)
  have s5 : Nw S (aN S x1 11 20) x1 [(x1, 11, 20)] := Nw.new h2
  have f6 : pI (aN S x1 11 20) a = (pI S a) := Nw.I s5 ha.1 d4 rfl
  have f7 : pJ (aN S x1 11 20) a = (pJ S a) := Nw.J s5 ha.1 d4 rfl
  have i8 := Nw.is s5 ha
  have w9 : Nw S (aN S x1 11 20) a ([] ++ [(x1, 11, 20)]) := Nw.tr (Nw.rf (S := S) (a := a)) s5 (.inr z3)
  have i10 : Is (aN S x1 11 20).1 x1 11 := Is_new
  have n11 : pN (aN S x1 11 20) x1 = 20 := aN_N
  refine pfX4_9 F T.2.2 i8 dX4_init_9 ?_
  have s12 : Nw (aN S x1 11 20) (wR (aN S x1 11 20) a 1 (some x1)) a [] := Nw.wR
  have f13 : pI (wR (aN S x1 11 20) a 1 (some x1)) x1 = (fun _ => 0) := Nw.I s12 i10.1 (fun e => d4 e.symm) aN_I
  have f14 : pJ (wR (aN S x1 11 20) a 1 (some x1)) x1 = (fun _ => 0) := Nw.J s12 i10.1 (fun e => d4 e.symm) aN_J
  have i15 := Nw.is s12 i8
  have i16 := Nw.is s12 i10
  have n17 := Nw.nn s12 i10.1 n11
  have w18 : Nw S (wR (aN S x1 11 20) a 1 (some x1)) a (([] ++ [(x1, 11, 20)]) ++ []) := Nw.tr w9 s12 (.inl rfl)
  refine g_aload_n (k := 0) F 0 rfl dX4_init_12 ?_
  refine g_bipush (v := 20) F (by decide) dX4_init_13 ?_
  refine g_newI (N := 20) F mw34 rfl (by decide) ⟨(Nat.le_of_ble_eq_true rfl), (Nat.le_of_ble_eq_true rfl)⟩ dX4_init_15 (fun x19 h20 => ?_)
  have z21 : x19 ∉ pL S := fun h => h20 (Nw.sub w18 h)
  have d22 : a ≠ x19 := fun e => h20 (e ▸ i15.1)
  have d23 : x1 ≠ x19 := fun e => h20 (e ▸ i16.1)
  have s24 : Nw (wR (aN S x1 11 20) a 1 (some x1)) (aN (wR (aN S x1 11 20) a 1 (some x1)) x19 11 20) x19 [(x19, 11, 20)] := Nw.new h20
  have f25 : pI (aN (wR (aN S x1 11 20) a 1 (some x1)) x19 11 20) a = (pI S a) := Nw.I s24 i15.1 d22 f6
  have f26 : pJ (aN (wR (aN S x1 11 20) a 1 (some x1)) x19 11 20) a = (pJ S a) := Nw.J s24 i15.1 d22 f7
  have f27 : pI (aN (wR (aN S x1 11 20) a 1 (some x1)) x19 11 20) x1 = (fun _ => 0) := Nw.I s24 i16.1 d23 f13
  have f28 : pJ (aN (wR (aN S x1 11 20) a 1 (some x1)) x19 11 20) x1 = (fun _ => 0) := Nw.J s24 i16.1 d23 f14
  have f29 : pR (aN (wR (aN S x1 11 20) a 1 (some x1)) x19 11 20) a 1 = some x1 := Nw.R s24 i15.1 d22 up2_s
  have i30 := Nw.is s24 i15
  have i31 := Nw.is s24 i16
  have n32 := Nw.nn s24 i16.1 n17
  have w33 : Nw S (aN (wR (aN S x1 11 20) a 1 (some x1)) x19 11 20) a ((([] ++ [(x1, 11, 20)]) ++ []) ++ [(x19, 11, 20)]) := Nw.tr w18 s24 (.inr z21)
  have i34 : Is (aN (wR (aN S x1 11 20) a 1 (some x1)) x19 11 20).1 x19 11 := Is_new
  have n35 : pN (aN (wR (aN S x1 11 20) a 1 (some x1)) x19 11 20) x19 = 20 := aN_N
  refine pfX4_15 F T.2.2 i30 dX4_init_17 ?_
  have s36 : Nw (aN (wR (aN S x1 11 20) a 1 (some x1)) x19 11 20) (wR (aN (wR (aN S x1 11 20) a 1 (some x1)) x19 11 20) a 2 (some x19)) a [] := Nw.wR
  have f37 : pI (wR (aN (wR (aN S x1 11 20) a 1 (some x1)) x19 11 20) a 2 (some x19)) x1 = (fun _ => 0) := Nw.I s36 i31.1 (fun e => d4 e.symm) f27
  have f38 : pJ (wR (aN (wR (aN S x1 11 20) a 1 (some x1)) x19 11 20) a 2 (some x19)) x1 = (fun _ => 0) := Nw.J s36 i31.1 (fun e => d4 e.symm) f28
  have f39 : pI (wR (aN (wR (aN S x1 11 20) a 1 (some x1)) x19 11 20) a 2 (some x19)) x19 = (fun _ => 0) := Nw.I s36 i34.1 (fun e => d22 e.symm) aN_I
  have f40 : pJ (wR (aN (wR (aN S x1 11 20) a 1 (some x1)) x19 11 20) a 2 (some x19)) x19 = (fun _ => 0) := Nw.J s36 i34.1 (fun e => d22 e.symm) aN_J
  have i41 := Nw.is s36 i30
  have i42 := Nw.is s36 i31
  have i43 := Nw.is s36 i34
  have n44 := Nw.nn s36 i31.1 n32
  have n45 := Nw.nn s36 i34.1 n35
  have w46 : Nw S (wR (aN (wR (aN S x1 11 20) a 1 (some x1)) x19 11 20) a 2 (some x19)) a (((([] ++ [(x1, 11, 20)]) ++ []) ++ [(x19, 11, 20)]) ++ []) := Nw.tr w33 s36 (.inl rfl)
  refine g_aload_n (k := 0) F 0 rfl dX4_init_20 ?_
  refine g_bipush (v := 20) F (by decide) dX4_init_21 ?_
  refine g_newI (N := 20) F mw34 rfl (by decide) ⟨(Nat.le_of_ble_eq_true rfl), (Nat.le_of_ble_eq_true rfl)⟩ dX4_init_23 (fun x47 h48 => ?_)
  have z49 : x47 ∉ pL S := fun h => h48 (Nw.sub w46 h)
  have d50 : a ≠ x47 := fun e => h48 (e ▸ i41.1)
  have d51 : x1 ≠ x47 := fun e => h48 (e ▸ i42.1)
  have d52 : x19 ≠ x47 := fun e => h48 (e ▸ i43.1)
  have s53 : Nw (wR (aN (wR (aN S x1 11 20) a 1 (some x1)) x19 11 20) a 2 (some x19)) (aN (wR (aN (wR (aN S x1 11 20) a 1 (some x1)) x19 11 20) a 2 (some x19)) x47 11 20) x47 [(x47, 11, 20)] := Nw.new h48
  have f54 : pI (aN (wR (aN (wR (aN S x1 11 20) a 1 (some x1)) x19 11 20) a 2 (some x19)) x47 11 20) a = (pI S a) := Nw.I s53 i41.1 d50 f25
  have f55 : pJ (aN (wR (aN (wR (aN S x1 11 20) a 1 (some x1)) x19 11 20) a 2 (some x19)) x47 11 20) a = (pJ S a) := Nw.J s53 i41.1 d50 f26
  have f56 : pI (aN (wR (aN (wR (aN S x1 11 20) a 1 (some x1)) x19 11 20) a 2 (some x19)) x47 11 20) x1 = (fun _ => 0) := Nw.I s53 i42.1 d51 f37
  have f57 : pJ (aN (wR (aN (wR (aN S x1 11 20) a 1 (some x1)) x19 11 20) a 2 (some x19)) x47 11 20) x1 = (fun _ => 0) := Nw.J s53 i42.1 d51 f38
  have f58 : pR (aN (wR (aN (wR (aN S x1 11 20) a 1 (some x1)) x19 11 20) a 2 (some x19)) x47 11 20) a 1 = some x1 := Nw.R s53 i41.1 d50 ((up2_k (by decide)).trans f29)
  have f59 : pI (aN (wR (aN (wR (aN S x1 11 20) a 1 (some x1)) x19 11 20) a 2 (some x19)) x47 11 20) x19 = (fun _ => 0) := Nw.I s53 i43.1 d52 f39
  have f60 : pJ (aN (wR (aN (wR (aN S x1 11 20) a 1 (some x1)) x19 11 20) a 2 (some x19)) x47 11 20) x19 = (fun _ => 0) := Nw.J s53 i43.1 d52 f40
  have f61 : pR (aN (wR (aN (wR (aN S x1 11 20) a 1 (some x1)) x19 11 20) a 2 (some x19)) x47 11 20) a 2 = some x19 := Nw.R s53 i41.1 d50 up2_s
  have i62 := Nw.is s53 i41
  have i63 := Nw.is s53 i42
  have i64 := Nw.is s53 i43
  have n65 := Nw.nn s53 i42.1 n44
  have n66 := Nw.nn s53 i43.1 n45
  have w67 : Nw S (aN (wR (aN (wR (aN S x1 11 20) a 1 (some x1)) x19 11 20) a 2 (some x19)) x47 11 20) a ((((([] ++ [(x1, 11, 20)]) ++ []) ++ [(x19, 11, 20)]) ++ []) ++ [(x47, 11, 20)]) := Nw.tr w46 s53 (.inr z49)
  have i68 : Is (aN (wR (aN (wR (aN S x1 11 20) a 1 (some x1)) x19 11 20) a 2 (some x19)) x47 11 20).1 x47 11 := Is_new
  have n69 : pN (aN (wR (aN (wR (aN S x1 11 20) a 1 (some x1)) x19 11 20) a 2 (some x19)) x47 11 20) x47 = 20 := aN_N
  refine pfX4_18 F T.2.2 i62 dX4_init_25 ?_
  have s70 : Nw (aN (wR (aN (wR (aN S x1 11 20) a 1 (some x1)) x19 11 20) a 2 (some x19)) x47 11 20) (wR (aN (wR (aN (wR (aN S x1 11 20) a 1 (some x1)) x19 11 20) a 2 (some x19)) x47 11 20) a 3 (some x47)) a [] := Nw.wR
  have f71 : pI (wR (aN (wR (aN (wR (aN S x1 11 20) a 1 (some x1)) x19 11 20) a 2 (some x19)) x47 11 20) a 3 (some x47)) x1 = (fun _ => 0) := Nw.I s70 i63.1 (fun e => d4 e.symm) f56
  have f72 : pJ (wR (aN (wR (aN (wR (aN S x1 11 20) a 1 (some x1)) x19 11 20) a 2 (some x19)) x47 11 20) a 3 (some x47)) x1 = (fun _ => 0) := Nw.J s70 i63.1 (fun e => d4 e.symm) f57
  have f73 : pI (wR (aN (wR (aN (wR (aN S x1 11 20) a 1 (some x1)) x19 11 20) a 2 (some x19)) x47 11 20) a 3 (some x47)) x19 = (fun _ => 0) := Nw.I s70 i64.1 (fun e => d22 e.symm) f59
  have f74 : pJ (wR (aN (wR (aN (wR (aN S x1 11 20) a 1 (some x1)) x19 11 20) a 2 (some x19)) x47 11 20) a 3 (some x47)) x19 = (fun _ => 0) := Nw.J s70 i64.1 (fun e => d22 e.symm) f60
  have f75 : pI (wR (aN (wR (aN (wR (aN S x1 11 20) a 1 (some x1)) x19 11 20) a 2 (some x19)) x47 11 20) a 3 (some x47)) x47 = (fun _ => 0) := Nw.I s70 i68.1 (fun e => d50 e.symm) aN_I
  have f76 : pJ (wR (aN (wR (aN (wR (aN S x1 11 20) a 1 (some x1)) x19 11 20) a 2 (some x19)) x47 11 20) a 3 (some x47)) x47 = (fun _ => 0) := Nw.J s70 i68.1 (fun e => d50 e.symm) aN_J
  have i77 := Nw.is s70 i62
  have i78 := Nw.is s70 i63
  have i79 := Nw.is s70 i64
  have i80 := Nw.is s70 i68
  have n81 := Nw.nn s70 i63.1 n65
  have n82 := Nw.nn s70 i64.1 n66
  have n83 := Nw.nn s70 i68.1 n69
  have w84 : Nw S (wR (aN (wR (aN (wR (aN S x1 11 20) a 1 (some x1)) x19 11 20) a 2 (some x19)) x47 11 20) a 3 (some x47)) a (((((([] ++ [(x1, 11, 20)]) ++ []) ++ [(x19, 11, 20)]) ++ []) ++ [(x47, 11, 20)]) ++ []) := Nw.tr w67 s70 (.inl rfl)
  refine g_vret F T ⟨rfl, ?_⟩ (Nat.le_of_ble_eq_true rfl) (Nat.le_of_ble_eq_true rfl) dX4_init_28
  exact ⟨x1, x19, x47, w84, ((up2_k (by decide)).trans f58), ((up2_k (by decide)).trans f61), up2_s, f54, f55⟩
set_option maxHeartbeats 4000000 in
set_option maxRecDepth 100000 in
theorem kX5_init (g : Glo) (S : PS) (a : Nat) (ha : Is S.1 a 5) : Ct g mX5_init 3 36 [.ref a] S (pV9 (fun S' => ∃ x y w, Nw S S' a [(x, 11, 12), (y, 13, 12), (w, 12, 12)] ∧ pR S' a 1 = some x ∧ pR S' a 2 = some y ∧ pR S' a 3 = some w ∧ pI S' a = pI S a ∧ pJ S' a = pJ S a)) := by
  refine Ct.of (by decide) (Nat.le_of_ble_eq_true rfl) (fun Γ hg F T => ?_)
  subst hg
  show G Γ S 0 0 0 [(0, .ref a)] []
  refine g_aload_n (k := 0) F 0 rfl dX5_init_0 ?_
  refine g_objInit F mw61 mw11 mw12 ⟨(Nat.le_of_ble_eq_true rfl), (Nat.le_of_ble_eq_true rfl)⟩ dX5_init_1 ?_
  refine g_aload_n (k := 0) F 0 rfl dX5_init_4 ?_
  refine g_bipush (v := 12) F (by decide) dX5_init_5 ?_
  refine g_newI (N := 12) F mw34 rfl (by decide) ⟨(Nat.le_of_ble_eq_true rfl), (Nat.le_of_ble_eq_true rfl)⟩ dX5_init_7 (fun x1 h2 => ?_)
  have z3 : x1 ∉ pL S := fun h => h2 (Nw.sub (Nw.rf (S := S) (a := a)) h)
  have d4 : a ≠ x1 := fun e => h2 (e ▸ ha.1)
  have s5 : Nw S (aN S x1 11 12) x1 [(x1, 11, 12)] := Nw.new h2
  have f6 : pI (aN S x1 11 12) a = (pI S a) := Nw.I s5 ha.1 d4 rfl
  have f7 : pJ (aN S x1 11 12) a = (pJ S a) := Nw.J s5 ha.1 d4 rfl
  have i8 := Nw.is s5 ha
  have w9 : Nw S (aN S x1 11 12) a ([] ++ [(x1, 11, 12)]) := Nw.tr (Nw.rf (S := S) (a := a)) s5 (.inr z3)
  have i10 : Is (aN S x1 11 12).1 x1 11 := Is_new
  have n11 : pN (aN S x1 11 12) x1 = 12 := aN_N
  refine pfX5_9 F T.2.2 i8 dX5_init_9 ?_
  have s12 : Nw (aN S x1 11 12) (wR (aN S x1 11 12) a 1 (some x1)) a [] := Nw.wR
  have f13 : pI (wR (aN S x1 11 12) a 1 (some x1)) x1 = (fun _ => 0) := Nw.I s12 i10.1 (fun e => d4 e.symm) aN_I
  have f14 : pJ (wR (aN S x1 11 12) a 1 (some x1)) x1 = (fun _ => 0) := Nw.J s12 i10.1 (fun e => d4 e.symm) aN_J
  have i15 := Nw.is s12 i8
  have i16 := Nw.is s12 i10
  have n17 := Nw.nn s12 i10.1 n11
  have w18 : Nw S (wR (aN S x1 11 12) a 1 (some x1)) a (([] ++ [(x1, 11, 12)]) ++ []) := Nw.tr w9 s12 (.inl rfl)
  refine g_aload_n (k := 0) F 0 rfl dX5_init_12 ?_
  refine g_bipush (v := 12) F (by decide) dX5_init_13 ?_
  refine g_newZ (N := 12) F mw63 rfl (by decide) ⟨(Nat.le_of_ble_eq_true rfl), (Nat.le_of_ble_eq_true rfl)⟩ dX5_init_15 (fun x19 h20 => ?_)
  have z21 : x19 ∉ pL S := fun h => h20 (Nw.sub w18 h)
  have d22 : a ≠ x19 := fun e => h20 (e ▸ i15.1)
  have d23 : x1 ≠ x19 := fun e => h20 (e ▸ i16.1)
  have s24 : Nw (wR (aN S x1 11 12) a 1 (some x1)) (aN (wR (aN S x1 11 12) a 1 (some x1)) x19 13 12) x19 [(x19, 13, 12)] := Nw.new h20
  have f25 : pI (aN (wR (aN S x1 11 12) a 1 (some x1)) x19 13 12) a = (pI S a) := Nw.I s24 i15.1 d22 f6
  have f26 : pJ (aN (wR (aN S x1 11 12) a 1 (some x1)) x19 13 12) a = (pJ S a) := Nw.J s24 i15.1 d22 f7
  have f27 : pI (aN (wR (aN S x1 11 12) a 1 (some x1)) x19 13 12) x1 = (fun _ => 0) := Nw.I s24 i16.1 d23 f13
  have f28 : pJ (aN (wR (aN S x1 11 12) a 1 (some x1)) x19 13 12) x1 = (fun _ => 0) := Nw.J s24 i16.1 d23 f14
  have f29 : pR (aN (wR (aN S x1 11 12) a 1 (some x1)) x19 13 12) a 1 = some x1 := Nw.R s24 i15.1 d22 up2_s
  have i30 := Nw.is s24 i15
  have i31 := Nw.is s24 i16
  have n32 := Nw.nn s24 i16.1 n17
  have w33 : Nw S (aN (wR (aN S x1 11 12) a 1 (some x1)) x19 13 12) a ((([] ++ [(x1, 11, 12)]) ++ []) ++ [(x19, 13, 12)]) := Nw.tr w18 s24 (.inr z21)
  have i34 : Is (aN (wR (aN S x1 11 12) a 1 (some x1)) x19 13 12).1 x19 13 := Is_new
  have n35 : pN (aN (wR (aN S x1 11 12) a 1 (some x1)) x19 13 12) x19 = 12 := aN_N
  refine pfX5_15 F T.2.2 i30 dX5_init_17 ?_
  have s36 : Nw (aN (wR (aN S x1 11 12) a 1 (some x1)) x19 13 12) (wR (aN (wR (aN S x1 11 12) a 1 (some x1)) x19 13 12) a 2 (some x19)) a [] := Nw.wR
  have f37 : pI (wR (aN (wR (aN S x1 11 12) a 1 (some x1)) x19 13 12) a 2 (some x19)) x1 = (fun _ => 0) := Nw.I s36 i31.1 (fun e => d4 e.symm) f27
  have f38 : pJ (wR (aN (wR (aN S x1 11 12) a 1 (some x1)) x19 13 12) a 2 (some x19)) x1 = (fun _ => 0) := Nw.J s36 i31.1 (fun e => d4 e.symm) f28
  have f39 : pI (wR (aN (wR (aN S x1 11 12) a 1 (some x1)) x19 13 12) a 2 (some x19)) x19 = (fun _ => 0) := Nw.I s36 i34.1 (fun e => d22 e.symm) aN_I
  have f40 : pJ (wR (aN (wR (aN S x1 11 12) a 1 (some x1)) x19 13 12) a 2 (some x19)) x19 = (fun _ => 0) := Nw.J s36 i34.1 (fun e => d22 e.symm) aN_J
  have i41 := Nw.is s36 i30
  have i42 := Nw.is s36 i31
  have i43 := Nw.is s36 i34
  have n44 := Nw.nn s36 i31.1 n32
  have n45 := Nw.nn s36 i34.1 n35
  have w46 : Nw S (wR (aN (wR (aN S x1 11 12) a 1 (some x1)) x19 13 12) a 2 (some x19)) a (((([] ++ [(x1, 11, 12)]) ++ []) ++ [(x19, 13, 12)]) ++ []) := Nw.tr w33 s36 (.inl rfl)
  refine g_aload_n (k := 0) F 0 rfl dX5_init_20 ?_
  refine g_bipush (v := 12) F (by decide) dX5_init_21 ?_
  refine g_newJ (N := 12) F mw6 rfl (by decide) ⟨(Nat.le_of_ble_eq_true rfl), (Nat.le_of_ble_eq_true rfl)⟩ dX5_init_23 (fun x47 h48 => ?_)
  have z49 : x47 ∉ pL S := fun h => h48 (Nw.sub w46 h)
  have d50 : a ≠ x47 := fun e => h48 (e ▸ i41.1)
  have d51 : x1 ≠ x47 := fun e => h48 (e ▸ i42.1)
  have d52 : x19 ≠ x47 := fun e => h48 (e ▸ i43.1)
  have s53 : Nw (wR (aN (wR (aN S x1 11 12) a 1 (some x1)) x19 13 12) a 2 (some x19)) (aN (wR (aN (wR (aN S x1 11 12) a 1 (some x1)) x19 13 12) a 2 (some x19)) x47 12 12) x47 [(x47, 12, 12)] := Nw.new h48
  have f54 : pI (aN (wR (aN (wR (aN S x1 11 12) a 1 (some x1)) x19 13 12) a 2 (some x19)) x47 12 12) a = (pI S a) := Nw.I s53 i41.1 d50 f25
  have f55 : pJ (aN (wR (aN (wR (aN S x1 11 12) a 1 (some x1)) x19 13 12) a 2 (some x19)) x47 12 12) a = (pJ S a) := Nw.J s53 i41.1 d50 f26
  have f56 : pI (aN (wR (aN (wR (aN S x1 11 12) a 1 (some x1)) x19 13 12) a 2 (some x19)) x47 12 12) x1 = (fun _ => 0) := Nw.I s53 i42.1 d51 f37
  have f57 : pJ (aN (wR (aN (wR (aN S x1 11 12) a 1 (some x1)) x19 13 12) a 2 (some x19)) x47 12 12) x1 = (fun _ => 0) := Nw.J s53 i42.1 d51 f38
  have f58 : pR (aN (wR (aN (wR (aN S x1 11 12) a 1 (some x1)) x19 13 12) a 2 (some x19)) x47 12 12) a 1 = some x1 := Nw.R s53 i41.1 d50 ((up2_k (by decide)).trans f29)
  have f59 : pI (aN (wR (aN (wR (aN S x1 11 12) a 1 (some x1)) x19 13 12) a 2 (some x19)) x47 12 12) x19 = (fun _ => 0) := Nw.I s53 i43.1 d52 f39
  have f60 : pJ (aN (wR (aN (wR (aN S x1 11 12) a 1 (some x1)) x19 13 12) a 2 (some x19)) x47 12 12) x19 = (fun _ => 0) := Nw.J s53 i43.1 d52 f40
  have f61 : pR (aN (wR (aN (wR (aN S x1 11 12) a 1 (some x1)) x19 13 12) a 2 (some x19)) x47 12 12) a 2 = some x19 := Nw.R s53 i41.1 d50 up2_s
  have i62 := Nw.is s53 i41
  have i63 := Nw.is s53 i42
  have i64 := Nw.is s53 i43
  have n65 := Nw.nn s53 i42.1 n44
  have n66 := Nw.nn s53 i43.1 n45
  have w67 : Nw S (aN (wR (aN (wR (aN S x1 11 12) a 1 (some x1)) x19 13 12) a 2 (some x19)) x47 12 12) a ((((([] ++ [(x1, 11, 12)]) ++ []) ++ [(x19, 13, 12)]) ++ []) ++ [(x47, 12, 12)]) := Nw.tr w46 s53 (.inr z49)
  have i68 : Is (aN (wR (aN (wR (aN S x1 11 12) a 1 (some x1)) x19 13 12) a 2 (some x19)) x47 12 12).1 x47 12 := Is_new
  have n69 : pN (aN (wR (aN (wR (aN S x1 11 12) a 1 (some x1)) x19 13 12) a 2 (some x19)) x47 12 12) x47 = 12 := aN_N
  refine pfX5_19 F T.2.2 i62 dX5_init_25 ?_
  have s70 : Nw (aN (wR (aN (wR (aN S x1 11 12) a 1 (some x1)) x19 13 12) a 2 (some x19)) x47 12 12) (wR (aN (wR (aN (wR (aN S x1 11 12) a 1 (some x1)) x19 13 12) a 2 (some x19)) x47 12 12) a 3 (some x47)) a [] := Nw.wR
  have f71 : pI (wR (aN (wR (aN (wR (aN S x1 11 12) a 1 (some x1)) x19 13 12) a 2 (some x19)) x47 12 12) a 3 (some x47)) x1 = (fun _ => 0) := Nw.I s70 i63.1 (fun e => d4 e.symm) f56
  have f72 : pJ (wR (aN (wR (aN (wR (aN S x1 11 12) a 1 (some x1)) x19 13 12) a 2 (some x19)) x47 12 12) a 3 (some x47)) x1 = (fun _ => 0) := Nw.J s70 i63.1 (fun e => d4 e.symm) f57
  have f73 : pI (wR (aN (wR (aN (wR (aN S x1 11 12) a 1 (some x1)) x19 13 12) a 2 (some x19)) x47 12 12) a 3 (some x47)) x19 = (fun _ => 0) := Nw.I s70 i64.1 (fun e => d22 e.symm) f59
  have f74 : pJ (wR (aN (wR (aN (wR (aN S x1 11 12) a 1 (some x1)) x19 13 12) a 2 (some x19)) x47 12 12) a 3 (some x47)) x19 = (fun _ => 0) := Nw.J s70 i64.1 (fun e => d22 e.symm) f60
  have f75 : pI (wR (aN (wR (aN (wR (aN S x1 11 12) a 1 (some x1)) x19 13 12) a 2 (some x19)) x47 12 12) a 3 (some x47)) x47 = (fun _ => 0) := Nw.I s70 i68.1 (fun e => d50 e.symm) aN_I
  have f76 : pJ (wR (aN (wR (aN (wR (aN S x1 11 12) a 1 (some x1)) x19 13 12) a 2 (some x19)) x47 12 12) a 3 (some x47)) x47 = (fun _ => 0) := Nw.J s70 i68.1 (fun e => d50 e.symm) aN_J
  have i77 := Nw.is s70 i62
  have i78 := Nw.is s70 i63
  have i79 := Nw.is s70 i64
  have i80 := Nw.is s70 i68
  have n81 := Nw.nn s70 i63.1 n65
  have n82 := Nw.nn s70 i64.1 n66
  have n83 := Nw.nn s70 i68.1 n69
  have w84 : Nw S (wR (aN (wR (aN (wR (aN S x1 11 12) a 1 (some x1)) x19 13 12) a 2 (some x19)) x47 12 12) a 3 (some x47)) a (((((([] ++ [(x1, 11, 12)]) ++ []) ++ [(x19, 13, 12)]) ++ []) ++ [(x47, 12, 12)]) ++ []) := Nw.tr w67 s70 (.inl rfl)
  refine g_vret F T ⟨rfl, ?_⟩ (Nat.le_of_ble_eq_true rfl) (Nat.le_of_ble_eq_true rfl) dX5_init_28
  exact ⟨x1, x19, x47, w84, ((up2_k (by decide)).trans f58), ((up2_k (by decide)).trans f61), up2_s, f54, f55⟩
set_option maxHeartbeats 4000000 in
set_option maxRecDepth 100000 in
theorem kX3_init (g : Glo) (S : PS) (a : Nat) (ha : Is S.1 a 3) : Ct g mX3_init 3 36 [.ref a] S (pV9 (fun S' => ∃ x y w, Nw S S' a [(x, 12, 12), (y, 12, 12), (w, 13, 12)] ∧ pR S' a 0 = some x ∧ pR S' a 1 = some y ∧ pR S' a 2 = some w ∧ pI S' a = pI S a ∧ pJ S' a = pJ S a)) := by
  refine Ct.of (by decide) (Nat.le_of_ble_eq_true rfl) (fun Γ hg F T => ?_)
  subst hg
  show G Γ S 0 0 0 [(0, .ref a)] []
  refine g_aload_n (k := 0) F 0 rfl dX3_init_0 ?_
  refine g_objInit F mw90 mw11 mw12 ⟨(Nat.le_of_ble_eq_true rfl), (Nat.le_of_ble_eq_true rfl)⟩ dX3_init_1 ?_
  refine g_aload_n (k := 0) F 0 rfl dX3_init_4 ?_
  refine g_bipush (v := 12) F (by decide) dX3_init_5 ?_
  refine g_newJ (N := 12) F mw6 rfl (by decide) ⟨(Nat.le_of_ble_eq_true rfl), (Nat.le_of_ble_eq_true rfl)⟩ dX3_init_7 (fun x1 h2 => ?_)
  have z3 : x1 ∉ pL S := fun h => h2 (Nw.sub (Nw.rf (S := S) (a := a)) h)
  have d4 : a ≠ x1 := fun e => h2 (e ▸ ha.1)
  have s5 : Nw S (aN S x1 12 12) x1 [(x1, 12, 12)] := Nw.new h2
  have f6 : pI (aN S x1 12 12) a = (pI S a) := Nw.I s5 ha.1 d4 rfl
  have f7 : pJ (aN S x1 12 12) a = (pJ S a) := Nw.J s5 ha.1 d4 rfl
  have i8 := Nw.is s5 ha
  have w9 : Nw S (aN S x1 12 12) a ([] ++ [(x1, 12, 12)]) := Nw.tr (Nw.rf (S := S) (a := a)) s5 (.inr z3)
  have i10 : Is (aN S x1 12 12).1 x1 12 := Is_new
  have n11 : pN (aN S x1 12 12) x1 = 12 := aN_N
  refine pfX3_9 F T.2.2 i8 dX3_init_9 ?_
  have s12 : Nw (aN S x1 12 12) (wR (aN S x1 12 12) a 0 (some x1)) a [] := Nw.wR
  have f13 : pI (wR (aN S x1 12 12) a 0 (some x1)) x1 = (fun _ => 0) := Nw.I s12 i10.1 (fun e => d4 e.symm) aN_I
  have f14 : pJ (wR (aN S x1 12 12) a 0 (some x1)) x1 = (fun _ => 0) := Nw.J s12 i10.1 (fun e => d4 e.symm) aN_J
  have i15 := Nw.is s12 i8
  have i16 := Nw.is s12 i10
  have n17 := Nw.nn s12 i10.1 n11
  have w18 : Nw S (wR (aN S x1 12 12) a 0 (some x1)) a (([] ++ [(x1, 12, 12)]) ++ []) := Nw.tr w9 s12 (.inl rfl)
  refine g_aload_n (k := 0) F 0 rfl dX3_init_12 ?_
  refine g_bipush (v := 12) F (by decide) dX3_init_13 ?_
  refine g_newJ (N := 12) F mw6 rfl (by decide) ⟨(Nat.le_of_ble_eq_true rfl), (Nat.le_of_ble_eq_true rfl)⟩ dX3_init_15 (fun x19 h20 => ?_)
  have z21 : x19 ∉ pL S := fun h => h20 (Nw.sub w18 h)
  have d22 : a ≠ x19 := fun e => h20 (e ▸ i15.1)
  have d23 : x1 ≠ x19 := fun e => h20 (e ▸ i16.1)
  have s24 : Nw (wR (aN S x1 12 12) a 0 (some x1)) (aN (wR (aN S x1 12 12) a 0 (some x1)) x19 12 12) x19 [(x19, 12, 12)] := Nw.new h20
  have f25 : pI (aN (wR (aN S x1 12 12) a 0 (some x1)) x19 12 12) a = (pI S a) := Nw.I s24 i15.1 d22 f6
  have f26 : pJ (aN (wR (aN S x1 12 12) a 0 (some x1)) x19 12 12) a = (pJ S a) := Nw.J s24 i15.1 d22 f7
  have f27 : pI (aN (wR (aN S x1 12 12) a 0 (some x1)) x19 12 12) x1 = (fun _ => 0) := Nw.I s24 i16.1 d23 f13
  have f28 : pJ (aN (wR (aN S x1 12 12) a 0 (some x1)) x19 12 12) x1 = (fun _ => 0) := Nw.J s24 i16.1 d23 f14
  have f29 : pR (aN (wR (aN S x1 12 12) a 0 (some x1)) x19 12 12) a 0 = some x1 := Nw.R s24 i15.1 d22 up2_s
  have i30 := Nw.is s24 i15
  have i31 := Nw.is s24 i16
  have n32 := Nw.nn s24 i16.1 n17
  have w33 : Nw S (aN (wR (aN S x1 12 12) a 0 (some x1)) x19 12 12) a ((([] ++ [(x1, 12, 12)]) ++ []) ++ [(x19, 12, 12)]) := Nw.tr w18 s24 (.inr z21)
  have i34 : Is (aN (wR (aN S x1 12 12) a 0 (some x1)) x19 12 12).1 x19 12 := Is_new
  have n35 : pN (aN (wR (aN S x1 12 12) a 0 (some x1)) x19 12 12) x19 = 12 := aN_N
  refine pfX3_15 F T.2.2 i30 dX3_init_17 ?_
  have s36 : Nw (aN (wR (aN S x1 12 12) a 0 (some x1)) x19 12 12) (wR (aN (wR (aN S x1 12 12) a 0 (some x1)) x19 12 12) a 1 (some x19)) a [] := Nw.wR
  have f37 : pI (wR (aN (wR (aN S x1 12 12) a 0 (some x1)) x19 12 12) a 1 (some x19)) x1 = (fun _ => 0) := Nw.I s36 i31.1 (fun e => d4 e.symm) f27
  have f38 : pJ (wR (aN (wR (aN S x1 12 12) a 0 (some x1)) x19 12 12) a 1 (some x19)) x1 = (fun _ => 0) := Nw.J s36 i31.1 (fun e => d4 e.symm) f28
  have f39 : pI (wR (aN (wR (aN S x1 12 12) a 0 (some x1)) x19 12 12) a 1 (some x19)) x19 = (fun _ => 0) := Nw.I s36 i34.1 (fun e => d22 e.symm) aN_I
  have f40 : pJ (wR (aN (wR (aN S x1 12 12) a 0 (some x1)) x19 12 12) a 1 (some x19)) x19 = (fun _ => 0) := Nw.J s36 i34.1 (fun e => d22 e.symm) aN_J
  have i41 := Nw.is s36 i30
  have i42 := Nw.is s36 i31
  have i43 := Nw.is s36 i34
  have n44 := Nw.nn s36 i31.1 n32
  have n45 := Nw.nn s36 i34.1 n35
  have w46 : Nw S (wR (aN (wR (aN S x1 12 12) a 0 (some x1)) x19 12 12) a 1 (some x19)) a (((([] ++ [(x1, 12, 12)]) ++ []) ++ [(x19, 12, 12)]) ++ []) := Nw.tr w33 s36 (.inl rfl)
  refine g_aload_n (k := 0) F 0 rfl dX3_init_20 ?_
  refine g_bipush (v := 12) F (by decide) dX3_init_21 ?_
  refine g_newZ (N := 12) F mw63 rfl (by decide) ⟨(Nat.le_of_ble_eq_true rfl), (Nat.le_of_ble_eq_true rfl)⟩ dX3_init_23 (fun x47 h48 => ?_)
  have z49 : x47 ∉ pL S := fun h => h48 (Nw.sub w46 h)
  have d50 : a ≠ x47 := fun e => h48 (e ▸ i41.1)
  have d51 : x1 ≠ x47 := fun e => h48 (e ▸ i42.1)
  have d52 : x19 ≠ x47 := fun e => h48 (e ▸ i43.1)
  have s53 : Nw (wR (aN (wR (aN S x1 12 12) a 0 (some x1)) x19 12 12) a 1 (some x19)) (aN (wR (aN (wR (aN S x1 12 12) a 0 (some x1)) x19 12 12) a 1 (some x19)) x47 13 12) x47 [(x47, 13, 12)] := Nw.new h48
  have f54 : pI (aN (wR (aN (wR (aN S x1 12 12) a 0 (some x1)) x19 12 12) a 1 (some x19)) x47 13 12) a = (pI S a) := Nw.I s53 i41.1 d50 f25
  have f55 : pJ (aN (wR (aN (wR (aN S x1 12 12) a 0 (some x1)) x19 12 12) a 1 (some x19)) x47 13 12) a = (pJ S a) := Nw.J s53 i41.1 d50 f26
  have f56 : pI (aN (wR (aN (wR (aN S x1 12 12) a 0 (some x1)) x19 12 12) a 1 (some x19)) x47 13 12) x1 = (fun _ => 0) := Nw.I s53 i42.1 d51 f37
  have f57 : pJ (aN (wR (aN (wR (aN S x1 12 12) a 0 (some x1)) x19 12 12) a 1 (some x19)) x47 13 12) x1 = (fun _ => 0) := Nw.J s53 i42.1 d51 f38
  have f58 : pR (aN (wR (aN (wR (aN S x1 12 12) a 0 (some x1)) x19 12 12) a 1 (some x19)) x47 13 12) a 0 = some x1 := Nw.R s53 i41.1 d50 ((up2_k (by decide)).trans f29)
  have f59 : pI (aN (wR (aN (wR (aN S x1 12 12) a 0 (some x1)) x19 12 12) a 1 (some x19)) x47 13 12) x19 = (fun _ => 0) := Nw.I s53 i43.1 d52 f39
  have f60 : pJ (aN (wR (aN (wR (aN S x1 12 12) a 0 (some x1)) x19 12 12) a 1 (some x19)) x47 13 12) x19 = (fun _ => 0) := Nw.J s53 i43.1 d52 f40
  have f61 : pR (aN (wR (aN (wR (aN S x1 12 12) a 0 (some x1)) x19 12 12) a 1 (some x19)) x47 13 12) a 1 = some x19 := Nw.R s53 i41.1 d50 up2_s
  have i62 := Nw.is s53 i41
  have i63 := Nw.is s53 i42
  have i64 := Nw.is s53 i43
  have n65 := Nw.nn s53 i42.1 n44
  have n66 := Nw.nn s53 i43.1 n45
  have w67 : Nw S (aN (wR (aN (wR (aN S x1 12 12) a 0 (some x1)) x19 12 12) a 1 (some x19)) x47 13 12) a ((((([] ++ [(x1, 12, 12)]) ++ []) ++ [(x19, 12, 12)]) ++ []) ++ [(x47, 13, 12)]) := Nw.tr w46 s53 (.inr z49)
  have i68 : Is (aN (wR (aN (wR (aN S x1 12 12) a 0 (some x1)) x19 12 12) a 1 (some x19)) x47 13 12).1 x47 13 := Is_new
  have n69 : pN (aN (wR (aN (wR (aN S x1 12 12) a 0 (some x1)) x19 12 12) a 1 (some x19)) x47 13 12) x47 = 12 := aN_N
  refine pfX3_18 F T.2.2 i62 dX3_init_25 ?_
  have s70 : Nw (aN (wR (aN (wR (aN S x1 12 12) a 0 (some x1)) x19 12 12) a 1 (some x19)) x47 13 12) (wR (aN (wR (aN (wR (aN S x1 12 12) a 0 (some x1)) x19 12 12) a 1 (some x19)) x47 13 12) a 2 (some x47)) a [] := Nw.wR
  have f71 : pI (wR (aN (wR (aN (wR (aN S x1 12 12) a 0 (some x1)) x19 12 12) a 1 (some x19)) x47 13 12) a 2 (some x47)) x1 = (fun _ => 0) := Nw.I s70 i63.1 (fun e => d4 e.symm) f56
  have f72 : pJ (wR (aN (wR (aN (wR (aN S x1 12 12) a 0 (some x1)) x19 12 12) a 1 (some x19)) x47 13 12) a 2 (some x47)) x1 = (fun _ => 0) := Nw.J s70 i63.1 (fun e => d4 e.symm) f57
  have f73 : pI (wR (aN (wR (aN (wR (aN S x1 12 12) a 0 (some x1)) x19 12 12) a 1 (some x19)) x47 13 12) a 2 (some x47)) x19 = (fun _ => 0) := Nw.I s70 i64.1 (fun e => d22 e.symm) f59
  have f74 : pJ (wR (aN (wR (aN (wR (aN S x1 12 12) a 0 (some x1)) x19 12 12) a 1 (some x19)) x47 13 12) a 2 (some x47)) x19 = (fun _ => 0) := Nw.J s70 i64.1 (fun e => d22 e.symm) f60
  have f75 : pI (wR (aN (wR (aN (wR (aN S x1 12 12) a 0 (some x1)) x19 12 12) a 1 (some x19)) x47 13 12) a 2 (some x47)) x47 = (fun _ => 0) := Nw.I s70 i68.1 (fun e => d50 e.symm) aN_I
  have f76 : pJ (wR (aN (wR (aN (wR (aN S x1 12 12) a 0 (some x1)) x19 12 12) a 1 (some x19)) x47 13 12) a 2 (some x47)) x47 = (fun _ => 0) := Nw.J s70 i68.1 (fun e => d50 e.symm) aN_J
  have i77 := Nw.is s70 i62
  have i78 := Nw.is s70 i63
  have i79 := Nw.is s70 i64
  have i80 := Nw.is s70 i68
  have n81 := Nw.nn s70 i63.1 n65
  have n82 := Nw.nn s70 i64.1 n66
  have n83 := Nw.nn s70 i68.1 n69
  have w84 : Nw S (wR (aN (wR (aN (wR (aN S x1 12 12) a 0 (some x1)) x19 12 12) a 1 (some x19)) x47 13 12) a 2 (some x47)) a (((((([] ++ [(x1, 12, 12)]) ++ []) ++ [(x19, 12, 12)]) ++ []) ++ [(x47, 13, 12)]) ++ []) := Nw.tr w67 s70 (.inl rfl)
  refine g_vret F T ⟨rfl, ?_⟩ (Nat.le_of_ble_eq_true rfl) (Nat.le_of_ble_eq_true rfl) dX3_init_28
  exact ⟨x1, x19, x47, w84, ((up2_k (by decide)).trans f58), ((up2_k (by decide)).trans f61), up2_s, f54, f55⟩
set_option maxHeartbeats 4000000 in
set_option maxRecDepth 100000 in
theorem kX7_init (g : Glo) (S : PS) (a : Nat) (ha : Is S.1 a 7) : Ct g mX7_init 2 40 [.ref a] S (pV9 (fun S' => ∃ x y, Nw S S' a [(x, 11, 20), (y, 11, 20)] ∧ pR S' a 0 = some x ∧ pR S' a 1 = some y ∧ pI S' a = pI S a ∧ pJ S' a = pJ S a)) := by
  refine Ct.of (by decide) (Nat.le_of_ble_eq_true rfl) (fun Γ hg F T => ?_)
  subst hg
  show G Γ S 0 0 0 [(0, .ref a)] []
  refine g_aload_n (k := 0) F 0 rfl dX7_init_0 ?_
  refine g_objInit F mw96 mw11 mw12 ⟨(Nat.le_of_ble_eq_true rfl), (Nat.le_of_ble_eq_true rfl)⟩ dX7_init_1 ?_
  refine g_aload_n (k := 0) F 0 rfl dX7_init_4 ?_
  refine g_bipush (v := 20) F (by decide) dX7_init_5 ?_
  refine g_newI (N := 20) F mw34 rfl (by decide) ⟨(Nat.le_of_ble_eq_true rfl), (Nat.le_of_ble_eq_true rfl)⟩ dX7_init_7 (fun x1 h2 => ?_)
  have z3 : x1 ∉ pL S := fun h => h2 (Nw.sub (Nw.rf (S := S) (a := a)) h)
  have d4 : a ≠ x1 := fun e => h2 (e ▸ ha.1)
  have s5 : Nw S (aN S x1 11 20) x1 [(x1, 11, 20)] := Nw.new h2
  have f6 : pI (aN S x1 11 20) a = (pI S a) := Nw.I s5 ha.1 d4 rfl
  have f7 : pJ (aN S x1 11 20) a = (pJ S a) := Nw.J s5 ha.1 d4 rfl
  have i8 := Nw.is s5 ha
  have w9 : Nw S (aN S x1 11 20) a ([] ++ [(x1, 11, 20)]) := Nw.tr (Nw.rf (S := S) (a := a)) s5 (.inr z3)
  have i10 : Is (aN S x1 11 20).1 x1 11 := Is_new
  have n11 : pN (aN S x1 11 20) x1 = 20 := aN_N
  refine pfX7_9 F T.2.2 i8 dX7_init_9 ?_
  have s12 : Nw (aN S x1 11 20) (wR (aN S x1 11 20) a 0 (some x1)) a [] := Nw.wR
  have f13 : pI (wR (aN S x1 11 20) a 0 (some x1)) x1 = (fun _ => 0) := Nw.I s12 i10.1 (fun e => d4 e.symm) aN_I
  have f14 : pJ (wR (aN S x1 11 20) a 0 (some x1)) x1 = (fun _ => 0) := Nw.J s12 i10.1 (fun e => d4 e.symm) aN_J
  have i15 := Nw.is s12 i8
  have i16 := Nw.is s12 i10
  have n17 := Nw.nn s12 i10.1 n11
  have w18 : Nw S (wR (aN S x1 11 20) a 0 (some x1)) a (([] ++ [(x1, 11, 20)]) ++ []) := Nw.tr w9 s12 (.inl rfl)
  refine g_aload_n (k := 0) F 0 rfl dX7_init_12 ?_
  refine g_bipush (v := 20) F (by decide) dX7_init_13 ?_
  refine g_newI (N := 20) F mw34 rfl (by decide) ⟨(Nat.le_of_ble_eq_true rfl), (Nat.le_of_ble_eq_true rfl)⟩ dX7_init_15 (fun x19 h20 => ?_)
  have z21 : x19 ∉ pL S := fun h => h20 (Nw.sub w18 h)
  have d22 : a ≠ x19 := fun e => h20 (e ▸ i15.1)
  have d23 : x1 ≠ x19 := fun e => h20 (e ▸ i16.1)
  have s24 : Nw (wR (aN S x1 11 20) a 0 (some x1)) (aN (wR (aN S x1 11 20) a 0 (some x1)) x19 11 20) x19 [(x19, 11, 20)] := Nw.new h20
  have f25 : pI (aN (wR (aN S x1 11 20) a 0 (some x1)) x19 11 20) a = (pI S a) := Nw.I s24 i15.1 d22 f6
  have f26 : pJ (aN (wR (aN S x1 11 20) a 0 (some x1)) x19 11 20) a = (pJ S a) := Nw.J s24 i15.1 d22 f7
  have f27 : pI (aN (wR (aN S x1 11 20) a 0 (some x1)) x19 11 20) x1 = (fun _ => 0) := Nw.I s24 i16.1 d23 f13
  have f28 : pJ (aN (wR (aN S x1 11 20) a 0 (some x1)) x19 11 20) x1 = (fun _ => 0) := Nw.J s24 i16.1 d23 f14
  have f29 : pR (aN (wR (aN S x1 11 20) a 0 (some x1)) x19 11 20) a 0 = some x1 := Nw.R s24 i15.1 d22 up2_s
  have i30 := Nw.is s24 i15
  have i31 := Nw.is s24 i16
  have n32 := Nw.nn s24 i16.1 n17
  have w33 : Nw S (aN (wR (aN S x1 11 20) a 0 (some x1)) x19 11 20) a ((([] ++ [(x1, 11, 20)]) ++ []) ++ [(x19, 11, 20)]) := Nw.tr w18 s24 (.inr z21)
  have i34 : Is (aN (wR (aN S x1 11 20) a 0 (some x1)) x19 11 20).1 x19 11 := Is_new
  have n35 : pN (aN (wR (aN S x1 11 20) a 0 (some x1)) x19 11 20) x19 = 20 := aN_N
  refine pfX7_15 F T.2.2 i30 dX7_init_17 ?_
  have s36 : Nw (aN (wR (aN S x1 11 20) a 0 (some x1)) x19 11 20) (wR (aN (wR (aN S x1 11 20) a 0 (some x1)) x19 11 20) a 1 (some x19)) a [] := Nw.wR
  have f37 : pI (wR (aN (wR (aN S x1 11 20) a 0 (some x1)) x19 11 20) a 1 (some x19)) x1 = (fun _ => 0) := Nw.I s36 i31.1 (fun e => d4 e.symm) f27
  have f38 : pJ (wR (aN (wR (aN S x1 11 20) a 0 (some x1)) x19 11 20) a 1 (some x19)) x1 = (fun _ => 0) := Nw.J s36 i31.1 (fun e => d4 e.symm) f28
  have f39 : pI (wR (aN (wR (aN S x1 11 20) a 0 (some x1)) x19 11 20) a 1 (some x19)) x19 = (fun _ => 0) := Nw.I s36 i34.1 (fun e => d22 e.symm) aN_I
  have f40 : pJ (wR (aN (wR (aN S x1 11 20) a 0 (some x1)) x19 11 20) a 1 (some x19)) x19 = (fun _ => 0) := Nw.J s36 i34.1 (fun e => d22 e.symm) aN_J
  have i41 := Nw.is s36 i30
  have i42 := Nw.is s36 i31
  have i43 := Nw.is s36 i34
  have n44 := Nw.nn s36 i31.1 n32
  have n45 := Nw.nn s36 i34.1 n35
  have w46 : Nw S (wR (aN (wR (aN S x1 11 20) a 0 (some x1)) x19 11 20) a 1 (some x19)) a (((([] ++ [(x1, 11, 20)]) ++ []) ++ [(x19, 11, 20)]) ++ []) := Nw.tr w33 s36 (.inl rfl)
  refine g_vret F T ⟨rfl, ?_⟩ (Nat.le_of_ble_eq_true rfl) (Nat.le_of_ble_eq_true rfl) dX7_init_20
  exact ⟨x1, x19, w46, ((up2_k (by decide)).trans f29), up2_s, f25, f26⟩
set_option maxHeartbeats 4000000 in
set_option maxRecDepth 100000 in
theorem kX0_init (g : Glo) (S : PS) (a : Nat) (ha : Is S.1 a 0) : Ct g mX0_init 0 0 [.ref a] S (pV9 (fun S' => Nw S S' a [] ∧ pI S' a = pI S a ∧ pJ S' a = pJ S a)) := by
  refine Ct.of (by decide) (Nat.le_of_ble_eq_true rfl) (fun Γ hg F T => ?_)
  subst hg
  show G Γ S 0 0 0 [(0, .ref a)] []
  refine g_aload_n (k := 0) F 0 rfl dX0_init_0 ?_
  refine g_objInit F mw84 mw11 mw12 ⟨(Nat.le_of_ble_eq_true rfl), (Nat.le_of_ble_eq_true rfl)⟩ dX0_init_1 ?_
  refine g_vret F T ⟨rfl, ?_⟩ (Nat.le_of_ble_eq_true rfl) (Nat.le_of_ble_eq_true rfl) dX0_init_4
  exact ⟨(Nw.rf (S := S) (a := a)), rfl, rfl⟩
set_option maxHeartbeats 4000000 in
set_option maxRecDepth 100000 in
theorem kX8_init (g : Glo) (S : PS) (a : Nat) (ha : Is S.1 a 8) : Ct g mX8_init 0 0 [.ref a] S (pV9 (fun S' => Nw S S' a [] ∧ pI S' a = pI S a ∧ pJ S' a = pJ S a)) := by
  refine Ct.of (by decide) (Nat.le_of_ble_eq_true rfl) (fun Γ hg F T => ?_)
  subst hg
  show G Γ S 0 0 0 [(0, .ref a)] []
  refine g_aload_n (k := 0) F 0 rfl dX8_init_0 ?_
  refine g_objInit F mw87 mw11 mw12 ⟨(Nat.le_of_ble_eq_true rfl), (Nat.le_of_ble_eq_true rfl)⟩ dX8_init_1 ?_
  refine g_vret F T ⟨rfl, ?_⟩ (Nat.le_of_ble_eq_true rfl) (Nat.le_of_ble_eq_true rfl) dX8_init_4
  exact ⟨(Nw.rf (S := S) (a := a)), rfl, rfl⟩
set_option maxHeartbeats 4000000 in
set_option maxRecDepth 100000 in
theorem kX6_init (g : Glo) (S : PS) (a : Nat) (ha : Is S.1 a 6) (hz : pI S a = fun _ => 0) : Ct g mX6_init 9 109 [.ref a] S (pV9 (fun S' => ∃ f : Nat → Nat, f 0 = a ∧ Nw S S' a (stl f) ∧ St0 S' f)) := by
  refine Ct.of (by decide) (Nat.le_of_ble_eq_true rfl) (fun Γ hg F T => ?_)
  subst hg
  show G Γ S 0 0 0 [(0, .ref a)] []
  refine g_aload_n (k := 0) F 0 rfl dX6_init_0 ?_
  refine g_objInit F mw38 mw11 mw12 ⟨(Nat.le_of_ble_eq_true rfl), (Nat.le_of_ble_eq_true rfl)⟩ dX6_init_1 ?_
  refine g_aload_n (k := 0) F 0 rfl dX6_init_4 ?_
  refine g_sipush (v := 200) F (by decide) dX6_init_5 ?_
  refine pfX6_9 F ha dX6_init_8 ?_
  have s1 : Nw S (wI S a 2 200) a [] := Nw.wI
  have i2 := Nw.is s1 ha
  have w3 : Nw S (wI S a 2 200) a ([] ++ []) := Nw.tr (Nw.rf (S := S) (a := a)) s1 (.inl rfl)
  refine g_aload_n (k := 0) F 0 rfl dX6_init_11 ?_
  refine g_iconst (v := 5) F (by decide) dX6_init_12 ?_
  refine g_newI (N := 5) F mw34 rfl (by decide) ⟨(Nat.le_of_ble_eq_true rfl), (Nat.le_of_ble_eq_true rfl)⟩ dX6_init_13 (fun x4 h5 => ?_)
  have z6 : x4 ∉ pL S := fun h => h5 (Nw.sub w3 h)
  have d7 : a ≠ x4 := fun e => h5 (e ▸ i2.1)
  have s8 : Nw (wI S a 2 200) (aN (wI S a 2 200) x4 11 5) x4 [(x4, 11, 5)] := Nw.new h5
  have f9 : pI (aN (wI S a 2 200) x4 11 5) a 0 = 0 := (congrFun (Nw.I s8 i2.1 d7 rfl) 0).trans ((up2_k (by decide)).trans (congrFun hz 0))
  have f10 : pI (aN (wI S a 2 200) x4 11 5) a 1 = 0 := (congrFun (Nw.I s8 i2.1 d7 rfl) 1).trans ((up2_k (by decide)).trans (congrFun hz 1))
  have f11 : pI (aN (wI S a 2 200) x4 11 5) a 3 = 0 := (congrFun (Nw.I s8 i2.1 d7 rfl) 3).trans ((up2_k (by decide)).trans (congrFun hz 3))
  have f12 : pI (aN (wI S a 2 200) x4 11 5) a 4 = 0 := (congrFun (Nw.I s8 i2.1 d7 rfl) 4).trans ((up2_k (by decide)).trans (congrFun hz 4))
  have f13 : pI (aN (wI S a 2 200) x4 11 5) a 5 = 0 := (congrFun (Nw.I s8 i2.1 d7 rfl) 5).trans ((up2_k (by decide)).trans (congrFun hz 5))
  have f14 : pI (aN (wI S a 2 200) x4 11 5) a 2 = 200 := (congrFun (Nw.I s8 i2.1 d7 rfl) 2).trans up2_s
  have i15 := Nw.is s8 i2
  have w16 : Nw S (aN (wI S a 2 200) x4 11 5) a (([] ++ []) ++ [(x4, 11, 5)]) := Nw.tr w3 s8 (.inr z6)
  have i17 : Is (aN (wI S a 2 200) x4 11 5).1 x4 11 := Is_new
  have n18 : pN (aN (wI S a 2 200) x4 11 5) x4 = 5 := aN_N
  refine pfX6_15 F T.2.2 i15 dX6_init_15 ?_
  have s19 : Nw (aN (wI S a 2 200) x4 11 5) (wR (aN (wI S a 2 200) x4 11 5) a 3 (some x4)) a [] := Nw.wR
  have f20 : pI (wR (aN (wI S a 2 200) x4 11 5) a 3 (some x4)) x4 = (fun _ => 0) := Nw.I s19 i17.1 (fun e => d7 e.symm) aN_I
  have f21 : pJ (wR (aN (wI S a 2 200) x4 11 5) a 3 (some x4)) x4 = (fun _ => 0) := Nw.J s19 i17.1 (fun e => d7 e.symm) aN_J
  have i22 := Nw.is s19 i15
  have i23 := Nw.is s19 i17
  have n24 := Nw.nn s19 i17.1 n18
  have w25 : Nw S (wR (aN (wI S a 2 200) x4 11 5) a 3 (some x4)) a ((([] ++ []) ++ [(x4, 11, 5)]) ++ []) := Nw.tr w16 s19 (.inl rfl)
  refine g_aload_n (k := 0) F 0 rfl dX6_init_18 ?_
  refine g_new (ci := 4) F clX4 (fun k hk => (nwX4 k hk).1) mw41 mw42 mw43 (fun k hk => (nwX4 k hk).2) ⟨(Nat.le_of_ble_eq_true rfl), (Nat.le_of_ble_eq_true rfl)⟩ dX6_init_19 (fun x26 h27 => ?_)
  have z28 : x26 ∉ pL S := fun h => h27 (Nw.sub w25 h)
  have d29 : a ≠ x26 := fun e => h27 (e ▸ i22.1)
  have d30 : x4 ≠ x26 := fun e => h27 (e ▸ i23.1)
  have s31 : Nw (wR (aN (wI S a 2 200) x4 11 5) a 3 (some x4)) (aN (wR (aN (wI S a 2 200) x4 11 5) a 3 (some x4)) x26 4 0) x26 [(x26, 4, 0)] := Nw.new h27
  have f32 : pI (aN (wR (aN (wI S a 2 200) x4 11 5) a 3 (some x4)) x26 4 0) a 0 = 0 := (congrFun (Nw.I s31 i22.1 d29 rfl) 0).trans f9
  have f33 : pI (aN (wR (aN (wI S a 2 200) x4 11 5) a 3 (some x4)) x26 4 0) a 1 = 0 := (congrFun (Nw.I s31 i22.1 d29 rfl) 1).trans f10
  have f34 : pI (aN (wR (aN (wI S a 2 200) x4 11 5) a 3 (some x4)) x26 4 0) a 3 = 0 := (congrFun (Nw.I s31 i22.1 d29 rfl) 3).trans f11
  have f35 : pI (aN (wR (aN (wI S a 2 200) x4 11 5) a 3 (some x4)) x26 4 0) a 4 = 0 := (congrFun (Nw.I s31 i22.1 d29 rfl) 4).trans f12
  have f36 : pI (aN (wR (aN (wI S a 2 200) x4 11 5) a 3 (some x4)) x26 4 0) a 5 = 0 := (congrFun (Nw.I s31 i22.1 d29 rfl) 5).trans f13
  have f37 : pI (aN (wR (aN (wI S a 2 200) x4 11 5) a 3 (some x4)) x26 4 0) a 2 = 200 := (congrFun (Nw.I s31 i22.1 d29 rfl) 2).trans f14
  have f38 : pI (aN (wR (aN (wI S a 2 200) x4 11 5) a 3 (some x4)) x26 4 0) x4 = (fun _ => 0) := Nw.I s31 i23.1 d30 f20
  have f39 : pJ (aN (wR (aN (wI S a 2 200) x4 11 5) a 3 (some x4)) x26 4 0) x4 = (fun _ => 0) := Nw.J s31 i23.1 d30 f21
  have f40 : pR (aN (wR (aN (wI S a 2 200) x4 11 5) a 3 (some x4)) x26 4 0) a 3 = some x4 := Nw.R s31 i22.1 d29 up2_s
  have i41 := Nw.is s31 i22
  have i42 := Nw.is s31 i23
  have n43 := Nw.nn s31 i23.1 n24
  have w44 : Nw S (aN (wR (aN (wI S a 2 200) x4 11 5) a 3 (some x4)) x26 4 0) a (((([] ++ []) ++ [(x4, 11, 5)]) ++ []) ++ [(x26, 4, 0)]) := Nw.tr w25 s31 (.inr z28)
  have i45 : Is (aN (wR (aN (wI S a 2 200) x4 11 5) a 3 (some x4)) x26 4 0).1 x26 4 := Is_new
  have n46 : pN (aN (wR (aN (wI S a 2 200) x4 11 5) a 3 (some x4)) x26 4 0) x26 = 0 := aN_N
  refine g_dup F dX6_init_22 rfl ?_
  refine g_callIN (host := "PolarPlanimeter") F (kX4_init Γ.1 (aN (wR (aN (wI S a 2 200) x4 11 5) a 3 (some x4)) x26 4 0) x26 i45) okX4_init nwM58 ⟨(Nat.le_of_ble_eq_true rfl), (Nat.le_of_ble_eq_true rfl)⟩ rfl rfl (Nat.le_of_ble_eq_true rfl) ⟨(Nat.le_of_ble_eq_true rfl), (Nat.le_of_ble_eq_true rfl)⟩ dX6_init_23 (toV (fun S48 h47 => ?_))
  obtain ⟨x50, x51, x52, t49N, t49_0, t49_1, t49_2, t49_3, t49_4⟩ := h47
  have z53 : x50 ∉ pL S := fun h => t49N.2.2.1 _ (show (x50, 11, 20) ∈ [(x50, 11, 20), (x51, 11, 20), (x52, 11, 20)] by simp) (Nw.sub w44 h)
  have d54 : a ≠ x50 := Nw.ne t49N i41.1 (show (x50, 11, 20) ∈ [(x50, 11, 20), (x51, 11, 20), (x52, 11, 20)] by simp)
  have d55 : x4 ≠ x50 := Nw.ne t49N i42.1 (show (x50, 11, 20) ∈ [(x50, 11, 20), (x51, 11, 20), (x52, 11, 20)] by simp)
  have d56 : x26 ≠ x50 := Nw.ne t49N i45.1 (show (x50, 11, 20) ∈ [(x50, 11, 20), (x51, 11, 20), (x52, 11, 20)] by simp)
  have z57 : x51 ∉ pL S := fun h => t49N.2.2.1 _ (show (x51, 11, 20) ∈ [(x50, 11, 20), (x51, 11, 20), (x52, 11, 20)] by simp) (Nw.sub w44 h)
  have d58 : a ≠ x51 := Nw.ne t49N i41.1 (show (x51, 11, 20) ∈ [(x50, 11, 20), (x51, 11, 20), (x52, 11, 20)] by simp)
  have d59 : x4 ≠ x51 := Nw.ne t49N i42.1 (show (x51, 11, 20) ∈ [(x50, 11, 20), (x51, 11, 20), (x52, 11, 20)] by simp)
  have d60 : x26 ≠ x51 := Nw.ne t49N i45.1 (show (x51, 11, 20) ∈ [(x50, 11, 20), (x51, 11, 20), (x52, 11, 20)] by simp)
  have z61 : x52 ∉ pL S := fun h => t49N.2.2.1 _ (show (x52, 11, 20) ∈ [(x50, 11, 20), (x51, 11, 20), (x52, 11, 20)] by simp) (Nw.sub w44 h)
  have d62 : a ≠ x52 := Nw.ne t49N i41.1 (show (x52, 11, 20) ∈ [(x50, 11, 20), (x51, 11, 20), (x52, 11, 20)] by simp)
  have d63 : x4 ≠ x52 := Nw.ne t49N i42.1 (show (x52, 11, 20) ∈ [(x50, 11, 20), (x51, 11, 20), (x52, 11, 20)] by simp)
  have d64 : x26 ≠ x52 := Nw.ne t49N i45.1 (show (x52, 11, 20) ∈ [(x50, 11, 20), (x51, 11, 20), (x52, 11, 20)] by simp)
  have s65 : Nw (aN (wR (aN (wI S a 2 200) x4 11 5) a 3 (some x4)) x26 4 0) S48 x26 [(x50, 11, 20), (x51, 11, 20), (x52, 11, 20)] := t49N
  have f66 : pI S48 a 0 = 0 := (congrFun (Nw.I s65 i41.1 d29 rfl) 0).trans f32
  have f67 : pI S48 a 1 = 0 := (congrFun (Nw.I s65 i41.1 d29 rfl) 1).trans f33
  have f68 : pI S48 a 3 = 0 := (congrFun (Nw.I s65 i41.1 d29 rfl) 3).trans f34
  have f69 : pI S48 a 4 = 0 := (congrFun (Nw.I s65 i41.1 d29 rfl) 4).trans f35
  have f70 : pI S48 a 5 = 0 := (congrFun (Nw.I s65 i41.1 d29 rfl) 5).trans f36
  have f71 : pI S48 a 2 = 200 := (congrFun (Nw.I s65 i41.1 d29 rfl) 2).trans f37
  have f72 : pI S48 x4 = (fun _ => 0) := Nw.I s65 i42.1 d30 f38
  have f73 : pJ S48 x4 = (fun _ => 0) := Nw.J s65 i42.1 d30 f39
  have f74 : pR S48 a 3 = some x4 := Nw.R s65 i41.1 d29 f40
  have i75 := Nw.is s65 i41
  have i76 := Nw.is s65 i42
  have i77 := Nw.is s65 i45
  have n78 := Nw.nn s65 i42.1 n43
  have n79 := Nw.nn s65 i45.1 n46
  have w80 : Nw S S48 a ((((([] ++ []) ++ [(x4, 11, 5)]) ++ []) ++ [(x26, 4, 0)]) ++ [(x50, 11, 20), (x51, 11, 20), (x52, 11, 20)]) := Nw.tr w44 s65 (.inr z28)
  have i81 : Is S48.1 x50 11 := (t49N.on (show (x50, 11, 20) ∈ [(x50, 11, 20), (x51, 11, 20), (x52, 11, 20)] by simp)).1
  have i82 : Is S48.1 x51 11 := (t49N.on (show (x51, 11, 20) ∈ [(x50, 11, 20), (x51, 11, 20), (x52, 11, 20)] by simp)).1
  have i83 : Is S48.1 x52 11 := (t49N.on (show (x52, 11, 20) ∈ [(x50, 11, 20), (x51, 11, 20), (x52, 11, 20)] by simp)).1
  refine pfX6_22 F T.2.2 i75 dX6_init_26 ?_
  have s84 : Nw S48 (wR S48 a 4 (some x26)) a [] := Nw.wR
  have f85 : pI (wR S48 a 4 (some x26)) x4 = (fun _ => 0) := Nw.I s84 i76.1 (fun e => d7 e.symm) f72
  have f86 : pJ (wR S48 a 4 (some x26)) x4 = (fun _ => 0) := Nw.J s84 i76.1 (fun e => d7 e.symm) f73
  have f87 : pR (wR S48 a 4 (some x26)) x26 1 = some x50 := Nw.R s84 i77.1 (fun e => d29 e.symm) t49_0
  have f88 : pR (wR S48 a 4 (some x26)) x26 2 = some x51 := Nw.R s84 i77.1 (fun e => d29 e.symm) t49_1
  have f89 : pR (wR S48 a 4 (some x26)) x26 3 = some x52 := Nw.R s84 i77.1 (fun e => d29 e.symm) t49_2
  have f90 : pI (wR S48 a 4 (some x26)) x26 = (fun _ => 0) := Nw.I s84 i77.1 (fun e => d29 e.symm) (t49_3.trans aN_I)
  have i91 := Nw.is s84 i75
  have i92 := Nw.is s84 i76
  have i93 := Nw.is s84 i77
  have i94 := Nw.is s84 i81
  have i95 := Nw.is s84 i82
  have i96 := Nw.is s84 i83
  have n97 := Nw.nn s84 i76.1 n78
  have n98 := Nw.nn s84 i77.1 n79
  have w99 : Nw S (wR S48 a 4 (some x26)) a (((((([] ++ []) ++ [(x4, 11, 5)]) ++ []) ++ [(x26, 4, 0)]) ++ [(x50, 11, 20), (x51, 11, 20), (x52, 11, 20)]) ++ []) := Nw.tr w80 s84 (.inl rfl)
  refine g_aload_n (k := 0) F 0 rfl dX6_init_29 ?_
  refine g_new (ci := 5) F clX5 (fun k hk => (nwX5 k hk).1) mw45 mw46 mw47 (fun k hk => (nwX5 k hk).2) ⟨(Nat.le_of_ble_eq_true rfl), (Nat.le_of_ble_eq_true rfl)⟩ dX6_init_30 (fun x100 h101 => ?_)
  have z102 : x100 ∉ pL S := fun h => h101 (Nw.sub w99 h)
  have d103 : a ≠ x100 := fun e => h101 (e ▸ i91.1)
  have d104 : x4 ≠ x100 := fun e => h101 (e ▸ i92.1)
  have d105 : x26 ≠ x100 := fun e => h101 (e ▸ i93.1)
  have d106 : x50 ≠ x100 := fun e => h101 (e ▸ i94.1)
  have d107 : x51 ≠ x100 := fun e => h101 (e ▸ i95.1)
  have d108 : x52 ≠ x100 := fun e => h101 (e ▸ i96.1)
  have s109 : Nw (wR S48 a 4 (some x26)) (aN (wR S48 a 4 (some x26)) x100 5 0) x100 [(x100, 5, 0)] := Nw.new h101
  have f110 : pI (aN (wR S48 a 4 (some x26)) x100 5 0) a 0 = 0 := (congrFun (Nw.I s109 i91.1 d103 rfl) 0).trans f66
  have f111 : pI (aN (wR S48 a 4 (some x26)) x100 5 0) a 1 = 0 := (congrFun (Nw.I s109 i91.1 d103 rfl) 1).trans f67
  have f112 : pI (aN (wR S48 a 4 (some x26)) x100 5 0) a 3 = 0 := (congrFun (Nw.I s109 i91.1 d103 rfl) 3).trans f68
  have f113 : pI (aN (wR S48 a 4 (some x26)) x100 5 0) a 4 = 0 := (congrFun (Nw.I s109 i91.1 d103 rfl) 4).trans f69
  have f114 : pI (aN (wR S48 a 4 (some x26)) x100 5 0) a 5 = 0 := (congrFun (Nw.I s109 i91.1 d103 rfl) 5).trans f70
  have f115 : pI (aN (wR S48 a 4 (some x26)) x100 5 0) a 2 = 200 := (congrFun (Nw.I s109 i91.1 d103 rfl) 2).trans f71
  have f116 : pI (aN (wR S48 a 4 (some x26)) x100 5 0) x4 = (fun _ => 0) := Nw.I s109 i92.1 d104 f85
  have f117 : pJ (aN (wR S48 a 4 (some x26)) x100 5 0) x4 = (fun _ => 0) := Nw.J s109 i92.1 d104 f86
  have f118 : pR (aN (wR S48 a 4 (some x26)) x100 5 0) a 3 = some x4 := Nw.R s109 i91.1 d103 ((up2_k (by decide)).trans f74)
  have f119 : pR (aN (wR S48 a 4 (some x26)) x100 5 0) x26 1 = some x50 := Nw.R s109 i93.1 d105 f87
  have f120 : pR (aN (wR S48 a 4 (some x26)) x100 5 0) x26 2 = some x51 := Nw.R s109 i93.1 d105 f88
  have f121 : pR (aN (wR S48 a 4 (some x26)) x100 5 0) x26 3 = some x52 := Nw.R s109 i93.1 d105 f89
  have f122 : pI (aN (wR S48 a 4 (some x26)) x100 5 0) x26 = (fun _ => 0) := Nw.I s109 i93.1 d105 f90
  have f123 : pR (aN (wR S48 a 4 (some x26)) x100 5 0) a 4 = some x26 := Nw.R s109 i91.1 d103 up2_s
  have i124 := Nw.is s109 i91
  have i125 := Nw.is s109 i92
  have i126 := Nw.is s109 i93
  have i127 := Nw.is s109 i94
  have i128 := Nw.is s109 i95
  have i129 := Nw.is s109 i96
  have n130 := Nw.nn s109 i92.1 n97
  have n131 := Nw.nn s109 i93.1 n98
  have w132 : Nw S (aN (wR S48 a 4 (some x26)) x100 5 0) a ((((((([] ++ []) ++ [(x4, 11, 5)]) ++ []) ++ [(x26, 4, 0)]) ++ [(x50, 11, 20), (x51, 11, 20), (x52, 11, 20)]) ++ []) ++ [(x100, 5, 0)]) := Nw.tr w99 s109 (.inr z102)
  have i133 : Is (aN (wR S48 a 4 (some x26)) x100 5 0).1 x100 5 := Is_new
  have n134 : pN (aN (wR S48 a 4 (some x26)) x100 5 0) x100 = 0 := aN_N
  refine g_dup F dX6_init_33 rfl ?_
  refine g_callIN (host := "PolarPlanimeter") F (kX5_init Γ.1 (aN (wR S48 a 4 (some x26)) x100 5 0) x100 i133) okX5_init nwM59 ⟨(Nat.le_of_ble_eq_true rfl), (Nat.le_of_ble_eq_true rfl)⟩ rfl rfl (Nat.le_of_ble_eq_true rfl) ⟨(Nat.le_of_ble_eq_true rfl), (Nat.le_of_ble_eq_true rfl)⟩ dX6_init_34 (toV (fun S136 h135 => ?_))
  obtain ⟨x138, x139, x140, t137N, t137_0, t137_1, t137_2, t137_3, t137_4⟩ := h135
  have z141 : x138 ∉ pL S := fun h => t137N.2.2.1 _ (show (x138, 11, 12) ∈ [(x138, 11, 12), (x139, 13, 12), (x140, 12, 12)] by simp) (Nw.sub w132 h)
  have d142 : a ≠ x138 := Nw.ne t137N i124.1 (show (x138, 11, 12) ∈ [(x138, 11, 12), (x139, 13, 12), (x140, 12, 12)] by simp)
  have d143 : x4 ≠ x138 := Nw.ne t137N i125.1 (show (x138, 11, 12) ∈ [(x138, 11, 12), (x139, 13, 12), (x140, 12, 12)] by simp)
  have d144 : x26 ≠ x138 := Nw.ne t137N i126.1 (show (x138, 11, 12) ∈ [(x138, 11, 12), (x139, 13, 12), (x140, 12, 12)] by simp)
  have d145 : x50 ≠ x138 := Nw.ne t137N i127.1 (show (x138, 11, 12) ∈ [(x138, 11, 12), (x139, 13, 12), (x140, 12, 12)] by simp)
  have d146 : x51 ≠ x138 := Nw.ne t137N i128.1 (show (x138, 11, 12) ∈ [(x138, 11, 12), (x139, 13, 12), (x140, 12, 12)] by simp)
  have d147 : x52 ≠ x138 := Nw.ne t137N i129.1 (show (x138, 11, 12) ∈ [(x138, 11, 12), (x139, 13, 12), (x140, 12, 12)] by simp)
  have d148 : x100 ≠ x138 := Nw.ne t137N i133.1 (show (x138, 11, 12) ∈ [(x138, 11, 12), (x139, 13, 12), (x140, 12, 12)] by simp)
  have z149 : x139 ∉ pL S := fun h => t137N.2.2.1 _ (show (x139, 13, 12) ∈ [(x138, 11, 12), (x139, 13, 12), (x140, 12, 12)] by simp) (Nw.sub w132 h)
  have d150 : a ≠ x139 := Nw.ne t137N i124.1 (show (x139, 13, 12) ∈ [(x138, 11, 12), (x139, 13, 12), (x140, 12, 12)] by simp)
  have d151 : x4 ≠ x139 := Nw.ne t137N i125.1 (show (x139, 13, 12) ∈ [(x138, 11, 12), (x139, 13, 12), (x140, 12, 12)] by simp)
  have d152 : x26 ≠ x139 := Nw.ne t137N i126.1 (show (x139, 13, 12) ∈ [(x138, 11, 12), (x139, 13, 12), (x140, 12, 12)] by simp)
  have d153 : x50 ≠ x139 := Nw.ne t137N i127.1 (show (x139, 13, 12) ∈ [(x138, 11, 12), (x139, 13, 12), (x140, 12, 12)] by simp)
  have d154 : x51 ≠ x139 := Nw.ne t137N i128.1 (show (x139, 13, 12) ∈ [(x138, 11, 12), (x139, 13, 12), (x140, 12, 12)] by simp)
  have d155 : x52 ≠ x139 := Nw.ne t137N i129.1 (show (x139, 13, 12) ∈ [(x138, 11, 12), (x139, 13, 12), (x140, 12, 12)] by simp)
  have d156 : x100 ≠ x139 := Nw.ne t137N i133.1 (show (x139, 13, 12) ∈ [(x138, 11, 12), (x139, 13, 12), (x140, 12, 12)] by simp)
  have z157 : x140 ∉ pL S := fun h => t137N.2.2.1 _ (show (x140, 12, 12) ∈ [(x138, 11, 12), (x139, 13, 12), (x140, 12, 12)] by simp) (Nw.sub w132 h)
  have d158 : a ≠ x140 := Nw.ne t137N i124.1 (show (x140, 12, 12) ∈ [(x138, 11, 12), (x139, 13, 12), (x140, 12, 12)] by simp)
  have d159 : x4 ≠ x140 := Nw.ne t137N i125.1 (show (x140, 12, 12) ∈ [(x138, 11, 12), (x139, 13, 12), (x140, 12, 12)] by simp)
  have d160 : x26 ≠ x140 := Nw.ne t137N i126.1 (show (x140, 12, 12) ∈ [(x138, 11, 12), (x139, 13, 12), (x140, 12, 12)] by simp)
  have d161 : x50 ≠ x140 := Nw.ne t137N i127.1 (show (x140, 12, 12) ∈ [(x138, 11, 12), (x139, 13, 12), (x140, 12, 12)] by simp)
  have d162 : x51 ≠ x140 := Nw.ne t137N i128.1 (show (x140, 12, 12) ∈ [(x138, 11, 12), (x139, 13, 12), (x140, 12, 12)] by simp)
  have d163 : x52 ≠ x140 := Nw.ne t137N i129.1 (show (x140, 12, 12) ∈ [(x138, 11, 12), (x139, 13, 12), (x140, 12, 12)] by simp)
  have d164 : x100 ≠ x140 := Nw.ne t137N i133.1 (show (x140, 12, 12) ∈ [(x138, 11, 12), (x139, 13, 12), (x140, 12, 12)] by simp)
  have s165 : Nw (aN (wR S48 a 4 (some x26)) x100 5 0) S136 x100 [(x138, 11, 12), (x139, 13, 12), (x140, 12, 12)] := t137N
  have f166 : pI S136 a 0 = 0 := (congrFun (Nw.I s165 i124.1 d103 rfl) 0).trans f110
  have f167 : pI S136 a 1 = 0 := (congrFun (Nw.I s165 i124.1 d103 rfl) 1).trans f111
  have f168 : pI S136 a 3 = 0 := (congrFun (Nw.I s165 i124.1 d103 rfl) 3).trans f112
  have f169 : pI S136 a 4 = 0 := (congrFun (Nw.I s165 i124.1 d103 rfl) 4).trans f113
  have f170 : pI S136 a 5 = 0 := (congrFun (Nw.I s165 i124.1 d103 rfl) 5).trans f114
  have f171 : pI S136 a 2 = 200 := (congrFun (Nw.I s165 i124.1 d103 rfl) 2).trans f115
  have f172 : pI S136 x4 = (fun _ => 0) := Nw.I s165 i125.1 d104 f116
  have f173 : pJ S136 x4 = (fun _ => 0) := Nw.J s165 i125.1 d104 f117
  have f174 : pR S136 a 3 = some x4 := Nw.R s165 i124.1 d103 f118
  have f175 : pR S136 x26 1 = some x50 := Nw.R s165 i126.1 d105 f119
  have f176 : pR S136 x26 2 = some x51 := Nw.R s165 i126.1 d105 f120
  have f177 : pR S136 x26 3 = some x52 := Nw.R s165 i126.1 d105 f121
  have f178 : pI S136 x26 = (fun _ => 0) := Nw.I s165 i126.1 d105 f122
  have f179 : pR S136 a 4 = some x26 := Nw.R s165 i124.1 d103 f123
  have i180 := Nw.is s165 i124
  have i181 := Nw.is s165 i125
  have i182 := Nw.is s165 i126
  have i183 := Nw.is s165 i127
  have i184 := Nw.is s165 i128
  have i185 := Nw.is s165 i129
  have i186 := Nw.is s165 i133
  have n187 := Nw.nn s165 i125.1 n130
  have n188 := Nw.nn s165 i126.1 n131
  have n189 := Nw.nn s165 i133.1 n134
  have w190 : Nw S S136 a (((((((([] ++ []) ++ [(x4, 11, 5)]) ++ []) ++ [(x26, 4, 0)]) ++ [(x50, 11, 20), (x51, 11, 20), (x52, 11, 20)]) ++ []) ++ [(x100, 5, 0)]) ++ [(x138, 11, 12), (x139, 13, 12), (x140, 12, 12)]) := Nw.tr w132 s165 (.inr z102)
  have i191 : Is S136.1 x138 11 := (t137N.on (show (x138, 11, 12) ∈ [(x138, 11, 12), (x139, 13, 12), (x140, 12, 12)] by simp)).1
  have i192 : Is S136.1 x139 13 := (t137N.on (show (x139, 13, 12) ∈ [(x138, 11, 12), (x139, 13, 12), (x140, 12, 12)] by simp)).1
  have i193 : Is S136.1 x140 12 := (t137N.on (show (x140, 12, 12) ∈ [(x138, 11, 12), (x139, 13, 12), (x140, 12, 12)] by simp)).1
  refine pfX6_29 F T.2.2 i180 dX6_init_37 ?_
  have s194 : Nw S136 (wR S136 a 5 (some x100)) a [] := Nw.wR
  have f195 : pI (wR S136 a 5 (some x100)) x4 = (fun _ => 0) := Nw.I s194 i181.1 (fun e => d7 e.symm) f172
  have f196 : pJ (wR S136 a 5 (some x100)) x4 = (fun _ => 0) := Nw.J s194 i181.1 (fun e => d7 e.symm) f173
  have f197 : pR (wR S136 a 5 (some x100)) x26 1 = some x50 := Nw.R s194 i182.1 (fun e => d29 e.symm) f175
  have f198 : pR (wR S136 a 5 (some x100)) x26 2 = some x51 := Nw.R s194 i182.1 (fun e => d29 e.symm) f176
  have f199 : pR (wR S136 a 5 (some x100)) x26 3 = some x52 := Nw.R s194 i182.1 (fun e => d29 e.symm) f177
  have f200 : pI (wR S136 a 5 (some x100)) x26 = (fun _ => 0) := Nw.I s194 i182.1 (fun e => d29 e.symm) f178
  have f201 : pR (wR S136 a 5 (some x100)) x100 1 = some x138 := Nw.R s194 i186.1 (fun e => d103 e.symm) t137_0
  have f202 : pR (wR S136 a 5 (some x100)) x100 2 = some x139 := Nw.R s194 i186.1 (fun e => d103 e.symm) t137_1
  have f203 : pR (wR S136 a 5 (some x100)) x100 3 = some x140 := Nw.R s194 i186.1 (fun e => d103 e.symm) t137_2
  have f204 : pI (wR S136 a 5 (some x100)) x100 = (fun _ => 0) := Nw.I s194 i186.1 (fun e => d103 e.symm) (t137_3.trans aN_I)
  have i205 := Nw.is s194 i180
  have i206 := Nw.is s194 i181
  have i207 := Nw.is s194 i182
  have i208 := Nw.is s194 i183
  have i209 := Nw.is s194 i184
  have i210 := Nw.is s194 i185
  have i211 := Nw.is s194 i186
  have i212 := Nw.is s194 i191
  have i213 := Nw.is s194 i192
  have i214 := Nw.is s194 i193
  have n215 := Nw.nn s194 i181.1 n187
  have n216 := Nw.nn s194 i182.1 n188
  have n217 := Nw.nn s194 i186.1 n189
  have w218 : Nw S (wR S136 a 5 (some x100)) a ((((((((([] ++ []) ++ [(x4, 11, 5)]) ++ []) ++ [(x26, 4, 0)]) ++ [(x50, 11, 20), (x51, 11, 20), (x52, 11, 20)]) ++ []) ++ [(x100, 5, 0)]) ++ [(x138, 11, 12), (x139, 13, 12), (x140, 12, 12)]) ++ []) := Nw.tr w190 s194 (.inl rfl)
  refine g_stat (i := 0) (host := "PolarPlanimeter") (f := fun _ => 0) F F.e.2.2.2.1.1 (Or.inr (va_Nw.use rfl (F.e.1 _ nwF35))) dX6_init_40 ?_
  refine g_iconst (v := 0) F (by decide) dX6_init_43 ?_
  refine g_aload_n (k := 0) F 0 rfl dX6_init_44 ?_
  refine gfX6_15 F i205 ((up2_k (by decide)).trans f174) dX6_init_45 ?_
  refine g_iconst (v := 0) F (by decide) dX6_init_48 ?_
  refine g_iconst (v := 5) F (by decide) dX6_init_49 ?_
  refine g_acs (N := 5) F F.e.2.2.2.1.2.1 F.e.2.2.2.1.2.2 mw49 mw50 mw51 mw52 i206 rfl (by decide) (Nat.le_of_eq n215.symm) ⟨(Nat.le_of_ble_eq_true rfl), (Nat.le_of_ble_eq_true rfl)⟩ dX6_init_50 ?_
  have s219 : Nw (wR S136 a 5 (some x100)) (wIr (wR S136 a 5 (some x100)) x4 (va_cpy atF (pI (wR S136 a 5 (some x100)) x4) 0 0 5)) x4 [] := Nw.wIr
  have f220 : pI (wIr (wR S136 a 5 (some x100)) x4 (va_cpy atF (pI (wR S136 a 5 (some x100)) x4) 0 0 5)) a 0 = 0 := (congrFun (Nw.I s219 i205.1 d7 rfl) 0).trans f166
  have f221 : pI (wIr (wR S136 a 5 (some x100)) x4 (va_cpy atF (pI (wR S136 a 5 (some x100)) x4) 0 0 5)) a 1 = 0 := (congrFun (Nw.I s219 i205.1 d7 rfl) 1).trans f167
  have f222 : pI (wIr (wR S136 a 5 (some x100)) x4 (va_cpy atF (pI (wR S136 a 5 (some x100)) x4) 0 0 5)) a 3 = 0 := (congrFun (Nw.I s219 i205.1 d7 rfl) 3).trans f168
  have f223 : pI (wIr (wR S136 a 5 (some x100)) x4 (va_cpy atF (pI (wR S136 a 5 (some x100)) x4) 0 0 5)) a 4 = 0 := (congrFun (Nw.I s219 i205.1 d7 rfl) 4).trans f169
  have f224 : pI (wIr (wR S136 a 5 (some x100)) x4 (va_cpy atF (pI (wR S136 a 5 (some x100)) x4) 0 0 5)) a 5 = 0 := (congrFun (Nw.I s219 i205.1 d7 rfl) 5).trans f170
  have f225 : pI (wIr (wR S136 a 5 (some x100)) x4 (va_cpy atF (pI (wR S136 a 5 (some x100)) x4) 0 0 5)) a 2 = 200 := (congrFun (Nw.I s219 i205.1 d7 rfl) 2).trans f171
  have f226 : pR (wIr (wR S136 a 5 (some x100)) x4 (va_cpy atF (pI (wR S136 a 5 (some x100)) x4) 0 0 5)) a 3 = some x4 := Nw.R s219 i205.1 d7 ((up2_k (by decide)).trans f174)
  have f227 : pR (wIr (wR S136 a 5 (some x100)) x4 (va_cpy atF (pI (wR S136 a 5 (some x100)) x4) 0 0 5)) x26 1 = some x50 := Nw.R s219 i207.1 (fun e => d30 e.symm) f197
  have f228 : pR (wIr (wR S136 a 5 (some x100)) x4 (va_cpy atF (pI (wR S136 a 5 (some x100)) x4) 0 0 5)) x26 2 = some x51 := Nw.R s219 i207.1 (fun e => d30 e.symm) f198
  have f229 : pR (wIr (wR S136 a 5 (some x100)) x4 (va_cpy atF (pI (wR S136 a 5 (some x100)) x4) 0 0 5)) x26 3 = some x52 := Nw.R s219 i207.1 (fun e => d30 e.symm) f199
  have f230 : pI (wIr (wR S136 a 5 (some x100)) x4 (va_cpy atF (pI (wR S136 a 5 (some x100)) x4) 0 0 5)) x26 = (fun _ => 0) := Nw.I s219 i207.1 (fun e => d30 e.symm) f200
  have f231 : pR (wIr (wR S136 a 5 (some x100)) x4 (va_cpy atF (pI (wR S136 a 5 (some x100)) x4) 0 0 5)) a 4 = some x26 := Nw.R s219 i205.1 d7 ((up2_k (by decide)).trans f179)
  have f232 : pR (wIr (wR S136 a 5 (some x100)) x4 (va_cpy atF (pI (wR S136 a 5 (some x100)) x4) 0 0 5)) x100 1 = some x138 := Nw.R s219 i211.1 (fun e => d104 e.symm) f201
  have f233 : pR (wIr (wR S136 a 5 (some x100)) x4 (va_cpy atF (pI (wR S136 a 5 (some x100)) x4) 0 0 5)) x100 2 = some x139 := Nw.R s219 i211.1 (fun e => d104 e.symm) f202
  have f234 : pR (wIr (wR S136 a 5 (some x100)) x4 (va_cpy atF (pI (wR S136 a 5 (some x100)) x4) 0 0 5)) x100 3 = some x140 := Nw.R s219 i211.1 (fun e => d104 e.symm) f203
  have f235 : pI (wIr (wR S136 a 5 (some x100)) x4 (va_cpy atF (pI (wR S136 a 5 (some x100)) x4) 0 0 5)) x100 = (fun _ => 0) := Nw.I s219 i211.1 (fun e => d104 e.symm) f204
  have f236 : pR (wIr (wR S136 a 5 (some x100)) x4 (va_cpy atF (pI (wR S136 a 5 (some x100)) x4) 0 0 5)) a 5 = some x100 := Nw.R s219 i205.1 d7 up2_s
  have i237 := Nw.is s219 i205
  have i238 := Nw.is s219 i206
  have i239 := Nw.is s219 i207
  have i240 := Nw.is s219 i208
  have i241 := Nw.is s219 i209
  have i242 := Nw.is s219 i210
  have i243 := Nw.is s219 i211
  have i244 := Nw.is s219 i212
  have i245 := Nw.is s219 i213
  have i246 := Nw.is s219 i214
  have n247 := Nw.nn s219 i206.1 n215
  have n248 := Nw.nn s219 i207.1 n216
  have n249 := Nw.nn s219 i211.1 n217
  have w250 : Nw S (wIr (wR S136 a 5 (some x100)) x4 (va_cpy atF (pI (wR S136 a 5 (some x100)) x4) 0 0 5)) a (((((((((([] ++ []) ++ [(x4, 11, 5)]) ++ []) ++ [(x26, 4, 0)]) ++ [(x50, 11, 20), (x51, 11, 20), (x52, 11, 20)]) ++ []) ++ [(x100, 5, 0)]) ++ [(x138, 11, 12), (x139, 13, 12), (x140, 12, 12)]) ++ []) ++ []) := Nw.tr w218 s219 (.inr z6)
  refine g_vret F T ⟨rfl, ?_⟩ (Nat.le_of_ble_eq_true rfl) (Nat.le_of_ble_eq_true rfl) dX6_init_53
  exact ⟨fun i => [a, x4, x26, x50, x51, x52, x100, x138, x139, x140].getD i 0, rfl, w250, f226, f231, f236, f227, f228, f229, f232, f233, f234, f220, f221, f225, (fun i hi => (congrFun upr_s i).trans (at_cp hi)), (congrFun f230 0), (congrFun f235 0)⟩
set_option maxHeartbeats 4000000 in
set_option maxRecDepth 100000 in
theorem kX1_init (g : Glo) (S : PS) (a : Nat) (ha : Is S.1 a 1) : Ct g mX1_init 2 12 [.ref a] S (pV9 (fun S' => ∃ x y, Nw S S' a [(x, 0, 0), (y, 8, 0)] ∧ pR S' a 0 = some x ∧ pR S' a 1 = some y)) := by
  refine Ct.of (by decide) (Nat.le_of_ble_eq_true rfl) (fun Γ hg F T => ?_)
  subst hg
  show G Γ S 0 0 0 [(0, .ref a)] []
  refine g_aload_n (k := 0) F 0 rfl dX1_init_0 ?_
  refine g_objInit F mw73 mw11 mw12 ⟨(Nat.le_of_ble_eq_true rfl), (Nat.le_of_ble_eq_true rfl)⟩ dX1_init_1 ?_
  refine g_aload_n (k := 0) F 0 rfl dX1_init_4 ?_
  refine g_new (ci := 0) F clX0 (fun k hk => (nwX0 k hk).1) mw74 mw75 mw76 (fun k hk => (nwX0 k hk).2) ⟨(Nat.le_of_ble_eq_true rfl), (Nat.le_of_ble_eq_true rfl)⟩ dX1_init_5 (fun x1 h2 => ?_)
  have z3 : x1 ∉ pL S := fun h => h2 (Nw.sub (Nw.rf (S := S) (a := a)) h)
  have d4 : a ≠ x1 := fun e => h2 (e ▸ ha.1)
  have s5 : Nw S (aN S x1 0 0) x1 [(x1, 0, 0)] := Nw.new h2
  have i6 := Nw.is s5 ha
  have w7 : Nw S (aN S x1 0 0) a ([] ++ [(x1, 0, 0)]) := Nw.tr (Nw.rf (S := S) (a := a)) s5 (.inr z3)
  have i8 : Is (aN S x1 0 0).1 x1 0 := Is_new
  have n9 : pN (aN S x1 0 0) x1 = 0 := aN_N
  refine g_dup F dX1_init_8 rfl ?_
  refine g_callIN (host := "PolarPlanimeter") F (kX0_init Γ.1 (aN S x1 0 0) x1 i8) okX0_init nwM37 ⟨(Nat.le_of_ble_eq_true rfl), (Nat.le_of_ble_eq_true rfl)⟩ rfl rfl (Nat.le_of_ble_eq_true rfl) ⟨(Nat.le_of_ble_eq_true rfl), (Nat.le_of_ble_eq_true rfl)⟩ dX1_init_9 (toV (fun S11 h10 => ?_))
  obtain ⟨t12N, t12_0, t12_1⟩ := h10
  have s13 : Nw (aN S x1 0 0) S11 x1 [] := t12N
  have i14 := Nw.is s13 i6
  have i15 := Nw.is s13 i8
  have n16 := Nw.nn s13 i8.1 n9
  have w17 : Nw S S11 a (([] ++ [(x1, 0, 0)]) ++ []) := Nw.tr w7 s13 (.inr z3)
  refine pfX1_12 F T.2.2 i14 dX1_init_12 ?_
  have s18 : Nw S11 (wR S11 a 0 (some x1)) a [] := Nw.wR
  have f19 : pI (wR S11 a 0 (some x1)) x1 = (fun _ => 0) := Nw.I s18 i15.1 (fun e => d4 e.symm) (t12_0.trans aN_I)
  have i20 := Nw.is s18 i14
  have i21 := Nw.is s18 i15
  have n22 := Nw.nn s18 i15.1 n16
  have w23 : Nw S (wR S11 a 0 (some x1)) a ((([] ++ [(x1, 0, 0)]) ++ []) ++ []) := Nw.tr w17 s18 (.inl rfl)
  refine g_aload_n (k := 0) F 0 rfl dX1_init_15 ?_
  refine g_new (ci := 8) F clX8 (fun k hk => (nwX8 k hk).1) mw78 mw79 mw80 (fun k hk => (nwX8 k hk).2) ⟨(Nat.le_of_ble_eq_true rfl), (Nat.le_of_ble_eq_true rfl)⟩ dX1_init_16 (fun x24 h25 => ?_)
  have z26 : x24 ∉ pL S := fun h => h25 (Nw.sub w23 h)
  have d27 : a ≠ x24 := fun e => h25 (e ▸ i20.1)
  have d28 : x1 ≠ x24 := fun e => h25 (e ▸ i21.1)
  have s29 : Nw (wR S11 a 0 (some x1)) (aN (wR S11 a 0 (some x1)) x24 8 0) x24 [(x24, 8, 0)] := Nw.new h25
  have f30 : pI (aN (wR S11 a 0 (some x1)) x24 8 0) x1 = (fun _ => 0) := Nw.I s29 i21.1 d28 f19
  have f31 : pR (aN (wR S11 a 0 (some x1)) x24 8 0) a 0 = some x1 := Nw.R s29 i20.1 d27 up2_s
  have i32 := Nw.is s29 i20
  have i33 := Nw.is s29 i21
  have n34 := Nw.nn s29 i21.1 n22
  have w35 : Nw S (aN (wR S11 a 0 (some x1)) x24 8 0) a (((([] ++ [(x1, 0, 0)]) ++ []) ++ []) ++ [(x24, 8, 0)]) := Nw.tr w23 s29 (.inr z26)
  have i36 : Is (aN (wR S11 a 0 (some x1)) x24 8 0).1 x24 8 := Is_new
  have n37 : pN (aN (wR S11 a 0 (some x1)) x24 8 0) x24 = 0 := aN_N
  refine g_dup F dX1_init_19 rfl ?_
  refine g_callIN (host := "PolarPlanimeter") F (kX8_init Γ.1 (aN (wR S11 a 0 (some x1)) x24 8 0) x24 i36) okX8_init nwM42 ⟨(Nat.le_of_ble_eq_true rfl), (Nat.le_of_ble_eq_true rfl)⟩ rfl rfl (Nat.le_of_ble_eq_true rfl) ⟨(Nat.le_of_ble_eq_true rfl), (Nat.le_of_ble_eq_true rfl)⟩ dX1_init_20 (toV (fun S39 h38 => ?_))
  obtain ⟨t40N, t40_0, t40_1⟩ := h38
  have s41 : Nw (aN (wR S11 a 0 (some x1)) x24 8 0) S39 x24 [] := t40N
  have f42 : pI S39 x1 = (fun _ => 0) := Nw.I s41 i33.1 d28 f30
  have f43 : pR S39 a 0 = some x1 := Nw.R s41 i32.1 d27 f31
  have i44 := Nw.is s41 i32
  have i45 := Nw.is s41 i33
  have i46 := Nw.is s41 i36
  have n47 := Nw.nn s41 i33.1 n34
  have n48 := Nw.nn s41 i36.1 n37
  have w49 : Nw S S39 a ((((([] ++ [(x1, 0, 0)]) ++ []) ++ []) ++ [(x24, 8, 0)]) ++ []) := Nw.tr w35 s41 (.inr z26)
  refine pfX1_21 F T.2.2 i44 dX1_init_23 ?_
  have s50 : Nw S39 (wR S39 a 1 (some x24)) a [] := Nw.wR
  have f51 : pI (wR S39 a 1 (some x24)) x1 = (fun _ => 0) := Nw.I s50 i45.1 (fun e => d4 e.symm) f42
  have f52 : pI (wR S39 a 1 (some x24)) x24 = (fun _ => 0) := Nw.I s50 i46.1 (fun e => d27 e.symm) (t40_0.trans aN_I)
  have i53 := Nw.is s50 i44
  have i54 := Nw.is s50 i45
  have i55 := Nw.is s50 i46
  have n56 := Nw.nn s50 i45.1 n47
  have n57 := Nw.nn s50 i46.1 n48
  have w58 : Nw S (wR S39 a 1 (some x24)) a (((((([] ++ [(x1, 0, 0)]) ++ []) ++ []) ++ [(x24, 8, 0)]) ++ []) ++ []) := Nw.tr w49 s50 (.inl rfl)
  refine g_vret F T ⟨rfl, ?_⟩ (Nat.le_of_ble_eq_true rfl) (Nat.le_of_ble_eq_true rfl) dX1_init_26
  exact ⟨x1, x24, w58, ((up2_k (by decide)).trans f43), up2_s⟩
