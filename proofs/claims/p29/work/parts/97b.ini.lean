set_option maxHeartbeats 4000000 in
set_option maxRecDepth 100000 in
theorem kX4_init (g : Glo) (S : PS) (a : Nat) (ha : Is S.1 a 4) : Ct g mX4_init 3 60 [.ref a] S (pV9 (fun S' => ∃ x y w, Nw S S' a [(x, 11, 20), (y, 11, 20), (w, 11, 20)] ∧ pR S' a 1 = some x ∧ pR S' a 2 = some y ∧ pR S' a 3 = some w ∧ pI S' a = pI S a ∧ pJ S' a = pJ S a)) := by
  refine Ct.of (by decide) (Nat.le_of_ble_eq_true rfl) (fun Γ hg F T => ?_)
  subst hg
  show G Γ S 0 0 0 [(0, .ref a)] []
  refine g_aload_n (k := 0) F 0 rfl dX4_init_0 ?_
  refine g_objInit F mw54 mw11 mw12 ⟨(Nat.le_of_ble_eq_true rfl), (Nat.le_of_ble_eq_true rfl)⟩ dX4_init_1 ?_
  refine g_aload_n (k := 0) F 0 rfl dX4_init_4 ?_
  refine g_bipush (v := 20) F (by decide) dX4_init_5 ?_
  refine g_newI (N := 20) F mw3 rfl (by decide) ⟨(Nat.le_of_ble_eq_true rfl), (Nat.le_of_ble_eq_true rfl)⟩ dX4_init_7 (fun x1 h2 => ?_)
  have z3 : x1 ∉ pL S := fun h => h2 (Nw.sub (Nw.rf (S := S) (a := a)) h)
  have d4 : a ≠ x1 := fun e => h2 (e ▸ ha.1)
  have s5 : Nw S (aN S x1 11 20) x1 [(x1, 11, 20)] := Nw.new h2
  have f6 : pI (aN S x1 11 20) a = (pI S a) := Nw.I s5 ha.1 d4 rfl
  have f7 : pJ (aN S x1 11 20) a = (pJ S a) := Nw.J s5 ha.1 d4 rfl
  have i8 := Nw.is s5 ha
  have w9 : Nw S (aN S x1 11 20) a ([] ++ [(x1, 11, 20)]) := Nw.tr (Nw.rf (S := S) (a := a)) s5 (.inr z3)
  have i10 : Is (aN S x1 11 20).1 x1 11 := Is_new
  have n11 : (aN S x1 11 20).1.2.2 x1 = 20 := aN_N
  refine pfX4_9 F T.2.2 i8 dX4_init_9 ?_
  have s12 : Nw (aN S x1 11 20) (wR (aN S x1 11 20) a 1 (some x1)) a [] := Nw.wR
  have f13 : pI (wR (aN S x1 11 20) a 1 (some x1)) x1 = (fun _ => 0) := Nw.I s12 i10.1 (fun e => d4 e.symm) aN_I
  have f14 : pJ (wR (aN S x1 11 20) a 1 (some x1)) x1 = (fun _ => 0) := Nw.J s12 i10.1 (fun e => d4 e.symm) aN_J
  have i15 := Nw.is s12 i8
  have i16 := Nw.is s12 i10
  have n17 : (wR (aN S x1 11 20) a 1 (some x1)).1.2.2 x1 = 20 := Nw.nn s12 i10.1 n11
  have w18 : Nw S (wR (aN S x1 11 20) a 1 (some x1)) a (([] ++ [(x1, 11, 20)]) ++ []) := Nw.tr w9 s12 (.inl rfl)
  refine g_aload_n (k := 0) F 0 rfl dX4_init_12 ?_
  refine g_bipush (v := 20) F (by decide) dX4_init_13 ?_
  refine g_newI (N := 20) F mw3 rfl (by decide) ⟨(Nat.le_of_ble_eq_true rfl), (Nat.le_of_ble_eq_true rfl)⟩ dX4_init_15 (fun x19 h20 => ?_)
  have z21 : x19 ∉ pL S := fun h => h20 (Nw.sub w18 h)
  have d22 : a ≠ x19 := fun e => h20 (e ▸ i15.1)
  have d23 : x1 ≠ x19 := fun e => h20 (e ▸ i16.1)
  have s24 : Nw (wR (aN S x1 11 20) a 1 (some x1)) (aN (wR (aN S x1 11 20) a 1 (some x1)) x19 11 20) x19 [(x19, 11, 20)] := Nw.new h20
  have f25 : pI (aN (wR (aN S x1 11 20) a 1 (some x1)) x19 11 20) a = (pI S a) := Nw.I s24 i15.1 d22 f6
  have f26 : pJ (aN (wR (aN S x1 11 20) a 1 (some x1)) x19 11 20) a = (pJ S a) := Nw.J s24 i15.1 d22 f7
  have f27 : pI (aN (wR (aN S x1 11 20) a 1 (some x1)) x19 11 20) x1 = (fun _ => 0) := Nw.I s24 i16.1 d23 f13
  have f28 : pJ (aN (wR (aN S x1 11 20) a 1 (some x1)) x19 11 20) x1 = (fun _ => 0) := Nw.J s24 i16.1 d23 f14
  have f29 : pR (aN (wR (aN S x1 11 20) a 1 (some x1)) x19 11 20) a 1 = some x1 := Nw.R s24 i15.1 d22 up2_s
  have i30 := Nw.is s24 i15
  have i31 := Nw.is s24 i16
  have n32 : (aN (wR (aN S x1 11 20) a 1 (some x1)) x19 11 20).1.2.2 x1 = 20 := Nw.nn s24 i16.1 n17
  have w33 : Nw S (aN (wR (aN S x1 11 20) a 1 (some x1)) x19 11 20) a ((([] ++ [(x1, 11, 20)]) ++ []) ++ [(x19, 11, 20)]) := Nw.tr w18 s24 (.inr z21)
  have i34 : Is (aN (wR (aN S x1 11 20) a 1 (some x1)) x19 11 20).1 x19 11 := Is_new
  have n35 : (aN (wR (aN S x1 11 20) a 1 (some x1)) x19 11 20).1.2.2 x19 = 20 := aN_N
  refine pfX4_15 F T.2.2 i30 dX4_init_17 ?_
  have s36 : Nw (aN (wR (aN S x1 11 20) a 1 (some x1)) x19 11 20) (wR (aN (wR (aN S x1 11 20) a 1 (some x1)) x19 11 20) a 2 (some x19)) a [] := Nw.wR
  have f37 : pI (wR (aN (wR (aN S x1 11 20) a 1 (some x1)) x19 11 20) a 2 (some x19)) x1 = (fun _ => 0) := Nw.I s36 i31.1 (fun e => d4 e.symm) f27
  have f38 : pJ (wR (aN (wR (aN S x1 11 20) a 1 (some x1)) x19 11 20) a 2 (some x19)) x1 = (fun _ => 0) := Nw.J s36 i31.1 (fun e => d4 e.symm) f28
  have f39 : pI (wR (aN (wR (aN S x1 11 20) a 1 (some x1)) x19 11 20) a 2 (some x19)) x19 = (fun _ => 0) := Nw.I s36 i34.1 (fun e => d22 e.symm) aN_I
  have f40 : pJ (wR (aN (wR (aN S x1 11 20) a 1 (some x1)) x19 11 20) a 2 (some x19)) x19 = (fun _ => 0) := Nw.J s36 i34.1 (fun e => d22 e.symm) aN_J
  have i41 := Nw.is s36 i30
  have i42 := Nw.is s36 i31
  have i43 := Nw.is s36 i34
  have n44 : (wR (aN (wR (aN S x1 11 20) a 1 (some x1)) x19 11 20) a 2 (some x19)).1.2.2 x1 = 20 := Nw.nn s36 i31.1 n32
  have n45 : (wR (aN (wR (aN S x1 11 20) a 1 (some x1)) x19 11 20) a 2 (some x19)).1.2.2 x19 = 20 := Nw.nn s36 i34.1 n35
  have w46 : Nw S (wR (aN (wR (aN S x1 11 20) a 1 (some x1)) x19 11 20) a 2 (some x19)) a (((([] ++ [(x1, 11, 20)]) ++ []) ++ [(x19, 11, 20)]) ++ []) := Nw.tr w33 s36 (.inl rfl)
  refine g_aload_n (k := 0) F 0 rfl dX4_init_20 ?_
  refine g_bipush (v := 20) F (by decide) dX4_init_21 ?_
  refine g_newI (N := 20) F mw3 rfl (by decide) ⟨(Nat.le_of_ble_eq_true rfl), (Nat.le_of_ble_eq_true rfl)⟩ dX4_init_23 (fun x47 h48 => ?_)
  have z49 : x47 ∉ pL S := fun h => h48 (Nw.sub w46 h)
  have d50 : a ≠ x47 := fun e => h48 (e ▸ i41.1)
  have d51 : x1 ≠ x47 := fun e => h48 (e ▸ i42.1)
  have d52 : x19 ≠ x47 := fun e => h48 (e ▸ i43.1)
  have s53 : Nw (wR (aN (wR (aN S x1 11 20) a 1 (some x1)) x19 11 20) a 2 (some x19)) (aN (wR (aN (wR (aN S x1 11 20) a 1 (some x1)) x19 11 20) a 2 (some x19)) x47 11 20) x47 [(x47, 11, 20)] := Nw.new h48
  have f54 : pI (aN (wR (aN (wR (aN S x1 11 20) a 1 (some x1)) x19 11 20) a 2 (some x19)) x47 11 20) a = (pI S a) := Nw.I s53 i41.1 d50 f25
  have f55 : pJ (aN (wR (aN (wR (aN S x1 11 20) a 1 (some x1)) x19 11 20) a 2 (some x19)) x47 11 20) a = (pJ S a) := Nw.J s53 i41.1 d50 f26
  have f56 : pI (aN (wR (aN (wR (aN S x1 11 20) a 1 (some x1)) x19 11 20) a 2 (some x19)) x47 11 20) x1 = (fun _ => 0) := Nw.I s53 i42.1 d51 f37
  have f57 : pJ (aN (wR (aN (wR (aN S x1 11 20) a 1 (some x1)) x19 11 20) a 2 (some x19)) x47 11 20) x1 = (fun _ => 0) := Nw.J s53 i42.1 d51 f38
  have f58 : pR (aN (wR (aN (wR (aN S x1 11 20) a 1 (some x1)) x19 11 20) a 2 (some x19)) x47 11 20) a 1 = some x1 := Nw.R s53 i41.1 d50 ((up2_k (by decide)).trans f29)
  have f59 : pI (aN (wR (aN (wR (aN S x1 11 20) a 1 (some x1)) x19 11 20) a 2 (some x19)) x47 11 20) x19 = (fun _ => 0) := Nw.I s53 i43.1 d52 f39
  have f60 : pJ (aN (wR (aN (wR (aN S x1 11 20) a 1 (some x1)) x19 11 20) a 2 (some x19)) x47 11 20) x19 = (fun _ => 0) := Nw.J s53 i43.1 d52 f40
  have f61 : pR (aN (wR (aN (wR (aN S x1 11 20) a 1 (some x1)) x19 11 20) a 2 (some x19)) x47 11 20) a 2 = some x19 := Nw.R s53 i41.1 d50 up2_s
  have i62 := Nw.is s53 i41
  have i63 := Nw.is s53 i42
  have i64 := Nw.is s53 i43
  have n65 : (aN (wR (aN (wR (aN S x1 11 20) a 1 (some x1)) x19 11 20) a 2 (some x19)) x47 11 20).1.2.2 x1 = 20 := Nw.nn s53 i42.1 n44
  have n66 : (aN (wR (aN (wR (aN S x1 11 20) a 1 (some x1)) x19 11 20) a 2 (some x19)) x47 11 20).1.2.2 x19 = 20 := Nw.nn s53 i43.1 n45
  have w67 : Nw S (aN (wR (aN (wR (aN S x1 11 20) a 1 (some x1)) x19 11 20) a 2 (some x19)) x47 11 20) a ((((([] ++ [(x1, 11, 20)]) ++ []) ++ [(x19, 11, 20)]) ++ []) ++ [(x47, 11, 20)]) := Nw.tr w46 s53 (.inr z49)
  have i68 : Is (aN (wR (aN (wR (aN S x1 11 20) a 1 (some x1)) x19 11 20) a 2 (some x19)) x47 11 20).1 x47 11 := Is_new
  have n69 : (aN (wR (aN (wR (aN S x1 11 20) a 1 (some x1)) x19 11 20) a 2 (some x19)) x47 11 20).1.2.2 x47 = 20 := aN_N
  refine pfX4_18 F T.2.2 i62 dX4_init_25 ?_
  have s70 : Nw (aN (wR (aN (wR (aN S x1 11 20) a 1 (some x1)) x19 11 20) a 2 (some x19)) x47 11 20) (wR (aN (wR (aN (wR (aN S x1 11 20) a 1 (some x1)) x19 11 20) a 2 (some x19)) x47 11 20) a 3 (some x47)) a [] := Nw.wR
  have f71 : pI (wR (aN (wR (aN (wR (aN S x1 11 20) a 1 (some x1)) x19 11 20) a 2 (some x19)) x47 11 20) a 3 (some x47)) x1 = (fun _ => 0) := Nw.I s70 i63.1 (fun e => d4 e.symm) f56
  have f72 : pJ (wR (aN (wR (aN (wR (aN S x1 11 20) a 1 (some x1)) x19 11 20) a 2 (some x19)) x47 11 20) a 3 (some x47)) x1 = (fun _ => 0) := Nw.J s70 i63.1 (fun e => d4 e.symm) f57
  have f73 : pI (wR (aN (wR (aN (wR (aN S x1 11 20) a 1 (some x1)) x19 11 20) a 2 (some x19)) x47 11 20) a 3 (some x47)) x19 = (fun _ => 0) := Nw.I s70 i64.1 (fun e => d22 e.symm) f59
  have f74 : pJ (wR (aN (wR (aN (wR (aN S x1 11 20) a 1 (some x1)) x19 11 20) a 2 (some x19)) x47 11 20) a 3 (some x47)) x19 = (fun _ => 0) := Nw.J s70 i64.1 (fun e => d22 e.symm) f60
  have f75 : pI (wR (aN (wR (aN (wR (aN S x1 11 20) a 1 (some x1)) x19 11 20) a 2 (some x19)) x47 11 20) a 3 (some x47)) x47 = (fun _ => 0) := Nw.I s70 i68.1 (fun e => d50 e.symm) aN_I
  have f76 : pJ (wR (aN (wR (aN (wR (aN S x1 11 20) a 1 (some x1)) x19 11 20) a 2 (some x19)) x47 11 20) a 3 (some x47)) x47 = (fun _ => 0) := Nw.J s70 i68.1 (fun e => d50 e.symm) aN_J
  have i77 := Nw.is s70 i62
  have i78 := Nw.is s70 i63
  have i79 := Nw.is s70 i64
  have i80 := Nw.is s70 i68
  have n81 : (wR (aN (wR (aN (wR (aN S x1 11 20) a 1 (some x1)) x19 11 20) a 2 (some x19)) x47 11 20) a 3 (some x47)).1.2.2 x1 = 20 := Nw.nn s70 i63.1 n65
  have n82 : (wR (aN (wR (aN (wR (aN S x1 11 20) a 1 (some x1)) x19 11 20) a 2 (some x19)) x47 11 20) a 3 (some x47)).1.2.2 x19 = 20 := Nw.nn s70 i64.1 n66
  have n83 : (wR (aN (wR (aN (wR (aN S x1 11 20) a 1 (some x1)) x19 11 20) a 2 (some x19)) x47 11 20) a 3 (some x47)).1.2.2 x47 = 20 := Nw.nn s70 i68.1 n69
  have w84 : Nw S (wR (aN (wR (aN (wR (aN S x1 11 20) a 1 (some x1)) x19 11 20) a 2 (some x19)) x47 11 20) a 3 (some x47)) a (((((([] ++ [(x1, 11, 20)]) ++ []) ++ [(x19, 11, 20)]) ++ []) ++ [(x47, 11, 20)]) ++ []) := Nw.tr w67 s70 (.inl rfl)
  refine g_vret F T ⟨rfl, ?_⟩ (Nat.le_of_ble_eq_true rfl) (Nat.le_of_ble_eq_true rfl) dX4_init_28
  exact ⟨x1, x19, x47, w84, ((up2_k (by decide)).trans f58), ((up2_k (by decide)).trans f61), up2_s, f54, f55⟩
set_option maxHeartbeats 4000000 in
set_option maxRecDepth 100000 in
theorem kX5_init (g : Glo) (S : PS) (a : Nat) (ha : Is S.1 a 5) : Ct g mX5_init 3 36 [.ref a] S (pV9 (fun S' => ∃ x y w, Nw S S' a [(x, 11, 12), (y, 13, 12), (w, 12, 12)] ∧ pR S' a 1 = some x ∧ pR S' a 2 = some y ∧ pR S' a 3 = some w ∧ pI S' a = pI S a ∧ pJ S' a = pJ S a)) := by
  refine Ct.of (by decide) (Nat.le_of_ble_eq_true rfl) (fun Γ hg F T => ?_)
  subst hg
  show G Γ S 0 0 0 [(0, .ref a)] []
  refine g_aload_n (k := 0) F 0 rfl dX5_init_0 ?_
  refine g_objInit F mw60 mw11 mw12 ⟨(Nat.le_of_ble_eq_true rfl), (Nat.le_of_ble_eq_true rfl)⟩ dX5_init_1 ?_
  refine g_aload_n (k := 0) F 0 rfl dX5_init_4 ?_
  refine g_bipush (v := 12) F (by decide) dX5_init_5 ?_
  refine g_newI (N := 12) F mw3 rfl (by decide) ⟨(Nat.le_of_ble_eq_true rfl), (Nat.le_of_ble_eq_true rfl)⟩ dX5_init_7 (fun x1 h2 => ?_)
  have z3 : x1 ∉ pL S := fun h => h2 (Nw.sub (Nw.rf (S := S) (a := a)) h)
  have d4 : a ≠ x1 := fun e => h2 (e ▸ ha.1)
  have s5 : Nw S (aN S x1 11 12) x1 [(x1, 11, 12)] := Nw.new h2
  have f6 : pI (aN S x1 11 12) a = (pI S a) := Nw.I s5 ha.1 d4 rfl
  have f7 : pJ (aN S x1 11 12) a = (pJ S a) := Nw.J s5 ha.1 d4 rfl
  have i8 := Nw.is s5 ha
  have w9 : Nw S (aN S x1 11 12) a ([] ++ [(x1, 11, 12)]) := Nw.tr (Nw.rf (S := S) (a := a)) s5 (.inr z3)
  have i10 : Is (aN S x1 11 12).1 x1 11 := Is_new
  have n11 : (aN S x1 11 12).1.2.2 x1 = 12 := aN_N
  refine pfX5_9 F T.2.2 i8 dX5_init_9 ?_
  have s12 : Nw (aN S x1 11 12) (wR (aN S x1 11 12) a 1 (some x1)) a [] := Nw.wR
  have f13 : pI (wR (aN S x1 11 12) a 1 (some x1)) x1 = (fun _ => 0) := Nw.I s12 i10.1 (fun e => d4 e.symm) aN_I
  have f14 : pJ (wR (aN S x1 11 12) a 1 (some x1)) x1 = (fun _ => 0) := Nw.J s12 i10.1 (fun e => d4 e.symm) aN_J
  have i15 := Nw.is s12 i8
  have i16 := Nw.is s12 i10
  have n17 : (wR (aN S x1 11 12) a 1 (some x1)).1.2.2 x1 = 12 := Nw.nn s12 i10.1 n11
  have w18 : Nw S (wR (aN S x1 11 12) a 1 (some x1)) a (([] ++ [(x1, 11, 12)]) ++ []) := Nw.tr w9 s12 (.inl rfl)
  refine g_aload_n (k := 0) F 0 rfl dX5_init_12 ?_
  refine g_bipush (v := 12) F (by decide) dX5_init_13 ?_
  refine g_newZ (N := 12) F mw62 rfl (by decide) ⟨(Nat.le_of_ble_eq_true rfl), (Nat.le_of_ble_eq_true rfl)⟩ dX5_init_15 (fun x19 h20 => ?_)
  have z21 : x19 ∉ pL S := fun h => h20 (Nw.sub w18 h)
  have d22 : a ≠ x19 := fun e => h20 (e ▸ i15.1)
  have d23 : x1 ≠ x19 := fun e => h20 (e ▸ i16.1)
  have s24 : Nw (wR (aN S x1 11 12) a 1 (some x1)) (aN (wR (aN S x1 11 12) a 1 (some x1)) x19 13 12) x19 [(x19, 13, 12)] := Nw.new h20
  have f25 : pI (aN (wR (aN S x1 11 12) a 1 (some x1)) x19 13 12) a = (pI S a) := Nw.I s24 i15.1 d22 f6
  have f26 : pJ (aN (wR (aN S x1 11 12) a 1 (some x1)) x19 13 12) a = (pJ S a) := Nw.J s24 i15.1 d22 f7
  have f27 : pI (aN (wR (aN S x1 11 12) a 1 (some x1)) x19 13 12) x1 = (fun _ => 0) := Nw.I s24 i16.1 d23 f13
  have f28 : pJ (aN (wR (aN S x1 11 12) a 1 (some x1)) x19 13 12) x1 = (fun _ => 0) := Nw.J s24 i16.1 d23 f14
  have f29 : pR (aN (wR (aN S x1 11 12) a 1 (some x1)) x19 13 12) a 1 = some x1 := Nw.R s24 i15.1 d22 up2_s
  have i30 := Nw.is s24 i15
  have i31 := Nw.is s24 i16
  have n32 : (aN (wR (aN S x1 11 12) a 1 (some x1)) x19 13 12).1.2.2 x1 = 12 := Nw.nn s24 i16.1 n17
  have w33 : Nw S (aN (wR (aN S x1 11 12) a 1 (some x1)) x19 13 12) a ((([] ++ [(x1, 11, 12)]) ++ []) ++ [(x19, 13, 12)]) := Nw.tr w18 s24 (.inr z21)
  have i34 : Is (aN (wR (aN S x1 11 12) a 1 (some x1)) x19 13 12).1 x19 13 := Is_new
  have n35 : (aN (wR (aN S x1 11 12) a 1 (some x1)) x19 13 12).1.2.2 x19 = 12 := aN_N
  refine pfX5_15 F T.2.2 i30 dX5_init_17 ?_
  have s36 : Nw (aN (wR (aN S x1 11 12) a 1 (some x1)) x19 13 12) (wR (aN (wR (aN S x1 11 12) a 1 (some x1)) x19 13 12) a 2 (some x19)) a [] := Nw.wR
  have f37 : pI (wR (aN (wR (aN S x1 11 12) a 1 (some x1)) x19 13 12) a 2 (some x19)) x1 = (fun _ => 0) := Nw.I s36 i31.1 (fun e => d4 e.symm) f27
  have f38 : pJ (wR (aN (wR (aN S x1 11 12) a 1 (some x1)) x19 13 12) a 2 (some x19)) x1 = (fun _ => 0) := Nw.J s36 i31.1 (fun e => d4 e.symm) f28
  have f39 : pI (wR (aN (wR (aN S x1 11 12) a 1 (some x1)) x19 13 12) a 2 (some x19)) x19 = (fun _ => 0) := Nw.I s36 i34.1 (fun e => d22 e.symm) aN_I
  have f40 : pJ (wR (aN (wR (aN S x1 11 12) a 1 (some x1)) x19 13 12) a 2 (some x19)) x19 = (fun _ => 0) := Nw.J s36 i34.1 (fun e => d22 e.symm) aN_J
  have i41 := Nw.is s36 i30
  have i42 := Nw.is s36 i31
  have i43 := Nw.is s36 i34
  have n44 : (wR (aN (wR (aN S x1 11 12) a 1 (some x1)) x19 13 12) a 2 (some x19)).1.2.2 x1 = 12 := Nw.nn s36 i31.1 n32
  have n45 : (wR (aN (wR (aN S x1 11 12) a 1 (some x1)) x19 13 12) a 2 (some x19)).1.2.2 x19 = 12 := Nw.nn s36 i34.1 n35
  have w46 : Nw S (wR (aN (wR (aN S x1 11 12) a 1 (some x1)) x19 13 12) a 2 (some x19)) a (((([] ++ [(x1, 11, 12)]) ++ []) ++ [(x19, 13, 12)]) ++ []) := Nw.tr w33 s36 (.inl rfl)
  refine g_aload_n (k := 0) F 0 rfl dX5_init_20 ?_
  refine g_bipush (v := 12) F (by decide) dX5_init_21 ?_
  refine g_newJ (N := 12) F mw4 rfl (by decide) ⟨(Nat.le_of_ble_eq_true rfl), (Nat.le_of_ble_eq_true rfl)⟩ dX5_init_23 (fun x47 h48 => ?_)
  have z49 : x47 ∉ pL S := fun h => h48 (Nw.sub w46 h)
  have d50 : a ≠ x47 := fun e => h48 (e ▸ i41.1)
  have d51 : x1 ≠ x47 := fun e => h48 (e ▸ i42.1)
  have d52 : x19 ≠ x47 := fun e => h48 (e ▸ i43.1)
  have s53 : Nw (wR (aN (wR (aN S x1 11 12) a 1 (some x1)) x19 13 12) a 2 (some x19)) (aN (wR (aN (wR (aN S x1 11 12) a 1 (some x1)) x19 13 12) a 2 (some x19)) x47 12 12) x47 [(x47, 12, 12)] := Nw.new h48
  have f54 : pI (aN (wR (aN (wR (aN S x1 11 12) a 1 (some x1)) x19 13 12) a 2 (some x19)) x47 12 12) a = (pI S a) := Nw.I s53 i41.1 d50 f25
  have f55 : pJ (aN (wR (aN (wR (aN S x1 11 12) a 1 (some x1)) x19 13 12) a 2 (some x19)) x47 12 12) a = (pJ S a) := Nw.J s53 i41.1 d50 f26
  have f56 : pI (aN (wR (aN (wR (aN S x1 11 12) a 1 (some x1)) x19 13 12) a 2 (some x19)) x47 12 12) x1 = (fun _ => 0) := Nw.I s53 i42.1 d51 f37
  have f57 : pJ (aN (wR (aN (wR (aN S x1 11 12) a 1 (some x1)) x19 13 12) a 2 (some x19)) x47 12 12) x1 = (fun _ => 0) := Nw.J s53 i42.1 d51 f38
  have f58 : pR (aN (wR (aN (wR (aN S x1 11 12) a 1 (some x1)) x19 13 12) a 2 (some x19)) x47 12 12) a 1 = some x1 := Nw.R s53 i41.1 d50 ((up2_k (by decide)).trans f29)
  have f59 : pI (aN (wR (aN (wR (aN S x1 11 12) a 1 (some x1)) x19 13 12) a 2 (some x19)) x47 12 12) x19 = (fun _ => 0) := Nw.I s53 i43.1 d52 f39
  have f60 : pJ (aN (wR (aN (wR (aN S x1 11 12) a 1 (some x1)) x19 13 12) a 2 (some x19)) x47 12 12) x19 = (fun _ => 0) := Nw.J s53 i43.1 d52 f40
  have f61 : pR (aN (wR (aN (wR (aN S x1 11 12) a 1 (some x1)) x19 13 12) a 2 (some x19)) x47 12 12) a 2 = some x19 := Nw.R s53 i41.1 d50 up2_s
  have i62 := Nw.is s53 i41
  have i63 := Nw.is s53 i42
  have i64 := Nw.is s53 i43
  have n65 : (aN (wR (aN (wR (aN S x1 11 12) a 1 (some x1)) x19 13 12) a 2 (some x19)) x47 12 12).1.2.2 x1 = 12 := Nw.nn s53 i42.1 n44
  have n66 : (aN (wR (aN (wR (aN S x1 11 12) a 1 (some x1)) x19 13 12) a 2 (some x19)) x47 12 12).1.2.2 x19 = 12 := Nw.nn s53 i43.1 n45
  have w67 : Nw S (aN (wR (aN (wR (aN S x1 11 12) a 1 (some x1)) x19 13 12) a 2 (some x19)) x47 12 12) a ((((([] ++ [(x1, 11, 12)]) ++ []) ++ [(x19, 13, 12)]) ++ []) ++ [(x47, 12, 12)]) := Nw.tr w46 s53 (.inr z49)
  have i68 : Is (aN (wR (aN (wR (aN S x1 11 12) a 1 (some x1)) x19 13 12) a 2 (some x19)) x47 12 12).1 x47 12 := Is_new
  have n69 : (aN (wR (aN (wR (aN S x1 11 12) a 1 (some x1)) x19 13 12) a 2 (some x19)) x47 12 12).1.2.2 x47 = 12 := aN_N
  refine pfX5_19 F T.2.2 i62 dX5_init_25 ?_
  have s70 : Nw (aN (wR (aN (wR (aN S x1 11 12) a 1 (some x1)) x19 13 12) a 2 (some x19)) x47 12 12) (wR (aN (wR (aN (wR (aN S x1 11 12) a 1 (some x1)) x19 13 12) a 2 (some x19)) x47 12 12) a 3 (some x47)) a [] := Nw.wR
  have f71 : pI (wR (aN (wR (aN (wR (aN S x1 11 12) a 1 (some x1)) x19 13 12) a 2 (some x19)) x47 12 12) a 3 (some x47)) x1 = (fun _ => 0) := Nw.I s70 i63.1 (fun e => d4 e.symm) f56
  have f72 : pJ (wR (aN (wR (aN (wR (aN S x1 11 12) a 1 (some x1)) x19 13 12) a 2 (some x19)) x47 12 12) a 3 (some x47)) x1 = (fun _ => 0) := Nw.J s70 i63.1 (fun e => d4 e.symm) f57
  have f73 : pI (wR (aN (wR (aN (wR (aN S x1 11 12) a 1 (some x1)) x19 13 12) a 2 (some x19)) x47 12 12) a 3 (some x47)) x19 = (fun _ => 0) := Nw.I s70 i64.1 (fun e => d22 e.symm) f59
  have f74 : pJ (wR (aN (wR (aN (wR (aN S x1 11 12) a 1 (some x1)) x19 13 12) a 2 (some x19)) x47 12 12) a 3 (some x47)) x19 = (fun _ => 0) := Nw.J s70 i64.1 (fun e => d22 e.symm) f60
  have f75 : pI (wR (aN (wR (aN (wR (aN S x1 11 12) a 1 (some x1)) x19 13 12) a 2 (some x19)) x47 12 12) a 3 (some x47)) x47 = (fun _ => 0) := Nw.I s70 i68.1 (fun e => d50 e.symm) aN_I
  have f76 : pJ (wR (aN (wR (aN (wR (aN S x1 11 12) a 1 (some x1)) x19 13 12) a 2 (some x19)) x47 12 12) a 3 (some x47)) x47 = (fun _ => 0) := Nw.J s70 i68.1 (fun e => d50 e.symm) aN_J
  have i77 := Nw.is s70 i62
  have i78 := Nw.is s70 i63
  have i79 := Nw.is s70 i64
  have i80 := Nw.is s70 i68
  have n81 : (wR (aN (wR (aN (wR (aN S x1 11 12) a 1 (some x1)) x19 13 12) a 2 (some x19)) x47 12 12) a 3 (some x47)).1.2.2 x1 = 12 := Nw.nn s70 i63.1 n65
  have n82 : (wR (aN (wR (aN (wR (aN S x1 11 12) a 1 (some x1)) x19 13 12) a 2 (some x19)) x47 12 12) a 3 (some x47)).1.2.2 x19 = 12 := Nw.nn s70 i64.1 n66
  have n83 : (wR (aN (wR (aN (wR (aN S x1 11 12) a 1 (some x1)) x19 13 12) a 2 (some x19)) x47 12 12) a 3 (some x47)).1.2.2 x47 = 12 := Nw.nn s70 i68.1 n69
  have w84 : Nw S (wR (aN (wR (aN (wR (aN S x1 11 12) a 1 (some x1)) x19 13 12) a 2 (some x19)) x47 12 12) a 3 (some x47)) a (((((([] ++ [(x1, 11, 12)]) ++ []) ++ [(x19, 13, 12)]) ++ []) ++ [(x47, 12, 12)]) ++ []) := Nw.tr w67 s70 (.inl rfl)
  refine g_vret F T ⟨rfl, ?_⟩ (Nat.le_of_ble_eq_true rfl) (Nat.le_of_ble_eq_true rfl) dX5_init_28
  exact ⟨x1, x19, x47, w84, ((up2_k (by decide)).trans f58), ((up2_k (by decide)).trans f61), up2_s, f54, f55⟩
set_option maxHeartbeats 4000000 in
set_option maxRecDepth 100000 in
theorem kX3_init (g : Glo) (S : PS) (a : Nat) (ha : Is S.1 a 3) : Ct g mX3_init 3 36 [.ref a] S (pV9 (fun S' => ∃ x y w, Nw S S' a [(x, 12, 12), (y, 12, 12), (w, 13, 12)] ∧ pR S' a 0 = some x ∧ pR S' a 1 = some y ∧ pR S' a 2 = some w ∧ pI S' a = pI S a ∧ pJ S' a = pJ S a)) := by
  refine Ct.of (by decide) (Nat.le_of_ble_eq_true rfl) (fun Γ hg F T => ?_)
  subst hg
  show G Γ S 0 0 0 [(0, .ref a)] []
  refine g_aload_n (k := 0) F 0 rfl dX3_init_0 ?_
  refine g_objInit F mw89 mw11 mw12 ⟨(Nat.le_of_ble_eq_true rfl), (Nat.le_of_ble_eq_true rfl)⟩ dX3_init_1 ?_
  refine g_aload_n (k := 0) F 0 rfl dX3_init_4 ?_
  refine g_bipush (v := 12) F (by decide) dX3_init_5 ?_
  refine g_newJ (N := 12) F mw4 rfl (by decide) ⟨(Nat.le_of_ble_eq_true rfl), (Nat.le_of_ble_eq_true rfl)⟩ dX3_init_7 (fun x1 h2 => ?_)
  have z3 : x1 ∉ pL S := fun h => h2 (Nw.sub (Nw.rf (S := S) (a := a)) h)
  have d4 : a ≠ x1 := fun e => h2 (e ▸ ha.1)
  have s5 : Nw S (aN S x1 12 12) x1 [(x1, 12, 12)] := Nw.new h2
  have f6 : pI (aN S x1 12 12) a = (pI S a) := Nw.I s5 ha.1 d4 rfl
  have f7 : pJ (aN S x1 12 12) a = (pJ S a) := Nw.J s5 ha.1 d4 rfl
  have i8 := Nw.is s5 ha
  have w9 : Nw S (aN S x1 12 12) a ([] ++ [(x1, 12, 12)]) := Nw.tr (Nw.rf (S := S) (a := a)) s5 (.inr z3)
  have i10 : Is (aN S x1 12 12).1 x1 12 := Is_new
  have n11 : (aN S x1 12 12).1.2.2 x1 = 12 := aN_N
  refine pfX3_9 F T.2.2 i8 dX3_init_9 ?_
  have s12 : Nw (aN S x1 12 12) (wR (aN S x1 12 12) a 0 (some x1)) a [] := Nw.wR
  have f13 : pI (wR (aN S x1 12 12) a 0 (some x1)) x1 = (fun _ => 0) := Nw.I s12 i10.1 (fun e => d4 e.symm) aN_I
  have f14 : pJ (wR (aN S x1 12 12) a 0 (some x1)) x1 = (fun _ => 0) := Nw.J s12 i10.1 (fun e => d4 e.symm) aN_J
  have i15 := Nw.is s12 i8
  have i16 := Nw.is s12 i10
  have n17 : (wR (aN S x1 12 12) a 0 (some x1)).1.2.2 x1 = 12 := Nw.nn s12 i10.1 n11
  have w18 : Nw S (wR (aN S x1 12 12) a 0 (some x1)) a (([] ++ [(x1, 12, 12)]) ++ []) := Nw.tr w9 s12 (.inl rfl)
  refine g_aload_n (k := 0) F 0 rfl dX3_init_12 ?_
  refine g_bipush (v := 12) F (by decide) dX3_init_13 ?_
  refine g_newJ (N := 12) F mw4 rfl (by decide) ⟨(Nat.le_of_ble_eq_true rfl), (Nat.le_of_ble_eq_true rfl)⟩ dX3_init_15 (fun x19 h20 => ?_)
  have z21 : x19 ∉ pL S := fun h => h20 (Nw.sub w18 h)
  have d22 : a ≠ x19 := fun e => h20 (e ▸ i15.1)
  have d23 : x1 ≠ x19 := fun e => h20 (e ▸ i16.1)
  have s24 : Nw (wR (aN S x1 12 12) a 0 (some x1)) (aN (wR (aN S x1 12 12) a 0 (some x1)) x19 12 12) x19 [(x19, 12, 12)] := Nw.new h20
  have f25 : pI (aN (wR (aN S x1 12 12) a 0 (some x1)) x19 12 12) a = (pI S a) := Nw.I s24 i15.1 d22 f6
  have f26 : pJ (aN (wR (aN S x1 12 12) a 0 (some x1)) x19 12 12) a = (pJ S a) := Nw.J s24 i15.1 d22 f7
  have f27 : pI (aN (wR (aN S x1 12 12) a 0 (some x1)) x19 12 12) x1 = (fun _ => 0) := Nw.I s24 i16.1 d23 f13
  have f28 : pJ (aN (wR (aN S x1 12 12) a 0 (some x1)) x19 12 12) x1 = (fun _ => 0) := Nw.J s24 i16.1 d23 f14
  have f29 : pR (aN (wR (aN S x1 12 12) a 0 (some x1)) x19 12 12) a 0 = some x1 := Nw.R s24 i15.1 d22 up2_s
  have i30 := Nw.is s24 i15
  have i31 := Nw.is s24 i16
  have n32 : (aN (wR (aN S x1 12 12) a 0 (some x1)) x19 12 12).1.2.2 x1 = 12 := Nw.nn s24 i16.1 n17
  have w33 : Nw S (aN (wR (aN S x1 12 12) a 0 (some x1)) x19 12 12) a ((([] ++ [(x1, 12, 12)]) ++ []) ++ [(x19, 12, 12)]) := Nw.tr w18 s24 (.inr z21)
  have i34 : Is (aN (wR (aN S x1 12 12) a 0 (some x1)) x19 12 12).1 x19 12 := Is_new
  have n35 : (aN (wR (aN S x1 12 12) a 0 (some x1)) x19 12 12).1.2.2 x19 = 12 := aN_N
  refine pfX3_15 F T.2.2 i30 dX3_init_17 ?_
  have s36 : Nw (aN (wR (aN S x1 12 12) a 0 (some x1)) x19 12 12) (wR (aN (wR (aN S x1 12 12) a 0 (some x1)) x19 12 12) a 1 (some x19)) a [] := Nw.wR
  have f37 : pI (wR (aN (wR (aN S x1 12 12) a 0 (some x1)) x19 12 12) a 1 (some x19)) x1 = (fun _ => 0) := Nw.I s36 i31.1 (fun e => d4 e.symm) f27
  have f38 : pJ (wR (aN (wR (aN S x1 12 12) a 0 (some x1)) x19 12 12) a 1 (some x19)) x1 = (fun _ => 0) := Nw.J s36 i31.1 (fun e => d4 e.symm) f28
  have f39 : pI (wR (aN (wR (aN S x1 12 12) a 0 (some x1)) x19 12 12) a 1 (some x19)) x19 = (fun _ => 0) := Nw.I s36 i34.1 (fun e => d22 e.symm) aN_I
  have f40 : pJ (wR (aN (wR (aN S x1 12 12) a 0 (some x1)) x19 12 12) a 1 (some x19)) x19 = (fun _ => 0) := Nw.J s36 i34.1 (fun e => d22 e.symm) aN_J
  have i41 := Nw.is s36 i30
  have i42 := Nw.is s36 i31
  have i43 := Nw.is s36 i34
  have n44 : (wR (aN (wR (aN S x1 12 12) a 0 (some x1)) x19 12 12) a 1 (some x19)).1.2.2 x1 = 12 := Nw.nn s36 i31.1 n32
  have n45 : (wR (aN (wR (aN S x1 12 12) a 0 (some x1)) x19 12 12) a 1 (some x19)).1.2.2 x19 = 12 := Nw.nn s36 i34.1 n35
  have w46 : Nw S (wR (aN (wR (aN S x1 12 12) a 0 (some x1)) x19 12 12) a 1 (some x19)) a (((([] ++ [(x1, 12, 12)]) ++ []) ++ [(x19, 12, 12)]) ++ []) := Nw.tr w33 s36 (.inl rfl)
  refine g_aload_n (k := 0) F 0 rfl dX3_init_20 ?_
  refine g_bipush (v := 12) F (by decide) dX3_init_21 ?_
  refine g_newZ (N := 12) F mw62 rfl (by decide) ⟨(Nat.le_of_ble_eq_true rfl), (Nat.le_of_ble_eq_true rfl)⟩ dX3_init_23 (fun x47 h48 => ?_)
  have z49 : x47 ∉ pL S := fun h => h48 (Nw.sub w46 h)
  have d50 : a ≠ x47 := fun e => h48 (e ▸ i41.1)
  have d51 : x1 ≠ x47 := fun e => h48 (e ▸ i42.1)
  have d52 : x19 ≠ x47 := fun e => h48 (e ▸ i43.1)
  have s53 : Nw (wR (aN (wR (aN S x1 12 12) a 0 (some x1)) x19 12 12) a 1 (some x19)) (aN (wR (aN (wR (aN S x1 12 12) a 0 (some x1)) x19 12 12) a 1 (some x19)) x47 13 12) x47 [(x47, 13, 12)] := Nw.new h48
  have f54 : pI (aN (wR (aN (wR (aN S x1 12 12) a 0 (some x1)) x19 12 12) a 1 (some x19)) x47 13 12) a = (pI S a) := Nw.I s53 i41.1 d50 f25
  have f55 : pJ (aN (wR (aN (wR (aN S x1 12 12) a 0 (some x1)) x19 12 12) a 1 (some x19)) x47 13 12) a = (pJ S a) := Nw.J s53 i41.1 d50 f26
  have f56 : pI (aN (wR (aN (wR (aN S x1 12 12) a 0 (some x1)) x19 12 12) a 1 (some x19)) x47 13 12) x1 = (fun _ => 0) := Nw.I s53 i42.1 d51 f37
  have f57 : pJ (aN (wR (aN (wR (aN S x1 12 12) a 0 (some x1)) x19 12 12) a 1 (some x19)) x47 13 12) x1 = (fun _ => 0) := Nw.J s53 i42.1 d51 f38
  have f58 : pR (aN (wR (aN (wR (aN S x1 12 12) a 0 (some x1)) x19 12 12) a 1 (some x19)) x47 13 12) a 0 = some x1 := Nw.R s53 i41.1 d50 ((up2_k (by decide)).trans f29)
  have f59 : pI (aN (wR (aN (wR (aN S x1 12 12) a 0 (some x1)) x19 12 12) a 1 (some x19)) x47 13 12) x19 = (fun _ => 0) := Nw.I s53 i43.1 d52 f39
  have f60 : pJ (aN (wR (aN (wR (aN S x1 12 12) a 0 (some x1)) x19 12 12) a 1 (some x19)) x47 13 12) x19 = (fun _ => 0) := Nw.J s53 i43.1 d52 f40
  have f61 : pR (aN (wR (aN (wR (aN S x1 12 12) a 0 (some x1)) x19 12 12) a 1 (some x19)) x47 13 12) a 1 = some x19 := Nw.R s53 i41.1 d50 up2_s
  have i62 := Nw.is s53 i41
  have i63 := Nw.is s53 i42
  have i64 := Nw.is s53 i43
  have n65 : (aN (wR (aN (wR (aN S x1 12 12) a 0 (some x1)) x19 12 12) a 1 (some x19)) x47 13 12).1.2.2 x1 = 12 := Nw.nn s53 i42.1 n44
  have n66 : (aN (wR (aN (wR (aN S x1 12 12) a 0 (some x1)) x19 12 12) a 1 (some x19)) x47 13 12).1.2.2 x19 = 12 := Nw.nn s53 i43.1 n45
  have w67 : Nw S (aN (wR (aN (wR (aN S x1 12 12) a 0 (some x1)) x19 12 12) a 1 (some x19)) x47 13 12) a ((((([] ++ [(x1, 12, 12)]) ++ []) ++ [(x19, 12, 12)]) ++ []) ++ [(x47, 13, 12)]) := Nw.tr w46 s53 (.inr z49)
  have i68 : Is (aN (wR (aN (wR (aN S x1 12 12) a 0 (some x1)) x19 12 12) a 1 (some x19)) x47 13 12).1 x47 13 := Is_new
  have n69 : (aN (wR (aN (wR (aN S x1 12 12) a 0 (some x1)) x19 12 12) a 1 (some x19)) x47 13 12).1.2.2 x47 = 12 := aN_N
  refine pfX3_18 F T.2.2 i62 dX3_init_25 ?_
  have s70 : Nw (aN (wR (aN (wR (aN S x1 12 12) a 0 (some x1)) x19 12 12) a 1 (some x19)) x47 13 12) (wR (aN (wR (aN (wR (aN S x1 12 12) a 0 (some x1)) x19 12 12) a 1 (some x19)) x47 13 12) a 2 (some x47)) a [] := Nw.wR
  have f71 : pI (wR (aN (wR (aN (wR (aN S x1 12 12) a 0 (some x1)) x19 12 12) a 1 (some x19)) x47 13 12) a 2 (some x47)) x1 = (fun _ => 0) := Nw.I s70 i63.1 (fun e => d4 e.symm) f56
  have f72 : pJ (wR (aN (wR (aN (wR (aN S x1 12 12) a 0 (some x1)) x19 12 12) a 1 (some x19)) x47 13 12) a 2 (some x47)) x1 = (fun _ => 0) := Nw.J s70 i63.1 (fun e => d4 e.symm) f57
  have f73 : pI (wR (aN (wR (aN (wR (aN S x1 12 12) a 0 (some x1)) x19 12 12) a 1 (some x19)) x47 13 12) a 2 (some x47)) x19 = (fun _ => 0) := Nw.I s70 i64.1 (fun e => d22 e.symm) f59
  have f74 : pJ (wR (aN (wR (aN (wR (aN S x1 12 12) a 0 (some x1)) x19 12 12) a 1 (some x19)) x47 13 12) a 2 (some x47)) x19 = (fun _ => 0) := Nw.J s70 i64.1 (fun e => d22 e.symm) f60
  have f75 : pI (wR (aN (wR (aN (wR (aN S x1 12 12) a 0 (some x1)) x19 12 12) a 1 (some x19)) x47 13 12) a 2 (some x47)) x47 = (fun _ => 0) := Nw.I s70 i68.1 (fun e => d50 e.symm) aN_I
  have f76 : pJ (wR (aN (wR (aN (wR (aN S x1 12 12) a 0 (some x1)) x19 12 12) a 1 (some x19)) x47 13 12) a 2 (some x47)) x47 = (fun _ => 0) := Nw.J s70 i68.1 (fun e => d50 e.symm) aN_J
  have i77 := Nw.is s70 i62
  have i78 := Nw.is s70 i63
  have i79 := Nw.is s70 i64
  have i80 := Nw.is s70 i68
  have n81 : (wR (aN (wR (aN (wR (aN S x1 12 12) a 0 (some x1)) x19 12 12) a 1 (some x19)) x47 13 12) a 2 (some x47)).1.2.2 x1 = 12 := Nw.nn s70 i63.1 n65
  have n82 : (wR (aN (wR (aN (wR (aN S x1 12 12) a 0 (some x1)) x19 12 12) a 1 (some x19)) x47 13 12) a 2 (some x47)).1.2.2 x19 = 12 := Nw.nn s70 i64.1 n66
  have n83 : (wR (aN (wR (aN (wR (aN S x1 12 12) a 0 (some x1)) x19 12 12) a 1 (some x19)) x47 13 12) a 2 (some x47)).1.2.2 x47 = 12 := Nw.nn s70 i68.1 n69
  have w84 : Nw S (wR (aN (wR (aN (wR (aN S x1 12 12) a 0 (some x1)) x19 12 12) a 1 (some x19)) x47 13 12) a 2 (some x47)) a (((((([] ++ [(x1, 12, 12)]) ++ []) ++ [(x19, 12, 12)]) ++ []) ++ [(x47, 13, 12)]) ++ []) := Nw.tr w67 s70 (.inl rfl)
  refine g_vret F T ⟨rfl, ?_⟩ (Nat.le_of_ble_eq_true rfl) (Nat.le_of_ble_eq_true rfl) dX3_init_28
  exact ⟨x1, x19, x47, w84, ((up2_k (by decide)).trans f58), ((up2_k (by decide)).trans f61), up2_s, f54, f55⟩
set_option maxHeartbeats 4000000 in
set_option maxRecDepth 100000 in
theorem kX7_init (g : Glo) (S : PS) (a : Nat) (ha : Is S.1 a 7) : Ct g mX7_init 2 40 [.ref a] S (pV9 (fun S' => ∃ x y, Nw S S' a [(x, 11, 20), (y, 11, 20)] ∧ pR S' a 0 = some x ∧ pR S' a 1 = some y ∧ pI S' a = pI S a ∧ pJ S' a = pJ S a)) := by
  refine Ct.of (by decide) (Nat.le_of_ble_eq_true rfl) (fun Γ hg F T => ?_)
  subst hg
  show G Γ S 0 0 0 [(0, .ref a)] []
  refine g_aload_n (k := 0) F 0 rfl dX7_init_0 ?_
  refine g_objInit F mw95 mw11 mw12 ⟨(Nat.le_of_ble_eq_true rfl), (Nat.le_of_ble_eq_true rfl)⟩ dX7_init_1 ?_
  refine g_aload_n (k := 0) F 0 rfl dX7_init_4 ?_
  refine g_bipush (v := 20) F (by decide) dX7_init_5 ?_
  refine g_newI (N := 20) F mw3 rfl (by decide) ⟨(Nat.le_of_ble_eq_true rfl), (Nat.le_of_ble_eq_true rfl)⟩ dX7_init_7 (fun x1 h2 => ?_)
  have z3 : x1 ∉ pL S := fun h => h2 (Nw.sub (Nw.rf (S := S) (a := a)) h)
  have d4 : a ≠ x1 := fun e => h2 (e ▸ ha.1)
  have s5 : Nw S (aN S x1 11 20) x1 [(x1, 11, 20)] := Nw.new h2
  have f6 : pI (aN S x1 11 20) a = (pI S a) := Nw.I s5 ha.1 d4 rfl
  have f7 : pJ (aN S x1 11 20) a = (pJ S a) := Nw.J s5 ha.1 d4 rfl
  have i8 := Nw.is s5 ha
  have w9 : Nw S (aN S x1 11 20) a ([] ++ [(x1, 11, 20)]) := Nw.tr (Nw.rf (S := S) (a := a)) s5 (.inr z3)
  have i10 : Is (aN S x1 11 20).1 x1 11 := Is_new
  have n11 : (aN S x1 11 20).1.2.2 x1 = 20 := aN_N
  refine pfX7_9 F T.2.2 i8 dX7_init_9 ?_
  have s12 : Nw (aN S x1 11 20) (wR (aN S x1 11 20) a 0 (some x1)) a [] := Nw.wR
  have f13 : pI (wR (aN S x1 11 20) a 0 (some x1)) x1 = (fun _ => 0) := Nw.I s12 i10.1 (fun e => d4 e.symm) aN_I
  have f14 : pJ (wR (aN S x1 11 20) a 0 (some x1)) x1 = (fun _ => 0) := Nw.J s12 i10.1 (fun e => d4 e.symm) aN_J
  have i15 := Nw.is s12 i8
  have i16 := Nw.is s12 i10
  have n17 : (wR (aN S x1 11 20) a 0 (some x1)).1.2.2 x1 = 20 := Nw.nn s12 i10.1 n11
  have w18 : Nw S (wR (aN S x1 11 20) a 0 (some x1)) a (([] ++ [(x1, 11, 20)]) ++ []) := Nw.tr w9 s12 (.inl rfl)
  refine g_aload_n (k := 0) F 0 rfl dX7_init_12 ?_
  refine g_bipush (v := 20) F (by decide) dX7_init_13 ?_
  refine g_newI (N := 20) F mw3 rfl (by decide) ⟨(Nat.le_of_ble_eq_true rfl), (Nat.le_of_ble_eq_true rfl)⟩ dX7_init_15 (fun x19 h20 => ?_)
  have z21 : x19 ∉ pL S := fun h => h20 (Nw.sub w18 h)
  have d22 : a ≠ x19 := fun e => h20 (e ▸ i15.1)
  have d23 : x1 ≠ x19 := fun e => h20 (e ▸ i16.1)
  have s24 : Nw (wR (aN S x1 11 20) a 0 (some x1)) (aN (wR (aN S x1 11 20) a 0 (some x1)) x19 11 20) x19 [(x19, 11, 20)] := Nw.new h20
  have f25 : pI (aN (wR (aN S x1 11 20) a 0 (some x1)) x19 11 20) a = (pI S a) := Nw.I s24 i15.1 d22 f6
  have f26 : pJ (aN (wR (aN S x1 11 20) a 0 (some x1)) x19 11 20) a = (pJ S a) := Nw.J s24 i15.1 d22 f7
  have f27 : pI (aN (wR (aN S x1 11 20) a 0 (some x1)) x19 11 20) x1 = (fun _ => 0) := Nw.I s24 i16.1 d23 f13
  have f28 : pJ (aN (wR (aN S x1 11 20) a 0 (some x1)) x19 11 20) x1 = (fun _ => 0) := Nw.J s24 i16.1 d23 f14
  have f29 : pR (aN (wR (aN S x1 11 20) a 0 (some x1)) x19 11 20) a 0 = some x1 := Nw.R s24 i15.1 d22 up2_s
  have i30 := Nw.is s24 i15
  have i31 := Nw.is s24 i16
  have n32 : (aN (wR (aN S x1 11 20) a 0 (some x1)) x19 11 20).1.2.2 x1 = 20 := Nw.nn s24 i16.1 n17
  have w33 : Nw S (aN (wR (aN S x1 11 20) a 0 (some x1)) x19 11 20) a ((([] ++ [(x1, 11, 20)]) ++ []) ++ [(x19, 11, 20)]) := Nw.tr w18 s24 (.inr z21)
  have i34 : Is (aN (wR (aN S x1 11 20) a 0 (some x1)) x19 11 20).1 x19 11 := Is_new
  have n35 : (aN (wR (aN S x1 11 20) a 0 (some x1)) x19 11 20).1.2.2 x19 = 20 := aN_N
  refine pfX7_15 F T.2.2 i30 dX7_init_17 ?_
  have s36 : Nw (aN (wR (aN S x1 11 20) a 0 (some x1)) x19 11 20) (wR (aN (wR (aN S x1 11 20) a 0 (some x1)) x19 11 20) a 1 (some x19)) a [] := Nw.wR
  have f37 : pI (wR (aN (wR (aN S x1 11 20) a 0 (some x1)) x19 11 20) a 1 (some x19)) x1 = (fun _ => 0) := Nw.I s36 i31.1 (fun e => d4 e.symm) f27
  have f38 : pJ (wR (aN (wR (aN S x1 11 20) a 0 (some x1)) x19 11 20) a 1 (some x19)) x1 = (fun _ => 0) := Nw.J s36 i31.1 (fun e => d4 e.symm) f28
  have f39 : pI (wR (aN (wR (aN S x1 11 20) a 0 (some x1)) x19 11 20) a 1 (some x19)) x19 = (fun _ => 0) := Nw.I s36 i34.1 (fun e => d22 e.symm) aN_I
  have f40 : pJ (wR (aN (wR (aN S x1 11 20) a 0 (some x1)) x19 11 20) a 1 (some x19)) x19 = (fun _ => 0) := Nw.J s36 i34.1 (fun e => d22 e.symm) aN_J
  have i41 := Nw.is s36 i30
  have i42 := Nw.is s36 i31
  have i43 := Nw.is s36 i34
  have n44 : (wR (aN (wR (aN S x1 11 20) a 0 (some x1)) x19 11 20) a 1 (some x19)).1.2.2 x1 = 20 := Nw.nn s36 i31.1 n32
  have n45 : (wR (aN (wR (aN S x1 11 20) a 0 (some x1)) x19 11 20) a 1 (some x19)).1.2.2 x19 = 20 := Nw.nn s36 i34.1 n35
  have w46 : Nw S (wR (aN (wR (aN S x1 11 20) a 0 (some x1)) x19 11 20) a 1 (some x19)) a (((([] ++ [(x1, 11, 20)]) ++ []) ++ [(x19, 11, 20)]) ++ []) := Nw.tr w33 s36 (.inl rfl)
  refine g_vret F T ⟨rfl, ?_⟩ (Nat.le_of_ble_eq_true rfl) (Nat.le_of_ble_eq_true rfl) dX7_init_20
  exact ⟨x1, x19, w46, ((up2_k (by decide)).trans f29), up2_s, f25, f26⟩
set_option maxHeartbeats 4000000 in
set_option maxRecDepth 100000 in
theorem kX0_init (g : Glo) (S : PS) (a : Nat) (ha : Is S.1 a 0) : Ct g mX0_init 0 0 [.ref a] S (pV9 (fun S' => Nw S S' a [] ∧ pI S' a = pI S a ∧ pJ S' a = pJ S a)) := by
  refine Ct.of (by decide) (Nat.le_of_ble_eq_true rfl) (fun Γ hg F T => ?_)
  subst hg
  show G Γ S 0 0 0 [(0, .ref a)] []
  refine g_aload_n (k := 0) F 0 rfl dX0_init_0 ?_
  refine g_objInit F mw83 mw11 mw12 ⟨(Nat.le_of_ble_eq_true rfl), (Nat.le_of_ble_eq_true rfl)⟩ dX0_init_1 ?_
  refine g_vret F T ⟨rfl, ?_⟩ (Nat.le_of_ble_eq_true rfl) (Nat.le_of_ble_eq_true rfl) dX0_init_4
  exact ⟨(Nw.rf (S := S) (a := a)), rfl, rfl⟩
set_option maxHeartbeats 4000000 in
set_option maxRecDepth 100000 in
theorem kX8_init (g : Glo) (S : PS) (a : Nat) (ha : Is S.1 a 8) : Ct g mX8_init 0 0 [.ref a] S (pV9 (fun S' => Nw S S' a [] ∧ pI S' a = pI S a ∧ pJ S' a = pJ S a)) := by
  refine Ct.of (by decide) (Nat.le_of_ble_eq_true rfl) (fun Γ hg F T => ?_)
  subst hg
  show G Γ S 0 0 0 [(0, .ref a)] []
  refine g_aload_n (k := 0) F 0 rfl dX8_init_0 ?_
  refine g_objInit F mw86 mw11 mw12 ⟨(Nat.le_of_ble_eq_true rfl), (Nat.le_of_ble_eq_true rfl)⟩ dX8_init_1 ?_
  refine g_vret F T ⟨rfl, ?_⟩ (Nat.le_of_ble_eq_true rfl) (Nat.le_of_ble_eq_true rfl) dX8_init_4
  exact ⟨(Nw.rf (S := S) (a := a)), rfl, rfl⟩
set_option maxHeartbeats 4000000 in
set_option maxRecDepth 100000 in
theorem kX6_init (g : Glo) (S : PS) (a : Nat) (ha : Is S.1 a 6) (hz : pI S a = fun _ => 0) : Ct g mX6_init 9 109 [.ref a] S (pV9 (fun S' => ∃ f : Nat → Nat, Nw S S' a (stl f) ∧ f 0 = a ∧ St0 S' f)) := by
  refine Ct.of (by decide) (Nat.le_of_ble_eq_true rfl) (fun Γ hg F T => ?_)
  subst hg
  show G Γ S 0 0 0 [(0, .ref a)] []
  refine g_aload_n (k := 0) F 0 rfl dX6_init_0 ?_
  refine g_objInit F mw37 mw11 mw12 ⟨(Nat.le_of_ble_eq_true rfl), (Nat.le_of_ble_eq_true rfl)⟩ dX6_init_1 ?_
  refine g_aload_n (k := 0) F 0 rfl dX6_init_4 ?_
  refine g_sipush (v := 200) F (by decide) dX6_init_5 ?_
  refine pfX6_9 F ha dX6_init_8 ?_
  have s1 : Nw S (wI S a 2 200) a [] := Nw.wI
  have i2 := Nw.is s1 ha
  have w3 : Nw S (wI S a 2 200) a ([] ++ []) := Nw.tr (Nw.rf (S := S) (a := a)) s1 (.inl rfl)
  refine g_aload_n (k := 0) F 0 rfl dX6_init_11 ?_
  refine g_iconst (v := 5) F (by decide) dX6_init_12 ?_
  refine g_newI (N := 5) F mw3 rfl (by decide) ⟨(Nat.le_of_ble_eq_true rfl), (Nat.le_of_ble_eq_true rfl)⟩ dX6_init_13 (fun x4 h5 => ?_)
  have z6 : x4 ∉ pL S := fun h => h5 (Nw.sub w3 h)
  have d7 : a ≠ x4 := fun e => h5 (e ▸ i2.1)
  have s8 : Nw (wI S a 2 200) (aN (wI S a 2 200) x4 11 5) x4 [(x4, 11, 5)] := Nw.new h5
  have f9 : pI (aN (wI S a 2 200) x4 11 5) a 0 = 0 := (congrFun (Nw.I s8 i2.1 d7 rfl) 0).trans ((up2_k (by decide)).trans (congrFun hz 0))
  have f10 : pI (aN (wI S a 2 200) x4 11 5) a 1 = 0 := (congrFun (Nw.I s8 i2.1 d7 rfl) 1).trans ((up2_k (by decide)).trans (congrFun hz 1))
  have f11 : pI (aN (wI S a 2 200) x4 11 5) a 3 = 0 := (congrFun (Nw.I s8 i2.1 d7 rfl) 3).trans ((up2_k (by decide)).trans (congrFun hz 3))
  have f12 : pI (aN (wI S a 2 200) x4 11 5) a 4 = 0 := (congrFun (Nw.I s8 i2.1 d7 rfl) 4).trans ((up2_k (by decide)).trans (congrFun hz 4))
  have f13 : pI (aN (wI S a 2 200) x4 11 5) a 5 = 0 := (congrFun (Nw.I s8 i2.1 d7 rfl) 5).trans ((up2_k (by decide)).trans (congrFun hz 5))
  have f14 : pI (aN (wI S a 2 200) x4 11 5) a 2 = 200 := (congrFun (Nw.I s8 i2.1 d7 rfl) 2).trans up2_s
  have i15 := Nw.is s8 i2
  have w16 : Nw S (aN (wI S a 2 200) x4 11 5) a (([] ++ []) ++ [(x4, 11, 5)]) := Nw.tr w3 s8 (.inr z6)
  have i17 : Is (aN (wI S a 2 200) x4 11 5).1 x4 11 := Is_new
  have n18 : (aN (wI S a 2 200) x4 11 5).1.2.2 x4 = 5 := aN_N
  refine pfX6_15 F T.2.2 i15 dX6_init_15 ?_
  have s19 : Nw (aN (wI S a 2 200) x4 11 5) (wR (aN (wI S a 2 200) x4 11 5) a 3 (some x4)) a [] := Nw.wR
  have f20 : pI (wR (aN (wI S a 2 200) x4 11 5) a 3 (some x4)) x4 = (fun _ => 0) := Nw.I s19 i17.1 (fun e => d7 e.symm) aN_I
  have f21 : pJ (wR (aN (wI S a 2 200) x4 11 5) a 3 (some x4)) x4 = (fun _ => 0) := Nw.J s19 i17.1 (fun e => d7 e.symm) aN_J
  have i22 := Nw.is s19 i15
  have i23 := Nw.is s19 i17
  have n24 : (wR (aN (wI S a 2 200) x4 11 5) a 3 (some x4)).1.2.2 x4 = 5 := Nw.nn s19 i17.1 n18
  have w25 : Nw S (wR (aN (wI S a 2 200) x4 11 5) a 3 (some x4)) a ((([] ++ []) ++ [(x4, 11, 5)]) ++ []) := Nw.tr w16 s19 (.inl rfl)
  refine g_aload_n (k := 0) F 0 rfl dX6_init_18 ?_
  refine g_new (ci := 4) F clX4 (fun k hk => (nwX4 k hk).1) mw40 mw41 mw42 (fun k hk => (nwX4 k hk).2) ⟨(Nat.le_of_ble_eq_true rfl), (Nat.le_of_ble_eq_true rfl)⟩ dX6_init_19 (fun x26 h27 => ?_)
  have z28 : x26 ∉ pL S := fun h => h27 (Nw.sub w25 h)
  have d29 : a ≠ x26 := fun e => h27 (e ▸ i22.1)
  have d30 : x4 ≠ x26 := fun e => h27 (e ▸ i23.1)
  have s31 : Nw (wR (aN (wI S a 2 200) x4 11 5) a 3 (some x4)) (aN (wR (aN (wI S a 2 200) x4 11 5) a 3 (some x4)) x26 4 0) x26 [(x26, 4, 0)] := Nw.new h27
  have f32 : pI (aN (wR (aN (wI S a 2 200) x4 11 5) a 3 (some x4)) x26 4 0) a 0 = 0 := (congrFun (Nw.I s31 i22.1 d29 rfl) 0).trans f9
  have f33 : pI (aN (wR (aN (wI S a 2 200) x4 11 5) a 3 (some x4)) x26 4 0) a 1 = 0 := (congrFun (Nw.I s31 i22.1 d29 rfl) 1).trans f10
  have f34 : pI (aN (wR (aN (wI S a 2 200) x4 11 5) a 3 (some x4)) x26 4 0) a 3 = 0 := (congrFun (Nw.I s31 i22.1 d29 rfl) 3).trans f11
  have f35 : pI (aN (wR (aN (wI S a 2 200) x4 11 5) a 3 (some x4)) x26 4 0) a 4 = 0 := (congrFun (Nw.I s31 i22.1 d29 rfl) 4).trans f12
  have f36 : pI (aN (wR (aN (wI S a 2 200) x4 11 5) a 3 (some x4)) x26 4 0) a 5 = 0 := (congrFun (Nw.I s31 i22.1 d29 rfl) 5).trans f13
  have f37 : pI (aN (wR (aN (wI S a 2 200) x4 11 5) a 3 (some x4)) x26 4 0) a 2 = 200 := (congrFun (Nw.I s31 i22.1 d29 rfl) 2).trans f14
  have f38 : pI (aN (wR (aN (wI S a 2 200) x4 11 5) a 3 (some x4)) x26 4 0) x4 = (fun _ => 0) := Nw.I s31 i23.1 d30 f20
  have f39 : pJ (aN (wR (aN (wI S a 2 200) x4 11 5) a 3 (some x4)) x26 4 0) x4 = (fun _ => 0) := Nw.J s31 i23.1 d30 f21
  have f40 : pR (aN (wR (aN (wI S a 2 200) x4 11 5) a 3 (some x4)) x26 4 0) a 3 = some x4 := Nw.R s31 i22.1 d29 up2_s
  have i41 := Nw.is s31 i22
  have i42 := Nw.is s31 i23
  have n43 : (aN (wR (aN (wI S a 2 200) x4 11 5) a 3 (some x4)) x26 4 0).1.2.2 x4 = 5 := Nw.nn s31 i23.1 n24
  have w44 : Nw S (aN (wR (aN (wI S a 2 200) x4 11 5) a 3 (some x4)) x26 4 0) a (((([] ++ []) ++ [(x4, 11, 5)]) ++ []) ++ [(x26, 4, 0)]) := Nw.tr w25 s31 (.inr z28)
  have i45 : Is (aN (wR (aN (wI S a 2 200) x4 11 5) a 3 (some x4)) x26 4 0).1 x26 4 := Is_new
  have n46 : (aN (wR (aN (wI S a 2 200) x4 11 5) a 3 (some x4)) x26 4 0).1.2.2 x26 = 0 := aN_N
  refine g_dup F dX6_init_22 rfl ?_
  refine g_callIN (host := "PolarPlanimeter") F (kX4_init Γ.1 (aN (wR (aN (wI S a 2 200) x4 11 5) a 3 (some x4)) x26 4 0) x26 i45) okX4_init nwM54 ⟨(Nat.le_of_ble_eq_true rfl), (Nat.le_of_ble_eq_true rfl)⟩ rfl rfl (Nat.le_of_ble_eq_true rfl) ⟨(Nat.le_of_ble_eq_true rfl), (Nat.le_of_ble_eq_true rfl)⟩ dX6_init_23 (toV (fun S48 h47 => ?_))
  obtain ⟨x50, x51, x52, t49N, t49_0, t49_1, t49_2, t49_3, t49_4⟩ := h47
  have z53 : x50 ∉ pL S := fun h => t49N.2.2.1 _ (show (x50, 11, 20) ∈ [(x50, 11, 20), (x51, 11, 20), (x52, 11, 20)] by simp) (Nw.sub w44 h)
  have d54 : a ≠ x50 := Nw.ne t49N i41.1 (show (x50, 11, 20) ∈ [(x50, 11, 20), (x51, 11, 20), (x52, 11, 20)] by simp)
  have d55 : x4 ≠ x50 := Nw.ne t49N i42.1 (show (x50, 11, 20) ∈ [(x50, 11, 20), (x51, 11, 20), (x52, 11, 20)] by simp)
  have d56 : x26 ≠ x50 := Nw.ne t49N i45.1 (show (x50, 11, 20) ∈ [(x50, 11, 20), (x51, 11, 20), (x52, 11, 20)] by simp)
  have z57 : x51 ∉ pL S := fun h => t49N.2.2.1 _ (show (x51, 11, 20) ∈ [(x50, 11, 20), (x51, 11, 20), (x52, 11, 20)] by simp) (Nw.sub w44 h)
  have d58 : a ≠ x51 := Nw.ne t49N i41.1 (show (x51, 11, 20) ∈ [(x50, 11, 20), (x51, 11, 20), (x52, 11, 20)] by simp)
  have d59 : x4 ≠ x51 := Nw.ne t49N i42.1 (show (x51, 11, 20) ∈ [(x50, 11, 20), (x51, 11, 20), (x52, 11, 20)] by simp)
  have d60 : x26 ≠ x51 := Nw.ne t49N i45.1 (show (x51, 11, 20) ∈ [(x50, 11, 20), (x51, 11, 20), (x52, 11, 20)] by simp)
  have z61 : x52 ∉ pL S := fun h => t49N.2.2.1 _ (show (x52, 11, 20) ∈ [(x50, 11, 20), (x51, 11, 20), (x52, 11, 20)] by simp) (Nw.sub w44 h)
  have d62 : a ≠ x52 := Nw.ne t49N i41.1 (show (x52, 11, 20) ∈ [(x50, 11, 20), (x51, 11, 20), (x52, 11, 20)] by simp)
  have d63 : x4 ≠ x52 := Nw.ne t49N i42.1 (show (x52, 11, 20) ∈ [(x50, 11, 20), (x51, 11, 20), (x52, 11, 20)] by simp)
  have d64 : x26 ≠ x52 := Nw.ne t49N i45.1 (show (x52, 11, 20) ∈ [(x50, 11, 20), (x51, 11, 20), (x52, 11, 20)] by simp)
  have s65 : Nw (aN (wR (aN (wI S a 2 200) x4 11 5) a 3 (some x4)) x26 4 0) S48 x26 [(x50, 11, 20), (x51, 11, 20), (x52, 11, 20)] := t49N
  have f66 : pI S48 a 0 = 0 := (congrFun (Nw.I s65 i41.1 d29 rfl) 0).trans f32
  have f67 : pI S48 a 1 = 0 := (congrFun (Nw.I s65 i41.1 d29 rfl) 1).trans f33
  have f68 : pI S48 a 3 = 0 := (congrFun (Nw.I s65 i41.1 d29 rfl) 3).trans f34
  have f69 : pI S48 a 4 = 0 := (congrFun (Nw.I s65 i41.1 d29 rfl) 4).trans f35
  have f70 : pI S48 a 5 = 0 := (congrFun (Nw.I s65 i41.1 d29 rfl) 5).trans f36
  have f71 : pI S48 a 2 = 200 := (congrFun (Nw.I s65 i41.1 d29 rfl) 2).trans f37
  have f72 : pI S48 x4 = (fun _ => 0) := Nw.I s65 i42.1 d30 f38
  have f73 : pJ S48 x4 = (fun _ => 0) := Nw.J s65 i42.1 d30 f39
  have f74 : pR S48 a 3 = some x4 := Nw.R s65 i41.1 d29 f40
  have i75 := Nw.is s65 i41
  have i76 := Nw.is s65 i42
  have i77 := Nw.is s65 i45
  have n78 : S48.1.2.2 x4 = 5 := Nw.nn s65 i42.1 n43
  have n79 : S48.1.2.2 x26 = 0 := Nw.nn s65 i45.1 n46
  have w80 : Nw S S48 a ((((([] ++ []) ++ [(x4, 11, 5)]) ++ []) ++ [(x26, 4, 0)]) ++ [(x50, 11, 20), (x51, 11, 20), (x52, 11, 20)]) := Nw.tr w44 s65 (.inr z28)
  have i81 : Is S48.1 x50 11 := (t49N.on (show (x50, 11, 20) ∈ [(x50, 11, 20), (x51, 11, 20), (x52, 11, 20)] by simp)).1
  have i82 : Is S48.1 x51 11 := (t49N.on (show (x51, 11, 20) ∈ [(x50, 11, 20), (x51, 11, 20), (x52, 11, 20)] by simp)).1
  have i83 : Is S48.1 x52 11 := (t49N.on (show (x52, 11, 20) ∈ [(x50, 11, 20), (x51, 11, 20), (x52, 11, 20)] by simp)).1
  refine pfX6_22 F T.2.2 i75 dX6_init_26 ?_
  have s84 : Nw S48 (wR S48 a 4 (some x26)) a [] := Nw.wR
  have f85 : pI (wR S48 a 4 (some x26)) x4 = (fun _ => 0) := Nw.I s84 i76.1 (fun e => d7 e.symm) f72
  have f86 : pJ (wR S48 a 4 (some x26)) x4 = (fun _ => 0) := Nw.J s84 i76.1 (fun e => d7 e.symm) f73
  have f87 : pR (wR S48 a 4 (some x26)) x26 1 = some x50 := Nw.R s84 i77.1 (fun e => d29 e.symm) t49_0
  have f88 : pR (wR S48 a 4 (some x26)) x26 2 = some x51 := Nw.R s84 i77.1 (fun e => d29 e.symm) t49_1
  have f89 : pR (wR S48 a 4 (some x26)) x26 3 = some x52 := Nw.R s84 i77.1 (fun e => d29 e.symm) t49_2
  have f90 : pI (wR S48 a 4 (some x26)) x26 = (fun _ => 0) := Nw.I s84 i77.1 (fun e => d29 e.symm) (t49_3.trans aN_I)
  have i91 := Nw.is s84 i75
  have i92 := Nw.is s84 i76
  have i93 := Nw.is s84 i77
  have i94 := Nw.is s84 i81
  have i95 := Nw.is s84 i82
  have i96 := Nw.is s84 i83
  have n97 : (wR S48 a 4 (some x26)).1.2.2 x4 = 5 := Nw.nn s84 i76.1 n78
  have n98 : (wR S48 a 4 (some x26)).1.2.2 x26 = 0 := Nw.nn s84 i77.1 n79
  have w99 : Nw S (wR S48 a 4 (some x26)) a (((((([] ++ []) ++ [(x4, 11, 5)]) ++ []) ++ [(x26, 4, 0)]) ++ [(x50, 11, 20), (x51, 11, 20), (x52, 11, 20)]) ++ []) := Nw.tr w80 s84 (.inl rfl)
  refine g_aload_n (k := 0) F 0 rfl dX6_init_29 ?_
  refine g_new (ci := 5) F clX5 (fun k hk => (nwX5 k hk).1) mw44 mw45 mw46 (fun k hk => (nwX5 k hk).2) ⟨(Nat.le_of_ble_eq_true rfl), (Nat.le_of_ble_eq_true rfl)⟩ dX6_init_30 (fun x100 h101 => ?_)
  have z102 : x100 ∉ pL S := fun h => h101 (Nw.sub w99 h)
  have d103 : a ≠ x100 := fun e => h101 (e ▸ i91.1)
  have d104 : x4 ≠ x100 := fun e => h101 (e ▸ i92.1)
  have d105 : x26 ≠ x100 := fun e => h101 (e ▸ i93.1)
  have d106 : x50 ≠ x100 := fun e => h101 (e ▸ i94.1)
  have d107 : x51 ≠ x100 := fun e => h101 (e ▸ i95.1)
  have d108 : x52 ≠ x100 := fun e => h101 (e ▸ i96.1)
  have s109 : Nw (wR S48 a 4 (some x26)) (aN (wR S48 a 4 (some x26)) x100 5 0) x100 [(x100, 5, 0)] := Nw.new h101
  have f110 : pI (aN (wR S48 a 4 (some x26)) x100 5 0) a 0 = 0 := (congrFun (Nw.I s109 i91.1 d103 rfl) 0).trans f66
  have f111 : pI (aN (wR S48 a 4 (some x26)) x100 5 0) a 1 = 0 := (congrFun (Nw.I s109 i91.1 d103 rfl) 1).trans f67
  have f112 : pI (aN (wR S48 a 4 (some x26)) x100 5 0) a 3 = 0 := (congrFun (Nw.I s109 i91.1 d103 rfl) 3).trans f68
  have f113 : pI (aN (wR S48 a 4 (some x26)) x100 5 0) a 4 = 0 := (congrFun (Nw.I s109 i91.1 d103 rfl) 4).trans f69
  have f114 : pI (aN (wR S48 a 4 (some x26)) x100 5 0) a 5 = 0 := (congrFun (Nw.I s109 i91.1 d103 rfl) 5).trans f70
  have f115 : pI (aN (wR S48 a 4 (some x26)) x100 5 0) a 2 = 200 := (congrFun (Nw.I s109 i91.1 d103 rfl) 2).trans f71
  have f116 : pI (aN (wR S48 a 4 (some x26)) x100 5 0) x4 = (fun _ => 0) := Nw.I s109 i92.1 d104 f85
  have f117 : pJ (aN (wR S48 a 4 (some x26)) x100 5 0) x4 = (fun _ => 0) := Nw.J s109 i92.1 d104 f86
  have f118 : pR (aN (wR S48 a 4 (some x26)) x100 5 0) a 3 = some x4 := Nw.R s109 i91.1 d103 ((up2_k (by decide)).trans f74)
  have f119 : pR (aN (wR S48 a 4 (some x26)) x100 5 0) x26 1 = some x50 := Nw.R s109 i93.1 d105 f87
  have f120 : pR (aN (wR S48 a 4 (some x26)) x100 5 0) x26 2 = some x51 := Nw.R s109 i93.1 d105 f88
  have f121 : pR (aN (wR S48 a 4 (some x26)) x100 5 0) x26 3 = some x52 := Nw.R s109 i93.1 d105 f89
  have f122 : pI (aN (wR S48 a 4 (some x26)) x100 5 0) x26 = (fun _ => 0) := Nw.I s109 i93.1 d105 f90
  have f123 : pR (aN (wR S48 a 4 (some x26)) x100 5 0) a 4 = some x26 := Nw.R s109 i91.1 d103 up2_s
  have i124 := Nw.is s109 i91
  have i125 := Nw.is s109 i92
  have i126 := Nw.is s109 i93
  have i127 := Nw.is s109 i94
  have i128 := Nw.is s109 i95
  have i129 := Nw.is s109 i96
  have n130 : (aN (wR S48 a 4 (some x26)) x100 5 0).1.2.2 x4 = 5 := Nw.nn s109 i92.1 n97
  have n131 : (aN (wR S48 a 4 (some x26)) x100 5 0).1.2.2 x26 = 0 := Nw.nn s109 i93.1 n98
  have w132 : Nw S (aN (wR S48 a 4 (some x26)) x100 5 0) a ((((((([] ++ []) ++ [(x4, 11, 5)]) ++ []) ++ [(x26, 4, 0)]) ++ [(x50, 11, 20), (x51, 11, 20), (x52, 11, 20)]) ++ []) ++ [(x100, 5, 0)]) := Nw.tr w99 s109 (.inr z102)
  have i133 : Is (aN (wR S48 a 4 (some x26)) x100 5 0).1 x100 5 := Is_new
  have n134 : (aN (wR S48 a 4 (some x26)) x100 5 0).1.2.2 x100 = 0 := aN_N
  refine g_dup F dX6_init_33 rfl ?_
  refine g_callIN (host := "PolarPlanimeter") F (kX5_init Γ.1 (aN (wR S48 a 4 (some x26)) x100 5 0) x100 i133) okX5_init nwM55 ⟨(Nat.le_of_ble_eq_true rfl), (Nat.le_of_ble_eq_true rfl)⟩ rfl rfl (Nat.le_of_ble_eq_true rfl) ⟨(Nat.le_of_ble_eq_true rfl), (Nat.le_of_ble_eq_true rfl)⟩ dX6_init_34 (toV (fun S136 h135 => ?_))
  obtain ⟨x138, x139, x140, t137N, t137_0, t137_1, t137_2, t137_3, t137_4⟩ := h135
  have z141 : x138 ∉ pL S := fun h => t137N.2.2.1 _ (show (x138, 11, 12) ∈ [(x138, 11, 12), (x139, 13, 12), (x140, 12, 12)] by simp) (Nw.sub w132 h)
  have d142 : a ≠ x138 := Nw.ne t137N i124.1 (show (x138, 11, 12) ∈ [(x138, 11, 12), (x139, 13, 12), (x140, 12, 12)] by simp)
  have d143 : x4 ≠ x138 := Nw.ne t137N i125.1 (show (x138, 11, 12) ∈ [(x138, 11, 12), (x139, 13, 12), (x140, 12, 12)] by simp)
  have d144 : x26 ≠ x138 := Nw.ne t137N i126.1 (show (x138, 11, 12) ∈ [(x138, 11, 12), (x139, 13, 12), (x140, 12, 12)] by simp)
  have d145 : x50 ≠ x138 := Nw.ne t137N i127.1 (show (x138, 11, 12) ∈ [(x138, 11, 12), (x139, 13, 12), (x140, 12, 12)] by simp)
  have d146 : x51 ≠ x138 := Nw.ne t137N i128.1 (show (x138, 11, 12) ∈ [(x138, 11, 12), (x139, 13, 12), (x140, 12, 12)] by simp)
  have d147 : x52 ≠ x138 := Nw.ne t137N i129.1 (show (x138, 11, 12) ∈ [(x138, 11, 12), (x139, 13, 12), (x140, 12, 12)] by simp)
  have d148 : x100 ≠ x138 := Nw.ne t137N i133.1 (show (x138, 11, 12) ∈ [(x138, 11, 12), (x139, 13, 12), (x140, 12, 12)] by simp)
  have z149 : x139 ∉ pL S := fun h => t137N.2.2.1 _ (show (x139, 13, 12) ∈ [(x138, 11, 12), (x139, 13, 12), (x140, 12, 12)] by simp) (Nw.sub w132 h)
  have d150 : a ≠ x139 := Nw.ne t137N i124.1 (show (x139, 13, 12) ∈ [(x138, 11, 12), (x139, 13, 12), (x140, 12, 12)] by simp)
  have d151 : x4 ≠ x139 := Nw.ne t137N i125.1 (show (x139, 13, 12) ∈ [(x138, 11, 12), (x139, 13, 12), (x140, 12, 12)] by simp)
  have d152 : x26 ≠ x139 := Nw.ne t137N i126.1 (show (x139, 13, 12) ∈ [(x138, 11, 12), (x139, 13, 12), (x140, 12, 12)] by simp)
  have d153 : x50 ≠ x139 := Nw.ne t137N i127.1 (show (x139, 13, 12) ∈ [(x138, 11, 12), (x139, 13, 12), (x140, 12, 12)] by simp)
  have d154 : x51 ≠ x139 := Nw.ne t137N i128.1 (show (x139, 13, 12) ∈ [(x138, 11, 12), (x139, 13, 12), (x140, 12, 12)] by simp)
  have d155 : x52 ≠ x139 := Nw.ne t137N i129.1 (show (x139, 13, 12) ∈ [(x138, 11, 12), (x139, 13, 12), (x140, 12, 12)] by simp)
  have d156 : x100 ≠ x139 := Nw.ne t137N i133.1 (show (x139, 13, 12) ∈ [(x138, 11, 12), (x139, 13, 12), (x140, 12, 12)] by simp)
  have z157 : x140 ∉ pL S := fun h => t137N.2.2.1 _ (show (x140, 12, 12) ∈ [(x138, 11, 12), (x139, 13, 12), (x140, 12, 12)] by simp) (Nw.sub w132 h)
  have d158 : a ≠ x140 := Nw.ne t137N i124.1 (show (x140, 12, 12) ∈ [(x138, 11, 12), (x139, 13, 12), (x140, 12, 12)] by simp)
  have d159 : x4 ≠ x140 := Nw.ne t137N i125.1 (show (x140, 12, 12) ∈ [(x138, 11, 12), (x139, 13, 12), (x140, 12, 12)] by simp)
  have d160 : x26 ≠ x140 := Nw.ne t137N i126.1 (show (x140, 12, 12) ∈ [(x138, 11, 12), (x139, 13, 12), (x140, 12, 12)] by simp)
  have d161 : x50 ≠ x140 := Nw.ne t137N i127.1 (show (x140, 12, 12) ∈ [(x138, 11, 12), (x139, 13, 12), (x140, 12, 12)] by simp)
  have d162 : x51 ≠ x140 := Nw.ne t137N i128.1 (show (x140, 12, 12) ∈ [(x138, 11, 12), (x139, 13, 12), (x140, 12, 12)] by simp)
  have d163 : x52 ≠ x140 := Nw.ne t137N i129.1 (show (x140, 12, 12) ∈ [(x138, 11, 12), (x139, 13, 12), (x140, 12, 12)] by simp)
  have d164 : x100 ≠ x140 := Nw.ne t137N i133.1 (show (x140, 12, 12) ∈ [(x138, 11, 12), (x139, 13, 12), (x140, 12, 12)] by simp)
  have s165 : Nw (aN (wR S48 a 4 (some x26)) x100 5 0) S136 x100 [(x138, 11, 12), (x139, 13, 12), (x140, 12, 12)] := t137N
  have f166 : pI S136 a 0 = 0 := (congrFun (Nw.I s165 i124.1 d103 rfl) 0).trans f110
  have f167 : pI S136 a 1 = 0 := (congrFun (Nw.I s165 i124.1 d103 rfl) 1).trans f111
  have f168 : pI S136 a 3 = 0 := (congrFun (Nw.I s165 i124.1 d103 rfl) 3).trans f112
  have f169 : pI S136 a 4 = 0 := (congrFun (Nw.I s165 i124.1 d103 rfl) 4).trans f113
  have f170 : pI S136 a 5 = 0 := (congrFun (Nw.I s165 i124.1 d103 rfl) 5).trans f114
  have f171 : pI S136 a 2 = 200 := (congrFun (Nw.I s165 i124.1 d103 rfl) 2).trans f115
  have f172 : pI S136 x4 = (fun _ => 0) := Nw.I s165 i125.1 d104 f116
  have f173 : pJ S136 x4 = (fun _ => 0) := Nw.J s165 i125.1 d104 f117
  have f174 : pR S136 a 3 = some x4 := Nw.R s165 i124.1 d103 f118
  have f175 : pR S136 x26 1 = some x50 := Nw.R s165 i126.1 d105 f119
  have f176 : pR S136 x26 2 = some x51 := Nw.R s165 i126.1 d105 f120
  have f177 : pR S136 x26 3 = some x52 := Nw.R s165 i126.1 d105 f121
  have f178 : pI S136 x26 = (fun _ => 0) := Nw.I s165 i126.1 d105 f122
  have f179 : pR S136 a 4 = some x26 := Nw.R s165 i124.1 d103 f123
  have i180 := Nw.is s165 i124
  have i181 := Nw.is s165 i125
  have i182 := Nw.is s165 i126
  have i183 := Nw.is s165 i127
  have i184 := Nw.is s165 i128
  have i185 := Nw.is s165 i129
  have i186 := Nw.is s165 i133
  have n187 : S136.1.2.2 x4 = 5 := Nw.nn s165 i125.1 n130
  have n188 : S136.1.2.2 x26 = 0 := Nw.nn s165 i126.1 n131
  have n189 : S136.1.2.2 x100 = 0 := Nw.nn s165 i133.1 n134
  have w190 : Nw S S136 a (((((((([] ++ []) ++ [(x4, 11, 5)]) ++ []) ++ [(x26, 4, 0)]) ++ [(x50, 11, 20), (x51, 11, 20), (x52, 11, 20)]) ++ []) ++ [(x100, 5, 0)]) ++ [(x138, 11, 12), (x139, 13, 12), (x140, 12, 12)]) := Nw.tr w132 s165 (.inr z102)
  have i191 : Is S136.1 x138 11 := (t137N.on (show (x138, 11, 12) ∈ [(x138, 11, 12), (x139, 13, 12), (x140, 12, 12)] by simp)).1
  have i192 : Is S136.1 x139 13 := (t137N.on (show (x139, 13, 12) ∈ [(x138, 11, 12), (x139, 13, 12), (x140, 12, 12)] by simp)).1
  have i193 : Is S136.1 x140 12 := (t137N.on (show (x140, 12, 12) ∈ [(x138, 11, 12), (x139, 13, 12), (x140, 12, 12)] by simp)).1
  refine pfX6_29 F T.2.2 i180 dX6_init_37 ?_
  have s194 : Nw S136 (wR S136 a 5 (some x100)) a [] := Nw.wR
  have f195 : pI (wR S136 a 5 (some x100)) x4 = (fun _ => 0) := Nw.I s194 i181.1 (fun e => d7 e.symm) f172
  have f196 : pJ (wR S136 a 5 (some x100)) x4 = (fun _ => 0) := Nw.J s194 i181.1 (fun e => d7 e.symm) f173
  have f197 : pR (wR S136 a 5 (some x100)) x26 1 = some x50 := Nw.R s194 i182.1 (fun e => d29 e.symm) f175
  have f198 : pR (wR S136 a 5 (some x100)) x26 2 = some x51 := Nw.R s194 i182.1 (fun e => d29 e.symm) f176
  have f199 : pR (wR S136 a 5 (some x100)) x26 3 = some x52 := Nw.R s194 i182.1 (fun e => d29 e.symm) f177
  have f200 : pI (wR S136 a 5 (some x100)) x26 = (fun _ => 0) := Nw.I s194 i182.1 (fun e => d29 e.symm) f178
  have f201 : pR (wR S136 a 5 (some x100)) x100 1 = some x138 := Nw.R s194 i186.1 (fun e => d103 e.symm) t137_0
  have f202 : pR (wR S136 a 5 (some x100)) x100 2 = some x139 := Nw.R s194 i186.1 (fun e => d103 e.symm) t137_1
  have f203 : pR (wR S136 a 5 (some x100)) x100 3 = some x140 := Nw.R s194 i186.1 (fun e => d103 e.symm) t137_2
  have f204 : pI (wR S136 a 5 (some x100)) x100 = (fun _ => 0) := Nw.I s194 i186.1 (fun e => d103 e.symm) (t137_3.trans aN_I)
  have i205 := Nw.is s194 i180
  have i206 := Nw.is s194 i181
  have i207 := Nw.is s194 i182
  have i208 := Nw.is s194 i183
  have i209 := Nw.is s194 i184
  have i210 := Nw.is s194 i185
  have i211 := Nw.is s194 i186
  have i212 := Nw.is s194 i191
  have i213 := Nw.is s194 i192
  have i214 := Nw.is s194 i193
  have n215 : (wR S136 a 5 (some x100)).1.2.2 x4 = 5 := Nw.nn s194 i181.1 n187
  have n216 : (wR S136 a 5 (some x100)).1.2.2 x26 = 0 := Nw.nn s194 i182.1 n188
  have n217 : (wR S136 a 5 (some x100)).1.2.2 x100 = 0 := Nw.nn s194 i186.1 n189
  have w218 : Nw S (wR S136 a 5 (some x100)) a ((((((((([] ++ []) ++ [(x4, 11, 5)]) ++ []) ++ [(x26, 4, 0)]) ++ [(x50, 11, 20), (x51, 11, 20), (x52, 11, 20)]) ++ []) ++ [(x100, 5, 0)]) ++ [(x138, 11, 12), (x139, 13, 12), (x140, 12, 12)]) ++ []) := Nw.tr w190 s194 (.inl rfl)
  refine g_stat (i := 0) (host := "PolarPlanimeter") (f := fun _ => 0) F F.e.2.2.2.1.1 (Or.inr (va_Nw.use rfl (F.e.1 _ nwF35))) dX6_init_40 ?_
  refine g_iconst (v := 0) F (by decide) dX6_init_43 ?_
  refine g_aload_n (k := 0) F 0 rfl dX6_init_44 ?_
  refine gfX6_15 F i205 ((up2_k (by decide)).trans f174) dX6_init_45 ?_
  refine g_iconst (v := 0) F (by decide) dX6_init_48 ?_
  refine g_iconst (v := 5) F (by decide) dX6_init_49 ?_
  refine g_acs (N := 5) F F.e.2.2.2.1.2.1 F.e.2.2.2.1.2.2 mw48 mw49 mw50 mw51 i206 rfl (by decide) (Nat.le_of_eq n215.symm) ⟨(Nat.le_of_ble_eq_true rfl), (Nat.le_of_ble_eq_true rfl)⟩ dX6_init_50 ?_
  have s219 : Nw (wR S136 a 5 (some x100)) (wIr (wR S136 a 5 (some x100)) x4 (va_cpy atF (pI (wR S136 a 5 (some x100)) x4) 0 0 5)) x4 [] := Nw.wIr
  have f220 : pI (wIr (wR S136 a 5 (some x100)) x4 (va_cpy atF (pI (wR S136 a 5 (some x100)) x4) 0 0 5)) a 0 = 0 := (congrFun (Nw.I s219 i205.1 d7 rfl) 0).trans f166
  have f221 : pI (wIr (wR S136 a 5 (some x100)) x4 (va_cpy atF (pI (wR S136 a 5 (some x100)) x4) 0 0 5)) a 1 = 0 := (congrFun (Nw.I s219 i205.1 d7 rfl) 1).trans f167
  have f222 : pI (wIr (wR S136 a 5 (some x100)) x4 (va_cpy atF (pI (wR S136 a 5 (some x100)) x4) 0 0 5)) a 3 = 0 := (congrFun (Nw.I s219 i205.1 d7 rfl) 3).trans f168
  have f223 : pI (wIr (wR S136 a 5 (some x100)) x4 (va_cpy atF (pI (wR S136 a 5 (some x100)) x4) 0 0 5)) a 4 = 0 := (congrFun (Nw.I s219 i205.1 d7 rfl) 4).trans f169
  have f224 : pI (wIr (wR S136 a 5 (some x100)) x4 (va_cpy atF (pI (wR S136 a 5 (some x100)) x4) 0 0 5)) a 5 = 0 := (congrFun (Nw.I s219 i205.1 d7 rfl) 5).trans f170
  have f225 : pI (wIr (wR S136 a 5 (some x100)) x4 (va_cpy atF (pI (wR S136 a 5 (some x100)) x4) 0 0 5)) a 2 = 200 := (congrFun (Nw.I s219 i205.1 d7 rfl) 2).trans f171
  have f226 : pR (wIr (wR S136 a 5 (some x100)) x4 (va_cpy atF (pI (wR S136 a 5 (some x100)) x4) 0 0 5)) a 3 = some x4 := Nw.R s219 i205.1 d7 ((up2_k (by decide)).trans f174)
  have f227 : pR (wIr (wR S136 a 5 (some x100)) x4 (va_cpy atF (pI (wR S136 a 5 (some x100)) x4) 0 0 5)) x26 1 = some x50 := Nw.R s219 i207.1 (fun e => d30 e.symm) f197
  have f228 : pR (wIr (wR S136 a 5 (some x100)) x4 (va_cpy atF (pI (wR S136 a 5 (some x100)) x4) 0 0 5)) x26 2 = some x51 := Nw.R s219 i207.1 (fun e => d30 e.symm) f198
  have f229 : pR (wIr (wR S136 a 5 (some x100)) x4 (va_cpy atF (pI (wR S136 a 5 (some x100)) x4) 0 0 5)) x26 3 = some x52 := Nw.R s219 i207.1 (fun e => d30 e.symm) f199
  have f230 : pI (wIr (wR S136 a 5 (some x100)) x4 (va_cpy atF (pI (wR S136 a 5 (some x100)) x4) 0 0 5)) x26 = (fun _ => 0) := Nw.I s219 i207.1 (fun e => d30 e.symm) f200
  have f231 : pR (wIr (wR S136 a 5 (some x100)) x4 (va_cpy atF (pI (wR S136 a 5 (some x100)) x4) 0 0 5)) a 4 = some x26 := Nw.R s219 i205.1 d7 ((up2_k (by decide)).trans f179)
  have f232 : pR (wIr (wR S136 a 5 (some x100)) x4 (va_cpy atF (pI (wR S136 a 5 (some x100)) x4) 0 0 5)) x100 1 = some x138 := Nw.R s219 i211.1 (fun e => d104 e.symm) f201
  have f233 : pR (wIr (wR S136 a 5 (some x100)) x4 (va_cpy atF (pI (wR S136 a 5 (some x100)) x4) 0 0 5)) x100 2 = some x139 := Nw.R s219 i211.1 (fun e => d104 e.symm) f202
  have f234 : pR (wIr (wR S136 a 5 (some x100)) x4 (va_cpy atF (pI (wR S136 a 5 (some x100)) x4) 0 0 5)) x100 3 = some x140 := Nw.R s219 i211.1 (fun e => d104 e.symm) f203
  have f235 : pI (wIr (wR S136 a 5 (some x100)) x4 (va_cpy atF (pI (wR S136 a 5 (some x100)) x4) 0 0 5)) x100 = (fun _ => 0) := Nw.I s219 i211.1 (fun e => d104 e.symm) f204
  have f236 : pR (wIr (wR S136 a 5 (some x100)) x4 (va_cpy atF (pI (wR S136 a 5 (some x100)) x4) 0 0 5)) a 5 = some x100 := Nw.R s219 i205.1 d7 up2_s
  have i237 := Nw.is s219 i205
  have i238 := Nw.is s219 i206
  have i239 := Nw.is s219 i207
  have i240 := Nw.is s219 i208
  have i241 := Nw.is s219 i209
  have i242 := Nw.is s219 i210
  have i243 := Nw.is s219 i211
  have i244 := Nw.is s219 i212
  have i245 := Nw.is s219 i213
  have i246 := Nw.is s219 i214
  have n247 : (wIr (wR S136 a 5 (some x100)) x4 (va_cpy atF (pI (wR S136 a 5 (some x100)) x4) 0 0 5)).1.2.2 x4 = 5 := Nw.nn s219 i206.1 n215
  have n248 : (wIr (wR S136 a 5 (some x100)) x4 (va_cpy atF (pI (wR S136 a 5 (some x100)) x4) 0 0 5)).1.2.2 x26 = 0 := Nw.nn s219 i207.1 n216
  have n249 : (wIr (wR S136 a 5 (some x100)) x4 (va_cpy atF (pI (wR S136 a 5 (some x100)) x4) 0 0 5)).1.2.2 x100 = 0 := Nw.nn s219 i211.1 n217
  have w250 : Nw S (wIr (wR S136 a 5 (some x100)) x4 (va_cpy atF (pI (wR S136 a 5 (some x100)) x4) 0 0 5)) a (((((((((([] ++ []) ++ [(x4, 11, 5)]) ++ []) ++ [(x26, 4, 0)]) ++ [(x50, 11, 20), (x51, 11, 20), (x52, 11, 20)]) ++ []) ++ [(x100, 5, 0)]) ++ [(x138, 11, 12), (x139, 13, 12), (x140, 12, 12)]) ++ []) ++ []) := Nw.tr w218 s219 (.inr z6)
  refine g_vret F T ⟨rfl, ?_⟩ (Nat.le_of_ble_eq_true rfl) (Nat.le_of_ble_eq_true rfl) dX6_init_53
  exact ⟨fun i => [a, x4, x26, x50, x51, x52, x100, x138, x139, x140].getD i 0, w250, rfl, f226, f231, f236, f227, f228, f229, f232, f233, f234, f220, f221, f225, (fun i hi => (congrFun upr_s i).trans (at_cp hi)), (congrFun f230 0), (congrFun f235 0)⟩
set_option maxHeartbeats 4000000 in
set_option maxRecDepth 100000 in
theorem kX1_init (g : Glo) (S : PS) (a : Nat) (ha : Is S.1 a 1) : Ct g mX1_init 2 12 [.ref a] S (pV9 (fun S' => ∃ x y, Nw S S' a [(x, 0, 0), (y, 8, 0)] ∧ pR S' a 0 = some x ∧ pR S' a 1 = some y)) := by
  refine Ct.of (by decide) (Nat.le_of_ble_eq_true rfl) (fun Γ hg F T => ?_)
  subst hg
  show G Γ S 0 0 0 [(0, .ref a)] []
  refine g_aload_n (k := 0) F 0 rfl dX1_init_0 ?_
  refine g_objInit F mw72 mw11 mw12 ⟨(Nat.le_of_ble_eq_true rfl), (Nat.le_of_ble_eq_true rfl)⟩ dX1_init_1 ?_
  refine g_aload_n (k := 0) F 0 rfl dX1_init_4 ?_
  refine g_new (ci := 0) F clX0 (fun k hk => (nwX0 k hk).1) mw73 mw74 mw75 (fun k hk => (nwX0 k hk).2) ⟨(Nat.le_of_ble_eq_true rfl), (Nat.le_of_ble_eq_true rfl)⟩ dX1_init_5 (fun x1 h2 => ?_)
  have z3 : x1 ∉ pL S := fun h => h2 (Nw.sub (Nw.rf (S := S) (a := a)) h)
  have d4 : a ≠ x1 := fun e => h2 (e ▸ ha.1)
  have s5 : Nw S (aN S x1 0 0) x1 [(x1, 0, 0)] := Nw.new h2
  have i6 := Nw.is s5 ha
  have w7 : Nw S (aN S x1 0 0) a ([] ++ [(x1, 0, 0)]) := Nw.tr (Nw.rf (S := S) (a := a)) s5 (.inr z3)
  have i8 : Is (aN S x1 0 0).1 x1 0 := Is_new
  have n9 : (aN S x1 0 0).1.2.2 x1 = 0 := aN_N
  refine g_dup F dX1_init_8 rfl ?_
  refine g_callIN (host := "PolarPlanimeter") F (kX0_init Γ.1 (aN S x1 0 0) x1 i8) okX0_init nwM33 ⟨(Nat.le_of_ble_eq_true rfl), (Nat.le_of_ble_eq_true rfl)⟩ rfl rfl (Nat.le_of_ble_eq_true rfl) ⟨(Nat.le_of_ble_eq_true rfl), (Nat.le_of_ble_eq_true rfl)⟩ dX1_init_9 (toV (fun S11 h10 => ?_))
  obtain ⟨t12N, t12_0, t12_1⟩ := h10
  have s13 : Nw (aN S x1 0 0) S11 x1 [] := t12N
  have i14 := Nw.is s13 i6
  have i15 := Nw.is s13 i8
  have n16 : S11.1.2.2 x1 = 0 := Nw.nn s13 i8.1 n9
  have w17 : Nw S S11 a (([] ++ [(x1, 0, 0)]) ++ []) := Nw.tr w7 s13 (.inr z3)
  refine pfX1_12 F T.2.2 i14 dX1_init_12 ?_
  have s18 : Nw S11 (wR S11 a 0 (some x1)) a [] := Nw.wR
  have f19 : pI (wR S11 a 0 (some x1)) x1 = (fun _ => 0) := Nw.I s18 i15.1 (fun e => d4 e.symm) (t12_0.trans aN_I)
  have i20 := Nw.is s18 i14
  have i21 := Nw.is s18 i15
  have n22 : (wR S11 a 0 (some x1)).1.2.2 x1 = 0 := Nw.nn s18 i15.1 n16
  have w23 : Nw S (wR S11 a 0 (some x1)) a ((([] ++ [(x1, 0, 0)]) ++ []) ++ []) := Nw.tr w17 s18 (.inl rfl)
  refine g_aload_n (k := 0) F 0 rfl dX1_init_15 ?_
  refine g_new (ci := 8) F clX8 (fun k hk => (nwX8 k hk).1) mw77 mw78 mw79 (fun k hk => (nwX8 k hk).2) ⟨(Nat.le_of_ble_eq_true rfl), (Nat.le_of_ble_eq_true rfl)⟩ dX1_init_16 (fun x24 h25 => ?_)
  have z26 : x24 ∉ pL S := fun h => h25 (Nw.sub w23 h)
  have d27 : a ≠ x24 := fun e => h25 (e ▸ i20.1)
  have d28 : x1 ≠ x24 := fun e => h25 (e ▸ i21.1)
  have s29 : Nw (wR S11 a 0 (some x1)) (aN (wR S11 a 0 (some x1)) x24 8 0) x24 [(x24, 8, 0)] := Nw.new h25
  have f30 : pI (aN (wR S11 a 0 (some x1)) x24 8 0) x1 = (fun _ => 0) := Nw.I s29 i21.1 d28 f19
  have f31 : pR (aN (wR S11 a 0 (some x1)) x24 8 0) a 0 = some x1 := Nw.R s29 i20.1 d27 up2_s
  have i32 := Nw.is s29 i20
  have i33 := Nw.is s29 i21
  have n34 : (aN (wR S11 a 0 (some x1)) x24 8 0).1.2.2 x1 = 0 := Nw.nn s29 i21.1 n22
  have w35 : Nw S (aN (wR S11 a 0 (some x1)) x24 8 0) a (((([] ++ [(x1, 0, 0)]) ++ []) ++ []) ++ [(x24, 8, 0)]) := Nw.tr w23 s29 (.inr z26)
  have i36 : Is (aN (wR S11 a 0 (some x1)) x24 8 0).1 x24 8 := Is_new
  have n37 : (aN (wR S11 a 0 (some x1)) x24 8 0).1.2.2 x24 = 0 := aN_N
  refine g_dup F dX1_init_19 rfl ?_
  refine g_callIN (host := "PolarPlanimeter") F (kX8_init Γ.1 (aN (wR S11 a 0 (some x1)) x24 8 0) x24 i36) okX8_init nwM38 ⟨(Nat.le_of_ble_eq_true rfl), (Nat.le_of_ble_eq_true rfl)⟩ rfl rfl (Nat.le_of_ble_eq_true rfl) ⟨(Nat.le_of_ble_eq_true rfl), (Nat.le_of_ble_eq_true rfl)⟩ dX1_init_20 (toV (fun S39 h38 => ?_))
  obtain ⟨t40N, t40_0, t40_1⟩ := h38
  have s41 : Nw (aN (wR S11 a 0 (some x1)) x24 8 0) S39 x24 [] := t40N
  have f42 : pI S39 x1 = (fun _ => 0) := Nw.I s41 i33.1 d28 f30
  have f43 : pR S39 a 0 = some x1 := Nw.R s41 i32.1 d27 f31
  have i44 := Nw.is s41 i32
  have i45 := Nw.is s41 i33
  have i46 := Nw.is s41 i36
  have n47 : S39.1.2.2 x1 = 0 := Nw.nn s41 i33.1 n34
  have n48 : S39.1.2.2 x24 = 0 := Nw.nn s41 i36.1 n37
  have w49 : Nw S S39 a ((((([] ++ [(x1, 0, 0)]) ++ []) ++ []) ++ [(x24, 8, 0)]) ++ []) := Nw.tr w35 s41 (.inr z26)
  refine pfX1_21 F T.2.2 i44 dX1_init_23 ?_
  have s50 : Nw S39 (wR S39 a 1 (some x24)) a [] := Nw.wR
  have f51 : pI (wR S39 a 1 (some x24)) x1 = (fun _ => 0) := Nw.I s50 i45.1 (fun e => d4 e.symm) f42
  have f52 : pI (wR S39 a 1 (some x24)) x24 = (fun _ => 0) := Nw.I s50 i46.1 (fun e => d27 e.symm) (t40_0.trans aN_I)
  have i53 := Nw.is s50 i44
  have i54 := Nw.is s50 i45
  have i55 := Nw.is s50 i46
  have n56 : (wR S39 a 1 (some x24)).1.2.2 x1 = 0 := Nw.nn s50 i45.1 n47
  have n57 : (wR S39 a 1 (some x24)).1.2.2 x24 = 0 := Nw.nn s50 i46.1 n48
  have w58 : Nw S (wR S39 a 1 (some x24)) a (((((([] ++ [(x1, 0, 0)]) ++ []) ++ []) ++ [(x24, 8, 0)]) ++ []) ++ []) := Nw.tr w49 s50 (.inl rfl)
  refine g_vret F T ⟨rfl, ?_⟩ (Nat.le_of_ble_eq_true rfl) (Nat.le_of_ble_eq_true rfl) dX1_init_26
  exact ⟨x1, x24, w58, ((up2_k (by decide)).trans f43), up2_s⟩
set_option maxHeartbeats 4000000 in
set_option maxRecDepth 100000 in
theorem kX2_init (g : Glo) (S : PS) (a : Nat) (ha : Is S.1 a 2) (hz : pI S a = fun _ => 0) : Ct g mX2_init 61 696 [.ref a] S (pV9 (fun S' => ∃ (r : Nat) (f : Nat → Nat → Nat), Nw S S' a ((r, 14, 6) :: hl f 6) ∧ Hi0 S' a r f)) := by
  refine Ct.of (by decide) (Nat.le_of_ble_eq_true rfl) (fun Γ hg F T => ?_)
  subst hg
  show G Γ S 0 0 0 [(0, .ref a)] []
  refine g_aload_n (k := 0) F 0 rfl dX2_init_0 ?_
  refine g_objInit F mw67 mw11 mw12 ⟨(Nat.le_of_ble_eq_true rfl), (Nat.le_of_ble_eq_true rfl)⟩ dX2_init_1 ?_
  refine g_aload_n (k := 0) F 0 rfl dX2_init_4 ?_
  refine g_bipush (v := 6) F (by decide) dX2_init_5 ?_
  refine g_newQ (N := 6) F mw68 rfl (by decide) ⟨(Nat.le_of_ble_eq_true rfl), (Nat.le_of_ble_eq_true rfl)⟩ dX2_init_7 (fun r hr => ?_)
  have n0 : Nw S (aN S r 14 6) r [(r, 14, 6)] := Nw.new hr
  have hra : a ≠ r := fun e => hr (e ▸ ha.1)
  refine pfX2_11 F T.2.2 (Nw.is n0 ha) dX2_init_10 ?_
  refine g_iconst (v := 0) F (by decide) dX2_init_13 ?_
  refine g_istore_n (k := 1) (L' := [(1, .int (nI 0)), (0, .ref a)]) F dX2_init_14 (Nat.le_of_ble_eq_true rfl) rfl ?_
  have lp : ∀ (n9 : Nat) (i : Nat) (S1 : PS) (f : Nat → Nat → Nat), 6 < i + n9 → i ≤ 6 → Nw S S1 a ((r, 14, 6) :: hl f i) → pR S1 a 1 = some r → pI S1 a = (fun _ => 0) → (∀ j, j < i → pR S1 r j = some (f j 0)) → (∀ j, j < i → St0 S1 (f j)) → G Γ S1 (1 + 10 * i) (6 + 115 * i) 15 [(1, .int (nI i)), (0, .ref a)] [] := by
    intro n9
    induction n9 with
    | zero => intro i S1 f hm hi; exact absurd hm (by omega)
    | succ n9 ih =>
      intro i S1 f hm hi hN hR hI hr1 hst
      have har := hN.is ha
      have hrr := hN.on (x := r) (k := 14) (n := 6) List.mem_cons_self
      refine g_iload_n (k := 1) F 0 rfl dX2_init_15 ?_
      refine g_bipush (v := 6) F (by decide) dX2_init_16 ?_
      refine g_icmp_ge (t := 40) F dX2_init_18 (by decide) (fun c => ?_) (fun c => ?_)
      · obtain rfl : i = 6 := by
          rw [show (6 : Int32) = nI 6 from rfl, nI_leI (by omega) (by omega)] at c
          omega
        refine g_vret F T ⟨rfl, ?_⟩ (Nat.le_of_ble_eq_true rfl) (Nat.le_of_ble_eq_true rfl) dX2_init_40
        exact ⟨r, f, hN, hR, congrFun hI 0, hr1, hst⟩
      · have hlt : i < 6 := by
          rw [show (6 : Int32) = nI 6 from rfl, nI_leI (by omega) (by omega)] at c
          omega
        refine g_aload_n (k := 0) F 1 rfl dX2_init_21 ?_
        refine gfX2_11 F har hR dX2_init_22 ?_
        refine g_iload_n (k := 1) F 0 rfl dX2_init_25 ?_
        refine g_new (ci := 6) F clX6 (fun k hk => (nwX6 k hk).1) mw68 mw14 mw15 (fun k hk => (nwX6 k hk).2) ⟨by show 1 + 10 * i + 1 ≤ 61; omega, by show 6 + 115 * i + 6 ≤ 696; omega⟩ dX2_init_26 (fun b hb => ?_)
        have n1 : Nw S1 (aN S1 b 6 0) b [(b, 6, 0)] := Nw.new hb
        refine g_dup F dX2_init_29 rfl ?_
        refine g_callIN (host := "PolarPlanimeter") F (kX6_init Γ.1 (aN S1 b 6 0) b Is_new aN_I) okX6_init nwM46 ⟨(Nat.le_of_ble_eq_true rfl), (Nat.le_of_ble_eq_true rfl)⟩ rfl rfl (Nat.le_of_ble_eq_true rfl) ⟨by show 1 + 10 * i + 1 + 9 ≤ 61; omega, by show 6 + 115 * i + 6 + 109 ≤ 696; omega⟩ dX2_init_30 (toV (fun S3 h3 => ?_))
        obtain ⟨f3, n3, e3, st3⟩ := h3
        have hrb : r ≠ b := fun e => hb (e ▸ hrr.1.1)
        have hab : a ≠ b := fun e => hb (e ▸ har.1)
        have hr3 := n3.is (n1.is hrr.1)
        have hn3 : S3.1.2.2 r = 6 := n3.nn (n1.is hrr.1).1 (n1.nn hrr.1.1 hrr.2)
        have hb3 := n3.is (show Is (aN S1 b 6 0).1 b 6 from Is_new)
        refine g_aast (j := i) F hr3 hb3 rfl (by rw [hn3]; omega) (by rw [hn3]; decide) dX2_init_33 ?_
        have fb : b ∉ pL S := fun h => hb (hN.sub h)
        have n4 : Nw S (wR S3 r i (some b)) a ((((r, 14, 6) :: hl f i) ++ [(b, 6, 0)]) ++ stl f3 ++ []) := Nw.tr (Nw.tr (Nw.tr hN n1 (.inr fb)) n3 (.inr fb)) Nw.wR (.inr hr)
        have n5 : Nw S (wR S3 r i (some b)) a ((r, 14, 6) :: hl (fun j => if j = i then f3 else f j) (i + 1)) := by
          have e9 : ((((r, 14, 6) :: hl f i) ++ [(b, 6, 0)]) ++ stl f3 ++ [] : NL) = (r, 14, 6) :: hl (fun j => if j = i then f3 else f j) (i + 1) := by
            show _ = (r, 14, 6) :: (hl (fun j => if j = i then f3 else f j) i ++ (((if i = i then f3 else f i) 0, 6, 0) :: stl (if i = i then f3 else f i)))
            rw [if_pos rfl, hl_c (f := f) (f' := fun j => if j = i then f3 else f j) (fun j hj => (if_neg (by omega)).symm), e3]
            simp
          rw [← e9]
          exact n4
        have nr : Nw S3 (wR S3 r i (some b)) r [] := Nw.wR
        have mf : ∀ j, j < i → ∀ k, k < 10 → f j k ∈ pL S1 ∧ f j k ≠ r := fun j hj k hk => by
          obtain ⟨kd, ln, hm2⟩ := hl_mem (f := f) hj hk
          refine ⟨(hN.on (List.mem_cons_of_mem _ hm2)).1.1, fun e => ?_⟩
          have hnd := hN.2.1
          rw [List.map_cons, List.nodup_cons] at hnd
          exact hnd.1 (e ▸ List.mem_map.mpr ⟨_, hm2, rfl⟩)
        obtain ⟨x, ex⟩ : ∃ y9 : Int32, y9 = nI i + 1 := ⟨_, rfl⟩
        refine g_iinc (k := 0) (v := x) (L' := [(1, .int x), (0, .ref a)]) F dX2_init_34 rfl (by rw [ex]; rfl) (Nat.le_of_ble_eq_true rfl) rfl ?_
        refine g_goto (t := 15) F dX2_init_37 (by decide) ?_
        obtain rfl : x = nI (i + 1) := ex.trans (nI_1 _)
        refine ih (i + 1) (wR S3 r i (some b)) (fun j => if j = i then f3 else f j) (by omega) (by omega) n5 ?_ ?_ (fun j hj => ?_) (fun j hj => ?_)
        · exact nr.R (n3.is (n1.is har)).1 hra (n3.R (n1.is har).1 hab (n1.R har.1 hab hR))
        · exact nr.I (n3.is (n1.is har)).1 hra (n3.I (n1.is har).1 hab (n1.I har.1 hab hI))
        · by_cases e : j = i
          · subst e
            rw [if_pos rfl, e3]
            exact up2_s
          · rw [if_neg e]
            exact (up2_k e).trans (n3.R (n1.is hrr.1).1 hrb (n1.R hrr.1.1 hrb (hr1 j (by omega))))
        · by_cases e : j = i
          · subst e
            rw [if_pos rfl]
            refine st3.nw nr (fun k hk => ?_) (fun k hk => ?_)
            · rcases Nat.eq_zero_or_pos k with h | h
              · subst h; rw [e3]; exact hb3.1
              · obtain ⟨kd, ln, hm2⟩ := stl_mem (f := f3) h hk
                exact (n3.on hm2).1.1
            · rcases Nat.eq_zero_or_pos k with h | h
              · subst h; rw [e3]; exact fun e => hrb e.symm
              · obtain ⟨kd, ln, hm2⟩ := stl_mem (f := f3) h hk
                exact fun e => n3.2.2.1 _ hm2 (by show f3 k ∈ _; rw [e]; exact (n1.is hrr.1).1)
          · rw [if_neg e]
            have m1 := mf j (by omega)
            have s1 := (hst j (by omega)).nw n1 (fun k hk => (m1 k hk).1) (fun k hk e => hb (e ▸ (m1 k hk).1))
            have s2 := s1.nw n3 (fun k hk => n1.sub (m1 k hk).1) (fun k hk e => hb (e ▸ (m1 k hk).1))
            exact s2.nw nr (fun k hk => n3.sub (n1.sub (m1 k hk).1)) (fun k hk => (m1 k hk).2)
  have n2 : Nw (aN S r 14 6) (wR (aN S r 14 6) a 1 (some r)) a [] := Nw.wR
  exact lp 7 0 _ (fun _ _ => 0) (by omega) (by omega) (Nw.tr (Nw.tr (Nw.rf (S := S) (a := a)) n0 (.inr hr)) n2 (.inl rfl)) up2_s (n0.I ha.1 hra hz) (fun j hj => absurd hj (Nat.not_lt_zero j)) (fun j hj => absurd hj (Nat.not_lt_zero j))

set_option maxHeartbeats 4000000 in
set_option maxRecDepth 100000 in
theorem kX9_init (g : Glo) (S : PS) (a : Nat) (ha : Is S.1 a 9) (hz : pI S a = fun _ => 0) (hz2 : pJ S a = fun _ => 0) : Ct g mX9_init 98 1100 [.ref a] S (pV9 (fun S' => ∃ (x1 : Nat) (x15 : Nat → Nat) (x29 : Nat) (x49 : Nat → Nat) (x70 : Nat) (x96 : Nat) (x97 : Nat → Nat → Nat) (x125 : Nat) (x157 : Nat) (x158 : Nat) (x194 : Nat) (x232 : Nat) (x233 : Nat) (x234 : Nat) (x308 : Nat) (x360 : Nat) (x361 : Nat) (x452 : Nat), Nw S S' a ((((((((((((((((((((([] ++ [(x1, 6, 0)]) ++ (stl x15)) ++ []) ++ [(x29, 6, 0)]) ++ (stl x49)) ++ []) ++ [(x70, 2, 0)]) ++ ((x96, 14, 6) :: hl x97 6)) ++ []) ++ [(x125, 1, 0)]) ++ [(x157, 0, 0), (x158, 8, 0)]) ++ []) ++ [(x194, 3, 0)]) ++ [(x232, 12, 12), (x233, 12, 12), (x234, 13, 12)]) ++ []) ++ [(x308, 7, 0)]) ++ [(x360, 11, 20), (x361, 11, 20)]) ++ []) ++ [(x452, 11, 60)]) ++ [])) ∧ pI S' a = (fun _ => 0) ∧ pJ S' a = (fun _ => 0) ∧ pR S' a 0 = some x1 ∧ pR S' a 1 = some x29 ∧ pR S' a 2 = some x70 ∧ pR S' a 3 = some x125 ∧ pR S' a 4 = some x194 ∧ pR S' a 5 = some x308 ∧ pR S' a 6 = some x452 ∧ pR S' x125 0 = some x157 ∧ pR S' x125 1 = some x158 ∧ pR S' x194 0 = some x232 ∧ pR S' x194 1 = some x233 ∧ pR S' x194 2 = some x234 ∧ pR S' x308 0 = some x360 ∧ pR S' x308 1 = some x361 ∧ x15 0 = x1 ∧ St0 S' x15 ∧ x49 0 = x29 ∧ St0 S' x49 ∧ Hi0 S' x70 x96 x97)) := by
  refine Ct.of (by decide) (Nat.le_of_ble_eq_true rfl) (fun Γ hg F T => ?_)
  subst hg
  show G Γ S 0 0 0 [(0, .ref a)] []
  refine g_aload_n (k := 0) F 0 rfl dX9_init_0 ?_
  refine g_objInit F mw10 mw11 mw12 ⟨(Nat.le_of_ble_eq_true rfl), (Nat.le_of_ble_eq_true rfl)⟩ dX9_init_1 ?_
  refine g_aload_n (k := 0) F 0 rfl dX9_init_4 ?_
  refine g_new (ci := 6) F clX6 (fun k hk => (nwX6 k hk).1) mw13 mw14 mw15 (fun k hk => (nwX6 k hk).2) ⟨(Nat.le_of_ble_eq_true rfl), (Nat.le_of_ble_eq_true rfl)⟩ dX9_init_5 (fun x1 h2 => ?_)
  have z3 : x1 ∉ pL S := fun h => h2 (Nw.sub (Nw.rf (S := S) (a := a)) h)
  have d4 : a ≠ x1 := fun e => h2 (e ▸ ha.1)
  have s5 : Nw S (aN S x1 6 0) x1 [(x1, 6, 0)] := Nw.new h2
  have f6 : pI (aN S x1 6 0) a = (fun _ => 0) := Nw.I s5 ha.1 d4 hz
  have f7 : pJ (aN S x1 6 0) a = (fun _ => 0) := Nw.J s5 ha.1 d4 hz2
  have i8 := Nw.is s5 ha
  have w9 : Nw S (aN S x1 6 0) a ([] ++ [(x1, 6, 0)]) := Nw.tr (Nw.rf (S := S) (a := a)) s5 (.inr z3)
  have i10 : Is (aN S x1 6 0).1 x1 6 := Is_new
  have n11 : (aN S x1 6 0).1.2.2 x1 = 0 := aN_N
  refine g_dup F dX9_init_8 rfl ?_
  refine g_callIN (host := "PolarPlanimeter") F (kX6_init Γ.1 (aN S x1 6 0) x1 i10 aN_I) okX6_init nwM27 ⟨(Nat.le_of_ble_eq_true rfl), (Nat.le_of_ble_eq_true rfl)⟩ rfl rfl (Nat.le_of_ble_eq_true rfl) ⟨(Nat.le_of_ble_eq_true rfl), (Nat.le_of_ble_eq_true rfl)⟩ dX9_init_9 (toV (fun S13 h12 => ?_))
  obtain ⟨x15, t14N, t14_0, t14_1⟩ := h12
  have s16 : Nw (aN S x1 6 0) S13 x1 (stl x15) := t14N
  have f17 : pI S13 a = (fun _ => 0) := Nw.I s16 i8.1 d4 f6
  have f18 : pJ S13 a = (fun _ => 0) := Nw.J s16 i8.1 d4 f7
  have i19 := Nw.is s16 i8
  have i20 := Nw.is s16 i10
  have n21 : S13.1.2.2 x1 = 0 := Nw.nn s16 i10.1 n11
  have w22 : Nw S S13 a (([] ++ [(x1, 6, 0)]) ++ (stl x15)) := Nw.tr w9 s16 (.inr z3)
  refine pfX9_10 F T.2.2 i19 dX9_init_12 ?_
  have s23 : Nw S13 (wR S13 a 0 (some x1)) a [] := Nw.wR
  have i24 := Nw.is s23 i19
  have i25 := Nw.is s23 i20
  have n26 : (wR S13 a 0 (some x1)).1.2.2 x1 = 0 := Nw.nn s23 i20.1 n21
  have w27 : Nw S (wR S13 a 0 (some x1)) a ((([] ++ [(x1, 6, 0)]) ++ (stl x15)) ++ []) := Nw.tr w22 s23 (.inl rfl)
  have c28 := Nw.tr (Nw.rf (S := S13) (a := a)) s23 (.inl rfl)
  refine g_aload_n (k := 0) F 0 rfl dX9_init_15 ?_
  refine g_new (ci := 6) F clX6 (fun k hk => (nwX6 k hk).1) mw13 mw14 mw15 (fun k hk => (nwX6 k hk).2) ⟨(Nat.le_of_ble_eq_true rfl), (Nat.le_of_ble_eq_true rfl)⟩ dX9_init_16 (fun x29 h30 => ?_)
  have z31 : x29 ∉ pL S := fun h => h30 (Nw.sub w27 h)
  have z32 : x29 ∉ pL S13 := fun h => h30 (Nw.sub c28 h)
  have d33 : a ≠ x29 := fun e => h30 (e ▸ i24.1)
  have d34 : x1 ≠ x29 := fun e => h30 (e ▸ i25.1)
  have s35 : Nw (wR S13 a 0 (some x1)) (aN (wR S13 a 0 (some x1)) x29 6 0) x29 [(x29, 6, 0)] := Nw.new h30
  have f36 : pI (aN (wR S13 a 0 (some x1)) x29 6 0) a = (fun _ => 0) := Nw.I s35 i24.1 d33 f17
  have f37 : pJ (aN (wR S13 a 0 (some x1)) x29 6 0) a = (fun _ => 0) := Nw.J s35 i24.1 d33 f18
  have f38 : pR (aN (wR S13 a 0 (some x1)) x29 6 0) a 0 = some x1 := Nw.R s35 i24.1 d33 up2_s
  have i39 := Nw.is s35 i24
  have i40 := Nw.is s35 i25
  have n41 : (aN (wR S13 a 0 (some x1)) x29 6 0).1.2.2 x1 = 0 := Nw.nn s35 i25.1 n26
  have w42 : Nw S (aN (wR S13 a 0 (some x1)) x29 6 0) a (((([] ++ [(x1, 6, 0)]) ++ (stl x15)) ++ []) ++ [(x29, 6, 0)]) := Nw.tr w27 s35 (.inr z31)
  have c43 := Nw.tr c28 s35 (.inr z32)
  have i44 : Is (aN (wR S13 a 0 (some x1)) x29 6 0).1 x29 6 := Is_new
  have n45 : (aN (wR S13 a 0 (some x1)) x29 6 0).1.2.2 x29 = 0 := aN_N
  refine g_dup F dX9_init_19 rfl ?_
  refine g_callIN (host := "PolarPlanimeter") F (kX6_init Γ.1 (aN (wR S13 a 0 (some x1)) x29 6 0) x29 i44 aN_I) okX6_init nwM27 ⟨(Nat.le_of_ble_eq_true rfl), (Nat.le_of_ble_eq_true rfl)⟩ rfl rfl (Nat.le_of_ble_eq_true rfl) ⟨(Nat.le_of_ble_eq_true rfl), (Nat.le_of_ble_eq_true rfl)⟩ dX9_init_20 (toV (fun S47 h46 => ?_))
  obtain ⟨x49, t48N, t48_0, t48_1⟩ := h46
  have s50 : Nw (aN (wR S13 a 0 (some x1)) x29 6 0) S47 x29 (stl x49) := t48N
  have f51 : pI S47 a = (fun _ => 0) := Nw.I s50 i39.1 d33 f36
  have f52 : pJ S47 a = (fun _ => 0) := Nw.J s50 i39.1 d33 f37
  have f53 : pR S47 a 0 = some x1 := Nw.R s50 i39.1 d33 f38
  have i54 := Nw.is s50 i39
  have i55 := Nw.is s50 i40
  have i56 := Nw.is s50 i44
  have n57 : S47.1.2.2 x1 = 0 := Nw.nn s50 i40.1 n41
  have n58 : S47.1.2.2 x29 = 0 := Nw.nn s50 i44.1 n45
  have w59 : Nw S S47 a ((((([] ++ [(x1, 6, 0)]) ++ (stl x15)) ++ []) ++ [(x29, 6, 0)]) ++ (stl x49)) := Nw.tr w42 s50 (.inr z31)
  have c60 := Nw.tr c43 s50 (.inr z32)
  refine pfX9_16 F T.2.2 i54 dX9_init_23 ?_
  have s61 : Nw S47 (wR S47 a 1 (some x29)) a [] := Nw.wR
  have i62 := Nw.is s61 i54
  have i63 := Nw.is s61 i55
  have i64 := Nw.is s61 i56
  have n65 : (wR S47 a 1 (some x29)).1.2.2 x1 = 0 := Nw.nn s61 i55.1 n57
  have n66 : (wR S47 a 1 (some x29)).1.2.2 x29 = 0 := Nw.nn s61 i56.1 n58
  have w67 : Nw S (wR S47 a 1 (some x29)) a (((((([] ++ [(x1, 6, 0)]) ++ (stl x15)) ++ []) ++ [(x29, 6, 0)]) ++ (stl x49)) ++ []) := Nw.tr w59 s61 (.inl rfl)
  have c68 := Nw.tr c60 s61 (.inl rfl)
  have c69 := Nw.tr (Nw.rf (S := S47) (a := a)) s61 (.inl rfl)
  refine g_aload_n (k := 0) F 0 rfl dX9_init_26 ?_
  refine g_new (ci := 2) F clX2 (fun k hk => (nwX2 k hk).1) mw18 mw19 mw20 (fun k hk => (nwX2 k hk).2) ⟨(Nat.le_of_ble_eq_true rfl), (Nat.le_of_ble_eq_true rfl)⟩ dX9_init_27 (fun x70 h71 => ?_)
  have z72 : x70 ∉ pL S := fun h => h71 (Nw.sub w67 h)
  have z73 : x70 ∉ pL S13 := fun h => h71 (Nw.sub c68 h)
  have z74 : x70 ∉ pL S47 := fun h => h71 (Nw.sub c69 h)
  have d75 : a ≠ x70 := fun e => h71 (e ▸ i62.1)
  have d76 : x1 ≠ x70 := fun e => h71 (e ▸ i63.1)
  have d77 : x29 ≠ x70 := fun e => h71 (e ▸ i64.1)
  have s78 : Nw (wR S47 a 1 (some x29)) (aN (wR S47 a 1 (some x29)) x70 2 0) x70 [(x70, 2, 0)] := Nw.new h71
  have f79 : pI (aN (wR S47 a 1 (some x29)) x70 2 0) a = (fun _ => 0) := Nw.I s78 i62.1 d75 f51
  have f80 : pJ (aN (wR S47 a 1 (some x29)) x70 2 0) a = (fun _ => 0) := Nw.J s78 i62.1 d75 f52
  have f81 : pR (aN (wR S47 a 1 (some x29)) x70 2 0) a 0 = some x1 := Nw.R s78 i62.1 d75 ((up2_k (by decide)).trans f53)
  have f82 : pR (aN (wR S47 a 1 (some x29)) x70 2 0) a 1 = some x29 := Nw.R s78 i62.1 d75 up2_s
  have i83 := Nw.is s78 i62
  have i84 := Nw.is s78 i63
  have i85 := Nw.is s78 i64
  have n86 : (aN (wR S47 a 1 (some x29)) x70 2 0).1.2.2 x1 = 0 := Nw.nn s78 i63.1 n65
  have n87 : (aN (wR S47 a 1 (some x29)) x70 2 0).1.2.2 x29 = 0 := Nw.nn s78 i64.1 n66
  have w88 : Nw S (aN (wR S47 a 1 (some x29)) x70 2 0) a ((((((([] ++ [(x1, 6, 0)]) ++ (stl x15)) ++ []) ++ [(x29, 6, 0)]) ++ (stl x49)) ++ []) ++ [(x70, 2, 0)]) := Nw.tr w67 s78 (.inr z72)
  have c89 := Nw.tr c68 s78 (.inr z73)
  have c90 := Nw.tr c69 s78 (.inr z74)
  have i91 : Is (aN (wR S47 a 1 (some x29)) x70 2 0).1 x70 2 := Is_new
  have n92 : (aN (wR S47 a 1 (some x29)) x70 2 0).1.2.2 x70 = 0 := aN_N
  refine g_dup F dX9_init_30 rfl ?_
  refine g_callIN (host := "PolarPlanimeter") F (kX2_init Γ.1 (aN (wR S47 a 1 (some x29)) x70 2 0) x70 i91 aN_I) okX2_init nwM4 ⟨(Nat.le_of_ble_eq_true rfl), (Nat.le_of_ble_eq_true rfl)⟩ rfl rfl (Nat.le_of_ble_eq_true rfl) ⟨(Nat.le_of_ble_eq_true rfl), (Nat.le_of_ble_eq_true rfl)⟩ dX9_init_31 (toV (fun S94 h93 => ?_))
  obtain ⟨x96, x97, t95N, t95_0⟩ := h93
  have s98 : Nw (aN (wR S47 a 1 (some x29)) x70 2 0) S94 x70 ((x96, 14, 6) :: hl x97 6) := t95N
  have f99 : pI S94 a = (fun _ => 0) := Nw.I s98 i83.1 d75 f79
  have f100 : pJ S94 a = (fun _ => 0) := Nw.J s98 i83.1 d75 f80
  have f101 : pR S94 a 0 = some x1 := Nw.R s98 i83.1 d75 f81
  have f102 : pR S94 a 1 = some x29 := Nw.R s98 i83.1 d75 f82
  have i103 := Nw.is s98 i83
  have i104 := Nw.is s98 i84
  have i105 := Nw.is s98 i85
  have i106 := Nw.is s98 i91
  have n107 : S94.1.2.2 x1 = 0 := Nw.nn s98 i84.1 n86
  have n108 : S94.1.2.2 x29 = 0 := Nw.nn s98 i85.1 n87
  have n109 : S94.1.2.2 x70 = 0 := Nw.nn s98 i91.1 n92
  have w110 : Nw S S94 a (((((((([] ++ [(x1, 6, 0)]) ++ (stl x15)) ++ []) ++ [(x29, 6, 0)]) ++ (stl x49)) ++ []) ++ [(x70, 2, 0)]) ++ ((x96, 14, 6) :: hl x97 6)) := Nw.tr w88 s98 (.inr z72)
  have c111 := Nw.tr c89 s98 (.inr z73)
  have c112 := Nw.tr c90 s98 (.inr z74)
  refine pfX9_22 F T.2.2 i103 dX9_init_34 ?_
  have s113 : Nw S94 (wR S94 a 2 (some x70)) a [] := Nw.wR
  have i114 := Nw.is s113 i103
  have i115 := Nw.is s113 i104
  have i116 := Nw.is s113 i105
  have i117 := Nw.is s113 i106
  have n118 : (wR S94 a 2 (some x70)).1.2.2 x1 = 0 := Nw.nn s113 i104.1 n107
  have n119 : (wR S94 a 2 (some x70)).1.2.2 x29 = 0 := Nw.nn s113 i105.1 n108
  have n120 : (wR S94 a 2 (some x70)).1.2.2 x70 = 0 := Nw.nn s113 i106.1 n109
  have w121 : Nw S (wR S94 a 2 (some x70)) a ((((((((([] ++ [(x1, 6, 0)]) ++ (stl x15)) ++ []) ++ [(x29, 6, 0)]) ++ (stl x49)) ++ []) ++ [(x70, 2, 0)]) ++ ((x96, 14, 6) :: hl x97 6)) ++ []) := Nw.tr w110 s113 (.inl rfl)
  have c122 := Nw.tr c111 s113 (.inl rfl)
  have c123 := Nw.tr c112 s113 (.inl rfl)
  have c124 := Nw.tr (Nw.rf (S := S94) (a := a)) s113 (.inl rfl)
  refine g_aload_n (k := 0) F 0 rfl dX9_init_37 ?_
  refine g_new (ci := 1) F clX1 (fun k hk => (nwX1 k hk).1) mw22 mw23 mw24 (fun k hk => (nwX1 k hk).2) ⟨(Nat.le_of_ble_eq_true rfl), (Nat.le_of_ble_eq_true rfl)⟩ dX9_init_38 (fun x125 h126 => ?_)
  have z127 : x125 ∉ pL S := fun h => h126 (Nw.sub w121 h)
  have z128 : x125 ∉ pL S13 := fun h => h126 (Nw.sub c122 h)
  have z129 : x125 ∉ pL S47 := fun h => h126 (Nw.sub c123 h)
  have z130 : x125 ∉ pL S94 := fun h => h126 (Nw.sub c124 h)
  have d131 : a ≠ x125 := fun e => h126 (e ▸ i114.1)
  have d132 : x1 ≠ x125 := fun e => h126 (e ▸ i115.1)
  have d133 : x29 ≠ x125 := fun e => h126 (e ▸ i116.1)
  have d134 : x70 ≠ x125 := fun e => h126 (e ▸ i117.1)
  have s135 : Nw (wR S94 a 2 (some x70)) (aN (wR S94 a 2 (some x70)) x125 1 0) x125 [(x125, 1, 0)] := Nw.new h126
  have f136 : pI (aN (wR S94 a 2 (some x70)) x125 1 0) a = (fun _ => 0) := Nw.I s135 i114.1 d131 f99
  have f137 : pJ (aN (wR S94 a 2 (some x70)) x125 1 0) a = (fun _ => 0) := Nw.J s135 i114.1 d131 f100
  have f138 : pR (aN (wR S94 a 2 (some x70)) x125 1 0) a 0 = some x1 := Nw.R s135 i114.1 d131 ((up2_k (by decide)).trans f101)
  have f139 : pR (aN (wR S94 a 2 (some x70)) x125 1 0) a 1 = some x29 := Nw.R s135 i114.1 d131 ((up2_k (by decide)).trans f102)
  have f140 : pR (aN (wR S94 a 2 (some x70)) x125 1 0) a 2 = some x70 := Nw.R s135 i114.1 d131 up2_s
  have i141 := Nw.is s135 i114
  have i142 := Nw.is s135 i115
  have i143 := Nw.is s135 i116
  have i144 := Nw.is s135 i117
  have n145 : (aN (wR S94 a 2 (some x70)) x125 1 0).1.2.2 x1 = 0 := Nw.nn s135 i115.1 n118
  have n146 : (aN (wR S94 a 2 (some x70)) x125 1 0).1.2.2 x29 = 0 := Nw.nn s135 i116.1 n119
  have n147 : (aN (wR S94 a 2 (some x70)) x125 1 0).1.2.2 x70 = 0 := Nw.nn s135 i117.1 n120
  have w148 : Nw S (aN (wR S94 a 2 (some x70)) x125 1 0) a (((((((((([] ++ [(x1, 6, 0)]) ++ (stl x15)) ++ []) ++ [(x29, 6, 0)]) ++ (stl x49)) ++ []) ++ [(x70, 2, 0)]) ++ ((x96, 14, 6) :: hl x97 6)) ++ []) ++ [(x125, 1, 0)]) := Nw.tr w121 s135 (.inr z127)
  have c149 := Nw.tr c122 s135 (.inr z128)
  have c150 := Nw.tr c123 s135 (.inr z129)
  have c151 := Nw.tr c124 s135 (.inr z130)
  have i152 : Is (aN (wR S94 a 2 (some x70)) x125 1 0).1 x125 1 := Is_new
  have n153 : (aN (wR S94 a 2 (some x70)) x125 1 0).1.2.2 x125 = 0 := aN_N
  refine g_dup F dX9_init_41 rfl ?_
  refine g_callIN (host := "PolarPlanimeter") F (kX1_init Γ.1 (aN (wR S94 a 2 (some x70)) x125 1 0) x125 i152) okX1_init nwM13 ⟨(Nat.le_of_ble_eq_true rfl), (Nat.le_of_ble_eq_true rfl)⟩ rfl rfl (Nat.le_of_ble_eq_true rfl) ⟨(Nat.le_of_ble_eq_true rfl), (Nat.le_of_ble_eq_true rfl)⟩ dX9_init_42 (toV (fun S155 h154 => ?_))
  obtain ⟨x157, x158, t156N, t156_0, t156_1⟩ := h154
  have s159 : Nw (aN (wR S94 a 2 (some x70)) x125 1 0) S155 x125 [(x157, 0, 0), (x158, 8, 0)] := t156N
  have f160 : pI S155 a = (fun _ => 0) := Nw.I s159 i141.1 d131 f136
  have f161 : pJ S155 a = (fun _ => 0) := Nw.J s159 i141.1 d131 f137
  have f162 : pR S155 a 0 = some x1 := Nw.R s159 i141.1 d131 f138
  have f163 : pR S155 a 1 = some x29 := Nw.R s159 i141.1 d131 f139
  have f164 : pR S155 a 2 = some x70 := Nw.R s159 i141.1 d131 f140
  have i165 := Nw.is s159 i141
  have i166 := Nw.is s159 i142
  have i167 := Nw.is s159 i143
  have i168 := Nw.is s159 i144
  have i169 := Nw.is s159 i152
  have n170 : S155.1.2.2 x1 = 0 := Nw.nn s159 i142.1 n145
  have n171 : S155.1.2.2 x29 = 0 := Nw.nn s159 i143.1 n146
  have n172 : S155.1.2.2 x70 = 0 := Nw.nn s159 i144.1 n147
  have n173 : S155.1.2.2 x125 = 0 := Nw.nn s159 i152.1 n153
  have w174 : Nw S S155 a ((((((((((([] ++ [(x1, 6, 0)]) ++ (stl x15)) ++ []) ++ [(x29, 6, 0)]) ++ (stl x49)) ++ []) ++ [(x70, 2, 0)]) ++ ((x96, 14, 6) :: hl x97 6)) ++ []) ++ [(x125, 1, 0)]) ++ [(x157, 0, 0), (x158, 8, 0)]) := Nw.tr w148 s159 (.inr z127)
  have c175 := Nw.tr c149 s159 (.inr z128)
  have c176 := Nw.tr c150 s159 (.inr z129)
  have c177 := Nw.tr c151 s159 (.inr z130)
  refine pfX9_29 F T.2.2 i165 dX9_init_45 ?_
  have s178 : Nw S155 (wR S155 a 3 (some x125)) a [] := Nw.wR
  have f179 : pR (wR S155 a 3 (some x125)) x125 0 = some x157 := Nw.R s178 i169.1 (fun e => d131 e.symm) t156_0
  have f180 : pR (wR S155 a 3 (some x125)) x125 1 = some x158 := Nw.R s178 i169.1 (fun e => d131 e.symm) t156_1
  have i181 := Nw.is s178 i165
  have i182 := Nw.is s178 i166
  have i183 := Nw.is s178 i167
  have i184 := Nw.is s178 i168
  have i185 := Nw.is s178 i169
  have n186 : (wR S155 a 3 (some x125)).1.2.2 x1 = 0 := Nw.nn s178 i166.1 n170
  have n187 : (wR S155 a 3 (some x125)).1.2.2 x29 = 0 := Nw.nn s178 i167.1 n171
  have n188 : (wR S155 a 3 (some x125)).1.2.2 x70 = 0 := Nw.nn s178 i168.1 n172
  have n189 : (wR S155 a 3 (some x125)).1.2.2 x125 = 0 := Nw.nn s178 i169.1 n173
  have w190 : Nw S (wR S155 a 3 (some x125)) a (((((((((((([] ++ [(x1, 6, 0)]) ++ (stl x15)) ++ []) ++ [(x29, 6, 0)]) ++ (stl x49)) ++ []) ++ [(x70, 2, 0)]) ++ ((x96, 14, 6) :: hl x97 6)) ++ []) ++ [(x125, 1, 0)]) ++ [(x157, 0, 0), (x158, 8, 0)]) ++ []) := Nw.tr w174 s178 (.inl rfl)
  have c191 := Nw.tr c175 s178 (.inl rfl)
  have c192 := Nw.tr c176 s178 (.inl rfl)
  have c193 := Nw.tr c177 s178 (.inl rfl)
  refine g_aload_n (k := 0) F 0 rfl dX9_init_48 ?_
  refine g_new (ci := 3) F clX3 (fun k hk => (nwX3 k hk).1) mw26 mw27 mw28 (fun k hk => (nwX3 k hk).2) ⟨(Nat.le_of_ble_eq_true rfl), (Nat.le_of_ble_eq_true rfl)⟩ dX9_init_49 (fun x194 h195 => ?_)
  have z196 : x194 ∉ pL S := fun h => h195 (Nw.sub w190 h)
  have z197 : x194 ∉ pL S13 := fun h => h195 (Nw.sub c191 h)
  have z198 : x194 ∉ pL S47 := fun h => h195 (Nw.sub c192 h)
  have z199 : x194 ∉ pL S94 := fun h => h195 (Nw.sub c193 h)
  have d200 : a ≠ x194 := fun e => h195 (e ▸ i181.1)
  have d201 : x1 ≠ x194 := fun e => h195 (e ▸ i182.1)
  have d202 : x29 ≠ x194 := fun e => h195 (e ▸ i183.1)
  have d203 : x70 ≠ x194 := fun e => h195 (e ▸ i184.1)
  have d204 : x125 ≠ x194 := fun e => h195 (e ▸ i185.1)
  have s205 : Nw (wR S155 a 3 (some x125)) (aN (wR S155 a 3 (some x125)) x194 3 0) x194 [(x194, 3, 0)] := Nw.new h195
  have f206 : pI (aN (wR S155 a 3 (some x125)) x194 3 0) a = (fun _ => 0) := Nw.I s205 i181.1 d200 f160
  have f207 : pJ (aN (wR S155 a 3 (some x125)) x194 3 0) a = (fun _ => 0) := Nw.J s205 i181.1 d200 f161
  have f208 : pR (aN (wR S155 a 3 (some x125)) x194 3 0) a 0 = some x1 := Nw.R s205 i181.1 d200 ((up2_k (by decide)).trans f162)
  have f209 : pR (aN (wR S155 a 3 (some x125)) x194 3 0) a 1 = some x29 := Nw.R s205 i181.1 d200 ((up2_k (by decide)).trans f163)
  have f210 : pR (aN (wR S155 a 3 (some x125)) x194 3 0) a 2 = some x70 := Nw.R s205 i181.1 d200 ((up2_k (by decide)).trans f164)
  have f211 : pR (aN (wR S155 a 3 (some x125)) x194 3 0) x125 0 = some x157 := Nw.R s205 i185.1 d204 f179
  have f212 : pR (aN (wR S155 a 3 (some x125)) x194 3 0) x125 1 = some x158 := Nw.R s205 i185.1 d204 f180
  have f213 : pR (aN (wR S155 a 3 (some x125)) x194 3 0) a 3 = some x125 := Nw.R s205 i181.1 d200 up2_s
  have i214 := Nw.is s205 i181
  have i215 := Nw.is s205 i182
  have i216 := Nw.is s205 i183
  have i217 := Nw.is s205 i184
  have i218 := Nw.is s205 i185
  have n219 : (aN (wR S155 a 3 (some x125)) x194 3 0).1.2.2 x1 = 0 := Nw.nn s205 i182.1 n186
  have n220 : (aN (wR S155 a 3 (some x125)) x194 3 0).1.2.2 x29 = 0 := Nw.nn s205 i183.1 n187
  have n221 : (aN (wR S155 a 3 (some x125)) x194 3 0).1.2.2 x70 = 0 := Nw.nn s205 i184.1 n188
  have n222 : (aN (wR S155 a 3 (some x125)) x194 3 0).1.2.2 x125 = 0 := Nw.nn s205 i185.1 n189
  have w223 : Nw S (aN (wR S155 a 3 (some x125)) x194 3 0) a ((((((((((((([] ++ [(x1, 6, 0)]) ++ (stl x15)) ++ []) ++ [(x29, 6, 0)]) ++ (stl x49)) ++ []) ++ [(x70, 2, 0)]) ++ ((x96, 14, 6) :: hl x97 6)) ++ []) ++ [(x125, 1, 0)]) ++ [(x157, 0, 0), (x158, 8, 0)]) ++ []) ++ [(x194, 3, 0)]) := Nw.tr w190 s205 (.inr z196)
  have c224 := Nw.tr c191 s205 (.inr z197)
  have c225 := Nw.tr c192 s205 (.inr z198)
  have c226 := Nw.tr c193 s205 (.inr z199)
  have i227 : Is (aN (wR S155 a 3 (some x125)) x194 3 0).1 x194 3 := Is_new
  have n228 : (aN (wR S155 a 3 (some x125)) x194 3 0).1.2.2 x194 = 0 := aN_N
  refine g_dup F dX9_init_52 rfl ?_
  refine g_callIN (host := "PolarPlanimeter") F (kX3_init Γ.1 (aN (wR S155 a 3 (some x125)) x194 3 0) x194 i227) okX3_init nwM23 ⟨(Nat.le_of_ble_eq_true rfl), (Nat.le_of_ble_eq_true rfl)⟩ rfl rfl (Nat.le_of_ble_eq_true rfl) ⟨(Nat.le_of_ble_eq_true rfl), (Nat.le_of_ble_eq_true rfl)⟩ dX9_init_53 (toV (fun S230 h229 => ?_))
  obtain ⟨x232, x233, x234, t231N, t231_0, t231_1, t231_2, t231_3, t231_4⟩ := h229
  have z235 : x232 ∉ pL S := fun h => t231N.2.2.1 _ (show (x232, 12, 12) ∈ [(x232, 12, 12), (x233, 12, 12), (x234, 13, 12)] by simp) (Nw.sub w223 h)
  have d236 : a ≠ x232 := Nw.ne t231N i214.1 (show (x232, 12, 12) ∈ [(x232, 12, 12), (x233, 12, 12), (x234, 13, 12)] by simp)
  have d237 : x1 ≠ x232 := Nw.ne t231N i215.1 (show (x232, 12, 12) ∈ [(x232, 12, 12), (x233, 12, 12), (x234, 13, 12)] by simp)
  have d238 : x29 ≠ x232 := Nw.ne t231N i216.1 (show (x232, 12, 12) ∈ [(x232, 12, 12), (x233, 12, 12), (x234, 13, 12)] by simp)
  have d239 : x70 ≠ x232 := Nw.ne t231N i217.1 (show (x232, 12, 12) ∈ [(x232, 12, 12), (x233, 12, 12), (x234, 13, 12)] by simp)
  have d240 : x125 ≠ x232 := Nw.ne t231N i218.1 (show (x232, 12, 12) ∈ [(x232, 12, 12), (x233, 12, 12), (x234, 13, 12)] by simp)
  have d241 : x194 ≠ x232 := Nw.ne t231N i227.1 (show (x232, 12, 12) ∈ [(x232, 12, 12), (x233, 12, 12), (x234, 13, 12)] by simp)
  have z242 : x233 ∉ pL S := fun h => t231N.2.2.1 _ (show (x233, 12, 12) ∈ [(x232, 12, 12), (x233, 12, 12), (x234, 13, 12)] by simp) (Nw.sub w223 h)
  have d243 : a ≠ x233 := Nw.ne t231N i214.1 (show (x233, 12, 12) ∈ [(x232, 12, 12), (x233, 12, 12), (x234, 13, 12)] by simp)
  have d244 : x1 ≠ x233 := Nw.ne t231N i215.1 (show (x233, 12, 12) ∈ [(x232, 12, 12), (x233, 12, 12), (x234, 13, 12)] by simp)
  have d245 : x29 ≠ x233 := Nw.ne t231N i216.1 (show (x233, 12, 12) ∈ [(x232, 12, 12), (x233, 12, 12), (x234, 13, 12)] by simp)
  have d246 : x70 ≠ x233 := Nw.ne t231N i217.1 (show (x233, 12, 12) ∈ [(x232, 12, 12), (x233, 12, 12), (x234, 13, 12)] by simp)
  have d247 : x125 ≠ x233 := Nw.ne t231N i218.1 (show (x233, 12, 12) ∈ [(x232, 12, 12), (x233, 12, 12), (x234, 13, 12)] by simp)
  have d248 : x194 ≠ x233 := Nw.ne t231N i227.1 (show (x233, 12, 12) ∈ [(x232, 12, 12), (x233, 12, 12), (x234, 13, 12)] by simp)
  have z249 : x234 ∉ pL S := fun h => t231N.2.2.1 _ (show (x234, 13, 12) ∈ [(x232, 12, 12), (x233, 12, 12), (x234, 13, 12)] by simp) (Nw.sub w223 h)
  have d250 : a ≠ x234 := Nw.ne t231N i214.1 (show (x234, 13, 12) ∈ [(x232, 12, 12), (x233, 12, 12), (x234, 13, 12)] by simp)
  have d251 : x1 ≠ x234 := Nw.ne t231N i215.1 (show (x234, 13, 12) ∈ [(x232, 12, 12), (x233, 12, 12), (x234, 13, 12)] by simp)
  have d252 : x29 ≠ x234 := Nw.ne t231N i216.1 (show (x234, 13, 12) ∈ [(x232, 12, 12), (x233, 12, 12), (x234, 13, 12)] by simp)
  have d253 : x70 ≠ x234 := Nw.ne t231N i217.1 (show (x234, 13, 12) ∈ [(x232, 12, 12), (x233, 12, 12), (x234, 13, 12)] by simp)
  have d254 : x125 ≠ x234 := Nw.ne t231N i218.1 (show (x234, 13, 12) ∈ [(x232, 12, 12), (x233, 12, 12), (x234, 13, 12)] by simp)
  have d255 : x194 ≠ x234 := Nw.ne t231N i227.1 (show (x234, 13, 12) ∈ [(x232, 12, 12), (x233, 12, 12), (x234, 13, 12)] by simp)
  have s256 : Nw (aN (wR S155 a 3 (some x125)) x194 3 0) S230 x194 [(x232, 12, 12), (x233, 12, 12), (x234, 13, 12)] := t231N
  have f257 : pI S230 a = (fun _ => 0) := Nw.I s256 i214.1 d200 f206
  have f258 : pJ S230 a = (fun _ => 0) := Nw.J s256 i214.1 d200 f207
  have f259 : pR S230 a 0 = some x1 := Nw.R s256 i214.1 d200 f208
  have f260 : pR S230 a 1 = some x29 := Nw.R s256 i214.1 d200 f209
  have f261 : pR S230 a 2 = some x70 := Nw.R s256 i214.1 d200 f210
  have f262 : pR S230 x125 0 = some x157 := Nw.R s256 i218.1 d204 f211
  have f263 : pR S230 x125 1 = some x158 := Nw.R s256 i218.1 d204 f212
  have f264 : pR S230 a 3 = some x125 := Nw.R s256 i214.1 d200 f213
  have i265 := Nw.is s256 i214
  have i266 := Nw.is s256 i215
  have i267 := Nw.is s256 i216
  have i268 := Nw.is s256 i217
  have i269 := Nw.is s256 i218
  have i270 := Nw.is s256 i227
  have n271 : S230.1.2.2 x1 = 0 := Nw.nn s256 i215.1 n219
  have n272 : S230.1.2.2 x29 = 0 := Nw.nn s256 i216.1 n220
  have n273 : S230.1.2.2 x70 = 0 := Nw.nn s256 i217.1 n221
  have n274 : S230.1.2.2 x125 = 0 := Nw.nn s256 i218.1 n222
  have n275 : S230.1.2.2 x194 = 0 := Nw.nn s256 i227.1 n228
  have w276 : Nw S S230 a (((((((((((((([] ++ [(x1, 6, 0)]) ++ (stl x15)) ++ []) ++ [(x29, 6, 0)]) ++ (stl x49)) ++ []) ++ [(x70, 2, 0)]) ++ ((x96, 14, 6) :: hl x97 6)) ++ []) ++ [(x125, 1, 0)]) ++ [(x157, 0, 0), (x158, 8, 0)]) ++ []) ++ [(x194, 3, 0)]) ++ [(x232, 12, 12), (x233, 12, 12), (x234, 13, 12)]) := Nw.tr w223 s256 (.inr z196)
  have c277 := Nw.tr c224 s256 (.inr z197)
  have c278 := Nw.tr c225 s256 (.inr z198)
  have c279 := Nw.tr c226 s256 (.inr z199)
  have i280 : Is S230.1 x232 12 := (t231N.on (show (x232, 12, 12) ∈ [(x232, 12, 12), (x233, 12, 12), (x234, 13, 12)] by simp)).1
  have i281 : Is S230.1 x233 12 := (t231N.on (show (x233, 12, 12) ∈ [(x232, 12, 12), (x233, 12, 12), (x234, 13, 12)] by simp)).1
  have i282 : Is S230.1 x234 13 := (t231N.on (show (x234, 13, 12) ∈ [(x232, 12, 12), (x233, 12, 12), (x234, 13, 12)] by simp)).1
  refine pfX9_36 F T.2.2 i265 dX9_init_56 ?_
  have s283 : Nw S230 (wR S230 a 4 (some x194)) a [] := Nw.wR
  have f284 : pR (wR S230 a 4 (some x194)) x125 0 = some x157 := Nw.R s283 i269.1 (fun e => d131 e.symm) f262
  have f285 : pR (wR S230 a 4 (some x194)) x125 1 = some x158 := Nw.R s283 i269.1 (fun e => d131 e.symm) f263
  have f286 : pR (wR S230 a 4 (some x194)) x194 0 = some x232 := Nw.R s283 i270.1 (fun e => d200 e.symm) t231_0
  have f287 : pR (wR S230 a 4 (some x194)) x194 1 = some x233 := Nw.R s283 i270.1 (fun e => d200 e.symm) t231_1
  have f288 : pR (wR S230 a 4 (some x194)) x194 2 = some x234 := Nw.R s283 i270.1 (fun e => d200 e.symm) t231_2
  have f289 : pI (wR S230 a 4 (some x194)) x194 = (fun _ => 0) := Nw.I s283 i270.1 (fun e => d200 e.symm) (t231_3.trans aN_I)
  have i290 := Nw.is s283 i265
  have i291 := Nw.is s283 i266
  have i292 := Nw.is s283 i267
  have i293 := Nw.is s283 i268
  have i294 := Nw.is s283 i269
  have i295 := Nw.is s283 i270
  have i296 := Nw.is s283 i280
  have i297 := Nw.is s283 i281
  have i298 := Nw.is s283 i282
  have n299 : (wR S230 a 4 (some x194)).1.2.2 x1 = 0 := Nw.nn s283 i266.1 n271
  have n300 : (wR S230 a 4 (some x194)).1.2.2 x29 = 0 := Nw.nn s283 i267.1 n272
  have n301 : (wR S230 a 4 (some x194)).1.2.2 x70 = 0 := Nw.nn s283 i268.1 n273
  have n302 : (wR S230 a 4 (some x194)).1.2.2 x125 = 0 := Nw.nn s283 i269.1 n274
  have n303 : (wR S230 a 4 (some x194)).1.2.2 x194 = 0 := Nw.nn s283 i270.1 n275
  have w304 : Nw S (wR S230 a 4 (some x194)) a ((((((((((((((([] ++ [(x1, 6, 0)]) ++ (stl x15)) ++ []) ++ [(x29, 6, 0)]) ++ (stl x49)) ++ []) ++ [(x70, 2, 0)]) ++ ((x96, 14, 6) :: hl x97 6)) ++ []) ++ [(x125, 1, 0)]) ++ [(x157, 0, 0), (x158, 8, 0)]) ++ []) ++ [(x194, 3, 0)]) ++ [(x232, 12, 12), (x233, 12, 12), (x234, 13, 12)]) ++ []) := Nw.tr w276 s283 (.inl rfl)
  have c305 := Nw.tr c277 s283 (.inl rfl)
  have c306 := Nw.tr c278 s283 (.inl rfl)
  have c307 := Nw.tr c279 s283 (.inl rfl)
  refine g_aload_n (k := 0) F 0 rfl dX9_init_59 ?_
  refine g_new (ci := 7) F clX7 (fun k hk => (nwX7 k hk).1) mw30 mw31 mw32 (fun k hk => (nwX7 k hk).2) ⟨(Nat.le_of_ble_eq_true rfl), (Nat.le_of_ble_eq_true rfl)⟩ dX9_init_60 (fun x308 h309 => ?_)
  have z310 : x308 ∉ pL S := fun h => h309 (Nw.sub w304 h)
  have z311 : x308 ∉ pL S13 := fun h => h309 (Nw.sub c305 h)
  have z312 : x308 ∉ pL S47 := fun h => h309 (Nw.sub c306 h)
  have z313 : x308 ∉ pL S94 := fun h => h309 (Nw.sub c307 h)
  have d314 : a ≠ x308 := fun e => h309 (e ▸ i290.1)
  have d315 : x1 ≠ x308 := fun e => h309 (e ▸ i291.1)
  have d316 : x29 ≠ x308 := fun e => h309 (e ▸ i292.1)
  have d317 : x70 ≠ x308 := fun e => h309 (e ▸ i293.1)
  have d318 : x125 ≠ x308 := fun e => h309 (e ▸ i294.1)
  have d319 : x194 ≠ x308 := fun e => h309 (e ▸ i295.1)
  have d320 : x232 ≠ x308 := fun e => h309 (e ▸ i296.1)
  have d321 : x233 ≠ x308 := fun e => h309 (e ▸ i297.1)
  have d322 : x234 ≠ x308 := fun e => h309 (e ▸ i298.1)
  have s323 : Nw (wR S230 a 4 (some x194)) (aN (wR S230 a 4 (some x194)) x308 7 0) x308 [(x308, 7, 0)] := Nw.new h309
  have f324 : pI (aN (wR S230 a 4 (some x194)) x308 7 0) a = (fun _ => 0) := Nw.I s323 i290.1 d314 f257
  have f325 : pJ (aN (wR S230 a 4 (some x194)) x308 7 0) a = (fun _ => 0) := Nw.J s323 i290.1 d314 f258
  have f326 : pR (aN (wR S230 a 4 (some x194)) x308 7 0) a 0 = some x1 := Nw.R s323 i290.1 d314 ((up2_k (by decide)).trans f259)
  have f327 : pR (aN (wR S230 a 4 (some x194)) x308 7 0) a 1 = some x29 := Nw.R s323 i290.1 d314 ((up2_k (by decide)).trans f260)
  have f328 : pR (aN (wR S230 a 4 (some x194)) x308 7 0) a 2 = some x70 := Nw.R s323 i290.1 d314 ((up2_k (by decide)).trans f261)
  have f329 : pR (aN (wR S230 a 4 (some x194)) x308 7 0) x125 0 = some x157 := Nw.R s323 i294.1 d318 f284
  have f330 : pR (aN (wR S230 a 4 (some x194)) x308 7 0) x125 1 = some x158 := Nw.R s323 i294.1 d318 f285
  have f331 : pR (aN (wR S230 a 4 (some x194)) x308 7 0) a 3 = some x125 := Nw.R s323 i290.1 d314 ((up2_k (by decide)).trans f264)
  have f332 : pR (aN (wR S230 a 4 (some x194)) x308 7 0) x194 0 = some x232 := Nw.R s323 i295.1 d319 f286
  have f333 : pR (aN (wR S230 a 4 (some x194)) x308 7 0) x194 1 = some x233 := Nw.R s323 i295.1 d319 f287
  have f334 : pR (aN (wR S230 a 4 (some x194)) x308 7 0) x194 2 = some x234 := Nw.R s323 i295.1 d319 f288
  have f335 : pI (aN (wR S230 a 4 (some x194)) x308 7 0) x194 = (fun _ => 0) := Nw.I s323 i295.1 d319 f289
  have f336 : pR (aN (wR S230 a 4 (some x194)) x308 7 0) a 4 = some x194 := Nw.R s323 i290.1 d314 up2_s
  have i337 := Nw.is s323 i290
  have i338 := Nw.is s323 i291
  have i339 := Nw.is s323 i292
  have i340 := Nw.is s323 i293
  have i341 := Nw.is s323 i294
  have i342 := Nw.is s323 i295
  have i343 := Nw.is s323 i296
  have i344 := Nw.is s323 i297
  have i345 := Nw.is s323 i298
  have n346 : (aN (wR S230 a 4 (some x194)) x308 7 0).1.2.2 x1 = 0 := Nw.nn s323 i291.1 n299
  have n347 : (aN (wR S230 a 4 (some x194)) x308 7 0).1.2.2 x29 = 0 := Nw.nn s323 i292.1 n300
  have n348 : (aN (wR S230 a 4 (some x194)) x308 7 0).1.2.2 x70 = 0 := Nw.nn s323 i293.1 n301
  have n349 : (aN (wR S230 a 4 (some x194)) x308 7 0).1.2.2 x125 = 0 := Nw.nn s323 i294.1 n302
  have n350 : (aN (wR S230 a 4 (some x194)) x308 7 0).1.2.2 x194 = 0 := Nw.nn s323 i295.1 n303
  have w351 : Nw S (aN (wR S230 a 4 (some x194)) x308 7 0) a (((((((((((((((([] ++ [(x1, 6, 0)]) ++ (stl x15)) ++ []) ++ [(x29, 6, 0)]) ++ (stl x49)) ++ []) ++ [(x70, 2, 0)]) ++ ((x96, 14, 6) :: hl x97 6)) ++ []) ++ [(x125, 1, 0)]) ++ [(x157, 0, 0), (x158, 8, 0)]) ++ []) ++ [(x194, 3, 0)]) ++ [(x232, 12, 12), (x233, 12, 12), (x234, 13, 12)]) ++ []) ++ [(x308, 7, 0)]) := Nw.tr w304 s323 (.inr z310)
  have c352 := Nw.tr c305 s323 (.inr z311)
  have c353 := Nw.tr c306 s323 (.inr z312)
  have c354 := Nw.tr c307 s323 (.inr z313)
  have i355 : Is (aN (wR S230 a 4 (some x194)) x308 7 0).1 x308 7 := Is_new
  have n356 : (aN (wR S230 a 4 (some x194)) x308 7 0).1.2.2 x308 = 0 := aN_N
  refine g_dup F dX9_init_63 rfl ?_
  refine g_callIN (host := "PolarPlanimeter") F (kX7_init Γ.1 (aN (wR S230 a 4 (some x194)) x308 7 0) x308 i355) okX7_init nwM24 ⟨(Nat.le_of_ble_eq_true rfl), (Nat.le_of_ble_eq_true rfl)⟩ rfl rfl (Nat.le_of_ble_eq_true rfl) ⟨(Nat.le_of_ble_eq_true rfl), (Nat.le_of_ble_eq_true rfl)⟩ dX9_init_64 (toV (fun S358 h357 => ?_))
  obtain ⟨x360, x361, t359N, t359_0, t359_1, t359_2, t359_3⟩ := h357
  have z362 : x360 ∉ pL S := fun h => t359N.2.2.1 _ (show (x360, 11, 20) ∈ [(x360, 11, 20), (x361, 11, 20)] by simp) (Nw.sub w351 h)
  have d363 : a ≠ x360 := Nw.ne t359N i337.1 (show (x360, 11, 20) ∈ [(x360, 11, 20), (x361, 11, 20)] by simp)
  have d364 : x1 ≠ x360 := Nw.ne t359N i338.1 (show (x360, 11, 20) ∈ [(x360, 11, 20), (x361, 11, 20)] by simp)
  have d365 : x29 ≠ x360 := Nw.ne t359N i339.1 (show (x360, 11, 20) ∈ [(x360, 11, 20), (x361, 11, 20)] by simp)
  have d366 : x70 ≠ x360 := Nw.ne t359N i340.1 (show (x360, 11, 20) ∈ [(x360, 11, 20), (x361, 11, 20)] by simp)
  have d367 : x125 ≠ x360 := Nw.ne t359N i341.1 (show (x360, 11, 20) ∈ [(x360, 11, 20), (x361, 11, 20)] by simp)
  have d368 : x194 ≠ x360 := Nw.ne t359N i342.1 (show (x360, 11, 20) ∈ [(x360, 11, 20), (x361, 11, 20)] by simp)
  have d369 : x232 ≠ x360 := Nw.ne t359N i343.1 (show (x360, 11, 20) ∈ [(x360, 11, 20), (x361, 11, 20)] by simp)
  have d370 : x233 ≠ x360 := Nw.ne t359N i344.1 (show (x360, 11, 20) ∈ [(x360, 11, 20), (x361, 11, 20)] by simp)
  have d371 : x234 ≠ x360 := Nw.ne t359N i345.1 (show (x360, 11, 20) ∈ [(x360, 11, 20), (x361, 11, 20)] by simp)
  have d372 : x308 ≠ x360 := Nw.ne t359N i355.1 (show (x360, 11, 20) ∈ [(x360, 11, 20), (x361, 11, 20)] by simp)
  have z373 : x361 ∉ pL S := fun h => t359N.2.2.1 _ (show (x361, 11, 20) ∈ [(x360, 11, 20), (x361, 11, 20)] by simp) (Nw.sub w351 h)
  have d374 : a ≠ x361 := Nw.ne t359N i337.1 (show (x361, 11, 20) ∈ [(x360, 11, 20), (x361, 11, 20)] by simp)
  have d375 : x1 ≠ x361 := Nw.ne t359N i338.1 (show (x361, 11, 20) ∈ [(x360, 11, 20), (x361, 11, 20)] by simp)
  have d376 : x29 ≠ x361 := Nw.ne t359N i339.1 (show (x361, 11, 20) ∈ [(x360, 11, 20), (x361, 11, 20)] by simp)
  have d377 : x70 ≠ x361 := Nw.ne t359N i340.1 (show (x361, 11, 20) ∈ [(x360, 11, 20), (x361, 11, 20)] by simp)
  have d378 : x125 ≠ x361 := Nw.ne t359N i341.1 (show (x361, 11, 20) ∈ [(x360, 11, 20), (x361, 11, 20)] by simp)
  have d379 : x194 ≠ x361 := Nw.ne t359N i342.1 (show (x361, 11, 20) ∈ [(x360, 11, 20), (x361, 11, 20)] by simp)
  have d380 : x232 ≠ x361 := Nw.ne t359N i343.1 (show (x361, 11, 20) ∈ [(x360, 11, 20), (x361, 11, 20)] by simp)
  have d381 : x233 ≠ x361 := Nw.ne t359N i344.1 (show (x361, 11, 20) ∈ [(x360, 11, 20), (x361, 11, 20)] by simp)
  have d382 : x234 ≠ x361 := Nw.ne t359N i345.1 (show (x361, 11, 20) ∈ [(x360, 11, 20), (x361, 11, 20)] by simp)
  have d383 : x308 ≠ x361 := Nw.ne t359N i355.1 (show (x361, 11, 20) ∈ [(x360, 11, 20), (x361, 11, 20)] by simp)
  have s384 : Nw (aN (wR S230 a 4 (some x194)) x308 7 0) S358 x308 [(x360, 11, 20), (x361, 11, 20)] := t359N
  have f385 : pI S358 a = (fun _ => 0) := Nw.I s384 i337.1 d314 f324
  have f386 : pJ S358 a = (fun _ => 0) := Nw.J s384 i337.1 d314 f325
  have f387 : pR S358 a 0 = some x1 := Nw.R s384 i337.1 d314 f326
  have f388 : pR S358 a 1 = some x29 := Nw.R s384 i337.1 d314 f327
  have f389 : pR S358 a 2 = some x70 := Nw.R s384 i337.1 d314 f328
  have f390 : pR S358 x125 0 = some x157 := Nw.R s384 i341.1 d318 f329
  have f391 : pR S358 x125 1 = some x158 := Nw.R s384 i341.1 d318 f330
  have f392 : pR S358 a 3 = some x125 := Nw.R s384 i337.1 d314 f331
  have f393 : pR S358 x194 0 = some x232 := Nw.R s384 i342.1 d319 f332
  have f394 : pR S358 x194 1 = some x233 := Nw.R s384 i342.1 d319 f333
  have f395 : pR S358 x194 2 = some x234 := Nw.R s384 i342.1 d319 f334
  have f396 : pI S358 x194 = (fun _ => 0) := Nw.I s384 i342.1 d319 f335
  have f397 : pR S358 a 4 = some x194 := Nw.R s384 i337.1 d314 f336
  have i398 := Nw.is s384 i337
  have i399 := Nw.is s384 i338
  have i400 := Nw.is s384 i339
  have i401 := Nw.is s384 i340
  have i402 := Nw.is s384 i341
  have i403 := Nw.is s384 i342
  have i404 := Nw.is s384 i343
  have i405 := Nw.is s384 i344
  have i406 := Nw.is s384 i345
  have i407 := Nw.is s384 i355
  have n408 : S358.1.2.2 x1 = 0 := Nw.nn s384 i338.1 n346
  have n409 : S358.1.2.2 x29 = 0 := Nw.nn s384 i339.1 n347
  have n410 : S358.1.2.2 x70 = 0 := Nw.nn s384 i340.1 n348
  have n411 : S358.1.2.2 x125 = 0 := Nw.nn s384 i341.1 n349
  have n412 : S358.1.2.2 x194 = 0 := Nw.nn s384 i342.1 n350
  have n413 : S358.1.2.2 x308 = 0 := Nw.nn s384 i355.1 n356
  have w414 : Nw S S358 a ((((((((((((((((([] ++ [(x1, 6, 0)]) ++ (stl x15)) ++ []) ++ [(x29, 6, 0)]) ++ (stl x49)) ++ []) ++ [(x70, 2, 0)]) ++ ((x96, 14, 6) :: hl x97 6)) ++ []) ++ [(x125, 1, 0)]) ++ [(x157, 0, 0), (x158, 8, 0)]) ++ []) ++ [(x194, 3, 0)]) ++ [(x232, 12, 12), (x233, 12, 12), (x234, 13, 12)]) ++ []) ++ [(x308, 7, 0)]) ++ [(x360, 11, 20), (x361, 11, 20)]) := Nw.tr w351 s384 (.inr z310)
  have c415 := Nw.tr c352 s384 (.inr z311)
  have c416 := Nw.tr c353 s384 (.inr z312)
  have c417 := Nw.tr c354 s384 (.inr z313)
  have i418 : Is S358.1 x360 11 := (t359N.on (show (x360, 11, 20) ∈ [(x360, 11, 20), (x361, 11, 20)] by simp)).1
  have i419 : Is S358.1 x361 11 := (t359N.on (show (x361, 11, 20) ∈ [(x360, 11, 20), (x361, 11, 20)] by simp)).1
  refine pfX9_43 F T.2.2 i398 dX9_init_67 ?_
  have s420 : Nw S358 (wR S358 a 5 (some x308)) a [] := Nw.wR
  have f421 : pR (wR S358 a 5 (some x308)) x125 0 = some x157 := Nw.R s420 i402.1 (fun e => d131 e.symm) f390
  have f422 : pR (wR S358 a 5 (some x308)) x125 1 = some x158 := Nw.R s420 i402.1 (fun e => d131 e.symm) f391
  have f423 : pR (wR S358 a 5 (some x308)) x194 0 = some x232 := Nw.R s420 i403.1 (fun e => d200 e.symm) f393
  have f424 : pR (wR S358 a 5 (some x308)) x194 1 = some x233 := Nw.R s420 i403.1 (fun e => d200 e.symm) f394
  have f425 : pR (wR S358 a 5 (some x308)) x194 2 = some x234 := Nw.R s420 i403.1 (fun e => d200 e.symm) f395
  have f426 : pI (wR S358 a 5 (some x308)) x194 = (fun _ => 0) := Nw.I s420 i403.1 (fun e => d200 e.symm) f396
  have f427 : pR (wR S358 a 5 (some x308)) x308 0 = some x360 := Nw.R s420 i407.1 (fun e => d314 e.symm) t359_0
  have f428 : pR (wR S358 a 5 (some x308)) x308 1 = some x361 := Nw.R s420 i407.1 (fun e => d314 e.symm) t359_1
  have f429 : pI (wR S358 a 5 (some x308)) x308 = (fun _ => 0) := Nw.I s420 i407.1 (fun e => d314 e.symm) (t359_2.trans aN_I)
  have i430 := Nw.is s420 i398
  have i431 := Nw.is s420 i399
  have i432 := Nw.is s420 i400
  have i433 := Nw.is s420 i401
  have i434 := Nw.is s420 i402
  have i435 := Nw.is s420 i403
  have i436 := Nw.is s420 i404
  have i437 := Nw.is s420 i405
  have i438 := Nw.is s420 i406
  have i439 := Nw.is s420 i407
  have i440 := Nw.is s420 i418
  have i441 := Nw.is s420 i419
  have n442 : (wR S358 a 5 (some x308)).1.2.2 x1 = 0 := Nw.nn s420 i399.1 n408
  have n443 : (wR S358 a 5 (some x308)).1.2.2 x29 = 0 := Nw.nn s420 i400.1 n409
  have n444 : (wR S358 a 5 (some x308)).1.2.2 x70 = 0 := Nw.nn s420 i401.1 n410
  have n445 : (wR S358 a 5 (some x308)).1.2.2 x125 = 0 := Nw.nn s420 i402.1 n411
  have n446 : (wR S358 a 5 (some x308)).1.2.2 x194 = 0 := Nw.nn s420 i403.1 n412
  have n447 : (wR S358 a 5 (some x308)).1.2.2 x308 = 0 := Nw.nn s420 i407.1 n413
  have w448 : Nw S (wR S358 a 5 (some x308)) a (((((((((((((((((([] ++ [(x1, 6, 0)]) ++ (stl x15)) ++ []) ++ [(x29, 6, 0)]) ++ (stl x49)) ++ []) ++ [(x70, 2, 0)]) ++ ((x96, 14, 6) :: hl x97 6)) ++ []) ++ [(x125, 1, 0)]) ++ [(x157, 0, 0), (x158, 8, 0)]) ++ []) ++ [(x194, 3, 0)]) ++ [(x232, 12, 12), (x233, 12, 12), (x234, 13, 12)]) ++ []) ++ [(x308, 7, 0)]) ++ [(x360, 11, 20), (x361, 11, 20)]) ++ []) := Nw.tr w414 s420 (.inl rfl)
  have c449 := Nw.tr c415 s420 (.inl rfl)
  have c450 := Nw.tr c416 s420 (.inl rfl)
  have c451 := Nw.tr c417 s420 (.inl rfl)
  refine g_aload_n (k := 0) F 0 rfl dX9_init_70 ?_
  refine g_bipush (v := 60) F (by decide) dX9_init_71 ?_
  refine g_newI (N := 60) F mw3 rfl (by decide) ⟨(Nat.le_of_ble_eq_true rfl), (Nat.le_of_ble_eq_true rfl)⟩ dX9_init_73 (fun x452 h453 => ?_)
  have z454 : x452 ∉ pL S := fun h => h453 (Nw.sub w448 h)
  have z455 : x452 ∉ pL S13 := fun h => h453 (Nw.sub c449 h)
  have z456 : x452 ∉ pL S47 := fun h => h453 (Nw.sub c450 h)
  have z457 : x452 ∉ pL S94 := fun h => h453 (Nw.sub c451 h)
  have d458 : a ≠ x452 := fun e => h453 (e ▸ i430.1)
  have d459 : x1 ≠ x452 := fun e => h453 (e ▸ i431.1)
  have d460 : x29 ≠ x452 := fun e => h453 (e ▸ i432.1)
  have d461 : x70 ≠ x452 := fun e => h453 (e ▸ i433.1)
  have d462 : x125 ≠ x452 := fun e => h453 (e ▸ i434.1)
  have d463 : x194 ≠ x452 := fun e => h453 (e ▸ i435.1)
  have d464 : x232 ≠ x452 := fun e => h453 (e ▸ i436.1)
  have d465 : x233 ≠ x452 := fun e => h453 (e ▸ i437.1)
  have d466 : x234 ≠ x452 := fun e => h453 (e ▸ i438.1)
  have d467 : x308 ≠ x452 := fun e => h453 (e ▸ i439.1)
  have d468 : x360 ≠ x452 := fun e => h453 (e ▸ i440.1)
  have d469 : x361 ≠ x452 := fun e => h453 (e ▸ i441.1)
  have s470 : Nw (wR S358 a 5 (some x308)) (aN (wR S358 a 5 (some x308)) x452 11 60) x452 [(x452, 11, 60)] := Nw.new h453
  have f471 : pI (aN (wR S358 a 5 (some x308)) x452 11 60) a = (fun _ => 0) := Nw.I s470 i430.1 d458 f385
  have f472 : pJ (aN (wR S358 a 5 (some x308)) x452 11 60) a = (fun _ => 0) := Nw.J s470 i430.1 d458 f386
  have f473 : pR (aN (wR S358 a 5 (some x308)) x452 11 60) a 0 = some x1 := Nw.R s470 i430.1 d458 ((up2_k (by decide)).trans f387)
  have f474 : pR (aN (wR S358 a 5 (some x308)) x452 11 60) a 1 = some x29 := Nw.R s470 i430.1 d458 ((up2_k (by decide)).trans f388)
  have f475 : pR (aN (wR S358 a 5 (some x308)) x452 11 60) a 2 = some x70 := Nw.R s470 i430.1 d458 ((up2_k (by decide)).trans f389)
  have f476 : pR (aN (wR S358 a 5 (some x308)) x452 11 60) x125 0 = some x157 := Nw.R s470 i434.1 d462 f421
  have f477 : pR (aN (wR S358 a 5 (some x308)) x452 11 60) x125 1 = some x158 := Nw.R s470 i434.1 d462 f422
  have f478 : pR (aN (wR S358 a 5 (some x308)) x452 11 60) a 3 = some x125 := Nw.R s470 i430.1 d458 ((up2_k (by decide)).trans f392)
  have f479 : pR (aN (wR S358 a 5 (some x308)) x452 11 60) x194 0 = some x232 := Nw.R s470 i435.1 d463 f423
  have f480 : pR (aN (wR S358 a 5 (some x308)) x452 11 60) x194 1 = some x233 := Nw.R s470 i435.1 d463 f424
  have f481 : pR (aN (wR S358 a 5 (some x308)) x452 11 60) x194 2 = some x234 := Nw.R s470 i435.1 d463 f425
  have f482 : pI (aN (wR S358 a 5 (some x308)) x452 11 60) x194 = (fun _ => 0) := Nw.I s470 i435.1 d463 f426
  have f483 : pR (aN (wR S358 a 5 (some x308)) x452 11 60) a 4 = some x194 := Nw.R s470 i430.1 d458 ((up2_k (by decide)).trans f397)
  have f484 : pR (aN (wR S358 a 5 (some x308)) x452 11 60) x308 0 = some x360 := Nw.R s470 i439.1 d467 f427
  have f485 : pR (aN (wR S358 a 5 (some x308)) x452 11 60) x308 1 = some x361 := Nw.R s470 i439.1 d467 f428
  have f486 : pI (aN (wR S358 a 5 (some x308)) x452 11 60) x308 = (fun _ => 0) := Nw.I s470 i439.1 d467 f429
  have f487 : pR (aN (wR S358 a 5 (some x308)) x452 11 60) a 5 = some x308 := Nw.R s470 i430.1 d458 up2_s
  have i488 := Nw.is s470 i430
  have i489 := Nw.is s470 i431
  have i490 := Nw.is s470 i432
  have i491 := Nw.is s470 i433
  have i492 := Nw.is s470 i434
  have i493 := Nw.is s470 i435
  have i494 := Nw.is s470 i436
  have i495 := Nw.is s470 i437
  have i496 := Nw.is s470 i438
  have i497 := Nw.is s470 i439
  have i498 := Nw.is s470 i440
  have i499 := Nw.is s470 i441
  have n500 : (aN (wR S358 a 5 (some x308)) x452 11 60).1.2.2 x1 = 0 := Nw.nn s470 i431.1 n442
  have n501 : (aN (wR S358 a 5 (some x308)) x452 11 60).1.2.2 x29 = 0 := Nw.nn s470 i432.1 n443
  have n502 : (aN (wR S358 a 5 (some x308)) x452 11 60).1.2.2 x70 = 0 := Nw.nn s470 i433.1 n444
  have n503 : (aN (wR S358 a 5 (some x308)) x452 11 60).1.2.2 x125 = 0 := Nw.nn s470 i434.1 n445
  have n504 : (aN (wR S358 a 5 (some x308)) x452 11 60).1.2.2 x194 = 0 := Nw.nn s470 i435.1 n446
  have n505 : (aN (wR S358 a 5 (some x308)) x452 11 60).1.2.2 x308 = 0 := Nw.nn s470 i439.1 n447
  have w506 : Nw S (aN (wR S358 a 5 (some x308)) x452 11 60) a ((((((((((((((((((([] ++ [(x1, 6, 0)]) ++ (stl x15)) ++ []) ++ [(x29, 6, 0)]) ++ (stl x49)) ++ []) ++ [(x70, 2, 0)]) ++ ((x96, 14, 6) :: hl x97 6)) ++ []) ++ [(x125, 1, 0)]) ++ [(x157, 0, 0), (x158, 8, 0)]) ++ []) ++ [(x194, 3, 0)]) ++ [(x232, 12, 12), (x233, 12, 12), (x234, 13, 12)]) ++ []) ++ [(x308, 7, 0)]) ++ [(x360, 11, 20), (x361, 11, 20)]) ++ []) ++ [(x452, 11, 60)]) := Nw.tr w448 s470 (.inr z454)
  have c507 := Nw.tr c449 s470 (.inr z455)
  have c508 := Nw.tr c450 s470 (.inr z456)
  have c509 := Nw.tr c451 s470 (.inr z457)
  have i510 : Is (aN (wR S358 a 5 (some x308)) x452 11 60).1 x452 11 := Is_new
  have n511 : (aN (wR S358 a 5 (some x308)) x452 11 60).1.2.2 x452 = 60 := aN_N
  refine pfX9_47 F T.2.2 i488 dX9_init_75 ?_
  have s512 : Nw (aN (wR S358 a 5 (some x308)) x452 11 60) (wR (aN (wR S358 a 5 (some x308)) x452 11 60) a 6 (some x452)) a [] := Nw.wR
  have f513 : pR (wR (aN (wR S358 a 5 (some x308)) x452 11 60) a 6 (some x452)) x125 0 = some x157 := Nw.R s512 i492.1 (fun e => d131 e.symm) f476
  have f514 : pR (wR (aN (wR S358 a 5 (some x308)) x452 11 60) a 6 (some x452)) x125 1 = some x158 := Nw.R s512 i492.1 (fun e => d131 e.symm) f477
  have f515 : pR (wR (aN (wR S358 a 5 (some x308)) x452 11 60) a 6 (some x452)) x194 0 = some x232 := Nw.R s512 i493.1 (fun e => d200 e.symm) f479
  have f516 : pR (wR (aN (wR S358 a 5 (some x308)) x452 11 60) a 6 (some x452)) x194 1 = some x233 := Nw.R s512 i493.1 (fun e => d200 e.symm) f480
  have f517 : pR (wR (aN (wR S358 a 5 (some x308)) x452 11 60) a 6 (some x452)) x194 2 = some x234 := Nw.R s512 i493.1 (fun e => d200 e.symm) f481
  have f518 : pI (wR (aN (wR S358 a 5 (some x308)) x452 11 60) a 6 (some x452)) x194 = (fun _ => 0) := Nw.I s512 i493.1 (fun e => d200 e.symm) f482
  have f519 : pR (wR (aN (wR S358 a 5 (some x308)) x452 11 60) a 6 (some x452)) x308 0 = some x360 := Nw.R s512 i497.1 (fun e => d314 e.symm) f484
  have f520 : pR (wR (aN (wR S358 a 5 (some x308)) x452 11 60) a 6 (some x452)) x308 1 = some x361 := Nw.R s512 i497.1 (fun e => d314 e.symm) f485
  have f521 : pI (wR (aN (wR S358 a 5 (some x308)) x452 11 60) a 6 (some x452)) x308 = (fun _ => 0) := Nw.I s512 i497.1 (fun e => d314 e.symm) f486
  have f522 : pI (wR (aN (wR S358 a 5 (some x308)) x452 11 60) a 6 (some x452)) x452 = (fun _ => 0) := Nw.I s512 i510.1 (fun e => d458 e.symm) aN_I
  have f523 : pJ (wR (aN (wR S358 a 5 (some x308)) x452 11 60) a 6 (some x452)) x452 = (fun _ => 0) := Nw.J s512 i510.1 (fun e => d458 e.symm) aN_J
  have i524 := Nw.is s512 i488
  have i525 := Nw.is s512 i489
  have i526 := Nw.is s512 i490
  have i527 := Nw.is s512 i491
  have i528 := Nw.is s512 i492
  have i529 := Nw.is s512 i493
  have i530 := Nw.is s512 i494
  have i531 := Nw.is s512 i495
  have i532 := Nw.is s512 i496
  have i533 := Nw.is s512 i497
  have i534 := Nw.is s512 i498
  have i535 := Nw.is s512 i499
  have i536 := Nw.is s512 i510
  have n537 : (wR (aN (wR S358 a 5 (some x308)) x452 11 60) a 6 (some x452)).1.2.2 x1 = 0 := Nw.nn s512 i489.1 n500
  have n538 : (wR (aN (wR S358 a 5 (some x308)) x452 11 60) a 6 (some x452)).1.2.2 x29 = 0 := Nw.nn s512 i490.1 n501
  have n539 : (wR (aN (wR S358 a 5 (some x308)) x452 11 60) a 6 (some x452)).1.2.2 x70 = 0 := Nw.nn s512 i491.1 n502
  have n540 : (wR (aN (wR S358 a 5 (some x308)) x452 11 60) a 6 (some x452)).1.2.2 x125 = 0 := Nw.nn s512 i492.1 n503
  have n541 : (wR (aN (wR S358 a 5 (some x308)) x452 11 60) a 6 (some x452)).1.2.2 x194 = 0 := Nw.nn s512 i493.1 n504
  have n542 : (wR (aN (wR S358 a 5 (some x308)) x452 11 60) a 6 (some x452)).1.2.2 x308 = 0 := Nw.nn s512 i497.1 n505
  have n543 : (wR (aN (wR S358 a 5 (some x308)) x452 11 60) a 6 (some x452)).1.2.2 x452 = 60 := Nw.nn s512 i510.1 n511
  have w544 : Nw S (wR (aN (wR S358 a 5 (some x308)) x452 11 60) a 6 (some x452)) a (((((((((((((((((((([] ++ [(x1, 6, 0)]) ++ (stl x15)) ++ []) ++ [(x29, 6, 0)]) ++ (stl x49)) ++ []) ++ [(x70, 2, 0)]) ++ ((x96, 14, 6) :: hl x97 6)) ++ []) ++ [(x125, 1, 0)]) ++ [(x157, 0, 0), (x158, 8, 0)]) ++ []) ++ [(x194, 3, 0)]) ++ [(x232, 12, 12), (x233, 12, 12), (x234, 13, 12)]) ++ []) ++ [(x308, 7, 0)]) ++ [(x360, 11, 20), (x361, 11, 20)]) ++ []) ++ [(x452, 11, 60)]) ++ []) := Nw.tr w506 s512 (.inl rfl)
  have c545 := Nw.tr c507 s512 (.inl rfl)
  have c546 := Nw.tr c508 s512 (.inl rfl)
  have c547 := Nw.tr c509 s512 (.inl rfl)
  refine g_vret F T ⟨rfl, ?_⟩ (Nat.le_of_ble_eq_true rfl) (Nat.le_of_ble_eq_true rfl) dX9_init_78
  have ht14 : Is (aN S x1 6 0).1 x1 6 := i10
  have gt14 : x1 ≠ a := (fun e => d4 e.symm)
  have hat14 : a ∈ pL (aN S x1 6 0) := i8.1
  have ht48 : Is (aN (wR S13 a 0 (some x1)) x29 6 0).1 x29 6 := i44
  have gt48 : x29 ≠ a := (fun e => d33 e.symm)
  have hat48 : a ∈ pL (aN (wR S13 a 0 (some x1)) x29 6 0) := i39.1
  have ht95 : Is (aN (wR S47 a 1 (some x29)) x70 2 0).1 x70 2 := i91
  have gt95 : x70 ≠ a := (fun e => d75 e.symm)
  have hat95 : a ∈ pL (aN (wR S47 a 1 (some x29)) x70 2 0) := i83.1
  exact ⟨x1, x15, x29, x49, x70, x96, x97, x125, x157, x158, x194, x232, x233, x234, x308, x360, x361, x452, w544, f471, f472, ((up2_k (by decide)).trans f473), ((up2_k (by decide)).trans f474), ((up2_k (by decide)).trans f475), ((up2_k (by decide)).trans f478), ((up2_k (by decide)).trans f483), ((up2_k (by decide)).trans f487), up2_s, f513, f514, f515, f516, f517, f519, f520, t14_0, blk_St t14_0 t14_1 t14N c545 ht14 hat14 gt14, t48_0, blk_St t48_0 t48_1 t48N c546 ht48 hat48 gt48, blk_Hi t95_0 t95N c547 ht95 gt95 hat95⟩
