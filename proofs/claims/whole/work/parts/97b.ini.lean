set_option maxHeartbeats 4000000 in
set_option maxRecDepth 100000 in
theorem kX4_init (g : Glo) (S : PS) (a : Nat) (ha : Is S.1 a 4) : Ct g mX4_init 3 60 [.ref a] S (pV9 (fun S' => ∃ x y w, Nw S S' a [(x, 11, 20), (y, 11, 20), (w, 11, 20)] ∧ pR S' a 1 = some x ∧ pR S' a 2 = some y ∧ pR S' a 3 = some w ∧ pI S' a = pI S a ∧ pJ S' a = pJ S a)) := by
  refine Ct.of (by decide) (Nat.le_of_ble_eq_true rfl) (fun Γ hg F T => ?_)
  subst hg
  show G Γ S 0 0 0 [(0, .ref a)] []
  refine g_aload_n (k := 0) F 0 rfl dX4_init_0 ?_
  refine g_objInit F mw55 mw11 mw12 ⟨(Nat.le_of_ble_eq_true rfl), (Nat.le_of_ble_eq_true rfl)⟩ dX4_init_1 ?_
  refine g_aload_n (k := 0) F 0 rfl dX4_init_4 ?_
  refine g_bipush (v := 20) F (by decide) dX4_init_5 ?_
  refine g_newI (N := 20) F mw34 rfl (by decide) ⟨(Nat.le_of_ble_eq_true rfl), (Nat.le_of_ble_eq_true rfl)⟩ dX4_init_7 (fun x1 h2 => ?_)
  have z3 : x1 ∉ pL S := fun h => h2 (Nw.sub Nw.rf h)
  have d4 : a ≠ x1 := fun e => h2 (e ▸ ha.1)
  have s5 : Nw S (aN S x1 11 20) a [(x1, 11, 20)] := Nw.new h2
  have i6 := Nw.is s5 ha
  have w7 : Nw S (aN S x1 11 20) a ([] ++ [(x1, 11, 20)]) := Nw.tr Nw.rf s5 (.inl rfl)
  have i8 : Is (aN S x1 11 20).1 x1 11 := Is_new
  have n9 : pN (aN S x1 11 20) x1 = 20 := aN_N
  refine pfX4_9 F T.2.2 i6 dX4_init_9 ?_
  have s10 : Nw (aN S x1 11 20) (wR (aN S x1 11 20) a 1 (some x1)) a [] := Nw.wR
  have f11 : pI (wR (aN S x1 11 20) a 1 (some x1)) x1 = (fun _ => 0) := Nw.I s10 i8.1 (fun e => d4 e.symm) aN_I
  have f12 : pJ (wR (aN S x1 11 20) a 1 (some x1)) x1 = (fun _ => 0) := Nw.J s10 i8.1 (fun e => d4 e.symm) aN_J
  have i13 := Nw.is s10 i6
  have i14 := Nw.is s10 i8
  have n15 := Nw.nn s10 i8.1 n9
  have w16 : Nw S (wR (aN S x1 11 20) a 1 (some x1)) a (([] ++ [(x1, 11, 20)]) ++ []) := Nw.tr w7 s10 (.inl rfl)
  refine g_aload_n (k := 0) F 0 rfl dX4_init_12 ?_
  refine g_bipush (v := 20) F (by decide) dX4_init_13 ?_
  refine g_newI (N := 20) F mw34 rfl (by decide) ⟨(Nat.le_of_ble_eq_true rfl), (Nat.le_of_ble_eq_true rfl)⟩ dX4_init_15 (fun x17 h18 => ?_)
  have z19 : x17 ∉ pL S := fun h => h18 (Nw.sub w16 h)
  have d20 : a ≠ x17 := fun e => h18 (e ▸ i13.1)
  have d21 : x1 ≠ x17 := fun e => h18 (e ▸ i14.1)
  have s22 : Nw (wR (aN S x1 11 20) a 1 (some x1)) (aN (wR (aN S x1 11 20) a 1 (some x1)) x17 11 20) a [(x17, 11, 20)] := Nw.new h18
  have f23 : pI (aN (wR (aN S x1 11 20) a 1 (some x1)) x17 11 20) x1 = (fun _ => 0) := Nw.I s22 i14.1 (fun e => d4 e.symm) f11
  have f24 : pJ (aN (wR (aN S x1 11 20) a 1 (some x1)) x17 11 20) x1 = (fun _ => 0) := Nw.J s22 i14.1 (fun e => d4 e.symm) f12
  have i25 := Nw.is s22 i13
  have i26 := Nw.is s22 i14
  have n27 := Nw.nn s22 i14.1 n15
  have w28 : Nw S (aN (wR (aN S x1 11 20) a 1 (some x1)) x17 11 20) a ((([] ++ [(x1, 11, 20)]) ++ []) ++ [(x17, 11, 20)]) := Nw.tr w16 s22 (.inl rfl)
  have i29 : Is (aN (wR (aN S x1 11 20) a 1 (some x1)) x17 11 20).1 x17 11 := Is_new
  have n30 : pN (aN (wR (aN S x1 11 20) a 1 (some x1)) x17 11 20) x17 = 20 := aN_N
  refine pfX4_15 F T.2.2 i25 dX4_init_17 ?_
  have s31 : Nw (aN (wR (aN S x1 11 20) a 1 (some x1)) x17 11 20) (wR (aN (wR (aN S x1 11 20) a 1 (some x1)) x17 11 20) a 2 (some x17)) a [] := Nw.wR
  have f32 : pI (wR (aN (wR (aN S x1 11 20) a 1 (some x1)) x17 11 20) a 2 (some x17)) x1 = (fun _ => 0) := Nw.I s31 i26.1 (fun e => d4 e.symm) f23
  have f33 : pJ (wR (aN (wR (aN S x1 11 20) a 1 (some x1)) x17 11 20) a 2 (some x17)) x1 = (fun _ => 0) := Nw.J s31 i26.1 (fun e => d4 e.symm) f24
  have f34 : pI (wR (aN (wR (aN S x1 11 20) a 1 (some x1)) x17 11 20) a 2 (some x17)) x17 = (fun _ => 0) := Nw.I s31 i29.1 (fun e => d20 e.symm) aN_I
  have f35 : pJ (wR (aN (wR (aN S x1 11 20) a 1 (some x1)) x17 11 20) a 2 (some x17)) x17 = (fun _ => 0) := Nw.J s31 i29.1 (fun e => d20 e.symm) aN_J
  have i36 := Nw.is s31 i25
  have i37 := Nw.is s31 i26
  have i38 := Nw.is s31 i29
  have n39 := Nw.nn s31 i26.1 n27
  have n40 := Nw.nn s31 i29.1 n30
  have w41 : Nw S (wR (aN (wR (aN S x1 11 20) a 1 (some x1)) x17 11 20) a 2 (some x17)) a (((([] ++ [(x1, 11, 20)]) ++ []) ++ [(x17, 11, 20)]) ++ []) := Nw.tr w28 s31 (.inl rfl)
  refine g_aload_n (k := 0) F 0 rfl dX4_init_20 ?_
  refine g_bipush (v := 20) F (by decide) dX4_init_21 ?_
  refine g_newI (N := 20) F mw34 rfl (by decide) ⟨(Nat.le_of_ble_eq_true rfl), (Nat.le_of_ble_eq_true rfl)⟩ dX4_init_23 (fun x42 h43 => ?_)
  have z44 : x42 ∉ pL S := fun h => h43 (Nw.sub w41 h)
  have d45 : a ≠ x42 := fun e => h43 (e ▸ i36.1)
  have d46 : x1 ≠ x42 := fun e => h43 (e ▸ i37.1)
  have d47 : x17 ≠ x42 := fun e => h43 (e ▸ i38.1)
  have s48 : Nw (wR (aN (wR (aN S x1 11 20) a 1 (some x1)) x17 11 20) a 2 (some x17)) (aN (wR (aN (wR (aN S x1 11 20) a 1 (some x1)) x17 11 20) a 2 (some x17)) x42 11 20) a [(x42, 11, 20)] := Nw.new h43
  have f49 : pI (aN (wR (aN (wR (aN S x1 11 20) a 1 (some x1)) x17 11 20) a 2 (some x17)) x42 11 20) x1 = (fun _ => 0) := Nw.I s48 i37.1 (fun e => d4 e.symm) f32
  have f50 : pJ (aN (wR (aN (wR (aN S x1 11 20) a 1 (some x1)) x17 11 20) a 2 (some x17)) x42 11 20) x1 = (fun _ => 0) := Nw.J s48 i37.1 (fun e => d4 e.symm) f33
  have f51 : pI (aN (wR (aN (wR (aN S x1 11 20) a 1 (some x1)) x17 11 20) a 2 (some x17)) x42 11 20) x17 = (fun _ => 0) := Nw.I s48 i38.1 (fun e => d20 e.symm) f34
  have f52 : pJ (aN (wR (aN (wR (aN S x1 11 20) a 1 (some x1)) x17 11 20) a 2 (some x17)) x42 11 20) x17 = (fun _ => 0) := Nw.J s48 i38.1 (fun e => d20 e.symm) f35
  have i53 := Nw.is s48 i36
  have i54 := Nw.is s48 i37
  have i55 := Nw.is s48 i38
  have n56 := Nw.nn s48 i37.1 n39
  have n57 := Nw.nn s48 i38.1 n40
  have w58 : Nw S (aN (wR (aN (wR (aN S x1 11 20) a 1 (some x1)) x17 11 20) a 2 (some x17)) x42 11 20) a ((((([] ++ [(x1, 11, 20)]) ++ []) ++ [(x17, 11, 20)]) ++ []) ++ [(x42, 11, 20)]) := Nw.tr w41 s48 (.inl rfl)
  have i59 : Is (aN (wR (aN (wR (aN S x1 11 20) a 1 (some x1)) x17 11 20) a 2 (some x17)) x42 11 20).1 x42 11 := Is_new
  have n60 : pN (aN (wR (aN (wR (aN S x1 11 20) a 1 (some x1)) x17 11 20) a 2 (some x17)) x42 11 20) x42 = 20 := aN_N
  refine pfX4_18 F T.2.2 i53 dX4_init_25 ?_
  have s61 : Nw (aN (wR (aN (wR (aN S x1 11 20) a 1 (some x1)) x17 11 20) a 2 (some x17)) x42 11 20) (wR (aN (wR (aN (wR (aN S x1 11 20) a 1 (some x1)) x17 11 20) a 2 (some x17)) x42 11 20) a 3 (some x42)) a [] := Nw.wR
  have f62 : pI (wR (aN (wR (aN (wR (aN S x1 11 20) a 1 (some x1)) x17 11 20) a 2 (some x17)) x42 11 20) a 3 (some x42)) x1 = (fun _ => 0) := Nw.I s61 i54.1 (fun e => d4 e.symm) f49
  have f63 : pJ (wR (aN (wR (aN (wR (aN S x1 11 20) a 1 (some x1)) x17 11 20) a 2 (some x17)) x42 11 20) a 3 (some x42)) x1 = (fun _ => 0) := Nw.J s61 i54.1 (fun e => d4 e.symm) f50
  have f64 : pI (wR (aN (wR (aN (wR (aN S x1 11 20) a 1 (some x1)) x17 11 20) a 2 (some x17)) x42 11 20) a 3 (some x42)) x17 = (fun _ => 0) := Nw.I s61 i55.1 (fun e => d20 e.symm) f51
  have f65 : pJ (wR (aN (wR (aN (wR (aN S x1 11 20) a 1 (some x1)) x17 11 20) a 2 (some x17)) x42 11 20) a 3 (some x42)) x17 = (fun _ => 0) := Nw.J s61 i55.1 (fun e => d20 e.symm) f52
  have f66 : pI (wR (aN (wR (aN (wR (aN S x1 11 20) a 1 (some x1)) x17 11 20) a 2 (some x17)) x42 11 20) a 3 (some x42)) x42 = (fun _ => 0) := Nw.I s61 i59.1 (fun e => d45 e.symm) aN_I
  have f67 : pJ (wR (aN (wR (aN (wR (aN S x1 11 20) a 1 (some x1)) x17 11 20) a 2 (some x17)) x42 11 20) a 3 (some x42)) x42 = (fun _ => 0) := Nw.J s61 i59.1 (fun e => d45 e.symm) aN_J
  have i68 := Nw.is s61 i53
  have i69 := Nw.is s61 i54
  have i70 := Nw.is s61 i55
  have i71 := Nw.is s61 i59
  have n72 := Nw.nn s61 i54.1 n56
  have n73 := Nw.nn s61 i55.1 n57
  have n74 := Nw.nn s61 i59.1 n60
  have w75 : Nw S (wR (aN (wR (aN (wR (aN S x1 11 20) a 1 (some x1)) x17 11 20) a 2 (some x17)) x42 11 20) a 3 (some x42)) a (((((([] ++ [(x1, 11, 20)]) ++ []) ++ [(x17, 11, 20)]) ++ []) ++ [(x42, 11, 20)]) ++ []) := Nw.tr w58 s61 (.inl rfl)
  refine g_vret F T ⟨rfl, ?_⟩ (Nat.le_of_ble_eq_true rfl) (Nat.le_of_ble_eq_true rfl) dX4_init_28
  exact ⟨x1, x17, x42, w75, ((up2_k (by decide)).trans ((up2_k (by decide)).trans up2_s)), ((up2_k (by decide)).trans up2_s), up2_s, rfl, rfl⟩
set_option maxHeartbeats 4000000 in
set_option maxRecDepth 100000 in
theorem kX5_init (g : Glo) (S : PS) (a : Nat) (ha : Is S.1 a 5) : Ct g mX5_init 3 36 [.ref a] S (pV9 (fun S' => ∃ x y w, Nw S S' a [(x, 11, 12), (y, 13, 12), (w, 12, 12)] ∧ pR S' a 1 = some x ∧ pR S' a 2 = some y ∧ pR S' a 3 = some w ∧ pI S' a = pI S a ∧ pJ S' a = pJ S a)) := by
  refine Ct.of (by decide) (Nat.le_of_ble_eq_true rfl) (fun Γ hg F T => ?_)
  subst hg
  show G Γ S 0 0 0 [(0, .ref a)] []
  refine g_aload_n (k := 0) F 0 rfl dX5_init_0 ?_
  refine g_objInit F mw61 mw11 mw12 ⟨(Nat.le_of_ble_eq_true rfl), (Nat.le_of_ble_eq_true rfl)⟩ dX5_init_1 ?_
  refine g_aload_n (k := 0) F 0 rfl dX5_init_4 ?_
  refine g_bipush (v := 12) F (by decide) dX5_init_5 ?_
  refine g_newI (N := 12) F mw34 rfl (by decide) ⟨(Nat.le_of_ble_eq_true rfl), (Nat.le_of_ble_eq_true rfl)⟩ dX5_init_7 (fun x1 h2 => ?_)
  have z3 : x1 ∉ pL S := fun h => h2 (Nw.sub Nw.rf h)
  have d4 : a ≠ x1 := fun e => h2 (e ▸ ha.1)
  have s5 : Nw S (aN S x1 11 12) a [(x1, 11, 12)] := Nw.new h2
  have i6 := Nw.is s5 ha
  have w7 : Nw S (aN S x1 11 12) a ([] ++ [(x1, 11, 12)]) := Nw.tr Nw.rf s5 (.inl rfl)
  have i8 : Is (aN S x1 11 12).1 x1 11 := Is_new
  have n9 : pN (aN S x1 11 12) x1 = 12 := aN_N
  refine pfX5_9 F T.2.2 i6 dX5_init_9 ?_
  have s10 : Nw (aN S x1 11 12) (wR (aN S x1 11 12) a 1 (some x1)) a [] := Nw.wR
  have f11 : pI (wR (aN S x1 11 12) a 1 (some x1)) x1 = (fun _ => 0) := Nw.I s10 i8.1 (fun e => d4 e.symm) aN_I
  have f12 : pJ (wR (aN S x1 11 12) a 1 (some x1)) x1 = (fun _ => 0) := Nw.J s10 i8.1 (fun e => d4 e.symm) aN_J
  have i13 := Nw.is s10 i6
  have i14 := Nw.is s10 i8
  have n15 := Nw.nn s10 i8.1 n9
  have w16 : Nw S (wR (aN S x1 11 12) a 1 (some x1)) a (([] ++ [(x1, 11, 12)]) ++ []) := Nw.tr w7 s10 (.inl rfl)
  refine g_aload_n (k := 0) F 0 rfl dX5_init_12 ?_
  refine g_bipush (v := 12) F (by decide) dX5_init_13 ?_
  refine g_newZ (N := 12) F mw63 rfl (by decide) ⟨(Nat.le_of_ble_eq_true rfl), (Nat.le_of_ble_eq_true rfl)⟩ dX5_init_15 (fun x17 h18 => ?_)
  have z19 : x17 ∉ pL S := fun h => h18 (Nw.sub w16 h)
  have d20 : a ≠ x17 := fun e => h18 (e ▸ i13.1)
  have d21 : x1 ≠ x17 := fun e => h18 (e ▸ i14.1)
  have s22 : Nw (wR (aN S x1 11 12) a 1 (some x1)) (aN (wR (aN S x1 11 12) a 1 (some x1)) x17 13 12) a [(x17, 13, 12)] := Nw.new h18
  have f23 : pI (aN (wR (aN S x1 11 12) a 1 (some x1)) x17 13 12) x1 = (fun _ => 0) := Nw.I s22 i14.1 (fun e => d4 e.symm) f11
  have f24 : pJ (aN (wR (aN S x1 11 12) a 1 (some x1)) x17 13 12) x1 = (fun _ => 0) := Nw.J s22 i14.1 (fun e => d4 e.symm) f12
  have i25 := Nw.is s22 i13
  have i26 := Nw.is s22 i14
  have n27 := Nw.nn s22 i14.1 n15
  have w28 : Nw S (aN (wR (aN S x1 11 12) a 1 (some x1)) x17 13 12) a ((([] ++ [(x1, 11, 12)]) ++ []) ++ [(x17, 13, 12)]) := Nw.tr w16 s22 (.inl rfl)
  have i29 : Is (aN (wR (aN S x1 11 12) a 1 (some x1)) x17 13 12).1 x17 13 := Is_new
  have n30 : pN (aN (wR (aN S x1 11 12) a 1 (some x1)) x17 13 12) x17 = 12 := aN_N
  refine pfX5_15 F T.2.2 i25 dX5_init_17 ?_
  have s31 : Nw (aN (wR (aN S x1 11 12) a 1 (some x1)) x17 13 12) (wR (aN (wR (aN S x1 11 12) a 1 (some x1)) x17 13 12) a 2 (some x17)) a [] := Nw.wR
  have f32 : pI (wR (aN (wR (aN S x1 11 12) a 1 (some x1)) x17 13 12) a 2 (some x17)) x1 = (fun _ => 0) := Nw.I s31 i26.1 (fun e => d4 e.symm) f23
  have f33 : pJ (wR (aN (wR (aN S x1 11 12) a 1 (some x1)) x17 13 12) a 2 (some x17)) x1 = (fun _ => 0) := Nw.J s31 i26.1 (fun e => d4 e.symm) f24
  have f34 : pI (wR (aN (wR (aN S x1 11 12) a 1 (some x1)) x17 13 12) a 2 (some x17)) x17 = (fun _ => 0) := Nw.I s31 i29.1 (fun e => d20 e.symm) aN_I
  have f35 : pJ (wR (aN (wR (aN S x1 11 12) a 1 (some x1)) x17 13 12) a 2 (some x17)) x17 = (fun _ => 0) := Nw.J s31 i29.1 (fun e => d20 e.symm) aN_J
  have i36 := Nw.is s31 i25
  have i37 := Nw.is s31 i26
  have i38 := Nw.is s31 i29
  have n39 := Nw.nn s31 i26.1 n27
  have n40 := Nw.nn s31 i29.1 n30
  have w41 : Nw S (wR (aN (wR (aN S x1 11 12) a 1 (some x1)) x17 13 12) a 2 (some x17)) a (((([] ++ [(x1, 11, 12)]) ++ []) ++ [(x17, 13, 12)]) ++ []) := Nw.tr w28 s31 (.inl rfl)
  refine g_aload_n (k := 0) F 0 rfl dX5_init_20 ?_
  refine g_bipush (v := 12) F (by decide) dX5_init_21 ?_
  refine g_newJ (N := 12) F mw6 rfl (by decide) ⟨(Nat.le_of_ble_eq_true rfl), (Nat.le_of_ble_eq_true rfl)⟩ dX5_init_23 (fun x42 h43 => ?_)
  have z44 : x42 ∉ pL S := fun h => h43 (Nw.sub w41 h)
  have d45 : a ≠ x42 := fun e => h43 (e ▸ i36.1)
  have d46 : x1 ≠ x42 := fun e => h43 (e ▸ i37.1)
  have d47 : x17 ≠ x42 := fun e => h43 (e ▸ i38.1)
  have s48 : Nw (wR (aN (wR (aN S x1 11 12) a 1 (some x1)) x17 13 12) a 2 (some x17)) (aN (wR (aN (wR (aN S x1 11 12) a 1 (some x1)) x17 13 12) a 2 (some x17)) x42 12 12) a [(x42, 12, 12)] := Nw.new h43
  have f49 : pI (aN (wR (aN (wR (aN S x1 11 12) a 1 (some x1)) x17 13 12) a 2 (some x17)) x42 12 12) x1 = (fun _ => 0) := Nw.I s48 i37.1 (fun e => d4 e.symm) f32
  have f50 : pJ (aN (wR (aN (wR (aN S x1 11 12) a 1 (some x1)) x17 13 12) a 2 (some x17)) x42 12 12) x1 = (fun _ => 0) := Nw.J s48 i37.1 (fun e => d4 e.symm) f33
  have f51 : pI (aN (wR (aN (wR (aN S x1 11 12) a 1 (some x1)) x17 13 12) a 2 (some x17)) x42 12 12) x17 = (fun _ => 0) := Nw.I s48 i38.1 (fun e => d20 e.symm) f34
  have f52 : pJ (aN (wR (aN (wR (aN S x1 11 12) a 1 (some x1)) x17 13 12) a 2 (some x17)) x42 12 12) x17 = (fun _ => 0) := Nw.J s48 i38.1 (fun e => d20 e.symm) f35
  have i53 := Nw.is s48 i36
  have i54 := Nw.is s48 i37
  have i55 := Nw.is s48 i38
  have n56 := Nw.nn s48 i37.1 n39
  have n57 := Nw.nn s48 i38.1 n40
  have w58 : Nw S (aN (wR (aN (wR (aN S x1 11 12) a 1 (some x1)) x17 13 12) a 2 (some x17)) x42 12 12) a ((((([] ++ [(x1, 11, 12)]) ++ []) ++ [(x17, 13, 12)]) ++ []) ++ [(x42, 12, 12)]) := Nw.tr w41 s48 (.inl rfl)
  have i59 : Is (aN (wR (aN (wR (aN S x1 11 12) a 1 (some x1)) x17 13 12) a 2 (some x17)) x42 12 12).1 x42 12 := Is_new
  have n60 : pN (aN (wR (aN (wR (aN S x1 11 12) a 1 (some x1)) x17 13 12) a 2 (some x17)) x42 12 12) x42 = 12 := aN_N
  refine pfX5_19 F T.2.2 i53 dX5_init_25 ?_
  have s61 : Nw (aN (wR (aN (wR (aN S x1 11 12) a 1 (some x1)) x17 13 12) a 2 (some x17)) x42 12 12) (wR (aN (wR (aN (wR (aN S x1 11 12) a 1 (some x1)) x17 13 12) a 2 (some x17)) x42 12 12) a 3 (some x42)) a [] := Nw.wR
  have f62 : pI (wR (aN (wR (aN (wR (aN S x1 11 12) a 1 (some x1)) x17 13 12) a 2 (some x17)) x42 12 12) a 3 (some x42)) x1 = (fun _ => 0) := Nw.I s61 i54.1 (fun e => d4 e.symm) f49
  have f63 : pJ (wR (aN (wR (aN (wR (aN S x1 11 12) a 1 (some x1)) x17 13 12) a 2 (some x17)) x42 12 12) a 3 (some x42)) x1 = (fun _ => 0) := Nw.J s61 i54.1 (fun e => d4 e.symm) f50
  have f64 : pI (wR (aN (wR (aN (wR (aN S x1 11 12) a 1 (some x1)) x17 13 12) a 2 (some x17)) x42 12 12) a 3 (some x42)) x17 = (fun _ => 0) := Nw.I s61 i55.1 (fun e => d20 e.symm) f51
  have f65 : pJ (wR (aN (wR (aN (wR (aN S x1 11 12) a 1 (some x1)) x17 13 12) a 2 (some x17)) x42 12 12) a 3 (some x42)) x17 = (fun _ => 0) := Nw.J s61 i55.1 (fun e => d20 e.symm) f52
  have f66 : pI (wR (aN (wR (aN (wR (aN S x1 11 12) a 1 (some x1)) x17 13 12) a 2 (some x17)) x42 12 12) a 3 (some x42)) x42 = (fun _ => 0) := Nw.I s61 i59.1 (fun e => d45 e.symm) aN_I
  have f67 : pJ (wR (aN (wR (aN (wR (aN S x1 11 12) a 1 (some x1)) x17 13 12) a 2 (some x17)) x42 12 12) a 3 (some x42)) x42 = (fun _ => 0) := Nw.J s61 i59.1 (fun e => d45 e.symm) aN_J
  have i68 := Nw.is s61 i53
  have i69 := Nw.is s61 i54
  have i70 := Nw.is s61 i55
  have i71 := Nw.is s61 i59
  have n72 := Nw.nn s61 i54.1 n56
  have n73 := Nw.nn s61 i55.1 n57
  have n74 := Nw.nn s61 i59.1 n60
  have w75 : Nw S (wR (aN (wR (aN (wR (aN S x1 11 12) a 1 (some x1)) x17 13 12) a 2 (some x17)) x42 12 12) a 3 (some x42)) a (((((([] ++ [(x1, 11, 12)]) ++ []) ++ [(x17, 13, 12)]) ++ []) ++ [(x42, 12, 12)]) ++ []) := Nw.tr w58 s61 (.inl rfl)
  refine g_vret F T ⟨rfl, ?_⟩ (Nat.le_of_ble_eq_true rfl) (Nat.le_of_ble_eq_true rfl) dX5_init_28
  exact ⟨x1, x17, x42, w75, ((up2_k (by decide)).trans ((up2_k (by decide)).trans up2_s)), ((up2_k (by decide)).trans up2_s), up2_s, rfl, rfl⟩
set_option maxHeartbeats 4000000 in
set_option maxRecDepth 100000 in
theorem kX3_init (g : Glo) (S : PS) (a : Nat) (ha : Is S.1 a 3) : Ct g mX3_init 3 36 [.ref a] S (pV9 (fun S' => ∃ x y w, Nw S S' a [(x, 12, 12), (y, 12, 12), (w, 13, 12)] ∧ pR S' a 0 = some x ∧ pR S' a 1 = some y ∧ pR S' a 2 = some w ∧ pI S' a = pI S a ∧ pJ S' a = pJ S a)) := by
  refine Ct.of (by decide) (Nat.le_of_ble_eq_true rfl) (fun Γ hg F T => ?_)
  subst hg
  show G Γ S 0 0 0 [(0, .ref a)] []
  refine g_aload_n (k := 0) F 0 rfl dX3_init_0 ?_
  refine g_objInit F mw90 mw11 mw12 ⟨(Nat.le_of_ble_eq_true rfl), (Nat.le_of_ble_eq_true rfl)⟩ dX3_init_1 ?_
  refine g_aload_n (k := 0) F 0 rfl dX3_init_4 ?_
  refine g_bipush (v := 12) F (by decide) dX3_init_5 ?_
  refine g_newJ (N := 12) F mw6 rfl (by decide) ⟨(Nat.le_of_ble_eq_true rfl), (Nat.le_of_ble_eq_true rfl)⟩ dX3_init_7 (fun x1 h2 => ?_)
  have z3 : x1 ∉ pL S := fun h => h2 (Nw.sub Nw.rf h)
  have d4 : a ≠ x1 := fun e => h2 (e ▸ ha.1)
  have s5 : Nw S (aN S x1 12 12) a [(x1, 12, 12)] := Nw.new h2
  have i6 := Nw.is s5 ha
  have w7 : Nw S (aN S x1 12 12) a ([] ++ [(x1, 12, 12)]) := Nw.tr Nw.rf s5 (.inl rfl)
  have i8 : Is (aN S x1 12 12).1 x1 12 := Is_new
  have n9 : pN (aN S x1 12 12) x1 = 12 := aN_N
  refine pfX3_9 F T.2.2 i6 dX3_init_9 ?_
  have s10 : Nw (aN S x1 12 12) (wR (aN S x1 12 12) a 0 (some x1)) a [] := Nw.wR
  have f11 : pI (wR (aN S x1 12 12) a 0 (some x1)) x1 = (fun _ => 0) := Nw.I s10 i8.1 (fun e => d4 e.symm) aN_I
  have f12 : pJ (wR (aN S x1 12 12) a 0 (some x1)) x1 = (fun _ => 0) := Nw.J s10 i8.1 (fun e => d4 e.symm) aN_J
  have i13 := Nw.is s10 i6
  have i14 := Nw.is s10 i8
  have n15 := Nw.nn s10 i8.1 n9
  have w16 : Nw S (wR (aN S x1 12 12) a 0 (some x1)) a (([] ++ [(x1, 12, 12)]) ++ []) := Nw.tr w7 s10 (.inl rfl)
  refine g_aload_n (k := 0) F 0 rfl dX3_init_12 ?_
  refine g_bipush (v := 12) F (by decide) dX3_init_13 ?_
  refine g_newJ (N := 12) F mw6 rfl (by decide) ⟨(Nat.le_of_ble_eq_true rfl), (Nat.le_of_ble_eq_true rfl)⟩ dX3_init_15 (fun x17 h18 => ?_)
  have z19 : x17 ∉ pL S := fun h => h18 (Nw.sub w16 h)
  have d20 : a ≠ x17 := fun e => h18 (e ▸ i13.1)
  have d21 : x1 ≠ x17 := fun e => h18 (e ▸ i14.1)
  have s22 : Nw (wR (aN S x1 12 12) a 0 (some x1)) (aN (wR (aN S x1 12 12) a 0 (some x1)) x17 12 12) a [(x17, 12, 12)] := Nw.new h18
  have f23 : pI (aN (wR (aN S x1 12 12) a 0 (some x1)) x17 12 12) x1 = (fun _ => 0) := Nw.I s22 i14.1 (fun e => d4 e.symm) f11
  have f24 : pJ (aN (wR (aN S x1 12 12) a 0 (some x1)) x17 12 12) x1 = (fun _ => 0) := Nw.J s22 i14.1 (fun e => d4 e.symm) f12
  have i25 := Nw.is s22 i13
  have i26 := Nw.is s22 i14
  have n27 := Nw.nn s22 i14.1 n15
  have w28 : Nw S (aN (wR (aN S x1 12 12) a 0 (some x1)) x17 12 12) a ((([] ++ [(x1, 12, 12)]) ++ []) ++ [(x17, 12, 12)]) := Nw.tr w16 s22 (.inl rfl)
  have i29 : Is (aN (wR (aN S x1 12 12) a 0 (some x1)) x17 12 12).1 x17 12 := Is_new
  have n30 : pN (aN (wR (aN S x1 12 12) a 0 (some x1)) x17 12 12) x17 = 12 := aN_N
  refine pfX3_15 F T.2.2 i25 dX3_init_17 ?_
  have s31 : Nw (aN (wR (aN S x1 12 12) a 0 (some x1)) x17 12 12) (wR (aN (wR (aN S x1 12 12) a 0 (some x1)) x17 12 12) a 1 (some x17)) a [] := Nw.wR
  have f32 : pI (wR (aN (wR (aN S x1 12 12) a 0 (some x1)) x17 12 12) a 1 (some x17)) x1 = (fun _ => 0) := Nw.I s31 i26.1 (fun e => d4 e.symm) f23
  have f33 : pJ (wR (aN (wR (aN S x1 12 12) a 0 (some x1)) x17 12 12) a 1 (some x17)) x1 = (fun _ => 0) := Nw.J s31 i26.1 (fun e => d4 e.symm) f24
  have f34 : pI (wR (aN (wR (aN S x1 12 12) a 0 (some x1)) x17 12 12) a 1 (some x17)) x17 = (fun _ => 0) := Nw.I s31 i29.1 (fun e => d20 e.symm) aN_I
  have f35 : pJ (wR (aN (wR (aN S x1 12 12) a 0 (some x1)) x17 12 12) a 1 (some x17)) x17 = (fun _ => 0) := Nw.J s31 i29.1 (fun e => d20 e.symm) aN_J
  have i36 := Nw.is s31 i25
  have i37 := Nw.is s31 i26
  have i38 := Nw.is s31 i29
  have n39 := Nw.nn s31 i26.1 n27
  have n40 := Nw.nn s31 i29.1 n30
  have w41 : Nw S (wR (aN (wR (aN S x1 12 12) a 0 (some x1)) x17 12 12) a 1 (some x17)) a (((([] ++ [(x1, 12, 12)]) ++ []) ++ [(x17, 12, 12)]) ++ []) := Nw.tr w28 s31 (.inl rfl)
  refine g_aload_n (k := 0) F 0 rfl dX3_init_20 ?_
  refine g_bipush (v := 12) F (by decide) dX3_init_21 ?_
  refine g_newZ (N := 12) F mw63 rfl (by decide) ⟨(Nat.le_of_ble_eq_true rfl), (Nat.le_of_ble_eq_true rfl)⟩ dX3_init_23 (fun x42 h43 => ?_)
  have z44 : x42 ∉ pL S := fun h => h43 (Nw.sub w41 h)
  have d45 : a ≠ x42 := fun e => h43 (e ▸ i36.1)
  have d46 : x1 ≠ x42 := fun e => h43 (e ▸ i37.1)
  have d47 : x17 ≠ x42 := fun e => h43 (e ▸ i38.1)
  have s48 : Nw (wR (aN (wR (aN S x1 12 12) a 0 (some x1)) x17 12 12) a 1 (some x17)) (aN (wR (aN (wR (aN S x1 12 12) a 0 (some x1)) x17 12 12) a 1 (some x17)) x42 13 12) a [(x42, 13, 12)] := Nw.new h43
  have f49 : pI (aN (wR (aN (wR (aN S x1 12 12) a 0 (some x1)) x17 12 12) a 1 (some x17)) x42 13 12) x1 = (fun _ => 0) := Nw.I s48 i37.1 (fun e => d4 e.symm) f32
  have f50 : pJ (aN (wR (aN (wR (aN S x1 12 12) a 0 (some x1)) x17 12 12) a 1 (some x17)) x42 13 12) x1 = (fun _ => 0) := Nw.J s48 i37.1 (fun e => d4 e.symm) f33
  have f51 : pI (aN (wR (aN (wR (aN S x1 12 12) a 0 (some x1)) x17 12 12) a 1 (some x17)) x42 13 12) x17 = (fun _ => 0) := Nw.I s48 i38.1 (fun e => d20 e.symm) f34
  have f52 : pJ (aN (wR (aN (wR (aN S x1 12 12) a 0 (some x1)) x17 12 12) a 1 (some x17)) x42 13 12) x17 = (fun _ => 0) := Nw.J s48 i38.1 (fun e => d20 e.symm) f35
  have i53 := Nw.is s48 i36
  have i54 := Nw.is s48 i37
  have i55 := Nw.is s48 i38
  have n56 := Nw.nn s48 i37.1 n39
  have n57 := Nw.nn s48 i38.1 n40
  have w58 : Nw S (aN (wR (aN (wR (aN S x1 12 12) a 0 (some x1)) x17 12 12) a 1 (some x17)) x42 13 12) a ((((([] ++ [(x1, 12, 12)]) ++ []) ++ [(x17, 12, 12)]) ++ []) ++ [(x42, 13, 12)]) := Nw.tr w41 s48 (.inl rfl)
  have i59 : Is (aN (wR (aN (wR (aN S x1 12 12) a 0 (some x1)) x17 12 12) a 1 (some x17)) x42 13 12).1 x42 13 := Is_new
  have n60 : pN (aN (wR (aN (wR (aN S x1 12 12) a 0 (some x1)) x17 12 12) a 1 (some x17)) x42 13 12) x42 = 12 := aN_N
  refine pfX3_18 F T.2.2 i53 dX3_init_25 ?_
  have s61 : Nw (aN (wR (aN (wR (aN S x1 12 12) a 0 (some x1)) x17 12 12) a 1 (some x17)) x42 13 12) (wR (aN (wR (aN (wR (aN S x1 12 12) a 0 (some x1)) x17 12 12) a 1 (some x17)) x42 13 12) a 2 (some x42)) a [] := Nw.wR
  have f62 : pI (wR (aN (wR (aN (wR (aN S x1 12 12) a 0 (some x1)) x17 12 12) a 1 (some x17)) x42 13 12) a 2 (some x42)) x1 = (fun _ => 0) := Nw.I s61 i54.1 (fun e => d4 e.symm) f49
  have f63 : pJ (wR (aN (wR (aN (wR (aN S x1 12 12) a 0 (some x1)) x17 12 12) a 1 (some x17)) x42 13 12) a 2 (some x42)) x1 = (fun _ => 0) := Nw.J s61 i54.1 (fun e => d4 e.symm) f50
  have f64 : pI (wR (aN (wR (aN (wR (aN S x1 12 12) a 0 (some x1)) x17 12 12) a 1 (some x17)) x42 13 12) a 2 (some x42)) x17 = (fun _ => 0) := Nw.I s61 i55.1 (fun e => d20 e.symm) f51
  have f65 : pJ (wR (aN (wR (aN (wR (aN S x1 12 12) a 0 (some x1)) x17 12 12) a 1 (some x17)) x42 13 12) a 2 (some x42)) x17 = (fun _ => 0) := Nw.J s61 i55.1 (fun e => d20 e.symm) f52
  have f66 : pI (wR (aN (wR (aN (wR (aN S x1 12 12) a 0 (some x1)) x17 12 12) a 1 (some x17)) x42 13 12) a 2 (some x42)) x42 = (fun _ => 0) := Nw.I s61 i59.1 (fun e => d45 e.symm) aN_I
  have f67 : pJ (wR (aN (wR (aN (wR (aN S x1 12 12) a 0 (some x1)) x17 12 12) a 1 (some x17)) x42 13 12) a 2 (some x42)) x42 = (fun _ => 0) := Nw.J s61 i59.1 (fun e => d45 e.symm) aN_J
  have i68 := Nw.is s61 i53
  have i69 := Nw.is s61 i54
  have i70 := Nw.is s61 i55
  have i71 := Nw.is s61 i59
  have n72 := Nw.nn s61 i54.1 n56
  have n73 := Nw.nn s61 i55.1 n57
  have n74 := Nw.nn s61 i59.1 n60
  have w75 : Nw S (wR (aN (wR (aN (wR (aN S x1 12 12) a 0 (some x1)) x17 12 12) a 1 (some x17)) x42 13 12) a 2 (some x42)) a (((((([] ++ [(x1, 12, 12)]) ++ []) ++ [(x17, 12, 12)]) ++ []) ++ [(x42, 13, 12)]) ++ []) := Nw.tr w58 s61 (.inl rfl)
  refine g_vret F T ⟨rfl, ?_⟩ (Nat.le_of_ble_eq_true rfl) (Nat.le_of_ble_eq_true rfl) dX3_init_28
  exact ⟨x1, x17, x42, w75, ((up2_k (by decide)).trans ((up2_k (by decide)).trans up2_s)), ((up2_k (by decide)).trans up2_s), up2_s, rfl, rfl⟩
set_option maxHeartbeats 4000000 in
set_option maxRecDepth 100000 in
theorem kX7_init (g : Glo) (S : PS) (a : Nat) (ha : Is S.1 a 7) : Ct g mX7_init 2 40 [.ref a] S (pV9 (fun S' => ∃ x y, Nw S S' a [(x, 11, 20), (y, 11, 20)] ∧ pR S' a 0 = some x ∧ pR S' a 1 = some y ∧ pI S' a = pI S a ∧ pJ S' a = pJ S a)) := by
  refine Ct.of (by decide) (Nat.le_of_ble_eq_true rfl) (fun Γ hg F T => ?_)
  subst hg
  show G Γ S 0 0 0 [(0, .ref a)] []
  refine g_aload_n (k := 0) F 0 rfl dX7_init_0 ?_
  refine g_objInit F mw96 mw11 mw12 ⟨(Nat.le_of_ble_eq_true rfl), (Nat.le_of_ble_eq_true rfl)⟩ dX7_init_1 ?_
  refine g_aload_n (k := 0) F 0 rfl dX7_init_4 ?_
  refine g_bipush (v := 20) F (by decide) dX7_init_5 ?_
  refine g_newI (N := 20) F mw34 rfl (by decide) ⟨(Nat.le_of_ble_eq_true rfl), (Nat.le_of_ble_eq_true rfl)⟩ dX7_init_7 (fun x1 h2 => ?_)
  have z3 : x1 ∉ pL S := fun h => h2 (Nw.sub Nw.rf h)
  have d4 : a ≠ x1 := fun e => h2 (e ▸ ha.1)
  have s5 : Nw S (aN S x1 11 20) a [(x1, 11, 20)] := Nw.new h2
  have i6 := Nw.is s5 ha
  have w7 : Nw S (aN S x1 11 20) a ([] ++ [(x1, 11, 20)]) := Nw.tr Nw.rf s5 (.inl rfl)
  have i8 : Is (aN S x1 11 20).1 x1 11 := Is_new
  have n9 : pN (aN S x1 11 20) x1 = 20 := aN_N
  refine pfX7_9 F T.2.2 i6 dX7_init_9 ?_
  have s10 : Nw (aN S x1 11 20) (wR (aN S x1 11 20) a 0 (some x1)) a [] := Nw.wR
  have f11 : pI (wR (aN S x1 11 20) a 0 (some x1)) x1 = (fun _ => 0) := Nw.I s10 i8.1 (fun e => d4 e.symm) aN_I
  have f12 : pJ (wR (aN S x1 11 20) a 0 (some x1)) x1 = (fun _ => 0) := Nw.J s10 i8.1 (fun e => d4 e.symm) aN_J
  have i13 := Nw.is s10 i6
  have i14 := Nw.is s10 i8
  have n15 := Nw.nn s10 i8.1 n9
  have w16 : Nw S (wR (aN S x1 11 20) a 0 (some x1)) a (([] ++ [(x1, 11, 20)]) ++ []) := Nw.tr w7 s10 (.inl rfl)
  refine g_aload_n (k := 0) F 0 rfl dX7_init_12 ?_
  refine g_bipush (v := 20) F (by decide) dX7_init_13 ?_
  refine g_newI (N := 20) F mw34 rfl (by decide) ⟨(Nat.le_of_ble_eq_true rfl), (Nat.le_of_ble_eq_true rfl)⟩ dX7_init_15 (fun x17 h18 => ?_)
  have z19 : x17 ∉ pL S := fun h => h18 (Nw.sub w16 h)
  have d20 : a ≠ x17 := fun e => h18 (e ▸ i13.1)
  have d21 : x1 ≠ x17 := fun e => h18 (e ▸ i14.1)
  have s22 : Nw (wR (aN S x1 11 20) a 0 (some x1)) (aN (wR (aN S x1 11 20) a 0 (some x1)) x17 11 20) a [(x17, 11, 20)] := Nw.new h18
  have f23 : pI (aN (wR (aN S x1 11 20) a 0 (some x1)) x17 11 20) x1 = (fun _ => 0) := Nw.I s22 i14.1 (fun e => d4 e.symm) f11
  have f24 : pJ (aN (wR (aN S x1 11 20) a 0 (some x1)) x17 11 20) x1 = (fun _ => 0) := Nw.J s22 i14.1 (fun e => d4 e.symm) f12
  have i25 := Nw.is s22 i13
  have i26 := Nw.is s22 i14
  have n27 := Nw.nn s22 i14.1 n15
  have w28 : Nw S (aN (wR (aN S x1 11 20) a 0 (some x1)) x17 11 20) a ((([] ++ [(x1, 11, 20)]) ++ []) ++ [(x17, 11, 20)]) := Nw.tr w16 s22 (.inl rfl)
  have i29 : Is (aN (wR (aN S x1 11 20) a 0 (some x1)) x17 11 20).1 x17 11 := Is_new
  have n30 : pN (aN (wR (aN S x1 11 20) a 0 (some x1)) x17 11 20) x17 = 20 := aN_N
  refine pfX7_15 F T.2.2 i25 dX7_init_17 ?_
  have s31 : Nw (aN (wR (aN S x1 11 20) a 0 (some x1)) x17 11 20) (wR (aN (wR (aN S x1 11 20) a 0 (some x1)) x17 11 20) a 1 (some x17)) a [] := Nw.wR
  have f32 : pI (wR (aN (wR (aN S x1 11 20) a 0 (some x1)) x17 11 20) a 1 (some x17)) x1 = (fun _ => 0) := Nw.I s31 i26.1 (fun e => d4 e.symm) f23
  have f33 : pJ (wR (aN (wR (aN S x1 11 20) a 0 (some x1)) x17 11 20) a 1 (some x17)) x1 = (fun _ => 0) := Nw.J s31 i26.1 (fun e => d4 e.symm) f24
  have f34 : pI (wR (aN (wR (aN S x1 11 20) a 0 (some x1)) x17 11 20) a 1 (some x17)) x17 = (fun _ => 0) := Nw.I s31 i29.1 (fun e => d20 e.symm) aN_I
  have f35 : pJ (wR (aN (wR (aN S x1 11 20) a 0 (some x1)) x17 11 20) a 1 (some x17)) x17 = (fun _ => 0) := Nw.J s31 i29.1 (fun e => d20 e.symm) aN_J
  have i36 := Nw.is s31 i25
  have i37 := Nw.is s31 i26
  have i38 := Nw.is s31 i29
  have n39 := Nw.nn s31 i26.1 n27
  have n40 := Nw.nn s31 i29.1 n30
  have w41 : Nw S (wR (aN (wR (aN S x1 11 20) a 0 (some x1)) x17 11 20) a 1 (some x17)) a (((([] ++ [(x1, 11, 20)]) ++ []) ++ [(x17, 11, 20)]) ++ []) := Nw.tr w28 s31 (.inl rfl)
  refine g_vret F T ⟨rfl, ?_⟩ (Nat.le_of_ble_eq_true rfl) (Nat.le_of_ble_eq_true rfl) dX7_init_20
  exact ⟨x1, x17, w41, ((up2_k (by decide)).trans up2_s), up2_s, rfl, rfl⟩
set_option maxHeartbeats 4000000 in
set_option maxRecDepth 100000 in
theorem kX0_init (g : Glo) (S : PS) (a : Nat) (ha : Is S.1 a 0) : Ct g mX0_init 0 0 [.ref a] S (pV9 (fun S' => Nw S S' a [] ∧ pI S' a = pI S a ∧ pJ S' a = pJ S a)) := by
  refine Ct.of (by decide) (Nat.le_of_ble_eq_true rfl) (fun Γ hg F T => ?_)
  subst hg
  show G Γ S 0 0 0 [(0, .ref a)] []
  refine g_aload_n (k := 0) F 0 rfl dX0_init_0 ?_
  refine g_objInit F mw84 mw11 mw12 ⟨(Nat.le_of_ble_eq_true rfl), (Nat.le_of_ble_eq_true rfl)⟩ dX0_init_1 ?_
  refine g_vret F T ⟨rfl, ?_⟩ (Nat.le_of_ble_eq_true rfl) (Nat.le_of_ble_eq_true rfl) dX0_init_4
  exact ⟨Nw.rf, rfl, rfl⟩
set_option maxHeartbeats 4000000 in
set_option maxRecDepth 100000 in
theorem kX8_init (g : Glo) (S : PS) (a : Nat) (ha : Is S.1 a 8) : Ct g mX8_init 0 0 [.ref a] S (pV9 (fun S' => Nw S S' a [] ∧ pI S' a = pI S a ∧ pJ S' a = pJ S a)) := by
  refine Ct.of (by decide) (Nat.le_of_ble_eq_true rfl) (fun Γ hg F T => ?_)
  subst hg
  show G Γ S 0 0 0 [(0, .ref a)] []
  refine g_aload_n (k := 0) F 0 rfl dX8_init_0 ?_
  refine g_objInit F mw87 mw11 mw12 ⟨(Nat.le_of_ble_eq_true rfl), (Nat.le_of_ble_eq_true rfl)⟩ dX8_init_1 ?_
  refine g_vret F T ⟨rfl, ?_⟩ (Nat.le_of_ble_eq_true rfl) (Nat.le_of_ble_eq_true rfl) dX8_init_4
  exact ⟨Nw.rf, rfl, rfl⟩
set_option maxHeartbeats 4000000 in
set_option maxRecDepth 100000 in
theorem kX6_init (g : Glo) (S : PS) (a : Nat) (ha : Is S.1 a 6) (hz : pI S a = fun _ => 0) : Ct g mX6_init 9 109 [.ref a] S (pV9 (fun S' => ∃ f : Nat → Nat, f 0 = a ∧ Nw S S' a (stl f) ∧ St0 S' f)) := by
  refine Ct.of (by decide) (Nat.le_of_ble_eq_true rfl) (fun Γ hg F T => ?_)
  subst hg
  show G Γ S 0 0 0 [(0, .ref a)] []
  refine g_aload_n (k := 0) F 0 rfl dX6_init_0 ?_
  refine g_objInit F mw38 mw11 mw12 ⟨(Nat.le_of_ble_eq_true rfl), (Nat.le_of_ble_eq_true rfl)⟩ dX6_init_1 ?_
  refine g_aload_n (k := 0) F 0 rfl dX6_init_4 ?_
  refine g_sipush (v := 200) F (by decide) dX6_init_5 ?_
  refine pfX6_9 F ha dX6_init_8 ?_
  have s1 : Nw S (wI S a 2 200) a [] := Nw.wI
  have i2 := Nw.is s1 ha
  have w3 : Nw S (wI S a 2 200) a ([] ++ []) := Nw.tr Nw.rf s1 (.inl rfl)
  refine g_aload_n (k := 0) F 0 rfl dX6_init_11 ?_
  refine g_iconst (v := 5) F (by decide) dX6_init_12 ?_
  refine g_newI (N := 5) F mw34 rfl (by decide) ⟨(Nat.le_of_ble_eq_true rfl), (Nat.le_of_ble_eq_true rfl)⟩ dX6_init_13 (fun x4 h5 => ?_)
  have z6 : x4 ∉ pL S := fun h => h5 (Nw.sub w3 h)
  have d7 : a ≠ x4 := fun e => h5 (e ▸ i2.1)
  have s8 : Nw (wI S a 2 200) (aN (wI S a 2 200) x4 11 5) a [(x4, 11, 5)] := Nw.new h5
  have i9 := Nw.is s8 i2
  have w10 : Nw S (aN (wI S a 2 200) x4 11 5) a (([] ++ []) ++ [(x4, 11, 5)]) := Nw.tr w3 s8 (.inl rfl)
  have i11 : Is (aN (wI S a 2 200) x4 11 5).1 x4 11 := Is_new
  have n12 : pN (aN (wI S a 2 200) x4 11 5) x4 = 5 := aN_N
  refine pfX6_15 F T.2.2 i9 dX6_init_15 ?_
  have s13 : Nw (aN (wI S a 2 200) x4 11 5) (wR (aN (wI S a 2 200) x4 11 5) a 3 (some x4)) a [] := Nw.wR
  have f14 : pI (wR (aN (wI S a 2 200) x4 11 5) a 3 (some x4)) x4 = (fun _ => 0) := Nw.I s13 i11.1 (fun e => d7 e.symm) aN_I
  have f15 : pJ (wR (aN (wI S a 2 200) x4 11 5) a 3 (some x4)) x4 = (fun _ => 0) := Nw.J s13 i11.1 (fun e => d7 e.symm) aN_J
  have i16 := Nw.is s13 i9
  have i17 := Nw.is s13 i11
  have n18 := Nw.nn s13 i11.1 n12
  have w19 : Nw S (wR (aN (wI S a 2 200) x4 11 5) a 3 (some x4)) a ((([] ++ []) ++ [(x4, 11, 5)]) ++ []) := Nw.tr w10 s13 (.inl rfl)
  refine g_aload_n (k := 0) F 0 rfl dX6_init_18 ?_
  refine g_new (ci := 4) F clX4 (fun k hk => (nwX4 k hk).1) mw41 mw42 mw43 (fun k hk => (nwX4 k hk).2) ⟨(Nat.le_of_ble_eq_true rfl), (Nat.le_of_ble_eq_true rfl)⟩ dX6_init_19 (fun x20 h21 => ?_)
  have z22 : x20 ∉ pL S := fun h => h21 (Nw.sub w19 h)
  have d23 : a ≠ x20 := fun e => h21 (e ▸ i16.1)
  have d24 : x4 ≠ x20 := fun e => h21 (e ▸ i17.1)
  have s25 : Nw (wR (aN (wI S a 2 200) x4 11 5) a 3 (some x4)) (aN (wR (aN (wI S a 2 200) x4 11 5) a 3 (some x4)) x20 4 0) a [(x20, 4, 0)] := Nw.new h21
  have f26 : pI (aN (wR (aN (wI S a 2 200) x4 11 5) a 3 (some x4)) x20 4 0) x4 = (fun _ => 0) := Nw.I s25 i17.1 (fun e => d7 e.symm) f14
  have f27 : pJ (aN (wR (aN (wI S a 2 200) x4 11 5) a 3 (some x4)) x20 4 0) x4 = (fun _ => 0) := Nw.J s25 i17.1 (fun e => d7 e.symm) f15
  have i28 := Nw.is s25 i16
  have i29 := Nw.is s25 i17
  have n30 := Nw.nn s25 i17.1 n18
  have w31 : Nw S (aN (wR (aN (wI S a 2 200) x4 11 5) a 3 (some x4)) x20 4 0) a (((([] ++ []) ++ [(x4, 11, 5)]) ++ []) ++ [(x20, 4, 0)]) := Nw.tr w19 s25 (.inl rfl)
  have i32 : Is (aN (wR (aN (wI S a 2 200) x4 11 5) a 3 (some x4)) x20 4 0).1 x20 4 := Is_new
  have n33 : pN (aN (wR (aN (wI S a 2 200) x4 11 5) a 3 (some x4)) x20 4 0) x20 = 0 := aN_N
  refine g_dup F dX6_init_22 rfl ?_
  refine g_callIN (host := "PolarPlanimeter") F (kX4_init Γ.1 (aN (wR (aN (wI S a 2 200) x4 11 5) a 3 (some x4)) x20 4 0) x20 i32) okX4_init nwM58 ⟨(Nat.le_of_ble_eq_true rfl), (Nat.le_of_ble_eq_true rfl)⟩ rfl rfl (Nat.le_of_ble_eq_true rfl) ⟨(Nat.le_of_ble_eq_true rfl), (Nat.le_of_ble_eq_true rfl)⟩ dX6_init_23 (toV (fun S35 h34 => ?_))
  obtain ⟨x37, x38, x39, t36N, t36_0, t36_1, t36_2, t36_3, t36_4⟩ := h34
  have z40 : x37 ∉ pL S := fun h => t36N.2.2.1 _ (show (x37, 11, 20) ∈ [(x37, 11, 20), (x38, 11, 20), (x39, 11, 20)] by simp) (Nw.sub w31 h)
  have d41 : a ≠ x37 := Nw.ne t36N i28.1 (show (x37, 11, 20) ∈ [(x37, 11, 20), (x38, 11, 20), (x39, 11, 20)] by simp)
  have d42 : x4 ≠ x37 := Nw.ne t36N i29.1 (show (x37, 11, 20) ∈ [(x37, 11, 20), (x38, 11, 20), (x39, 11, 20)] by simp)
  have d43 : x20 ≠ x37 := Nw.ne t36N i32.1 (show (x37, 11, 20) ∈ [(x37, 11, 20), (x38, 11, 20), (x39, 11, 20)] by simp)
  have z44 : x38 ∉ pL S := fun h => t36N.2.2.1 _ (show (x38, 11, 20) ∈ [(x37, 11, 20), (x38, 11, 20), (x39, 11, 20)] by simp) (Nw.sub w31 h)
  have d45 : a ≠ x38 := Nw.ne t36N i28.1 (show (x38, 11, 20) ∈ [(x37, 11, 20), (x38, 11, 20), (x39, 11, 20)] by simp)
  have d46 : x4 ≠ x38 := Nw.ne t36N i29.1 (show (x38, 11, 20) ∈ [(x37, 11, 20), (x38, 11, 20), (x39, 11, 20)] by simp)
  have d47 : x20 ≠ x38 := Nw.ne t36N i32.1 (show (x38, 11, 20) ∈ [(x37, 11, 20), (x38, 11, 20), (x39, 11, 20)] by simp)
  have z48 : x39 ∉ pL S := fun h => t36N.2.2.1 _ (show (x39, 11, 20) ∈ [(x37, 11, 20), (x38, 11, 20), (x39, 11, 20)] by simp) (Nw.sub w31 h)
  have d49 : a ≠ x39 := Nw.ne t36N i28.1 (show (x39, 11, 20) ∈ [(x37, 11, 20), (x38, 11, 20), (x39, 11, 20)] by simp)
  have d50 : x4 ≠ x39 := Nw.ne t36N i29.1 (show (x39, 11, 20) ∈ [(x37, 11, 20), (x38, 11, 20), (x39, 11, 20)] by simp)
  have d51 : x20 ≠ x39 := Nw.ne t36N i32.1 (show (x39, 11, 20) ∈ [(x37, 11, 20), (x38, 11, 20), (x39, 11, 20)] by simp)
  have s52 : Nw (aN (wR (aN (wI S a 2 200) x4 11 5) a 3 (some x4)) x20 4 0) S35 x20 [(x37, 11, 20), (x38, 11, 20), (x39, 11, 20)] := t36N
  have f53 : pI S35 a 0 = 0 := (congrFun (Nw.I s52 i28.1 d23 rfl) 0).trans ((up2_k (by decide)).trans (congrFun hz 0))
  have f54 : pI S35 a 1 = 0 := (congrFun (Nw.I s52 i28.1 d23 rfl) 1).trans ((up2_k (by decide)).trans (congrFun hz 1))
  have f55 : pI S35 a 3 = 0 := (congrFun (Nw.I s52 i28.1 d23 rfl) 3).trans ((up2_k (by decide)).trans (congrFun hz 3))
  have f56 : pI S35 a 4 = 0 := (congrFun (Nw.I s52 i28.1 d23 rfl) 4).trans ((up2_k (by decide)).trans (congrFun hz 4))
  have f57 : pI S35 a 5 = 0 := (congrFun (Nw.I s52 i28.1 d23 rfl) 5).trans ((up2_k (by decide)).trans (congrFun hz 5))
  have f58 : pI S35 a 2 = 200 := (congrFun (Nw.I s52 i28.1 d23 rfl) 2).trans up2_s
  have f59 : pI S35 x4 = (fun _ => 0) := Nw.I s52 i29.1 d24 f26
  have f60 : pJ S35 x4 = (fun _ => 0) := Nw.J s52 i29.1 d24 f27
  have f61 : pR S35 a 3 = some x4 := Nw.R s52 i28.1 d23 up2_s
  have i62 := Nw.is s52 i28
  have i63 := Nw.is s52 i29
  have i64 := Nw.is s52 i32
  have n65 := Nw.nn s52 i29.1 n30
  have n66 := Nw.nn s52 i32.1 n33
  have w67 : Nw S S35 a ((((([] ++ []) ++ [(x4, 11, 5)]) ++ []) ++ [(x20, 4, 0)]) ++ [(x37, 11, 20), (x38, 11, 20), (x39, 11, 20)]) := Nw.tr w31 s52 (.inr z22)
  have i68 : Is S35.1 x37 11 := (t36N.on (show (x37, 11, 20) ∈ [(x37, 11, 20), (x38, 11, 20), (x39, 11, 20)] by simp)).1
  have i69 : Is S35.1 x38 11 := (t36N.on (show (x38, 11, 20) ∈ [(x37, 11, 20), (x38, 11, 20), (x39, 11, 20)] by simp)).1
  have i70 : Is S35.1 x39 11 := (t36N.on (show (x39, 11, 20) ∈ [(x37, 11, 20), (x38, 11, 20), (x39, 11, 20)] by simp)).1
  refine pfX6_22 F T.2.2 i62 dX6_init_26 ?_
  have s71 : Nw S35 (wR S35 a 4 (some x20)) a [] := Nw.wR
  have f72 : pI (wR S35 a 4 (some x20)) x4 = (fun _ => 0) := Nw.I s71 i63.1 (fun e => d7 e.symm) f59
  have f73 : pJ (wR S35 a 4 (some x20)) x4 = (fun _ => 0) := Nw.J s71 i63.1 (fun e => d7 e.symm) f60
  have f74 : pR (wR S35 a 4 (some x20)) x20 1 = some x37 := Nw.R s71 i64.1 (fun e => d23 e.symm) t36_0
  have f75 : pR (wR S35 a 4 (some x20)) x20 2 = some x38 := Nw.R s71 i64.1 (fun e => d23 e.symm) t36_1
  have f76 : pR (wR S35 a 4 (some x20)) x20 3 = some x39 := Nw.R s71 i64.1 (fun e => d23 e.symm) t36_2
  have f77 : pI (wR S35 a 4 (some x20)) x20 = (fun _ => 0) := Nw.I s71 i64.1 (fun e => d23 e.symm) (t36_3.trans aN_I)
  have i78 := Nw.is s71 i62
  have i79 := Nw.is s71 i63
  have i80 := Nw.is s71 i64
  have i81 := Nw.is s71 i68
  have i82 := Nw.is s71 i69
  have i83 := Nw.is s71 i70
  have n84 := Nw.nn s71 i63.1 n65
  have n85 := Nw.nn s71 i64.1 n66
  have w86 : Nw S (wR S35 a 4 (some x20)) a (((((([] ++ []) ++ [(x4, 11, 5)]) ++ []) ++ [(x20, 4, 0)]) ++ [(x37, 11, 20), (x38, 11, 20), (x39, 11, 20)]) ++ []) := Nw.tr w67 s71 (.inl rfl)
  refine g_aload_n (k := 0) F 0 rfl dX6_init_29 ?_
  refine g_new (ci := 5) F clX5 (fun k hk => (nwX5 k hk).1) mw45 mw46 mw47 (fun k hk => (nwX5 k hk).2) ⟨(Nat.le_of_ble_eq_true rfl), (Nat.le_of_ble_eq_true rfl)⟩ dX6_init_30 (fun x87 h88 => ?_)
  have z89 : x87 ∉ pL S := fun h => h88 (Nw.sub w86 h)
  have d90 : a ≠ x87 := fun e => h88 (e ▸ i78.1)
  have d91 : x4 ≠ x87 := fun e => h88 (e ▸ i79.1)
  have d92 : x20 ≠ x87 := fun e => h88 (e ▸ i80.1)
  have d93 : x37 ≠ x87 := fun e => h88 (e ▸ i81.1)
  have d94 : x38 ≠ x87 := fun e => h88 (e ▸ i82.1)
  have d95 : x39 ≠ x87 := fun e => h88 (e ▸ i83.1)
  have s96 : Nw (wR S35 a 4 (some x20)) (aN (wR S35 a 4 (some x20)) x87 5 0) a [(x87, 5, 0)] := Nw.new h88
  have f97 : pI (aN (wR S35 a 4 (some x20)) x87 5 0) x4 = (fun _ => 0) := Nw.I s96 i79.1 (fun e => d7 e.symm) f72
  have f98 : pJ (aN (wR S35 a 4 (some x20)) x87 5 0) x4 = (fun _ => 0) := Nw.J s96 i79.1 (fun e => d7 e.symm) f73
  have f99 : pR (aN (wR S35 a 4 (some x20)) x87 5 0) x20 1 = some x37 := Nw.R s96 i80.1 (fun e => d23 e.symm) f74
  have f100 : pR (aN (wR S35 a 4 (some x20)) x87 5 0) x20 2 = some x38 := Nw.R s96 i80.1 (fun e => d23 e.symm) f75
  have f101 : pR (aN (wR S35 a 4 (some x20)) x87 5 0) x20 3 = some x39 := Nw.R s96 i80.1 (fun e => d23 e.symm) f76
  have f102 : pI (aN (wR S35 a 4 (some x20)) x87 5 0) x20 = (fun _ => 0) := Nw.I s96 i80.1 (fun e => d23 e.symm) f77
  have i103 := Nw.is s96 i78
  have i104 := Nw.is s96 i79
  have i105 := Nw.is s96 i80
  have i106 := Nw.is s96 i81
  have i107 := Nw.is s96 i82
  have i108 := Nw.is s96 i83
  have n109 := Nw.nn s96 i79.1 n84
  have n110 := Nw.nn s96 i80.1 n85
  have w111 : Nw S (aN (wR S35 a 4 (some x20)) x87 5 0) a ((((((([] ++ []) ++ [(x4, 11, 5)]) ++ []) ++ [(x20, 4, 0)]) ++ [(x37, 11, 20), (x38, 11, 20), (x39, 11, 20)]) ++ []) ++ [(x87, 5, 0)]) := Nw.tr w86 s96 (.inl rfl)
  have i112 : Is (aN (wR S35 a 4 (some x20)) x87 5 0).1 x87 5 := Is_new
  have n113 : pN (aN (wR S35 a 4 (some x20)) x87 5 0) x87 = 0 := aN_N
  refine g_dup F dX6_init_33 rfl ?_
  refine g_callIN (host := "PolarPlanimeter") F (kX5_init Γ.1 (aN (wR S35 a 4 (some x20)) x87 5 0) x87 i112) okX5_init nwM59 ⟨(Nat.le_of_ble_eq_true rfl), (Nat.le_of_ble_eq_true rfl)⟩ rfl rfl (Nat.le_of_ble_eq_true rfl) ⟨(Nat.le_of_ble_eq_true rfl), (Nat.le_of_ble_eq_true rfl)⟩ dX6_init_34 (toV (fun S115 h114 => ?_))
  obtain ⟨x117, x118, x119, t116N, t116_0, t116_1, t116_2, t116_3, t116_4⟩ := h114
  have z120 : x117 ∉ pL S := fun h => t116N.2.2.1 _ (show (x117, 11, 12) ∈ [(x117, 11, 12), (x118, 13, 12), (x119, 12, 12)] by simp) (Nw.sub w111 h)
  have d121 : a ≠ x117 := Nw.ne t116N i103.1 (show (x117, 11, 12) ∈ [(x117, 11, 12), (x118, 13, 12), (x119, 12, 12)] by simp)
  have d122 : x4 ≠ x117 := Nw.ne t116N i104.1 (show (x117, 11, 12) ∈ [(x117, 11, 12), (x118, 13, 12), (x119, 12, 12)] by simp)
  have d123 : x20 ≠ x117 := Nw.ne t116N i105.1 (show (x117, 11, 12) ∈ [(x117, 11, 12), (x118, 13, 12), (x119, 12, 12)] by simp)
  have d124 : x37 ≠ x117 := Nw.ne t116N i106.1 (show (x117, 11, 12) ∈ [(x117, 11, 12), (x118, 13, 12), (x119, 12, 12)] by simp)
  have d125 : x38 ≠ x117 := Nw.ne t116N i107.1 (show (x117, 11, 12) ∈ [(x117, 11, 12), (x118, 13, 12), (x119, 12, 12)] by simp)
  have d126 : x39 ≠ x117 := Nw.ne t116N i108.1 (show (x117, 11, 12) ∈ [(x117, 11, 12), (x118, 13, 12), (x119, 12, 12)] by simp)
  have d127 : x87 ≠ x117 := Nw.ne t116N i112.1 (show (x117, 11, 12) ∈ [(x117, 11, 12), (x118, 13, 12), (x119, 12, 12)] by simp)
  have z128 : x118 ∉ pL S := fun h => t116N.2.2.1 _ (show (x118, 13, 12) ∈ [(x117, 11, 12), (x118, 13, 12), (x119, 12, 12)] by simp) (Nw.sub w111 h)
  have d129 : a ≠ x118 := Nw.ne t116N i103.1 (show (x118, 13, 12) ∈ [(x117, 11, 12), (x118, 13, 12), (x119, 12, 12)] by simp)
  have d130 : x4 ≠ x118 := Nw.ne t116N i104.1 (show (x118, 13, 12) ∈ [(x117, 11, 12), (x118, 13, 12), (x119, 12, 12)] by simp)
  have d131 : x20 ≠ x118 := Nw.ne t116N i105.1 (show (x118, 13, 12) ∈ [(x117, 11, 12), (x118, 13, 12), (x119, 12, 12)] by simp)
  have d132 : x37 ≠ x118 := Nw.ne t116N i106.1 (show (x118, 13, 12) ∈ [(x117, 11, 12), (x118, 13, 12), (x119, 12, 12)] by simp)
  have d133 : x38 ≠ x118 := Nw.ne t116N i107.1 (show (x118, 13, 12) ∈ [(x117, 11, 12), (x118, 13, 12), (x119, 12, 12)] by simp)
  have d134 : x39 ≠ x118 := Nw.ne t116N i108.1 (show (x118, 13, 12) ∈ [(x117, 11, 12), (x118, 13, 12), (x119, 12, 12)] by simp)
  have d135 : x87 ≠ x118 := Nw.ne t116N i112.1 (show (x118, 13, 12) ∈ [(x117, 11, 12), (x118, 13, 12), (x119, 12, 12)] by simp)
  have z136 : x119 ∉ pL S := fun h => t116N.2.2.1 _ (show (x119, 12, 12) ∈ [(x117, 11, 12), (x118, 13, 12), (x119, 12, 12)] by simp) (Nw.sub w111 h)
  have d137 : a ≠ x119 := Nw.ne t116N i103.1 (show (x119, 12, 12) ∈ [(x117, 11, 12), (x118, 13, 12), (x119, 12, 12)] by simp)
  have d138 : x4 ≠ x119 := Nw.ne t116N i104.1 (show (x119, 12, 12) ∈ [(x117, 11, 12), (x118, 13, 12), (x119, 12, 12)] by simp)
  have d139 : x20 ≠ x119 := Nw.ne t116N i105.1 (show (x119, 12, 12) ∈ [(x117, 11, 12), (x118, 13, 12), (x119, 12, 12)] by simp)
  have d140 : x37 ≠ x119 := Nw.ne t116N i106.1 (show (x119, 12, 12) ∈ [(x117, 11, 12), (x118, 13, 12), (x119, 12, 12)] by simp)
  have d141 : x38 ≠ x119 := Nw.ne t116N i107.1 (show (x119, 12, 12) ∈ [(x117, 11, 12), (x118, 13, 12), (x119, 12, 12)] by simp)
  have d142 : x39 ≠ x119 := Nw.ne t116N i108.1 (show (x119, 12, 12) ∈ [(x117, 11, 12), (x118, 13, 12), (x119, 12, 12)] by simp)
  have d143 : x87 ≠ x119 := Nw.ne t116N i112.1 (show (x119, 12, 12) ∈ [(x117, 11, 12), (x118, 13, 12), (x119, 12, 12)] by simp)
  have s144 : Nw (aN (wR S35 a 4 (some x20)) x87 5 0) S115 x87 [(x117, 11, 12), (x118, 13, 12), (x119, 12, 12)] := t116N
  have f145 : pI S115 a 0 = 0 := (congrFun (Nw.I s144 i103.1 d90 rfl) 0).trans f53
  have f146 : pI S115 a 1 = 0 := (congrFun (Nw.I s144 i103.1 d90 rfl) 1).trans f54
  have f147 : pI S115 a 3 = 0 := (congrFun (Nw.I s144 i103.1 d90 rfl) 3).trans f55
  have f148 : pI S115 a 4 = 0 := (congrFun (Nw.I s144 i103.1 d90 rfl) 4).trans f56
  have f149 : pI S115 a 5 = 0 := (congrFun (Nw.I s144 i103.1 d90 rfl) 5).trans f57
  have f150 : pI S115 a 2 = 200 := (congrFun (Nw.I s144 i103.1 d90 rfl) 2).trans f58
  have f151 : pI S115 x4 = (fun _ => 0) := Nw.I s144 i104.1 d91 f97
  have f152 : pJ S115 x4 = (fun _ => 0) := Nw.J s144 i104.1 d91 f98
  have f153 : pR S115 a 3 = some x4 := Nw.R s144 i103.1 d90 ((up2_k (by decide)).trans f61)
  have f154 : pR S115 x20 1 = some x37 := Nw.R s144 i105.1 d92 f99
  have f155 : pR S115 x20 2 = some x38 := Nw.R s144 i105.1 d92 f100
  have f156 : pR S115 x20 3 = some x39 := Nw.R s144 i105.1 d92 f101
  have f157 : pI S115 x20 = (fun _ => 0) := Nw.I s144 i105.1 d92 f102
  have f158 : pR S115 a 4 = some x20 := Nw.R s144 i103.1 d90 up2_s
  have i159 := Nw.is s144 i103
  have i160 := Nw.is s144 i104
  have i161 := Nw.is s144 i105
  have i162 := Nw.is s144 i106
  have i163 := Nw.is s144 i107
  have i164 := Nw.is s144 i108
  have i165 := Nw.is s144 i112
  have n166 := Nw.nn s144 i104.1 n109
  have n167 := Nw.nn s144 i105.1 n110
  have n168 := Nw.nn s144 i112.1 n113
  have w169 : Nw S S115 a (((((((([] ++ []) ++ [(x4, 11, 5)]) ++ []) ++ [(x20, 4, 0)]) ++ [(x37, 11, 20), (x38, 11, 20), (x39, 11, 20)]) ++ []) ++ [(x87, 5, 0)]) ++ [(x117, 11, 12), (x118, 13, 12), (x119, 12, 12)]) := Nw.tr w111 s144 (.inr z89)
  have i170 : Is S115.1 x117 11 := (t116N.on (show (x117, 11, 12) ∈ [(x117, 11, 12), (x118, 13, 12), (x119, 12, 12)] by simp)).1
  have i171 : Is S115.1 x118 13 := (t116N.on (show (x118, 13, 12) ∈ [(x117, 11, 12), (x118, 13, 12), (x119, 12, 12)] by simp)).1
  have i172 : Is S115.1 x119 12 := (t116N.on (show (x119, 12, 12) ∈ [(x117, 11, 12), (x118, 13, 12), (x119, 12, 12)] by simp)).1
  refine pfX6_29 F T.2.2 i159 dX6_init_37 ?_
  have s173 : Nw S115 (wR S115 a 5 (some x87)) a [] := Nw.wR
  have f174 : pI (wR S115 a 5 (some x87)) x4 = (fun _ => 0) := Nw.I s173 i160.1 (fun e => d7 e.symm) f151
  have f175 : pJ (wR S115 a 5 (some x87)) x4 = (fun _ => 0) := Nw.J s173 i160.1 (fun e => d7 e.symm) f152
  have f176 : pR (wR S115 a 5 (some x87)) x20 1 = some x37 := Nw.R s173 i161.1 (fun e => d23 e.symm) f154
  have f177 : pR (wR S115 a 5 (some x87)) x20 2 = some x38 := Nw.R s173 i161.1 (fun e => d23 e.symm) f155
  have f178 : pR (wR S115 a 5 (some x87)) x20 3 = some x39 := Nw.R s173 i161.1 (fun e => d23 e.symm) f156
  have f179 : pI (wR S115 a 5 (some x87)) x20 = (fun _ => 0) := Nw.I s173 i161.1 (fun e => d23 e.symm) f157
  have f180 : pR (wR S115 a 5 (some x87)) x87 1 = some x117 := Nw.R s173 i165.1 (fun e => d90 e.symm) t116_0
  have f181 : pR (wR S115 a 5 (some x87)) x87 2 = some x118 := Nw.R s173 i165.1 (fun e => d90 e.symm) t116_1
  have f182 : pR (wR S115 a 5 (some x87)) x87 3 = some x119 := Nw.R s173 i165.1 (fun e => d90 e.symm) t116_2
  have f183 : pI (wR S115 a 5 (some x87)) x87 = (fun _ => 0) := Nw.I s173 i165.1 (fun e => d90 e.symm) (t116_3.trans aN_I)
  have i184 := Nw.is s173 i159
  have i185 := Nw.is s173 i160
  have i186 := Nw.is s173 i161
  have i187 := Nw.is s173 i162
  have i188 := Nw.is s173 i163
  have i189 := Nw.is s173 i164
  have i190 := Nw.is s173 i165
  have i191 := Nw.is s173 i170
  have i192 := Nw.is s173 i171
  have i193 := Nw.is s173 i172
  have n194 := Nw.nn s173 i160.1 n166
  have n195 := Nw.nn s173 i161.1 n167
  have n196 := Nw.nn s173 i165.1 n168
  have w197 : Nw S (wR S115 a 5 (some x87)) a ((((((((([] ++ []) ++ [(x4, 11, 5)]) ++ []) ++ [(x20, 4, 0)]) ++ [(x37, 11, 20), (x38, 11, 20), (x39, 11, 20)]) ++ []) ++ [(x87, 5, 0)]) ++ [(x117, 11, 12), (x118, 13, 12), (x119, 12, 12)]) ++ []) := Nw.tr w169 s173 (.inl rfl)
  refine g_stat (i := 0) (host := "PolarPlanimeter") (f := fun _ => 0) F F.e.2.2.2.1.1 (Or.inr (va_Nw.use rfl (F.e.1 _ nwF35))) dX6_init_40 ?_
  refine g_iconst (v := 0) F (by decide) dX6_init_43 ?_
  refine g_aload_n (k := 0) F 0 rfl dX6_init_44 ?_
  refine gfX6_15 F i184 ((up2_k (by decide)).trans f153) dX6_init_45 ?_
  refine g_iconst (v := 0) F (by decide) dX6_init_48 ?_
  refine g_iconst (v := 5) F (by decide) dX6_init_49 ?_
  refine g_acs (N := 5) F F.e.2.2.2.1.2.1 F.e.2.2.2.1.2.2 mw49 mw50 mw51 mw52 i185 rfl (by decide) (Nat.le_of_eq n194.symm) ⟨(Nat.le_of_ble_eq_true rfl), (Nat.le_of_ble_eq_true rfl)⟩ dX6_init_50 ?_
  have s198 : Nw (wR S115 a 5 (some x87)) (wIr (wR S115 a 5 (some x87)) x4 (va_cpy atF (pI (wR S115 a 5 (some x87)) x4) 0 0 5)) x4 [] := Nw.wIr
  have f199 : pI (wIr (wR S115 a 5 (some x87)) x4 (va_cpy atF (pI (wR S115 a 5 (some x87)) x4) 0 0 5)) a 0 = 0 := (congrFun (Nw.I s198 i184.1 d7 rfl) 0).trans f145
  have f200 : pI (wIr (wR S115 a 5 (some x87)) x4 (va_cpy atF (pI (wR S115 a 5 (some x87)) x4) 0 0 5)) a 1 = 0 := (congrFun (Nw.I s198 i184.1 d7 rfl) 1).trans f146
  have f201 : pI (wIr (wR S115 a 5 (some x87)) x4 (va_cpy atF (pI (wR S115 a 5 (some x87)) x4) 0 0 5)) a 3 = 0 := (congrFun (Nw.I s198 i184.1 d7 rfl) 3).trans f147
  have f202 : pI (wIr (wR S115 a 5 (some x87)) x4 (va_cpy atF (pI (wR S115 a 5 (some x87)) x4) 0 0 5)) a 4 = 0 := (congrFun (Nw.I s198 i184.1 d7 rfl) 4).trans f148
  have f203 : pI (wIr (wR S115 a 5 (some x87)) x4 (va_cpy atF (pI (wR S115 a 5 (some x87)) x4) 0 0 5)) a 5 = 0 := (congrFun (Nw.I s198 i184.1 d7 rfl) 5).trans f149
  have f204 : pI (wIr (wR S115 a 5 (some x87)) x4 (va_cpy atF (pI (wR S115 a 5 (some x87)) x4) 0 0 5)) a 2 = 200 := (congrFun (Nw.I s198 i184.1 d7 rfl) 2).trans f150
  have f205 : pR (wIr (wR S115 a 5 (some x87)) x4 (va_cpy atF (pI (wR S115 a 5 (some x87)) x4) 0 0 5)) a 3 = some x4 := Nw.R s198 i184.1 d7 ((up2_k (by decide)).trans f153)
  have f206 : pR (wIr (wR S115 a 5 (some x87)) x4 (va_cpy atF (pI (wR S115 a 5 (some x87)) x4) 0 0 5)) x20 1 = some x37 := Nw.R s198 i186.1 (fun e => d24 e.symm) f176
  have f207 : pR (wIr (wR S115 a 5 (some x87)) x4 (va_cpy atF (pI (wR S115 a 5 (some x87)) x4) 0 0 5)) x20 2 = some x38 := Nw.R s198 i186.1 (fun e => d24 e.symm) f177
  have f208 : pR (wIr (wR S115 a 5 (some x87)) x4 (va_cpy atF (pI (wR S115 a 5 (some x87)) x4) 0 0 5)) x20 3 = some x39 := Nw.R s198 i186.1 (fun e => d24 e.symm) f178
  have f209 : pI (wIr (wR S115 a 5 (some x87)) x4 (va_cpy atF (pI (wR S115 a 5 (some x87)) x4) 0 0 5)) x20 = (fun _ => 0) := Nw.I s198 i186.1 (fun e => d24 e.symm) f179
  have f210 : pR (wIr (wR S115 a 5 (some x87)) x4 (va_cpy atF (pI (wR S115 a 5 (some x87)) x4) 0 0 5)) a 4 = some x20 := Nw.R s198 i184.1 d7 ((up2_k (by decide)).trans f158)
  have f211 : pR (wIr (wR S115 a 5 (some x87)) x4 (va_cpy atF (pI (wR S115 a 5 (some x87)) x4) 0 0 5)) x87 1 = some x117 := Nw.R s198 i190.1 (fun e => d91 e.symm) f180
  have f212 : pR (wIr (wR S115 a 5 (some x87)) x4 (va_cpy atF (pI (wR S115 a 5 (some x87)) x4) 0 0 5)) x87 2 = some x118 := Nw.R s198 i190.1 (fun e => d91 e.symm) f181
  have f213 : pR (wIr (wR S115 a 5 (some x87)) x4 (va_cpy atF (pI (wR S115 a 5 (some x87)) x4) 0 0 5)) x87 3 = some x119 := Nw.R s198 i190.1 (fun e => d91 e.symm) f182
  have f214 : pI (wIr (wR S115 a 5 (some x87)) x4 (va_cpy atF (pI (wR S115 a 5 (some x87)) x4) 0 0 5)) x87 = (fun _ => 0) := Nw.I s198 i190.1 (fun e => d91 e.symm) f183
  have f215 : pR (wIr (wR S115 a 5 (some x87)) x4 (va_cpy atF (pI (wR S115 a 5 (some x87)) x4) 0 0 5)) a 5 = some x87 := Nw.R s198 i184.1 d7 up2_s
  have i216 := Nw.is s198 i184
  have i217 := Nw.is s198 i185
  have i218 := Nw.is s198 i186
  have i219 := Nw.is s198 i187
  have i220 := Nw.is s198 i188
  have i221 := Nw.is s198 i189
  have i222 := Nw.is s198 i190
  have i223 := Nw.is s198 i191
  have i224 := Nw.is s198 i192
  have i225 := Nw.is s198 i193
  have n226 := Nw.nn s198 i185.1 n194
  have n227 := Nw.nn s198 i186.1 n195
  have n228 := Nw.nn s198 i190.1 n196
  have w229 : Nw S (wIr (wR S115 a 5 (some x87)) x4 (va_cpy atF (pI (wR S115 a 5 (some x87)) x4) 0 0 5)) a (((((((((([] ++ []) ++ [(x4, 11, 5)]) ++ []) ++ [(x20, 4, 0)]) ++ [(x37, 11, 20), (x38, 11, 20), (x39, 11, 20)]) ++ []) ++ [(x87, 5, 0)]) ++ [(x117, 11, 12), (x118, 13, 12), (x119, 12, 12)]) ++ []) ++ []) := Nw.tr w197 s198 (.inr z6)
  refine g_vret F T ⟨rfl, ?_⟩ (Nat.le_of_ble_eq_true rfl) (Nat.le_of_ble_eq_true rfl) dX6_init_53
  exact ⟨fun i => [a, x4, x20, x37, x38, x39, x87, x117, x118, x119].getD i 0, rfl, w229, f205, f210, f215, f206, f207, f208, f211, f212, f213, f199, f200, f204, (fun i hi => (congrFun upr_s i).trans (at_cp hi)), (congrFun f209 0), (congrFun f214 0)⟩
set_option maxHeartbeats 4000000 in
set_option maxRecDepth 100000 in
theorem kX1_init (g : Glo) (S : PS) (a : Nat) (ha : Is S.1 a 1) : Ct g mX1_init 2 12 [.ref a] S (pV9 (fun S' => ∃ x y, Nw S S' a [(x, 0, 0), (y, 8, 0)] ∧ pR S' a 0 = some x ∧ pR S' a 1 = some y)) := by
  refine Ct.of (by decide) (Nat.le_of_ble_eq_true rfl) (fun Γ hg F T => ?_)
  subst hg
  show G Γ S 0 0 0 [(0, .ref a)] []
  refine g_aload_n (k := 0) F 0 rfl dX1_init_0 ?_
  refine g_objInit F mw73 mw11 mw12 ⟨(Nat.le_of_ble_eq_true rfl), (Nat.le_of_ble_eq_true rfl)⟩ dX1_init_1 ?_
  refine g_aload_n (k := 0) F 0 rfl dX1_init_4 ?_
  refine g_new (ci := 0) F clX0 (fun k hk => (nwX0 k hk).1) mw74 mw75 mw76 (fun k hk => (nwX0 k hk).2) ⟨(Nat.le_of_ble_eq_true rfl), (Nat.le_of_ble_eq_true rfl)⟩ dX1_init_5 (fun x1 h2 => ?_)
  have z3 : x1 ∉ pL S := fun h => h2 (Nw.sub Nw.rf h)
  have d4 : a ≠ x1 := fun e => h2 (e ▸ ha.1)
  have s5 : Nw S (aN S x1 0 0) a [(x1, 0, 0)] := Nw.new h2
  have i6 := Nw.is s5 ha
  have w7 : Nw S (aN S x1 0 0) a ([] ++ [(x1, 0, 0)]) := Nw.tr Nw.rf s5 (.inl rfl)
  have i8 : Is (aN S x1 0 0).1 x1 0 := Is_new
  have n9 : pN (aN S x1 0 0) x1 = 0 := aN_N
  refine g_dup F dX1_init_8 rfl ?_
  refine g_callIN (host := "PolarPlanimeter") F (kX0_init Γ.1 (aN S x1 0 0) x1 i8) okX0_init nwM37 ⟨(Nat.le_of_ble_eq_true rfl), (Nat.le_of_ble_eq_true rfl)⟩ rfl rfl (Nat.le_of_ble_eq_true rfl) ⟨(Nat.le_of_ble_eq_true rfl), (Nat.le_of_ble_eq_true rfl)⟩ dX1_init_9 (toV (fun S11 h10 => ?_))
  obtain ⟨t12N, t12_0, t12_1⟩ := h10
  have s13 : Nw (aN S x1 0 0) S11 x1 [] := t12N
  have i14 := Nw.is s13 i6
  have i15 := Nw.is s13 i8
  have n16 := Nw.nn s13 i8.1 n9
  have w17 : Nw S S11 a (([] ++ [(x1, 0, 0)]) ++ []) := Nw.tr w7 s13 (.inr z3)
  refine pfX1_12 F T.2.2 i14 dX1_init_12 ?_
  have s18 : Nw S11 (wR S11 a 0 (some x1)) a [] := Nw.wR
  have f19 : pI (wR S11 a 0 (some x1)) x1 = (fun _ => 0) := Nw.I s18 i15.1 (fun e => d4 e.symm) (t12_0.trans aN_I)
  have i20 := Nw.is s18 i14
  have i21 := Nw.is s18 i15
  have n22 := Nw.nn s18 i15.1 n16
  have w23 : Nw S (wR S11 a 0 (some x1)) a ((([] ++ [(x1, 0, 0)]) ++ []) ++ []) := Nw.tr w17 s18 (.inl rfl)
  refine g_aload_n (k := 0) F 0 rfl dX1_init_15 ?_
  refine g_new (ci := 8) F clX8 (fun k hk => (nwX8 k hk).1) mw78 mw79 mw80 (fun k hk => (nwX8 k hk).2) ⟨(Nat.le_of_ble_eq_true rfl), (Nat.le_of_ble_eq_true rfl)⟩ dX1_init_16 (fun x24 h25 => ?_)
  have z26 : x24 ∉ pL S := fun h => h25 (Nw.sub w23 h)
  have d27 : a ≠ x24 := fun e => h25 (e ▸ i20.1)
  have d28 : x1 ≠ x24 := fun e => h25 (e ▸ i21.1)
  have s29 : Nw (wR S11 a 0 (some x1)) (aN (wR S11 a 0 (some x1)) x24 8 0) a [(x24, 8, 0)] := Nw.new h25
  have f30 : pI (aN (wR S11 a 0 (some x1)) x24 8 0) x1 = (fun _ => 0) := Nw.I s29 i21.1 (fun e => d4 e.symm) f19
  have i31 := Nw.is s29 i20
  have i32 := Nw.is s29 i21
  have n33 := Nw.nn s29 i21.1 n22
  have w34 : Nw S (aN (wR S11 a 0 (some x1)) x24 8 0) a (((([] ++ [(x1, 0, 0)]) ++ []) ++ []) ++ [(x24, 8, 0)]) := Nw.tr w23 s29 (.inl rfl)
  have i35 : Is (aN (wR S11 a 0 (some x1)) x24 8 0).1 x24 8 := Is_new
  have n36 : pN (aN (wR S11 a 0 (some x1)) x24 8 0) x24 = 0 := aN_N
  refine g_dup F dX1_init_19 rfl ?_
  refine g_callIN (host := "PolarPlanimeter") F (kX8_init Γ.1 (aN (wR S11 a 0 (some x1)) x24 8 0) x24 i35) okX8_init nwM42 ⟨(Nat.le_of_ble_eq_true rfl), (Nat.le_of_ble_eq_true rfl)⟩ rfl rfl (Nat.le_of_ble_eq_true rfl) ⟨(Nat.le_of_ble_eq_true rfl), (Nat.le_of_ble_eq_true rfl)⟩ dX1_init_20 (toV (fun S38 h37 => ?_))
  obtain ⟨t39N, t39_0, t39_1⟩ := h37
  have s40 : Nw (aN (wR S11 a 0 (some x1)) x24 8 0) S38 x24 [] := t39N
  have f41 : pI S38 x1 = (fun _ => 0) := Nw.I s40 i32.1 d28 f30
  have f42 : pR S38 a 0 = some x1 := Nw.R s40 i31.1 d27 up2_s
  have i43 := Nw.is s40 i31
  have i44 := Nw.is s40 i32
  have i45 := Nw.is s40 i35
  have n46 := Nw.nn s40 i32.1 n33
  have n47 := Nw.nn s40 i35.1 n36
  have w48 : Nw S S38 a ((((([] ++ [(x1, 0, 0)]) ++ []) ++ []) ++ [(x24, 8, 0)]) ++ []) := Nw.tr w34 s40 (.inr z26)
  refine pfX1_21 F T.2.2 i43 dX1_init_23 ?_
  have s49 : Nw S38 (wR S38 a 1 (some x24)) a [] := Nw.wR
  have f50 : pI (wR S38 a 1 (some x24)) x1 = (fun _ => 0) := Nw.I s49 i44.1 (fun e => d4 e.symm) f41
  have f51 : pI (wR S38 a 1 (some x24)) x24 = (fun _ => 0) := Nw.I s49 i45.1 (fun e => d27 e.symm) (t39_0.trans aN_I)
  have i52 := Nw.is s49 i43
  have i53 := Nw.is s49 i44
  have i54 := Nw.is s49 i45
  have n55 := Nw.nn s49 i44.1 n46
  have n56 := Nw.nn s49 i45.1 n47
  have w57 : Nw S (wR S38 a 1 (some x24)) a (((((([] ++ [(x1, 0, 0)]) ++ []) ++ []) ++ [(x24, 8, 0)]) ++ []) ++ []) := Nw.tr w48 s49 (.inl rfl)
  refine g_vret F T ⟨rfl, ?_⟩ (Nat.le_of_ble_eq_true rfl) (Nat.le_of_ble_eq_true rfl) dX1_init_26
  exact ⟨x1, x24, w57, ((up2_k (by decide)).trans f42), up2_s⟩
