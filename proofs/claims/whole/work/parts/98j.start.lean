theorem nwX9 : ∀ k, k < 9 → parseFieldDescriptor (TX9 k).2.2.1 = some ((parseFieldDescriptor (TX9 k).2.2.1).getD .int) ∧ defaultValue ((parseFieldDescriptor (TX9 k).2.2.1).getD .int) = (if ft 9 k = 0 then .int 0 else if ft 9 k = 1 then .long 0 else .null) := by decide +kernel
theorem nwX10 : ∀ k, k < 18 → parseFieldDescriptor (TX10 k).2.2.1 = some ((parseFieldDescriptor (TX10 k).2.2.1).getD .int) ∧ defaultValue ((parseFieldDescriptor (TX10 k).2.2.1).getD .int) = (if ft 10 k = 0 then .int 0 else if ft 10 k = 1 then .long 0 else .null) := by decide +kernel
abbrev S00 : PS := (([], fun _ => 0, fun _ => 0), fun _ _ => none, fun _ _ => 0, fun _ _ => 0)
set_option maxHeartbeats 8000000 in
set_option maxRecDepth 100000 in
theorem law_start {Γ : Ctx} {b L : Nat} {xs : Nat → Int32} (F : Fx Γ RL cL_law rmL) (hX : va_X b L xs (ks Γ) (ks Γ).heap) (hb : b < Γ.1.2.2.2.1) (hL : L ≤ 2560) (hend : ∀ (q : Nat → Nat) (S : PS) (c m i : Nat), c ≤ 600000 → m ≤ 7000000 → G Γ S c m 1514 [(0, .ref b), (1, .ref (q 80)), (2, .ref (q 94)), (3, .ref (q 100)), (4, .int (nI i))] []) : G Γ S00 0 0 0 [(0, .ref b)] [] := by
  refine g_new (ci := 9) F clX9 (fun k hk => (nwX9 k hk).1) mw0 mw1 mw2 (fun k hk => (nwX9 k hk).2) ⟨(Nat.le_of_ble_eq_true rfl), (Nat.le_of_ble_eq_true rfl)⟩ dL_law_0 (fun a ha => ?_)
  have n0 : Nw S00 (aN S00 a 9 0) a [(a, 9, 0)] := Nw.new ha
  refine g_dup F dL_law_3 rfl ?_
  refine g_callI F (kX9_init Γ.1 (aN S00 a 9 0) a Is_new aN_I aN_J) okX9_init mw7 ⟨(Nat.le_of_ble_eq_true rfl), (Nat.le_of_ble_eq_true rfl)⟩ rfl rfl (Nat.le_of_ble_eq_true rfl) ⟨(Nat.le_of_ble_eq_true rfl), (Nat.le_of_ble_eq_true rfl)⟩ dL_law_4 (toV (fun S2 h2 => ?_))
  obtain ⟨x1, f0, x2, f1, hs, rr, fh, fo, ar, wh, me, m1, m2, m3, rd, t1, t2, bf, nX, h0, h1, h2, h3, h4, h5, h6, h7, h8, h9, h10, h11, h12, h13, h14, h15, e0, st0, e1, st1, hH⟩ := h2
  subst e0
  subst e1
  refine g_astore_n (k := 1) (L' := [(1, .ref a), (0, .ref b)]) F dL_law_7 (Nat.le_of_ble_eq_true rfl) rfl ?_
  refine g_new (ci := 10) F clX10 (fun k hk => (nwX10 k hk).1) mw3 mw4 mw5 (fun k hk => (nwX10 k hk).2) ⟨(Nat.le_of_ble_eq_true rfl), (Nat.le_of_ble_eq_true rfl)⟩ dL_law_8 (fun mm hm => ?_)
  have n2 : Nw S2 (aN S2 mm 10 0) mm [(mm, 10, 0)] := Nw.new hm
  refine g_dup F dL_law_11 rfl ?_
  refine g_callI F (kX10_init Γ.1 (aN S2 mm 10 0) mm Is_new aN_I aN_J) okX10_init mw99 ⟨(Nat.le_of_ble_eq_true rfl), (Nat.le_of_ble_eq_true rfl)⟩ rfl rfl (Nat.le_of_ble_eq_true rfl) ⟨(Nat.le_of_ble_eq_true rfl), (Nat.le_of_ble_eq_true rfl)⟩ dL_law_12 (toV (fun S4 h4 => ?_))
  obtain ⟨mz, msv, mtx, mis, mre, nM, g0, g1, g2, g3, g4, g5, g6, g7⟩ := h4
  refine g_astore_n (k := 2) (L' := [(2, .ref mm), (1, .ref a), (0, .ref b)]) F dL_law_15 (Nat.le_of_ble_eq_true rfl) rfl ?_
  refine g_iconst (v := 1) F (by decide) dL_law_16 ?_
  refine g_newJ (N := 1) F mw6 rfl (by decide) ⟨(Nat.le_of_ble_eq_true rfl), (Nat.le_of_ble_eq_true rfl)⟩ dL_law_17 (fun oo ho => ?_)
  have n4 : Nw S4 (aN S4 oo 12 1) oo [(oo, 12, 1)] := Nw.new ho
  refine g_astore_n (k := 3) (L' := [(3, .ref oo), (2, .ref mm), (1, .ref a), (0, .ref b)]) F dL_law_19 (Nat.le_of_ble_eq_true rfl) rfl ?_
  refine g_iconst (v := 0) F (by decide) dL_law_20 ?_
  refine g_istore (L' := [(4, .int (nI 0)), (3, .ref oo), (2, .ref mm), (1, .ref a), (0, .ref b)]) F dL_law_21 (Nat.le_of_ble_eq_true rfl) rfl ?_
  have n01 : Nw S00 S2 a (([] ++ [(a, 9, 0)]) ++ ((((((((((((((((((((([] ++ [(f0 0, 6, 0)]) ++ (stl f0)) ++ []) ++ [(f1 0, 6, 0)]) ++ (stl f1)) ++ []) ++ [(hs, 2, 0)]) ++ ((rr, 14, 6) :: hl fh 6)) ++ []) ++ [(fo, 1, 0)]) ++ [(ar, 0, 0), (wh, 8, 0)]) ++ []) ++ [(me, 3, 0)]) ++ [(m1, 12, 12), (m2, 12, 12), (m3, 13, 12)]) ++ []) ++ [(rd, 7, 0)]) ++ [(t1, 11, 20), (t2, 11, 20)]) ++ []) ++ [(bf, 11, 60)]) ++ []))) := Nw.tr (Nw.tr (Nw.rf (S := S00) (a := a)) n0 (.inl rfl)) nX (.inl rfl)
  have em : ∀ x : Nat, x ∉ pL S00 := fun x hx => (by cases hx)
  have nA : Nw S00 (aN S4 oo 12 1) a ((((([] ++ [(a, 9, 0)]) ++ ((((((((((((((((((((([] ++ [(f0 0, 6, 0)]) ++ (stl f0)) ++ []) ++ [(f1 0, 6, 0)]) ++ (stl f1)) ++ []) ++ [(hs, 2, 0)]) ++ ((rr, 14, 6) :: hl fh 6)) ++ []) ++ [(fo, 1, 0)]) ++ [(ar, 0, 0), (wh, 8, 0)]) ++ []) ++ [(me, 3, 0)]) ++ [(m1, 12, 12), (m2, 12, 12), (m3, 13, 12)]) ++ []) ++ [(rd, 7, 0)]) ++ [(t1, 11, 20), (t2, 11, 20)]) ++ []) ++ [(bf, 11, 60)]) ++ []))) ++ [(mm, 10, 0)]) ++ (((((((((((((((([] ++ [(mz, 12, 106)]) ++ []) ++ [(msv, 12, 636)]) ++ []) ++ [(mtx, 11, 60)]) ++ []) ++ [(mis, 13, 12)]) ++ []) ++ [(mre, 11, 64)]) ++ []) ++ []) ++ []) ++ []) ++ []) ++ []))) ++ [(oo, 12, 1)]) := Nw.tr (Nw.tr (Nw.tr n01 n2 (.inr (em _))) nM (.inr (em _))) n4 (.inr (em _))
  rw [TT_e] at nA
  have n24 : Nw S2 S4 mm ([(mm, 10, 0)] ++ (((((((((((((((([] ++ [(mz, 12, 106)]) ++ []) ++ [(msv, 12, 636)]) ++ []) ++ [(mtx, 11, 60)]) ++ []) ++ [(mis, 13, 12)]) ++ []) ++ [(mre, 11, 64)]) ++ []) ++ []) ++ []) ++ []) ++ []) ++ []))) := Nw.tr n2 nM (.inl rfl)
  have ho2 : oo ∉ pL S2 := fun h => ho (n24.sub h)
  have nT : Nw S2 (aN S4 oo 12 1) mm (([(mm, 10, 0)] ++ (((((((((((((((([] ++ [(mz, 12, 106)]) ++ []) ++ [(msv, 12, 636)]) ++ []) ++ [(mtx, 11, 60)]) ++ []) ++ [(mis, 13, 12)]) ++ []) ++ [(mre, 11, 64)]) ++ []) ++ []) ++ []) ++ []) ++ []) ++ []))) ++ [(oo, 12, 1)]) := Nw.tr n24 n4 (.inr ho2)
  have R5 : ∀ x k v, x ∈ pL S2 → pR S2 x k = v → pR (aN S4 oo 12 1) x k = v := fun x k v hx hv => nT.R hx (fun e => hm (e ▸ hx)) hv
  have I5 : ∀ x f, x ∈ pL S2 → pI S2 x = f → pI (aN S4 oo 12 1) x = f := fun x f hx hv => nT.I hx (fun e => hm (e ▸ hx)) hv
  have on : ∀ x k n, (x, k, n) ∈ (([] ++ [(a, 9, 0)]) ++ ((((((((((((((((((((([] ++ [(f0 0, 6, 0)]) ++ (stl f0)) ++ []) ++ [(f1 0, 6, 0)]) ++ (stl f1)) ++ []) ++ [(hs, 2, 0)]) ++ ((rr, 14, 6) :: hl fh 6)) ++ []) ++ [(fo, 1, 0)]) ++ [(ar, 0, 0), (wh, 8, 0)]) ++ []) ++ [(me, 3, 0)]) ++ [(m1, 12, 12), (m2, 12, 12), (m3, 13, 12)]) ++ []) ++ [(rd, 7, 0)]) ++ [(t1, 11, 20), (t2, 11, 20)]) ++ []) ++ [(bf, 11, 60)]) ++ []))) → x ∈ pL S2 := fun x k n h => (n01.on h).1.1
  have in0 : ∀ e, e ∈ stl f0 → e ∈ (([] ++ [(a, 9, 0)]) ++ ((((((((((((((((((((([] ++ [(f0 0, 6, 0)]) ++ (stl f0)) ++ []) ++ [(f1 0, 6, 0)]) ++ (stl f1)) ++ []) ++ [(hs, 2, 0)]) ++ ((rr, 14, 6) :: hl fh 6)) ++ []) ++ [(fo, 1, 0)]) ++ [(ar, 0, 0), (wh, 8, 0)]) ++ []) ++ [(me, 3, 0)]) ++ [(m1, 12, 12), (m2, 12, 12), (m3, 13, 12)]) ++ []) ++ [(rd, 7, 0)]) ++ [(t1, 11, 20), (t2, 11, 20)]) ++ []) ++ [(bf, 11, 60)]) ++ []))) := fun e he => by simp only [List.mem_append]; simp only [he, true_or, or_true]
  have in1 : ∀ e, e ∈ stl f1 → e ∈ (([] ++ [(a, 9, 0)]) ++ ((((((((((((((((((((([] ++ [(f0 0, 6, 0)]) ++ (stl f0)) ++ []) ++ [(f1 0, 6, 0)]) ++ (stl f1)) ++ []) ++ [(hs, 2, 0)]) ++ ((rr, 14, 6) :: hl fh 6)) ++ []) ++ [(fo, 1, 0)]) ++ [(ar, 0, 0), (wh, 8, 0)]) ++ []) ++ [(me, 3, 0)]) ++ [(m1, 12, 12), (m2, 12, 12), (m3, 13, 12)]) ++ []) ++ [(rd, 7, 0)]) ++ [(t1, 11, 20), (t2, 11, 20)]) ++ []) ++ [(bf, 11, 60)]) ++ []))) := fun e he => by simp only [List.mem_append]; simp only [he, true_or, or_true]
  have inh : ∀ e, e ∈ hl fh 6 → e ∈ (([] ++ [(a, 9, 0)]) ++ ((((((((((((((((((((([] ++ [(f0 0, 6, 0)]) ++ (stl f0)) ++ []) ++ [(f1 0, 6, 0)]) ++ (stl f1)) ++ []) ++ [(hs, 2, 0)]) ++ ((rr, 14, 6) :: hl fh 6)) ++ []) ++ [(fo, 1, 0)]) ++ [(ar, 0, 0), (wh, 8, 0)]) ++ []) ++ [(me, 3, 0)]) ++ [(m1, 12, 12), (m2, 12, 12), (m3, 13, 12)]) ++ []) ++ [(rd, 7, 0)]) ++ [(t1, 11, 20), (t2, 11, 20)]) ++ []) ++ [(bf, 11, 60)]) ++ []))) := fun e he => by simp only [List.mem_append, List.mem_cons]; simp only [he, true_or, or_true]
  have me0 : ∀ k, k < 10 → f0 k ∈ pL S2 := fun k hk => by
    rcases Nat.eq_zero_or_pos k with e | e
    · subst e; exact on _ 6 0 (by simp)
    · obtain ⟨kd, ln, h9⟩ := stl_mem (f := f0) e hk
      exact on _ _ _ (in0 _ h9)
  have me1 : ∀ k, k < 10 → f1 k ∈ pL S2 := fun k hk => by
    rcases Nat.eq_zero_or_pos k with e | e
    · subst e; exact on _ 6 0 (by simp)
    · obtain ⟨kd, ln, h9⟩ := stl_mem (f := f1) e hk
      exact on _ _ _ (in1 _ h9)
  have meh : ∀ j, j < 6 → ∀ k, k < 10 → fh j k ∈ pL S2 := fun j hj k hk => by
    obtain ⟨kd, ln, h9⟩ := hl_mem (f := fh) hj hk
    exact on _ _ _ (inh _ h9)
  have s0 : St0 (aN S4 oo 12 1) f0 := st0.nw nT me0 (fun k hk e => hm (e ▸ me0 k hk))
  have s1 : St0 (aN S4 oo 12 1) f1 := st1.nw nT me1 (fun k hk e => hm (e ▸ me1 k hk))
  have sh : ∀ j, j < 6 → St0 (aN S4 oo 12 1) (fh j) := fun j hj => (hH.2.2.2 j hj).nw nT (meh j hj) (fun k hk e => hm (e ▸ meh j hj k hk))
  have xa := on a 9 0 (by simp)
  have xs9 := on hs 2 0 (by simp)
  have xr := on rr 14 6 (by simp)
  have xfo := on fo 1 0 (by simp)
  have xme := on me 3 0 (by simp)
  have xrd := on rd 7 0 (by simp)
  have xmm : mm ∈ pL S4 := (n24.on (x := mm) (k := 10) (n := 0) (by simp)).1.1
  have xmo : mm ≠ oo := fun e => ho (e ▸ xmm)
  have xz : mz ∈ pL S4 := (n24.on (x := mz) (k := 12) (n := 106) (by simp)).1.1
  have xzo : mz ≠ oo := fun e => ho (e ▸ xz)
  obtain ⟨q, qe⟩ : ∃ y9 : Nat → Nat, y9 = q9 (TT9 a f0 f1 hs rr fh fo ar wh me m1 m2 m3 rd t1 t2 bf mm mz msv mtx mis mre oo) := ⟨_, rfl⟩
  have e0 : ∀ k, k < 10 → q k = f0 k := by rw [qe]; exact TT_0
  have e1 : ∀ k, k < 10 → q (10 + k) = f1 k := by rw [qe]; exact TT_1
  have eh : ∀ j, j < 6 → ∀ k, k < 10 → q (20 + 10 * j + k) = fh j k := by rw [qe]; exact TT_h
  have hK := TT_K (a := a) (f0 := f0) (f1 := f1) (hs := hs) (rr := rr) (fh := fh) (fo := fo) (ar := ar) (wh := wh) (me := me) (m1 := m1) (m2 := m2) (m3 := m3) (rd := rd) (t1 := t1) (t2 := t2) (bf := bf) (mm := mm) (mz := mz) (msv := msv) (mtx := mtx) (mis := mis) (mre := mre) (oo := oo)
  have EE := TT_q (a := a) (f0 := f0) (f1 := f1) (hs := hs) (rr := rr) (fh := fh) (fo := fo) (ar := ar) (wh := wh) (me := me) (m1 := m1) (m2 := m2) (m3 := m3) (rd := rd) (t1 := t1) (t2 := t2) (bf := bf) (mm := mm) (mz := mz) (msv := msv) (mtx := mtx) (mis := mis) (mre := mre) (oo := oo)
  have hsh := shp_of nA hK
  rw [← qe] at EE hsh
  clear qe hK
  obtain ⟨E80, E81, E82, E83, E84, E85, E86, E87, E88, E89, E90, E91, E92, E93, E94, E95, E96, E97, E98, E99, E100⟩ := EE
  have sa := st_all s0 s1 sh e0 e1 eh
  have q0e : q 0 = f0 0 := e0 0 (by decide)
  have q10e : q 10 = f1 0 := e1 0 (by decide)
  have hR : ShpR (aN S4 oo 12 1).2.1 q := by
    refine ⟨st_R sa, ?_, ?_, ?_, ?_, ?_, ?_, ?_, ?_, ?_, ?_, ?_, ?_, ?_, ?_, ?_, ?_, ?_, ?_, ?_, ?_⟩
    · rw [E80, q0e]; exact R5 _ _ _ xa h2
    · rw [E80, q10e]; exact R5 _ _ _ xa h3
    · rw [E80, E81]; exact R5 _ _ _ xa h4
    · rw [E80, E83]; exact R5 _ _ _ xa h5
    · rw [E80, E86]; exact R5 _ _ _ xa h6
    · rw [E80, E90]; exact R5 _ _ _ xa h7
    · rw [E80, E93]; exact R5 _ _ _ xa h8
    · rw [E81, E82]; exact R5 _ _ _ xs9 hH.1
    · rw [E83, E84]; exact R5 _ _ _ xfo h9
    · rw [E83, E85]; exact R5 _ _ _ xfo h10
    · rw [E86, E87]; exact R5 _ _ _ xme h11
    · rw [E86, E88]; exact R5 _ _ _ xme h12
    · rw [E86, E89]; exact R5 _ _ _ xme h13
    · rw [E90, E91]; exact R5 _ _ _ xrd h14
    · rw [E90, E92]; exact R5 _ _ _ xrd h15
    · rw [E94, E95]; exact n4.R xmm xmo g3
    · rw [E94, E96]; exact n4.R xmm xmo g6
    · rw [E94, E97]; exact n4.R xmm xmo g7
    · rw [E94, E98]; exact n4.R xmm xmo g4
    · rw [E94, E99]; exact n4.R xmm xmo g5
  have hq : Shp (aN S4 oo 12 1).1 (aN S4 oo 12 1).2.1 q := hsh hR
  have hC : Cl (aN S4 oo 12 1) q (z00, [], 0, 0, fun _ => 0) := st_Cl (sa 0 (by decide)) (by rw [E81]; exact (congrFun (I5 _ _ xs9 rfl) 0).trans hH.2.1) (fun i hi => by
      have eq : q (10 * (i + 2)) = fh i 0 := (congrArg q (by omega : 10 * (i + 2) = 20 + 10 * i + 0)).trans (eh i hi 0 (by decide))
      rw [E82, eq]; exact R5 _ _ _ xr (hH.2.2.1 i hi)) (by rw [E80]; exact congrFun (I5 _ _ xa h0) 7) (by rw [E80]; exact congrFun (I5 _ _ xa h0) 8)
  have hM : Mw (aN S4 oo 12 1) q (z00, [], 0, 0, fun _ => 0) := st_Mw (by rw [E95]; exact n4.J xz xzo g2) (by rw [E94]; exact congrFun (n4.I xmm xmo g0) 2) (by rw [E94]; exact congrFun (n4.I xmm xmo g0) 4) (by rw [E94]; exact congrFun (n4.I xmm xmo g0) 5)
  refine g_sub (L' := [(0, .ref b), (1, .ref (q 80)), (2, .ref (q 94)), (3, .ref (q 100)), (4, .int (nI (5 * 0)))]) [4, 3, 2, 1, 0] (by rw [E80, E94, E100]; rfl) ?_
  exact law_loop F hX hb hL q (fun S c m i h1 h2 => hend q S c m i h1 h2) 513 0 _ (z00, [], 0, 0, fun _ => 0) _ _ (by decide) (Nat.zero_le _) hq Iw_00 hC hM (by decide) (by decide)
