theorem nwX9 : ∀ k, k < 9 → parseFieldDescriptor (TX9 k).2.2.1 = some ((parseFieldDescriptor (TX9 k).2.2.1).getD .int) ∧ defaultValue ((parseFieldDescriptor (TX9 k).2.2.1).getD .int) = (if ft 9 k = 0 then .int 0 else if ft 9 k = 1 then .long 0 else .null) := by decide +kernel
abbrev S00 : PS := (([], fun _ => 0, fun _ => 0), fun _ _ => none, fun _ _ => 0, fun _ _ => 0)
set_option maxHeartbeats 8000000 in
set_option maxRecDepth 100000 in
theorem law_start {Γ : Ctx} (F : Fx Γ RL cL_law rmL) (hend : ∀ (S : PS) (c m : Nat) (L : List (Nat × Value)), c ≤ 600104 → m ≤ 7301314 → G Γ S c m 236 L [.int 1]) : G Γ S00 0 0 0 [(0, .ref (Γ.1.2.2.2.2.1 3))] [] := by
  refine g_new (ci := 9) F clX9 (fun k hk => (nwX9 k hk).1) mw0 mw1 mw2 (fun k hk => (nwX9 k hk).2) ⟨(Nat.le_of_ble_eq_true rfl), (Nat.le_of_ble_eq_true rfl)⟩ dL_law_0 (fun a ha => ?_)
  have n0 : Nw S00 (aN S00 a 9 0) a [(a, 9, 0)] := Nw.new ha
  refine g_dup F dL_law_3 rfl ?_
  refine g_callI F (kX9_init Γ.1 (aN S00 a 9 0) a Is_new aN_I aN_J) okX9_init mw7 ⟨(Nat.le_of_ble_eq_true rfl), (Nat.le_of_ble_eq_true rfl)⟩ rfl rfl (Nat.le_of_ble_eq_true rfl) ⟨(Nat.le_of_ble_eq_true rfl), (Nat.le_of_ble_eq_true rfl)⟩ dL_law_4 (toV (fun S2 h2 => ?_))
  obtain ⟨x1, f0, x2, f1, hs, rr, fh, fo, ar, wh, me, m1, m2, m3, rd, t1, t2, bf, nX, h0, h1, h2, h3, h4, h5, h6, h7, h8, h9, h10, h11, h12, h13, h14, h15, e0, st0, e1, st1, hH⟩ := h2
  subst e0
  subst e1
  refine g_astore_n (k := 1) (L' := [(1, .ref a), (0, .ref (Γ.1.2.2.2.2.1 3))]) F dL_law_7 (Nat.le_of_ble_eq_true rfl) rfl ?_
  refine g_bipush (v := 7) F (by decide) dL_law_8 ?_
  refine g_newI (N := 7) F mw3 rfl (by decide) ⟨(Nat.le_of_ble_eq_true rfl), (Nat.le_of_ble_eq_true rfl)⟩ dL_law_10 (fun se hse => ?_)
  have n3 : Nw S2 (aN S2 se 11 7) se [(se, 11, 7)] := Nw.new hse
  refine g_astore_n (k := 2) (L' := [(2, .ref se), (1, .ref a), (0, .ref (Γ.1.2.2.2.2.1 3))]) F dL_law_12 (Nat.le_of_ble_eq_true rfl) rfl ?_
  refine g_bipush (v := 27) F (by decide) dL_law_13 ?_
  refine g_newI (N := 27) F mw3 rfl (by decide) ⟨(Nat.le_of_ble_eq_true rfl), (Nat.le_of_ble_eq_true rfl)⟩ dL_law_15 (fun co hco => ?_)
  have n4 : Nw (aN S2 se 11 7) (aN (aN S2 se 11 7) co 11 27) co [(co, 11, 27)] := Nw.new hco
  refine g_astore_n (k := 3) (L' := [(3, .ref co), (2, .ref se), (1, .ref a), (0, .ref (Γ.1.2.2.2.2.1 3))]) F dL_law_17 (Nat.le_of_ble_eq_true rfl) rfl ?_
  refine g_iconst (v := 2) F (by decide) dL_law_18 ?_
  refine g_newI (N := 2) F mw3 rfl (by decide) ⟨(Nat.le_of_ble_eq_true rfl), (Nat.le_of_ble_eq_true rfl)⟩ dL_law_19 (fun dd hdd => ?_)
  have n5 : Nw (aN (aN S2 se 11 7) co 11 27) (aN (aN (aN S2 se 11 7) co 11 27) dd 11 2) dd [(dd, 11, 2)] := Nw.new hdd
  refine g_astore (L' := [(4, .ref dd), (3, .ref co), (2, .ref se), (1, .ref a), (0, .ref (Γ.1.2.2.2.2.1 3))]) F dL_law_21 (Nat.le_of_ble_eq_true rfl) rfl ?_
  refine g_iconst (v := 3) F (by decide) dL_law_23 ?_
  refine g_newJ (N := 3) F mw4 rfl (by decide) ⟨(Nat.le_of_ble_eq_true rfl), (Nat.le_of_ble_eq_true rfl)⟩ dL_law_24 (fun po hpo => ?_)
  have n6 : Nw (aN (aN (aN S2 se 11 7) co 11 27) dd 11 2) (aN (aN (aN (aN S2 se 11 7) co 11 27) dd 11 2) po 12 3) po [(po, 12, 3)] := Nw.new hpo
  refine g_astore (L' := [(5, .ref po), (4, .ref dd), (3, .ref co), (2, .ref se), (1, .ref a), (0, .ref (Γ.1.2.2.2.2.1 3))]) F dL_law_26 (Nat.le_of_ble_eq_true rfl) rfl ?_
  have n01 : Nw S00 S2 a (([] ++ [(a, 9, 0)]) ++ ((((((((((((((((((((([] ++ [(f0 0, 6, 0)]) ++ (stl f0)) ++ []) ++ [(f1 0, 6, 0)]) ++ (stl f1)) ++ []) ++ [(hs, 2, 0)]) ++ ((rr, 14, 6) :: hl fh 6)) ++ []) ++ [(fo, 1, 0)]) ++ [(ar, 0, 0), (wh, 8, 0)]) ++ []) ++ [(me, 3, 0)]) ++ [(m1, 12, 12), (m2, 12, 12), (m3, 13, 12)]) ++ []) ++ [(rd, 7, 0)]) ++ [(t1, 11, 20), (t2, 11, 20)]) ++ []) ++ [(bf, 11, 60)]) ++ []))) := Nw.tr (Nw.tr (Nw.rf (S := S00) (a := a)) n0 (.inl rfl)) nX (.inl rfl)
  have em : ∀ x : Nat, x ∉ pL S00 := fun x hx => (by cases hx)
  have nA : Nw S00 (aN (aN (aN (aN S2 se 11 7) co 11 27) dd 11 2) po 12 3) a (((((([] ++ [(a, 9, 0)]) ++ ((((((((((((((((((((([] ++ [(f0 0, 6, 0)]) ++ (stl f0)) ++ []) ++ [(f1 0, 6, 0)]) ++ (stl f1)) ++ []) ++ [(hs, 2, 0)]) ++ ((rr, 14, 6) :: hl fh 6)) ++ []) ++ [(fo, 1, 0)]) ++ [(ar, 0, 0), (wh, 8, 0)]) ++ []) ++ [(me, 3, 0)]) ++ [(m1, 12, 12), (m2, 12, 12), (m3, 13, 12)]) ++ []) ++ [(rd, 7, 0)]) ++ [(t1, 11, 20), (t2, 11, 20)]) ++ []) ++ [(bf, 11, 60)]) ++ []))) ++ [(se, 11, 7)]) ++ [(co, 11, 27)]) ++ [(dd, 11, 2)]) ++ [(po, 12, 3)]) := Nw.tr (Nw.tr (Nw.tr (Nw.tr n01 n3 (.inr (em _))) n4 (.inr (em _))) n5 (.inr (em _))) n6 (.inr (em _))
  rw [TT_e] at nA
  have n45 : Nw (aN S2 se 11 7) (aN (aN (aN S2 se 11 7) co 11 27) dd 11 2) co ([(co, 11, 27)] ++ [(dd, 11, 2)]) := Nw.tr n4 n5 (.inr (fun h => hdd (n4.sub h)))
  have nU : Nw (aN S2 se 11 7) (aN (aN (aN (aN S2 se 11 7) co 11 27) dd 11 2) po 12 3) co (([(co, 11, 27)] ++ [(dd, 11, 2)]) ++ [(po, 12, 3)]) := Nw.tr n45 n6 (.inr (fun h => hpo (n45.sub h)))
  have nT : Nw S2 (aN (aN (aN (aN S2 se 11 7) co 11 27) dd 11 2) po 12 3) se ([(se, 11, 7)] ++ (([(co, 11, 27)] ++ [(dd, 11, 2)]) ++ [(po, 12, 3)])) := Nw.tr n3 nU (.inr (fun h => hco (n3.sub h)))
  have xse : se ∈ pL (aN S2 se 11 7) := (n3.on (x := se) (k := 11) (n := 7) (by simp)).1.1
  have xdd : dd ∈ pL (aN (aN (aN S2 se 11 7) co 11 27) dd 11 2) := (n5.on (x := dd) (k := 11) (n := 2) (by simp)).1.1
  have zse : pI (aN (aN (aN (aN S2 se 11 7) co 11 27) dd 11 2) po 12 3) se = fun _ => 0 := nU.I xse (fun e => hco (e ▸ xse)) aN_I
  have zdd : pI (aN (aN (aN (aN S2 se 11 7) co 11 27) dd 11 2) po 12 3) dd = fun _ => 0 := n6.I xdd (fun e => hpo (e ▸ xdd)) aN_I
  clear n3 n4 n5 n6 n45 nU
  generalize (aN (aN (aN (aN S2 se 11 7) co 11 27) dd 11 2) po 12 3) = S6 at *
  have R5 : ∀ x k v, x ∈ pL S2 → pR S2 x k = v → pR S6 x k = v := fun x k v hx hv => nT.R hx (fun e => hse (e ▸ hx)) hv
  have I5 : ∀ x f, x ∈ pL S2 → pI S2 x = f → pI S6 x = f := fun x f hx hv => nT.I hx (fun e => hse (e ▸ hx)) hv
  have on : ∀ x k n, (x, k, n) ∈ (([] ++ [(a, 9, 0)]) ++ ((((((((((((((((((((([] ++ [(f0 0, 6, 0)]) ++ (stl f0)) ++ []) ++ [(f1 0, 6, 0)]) ++ (stl f1)) ++ []) ++ [(hs, 2, 0)]) ++ ((rr, 14, 6) :: hl fh 6)) ++ []) ++ [(fo, 1, 0)]) ++ [(ar, 0, 0), (wh, 8, 0)]) ++ []) ++ [(me, 3, 0)]) ++ [(m1, 12, 12), (m2, 12, 12), (m3, 13, 12)]) ++ []) ++ [(rd, 7, 0)]) ++ [(t1, 11, 20), (t2, 11, 20)]) ++ []) ++ [(bf, 11, 60)]) ++ []))) → x ∈ pL S2 := fun x k n h => (n01.on h).1.1
  have in0 : ∀ e, e ∈ stl f0 → e ∈ (([] ++ [(a, 9, 0)]) ++ ((((((((((((((((((((([] ++ [(f0 0, 6, 0)]) ++ (stl f0)) ++ []) ++ [(f1 0, 6, 0)]) ++ (stl f1)) ++ []) ++ [(hs, 2, 0)]) ++ ((rr, 14, 6) :: hl fh 6)) ++ []) ++ [(fo, 1, 0)]) ++ [(ar, 0, 0), (wh, 8, 0)]) ++ []) ++ [(me, 3, 0)]) ++ [(m1, 12, 12), (m2, 12, 12), (m3, 13, 12)]) ++ []) ++ [(rd, 7, 0)]) ++ [(t1, 11, 20), (t2, 11, 20)]) ++ []) ++ [(bf, 11, 60)]) ++ []))) := fun e he => by simp only [List.mem_append]; simp only [he, true_or, or_true]
  have in1 : ∀ e, e ∈ stl f1 → e ∈ (([] ++ [(a, 9, 0)]) ++ ((((((((((((((((((((([] ++ [(f0 0, 6, 0)]) ++ (stl f0)) ++ []) ++ [(f1 0, 6, 0)]) ++ (stl f1)) ++ []) ++ [(hs, 2, 0)]) ++ ((rr, 14, 6) :: hl fh 6)) ++ []) ++ [(fo, 1, 0)]) ++ [(ar, 0, 0), (wh, 8, 0)]) ++ []) ++ [(me, 3, 0)]) ++ [(m1, 12, 12), (m2, 12, 12), (m3, 13, 12)]) ++ []) ++ [(rd, 7, 0)]) ++ [(t1, 11, 20), (t2, 11, 20)]) ++ []) ++ [(bf, 11, 60)]) ++ []))) := fun e he => by simp only [List.mem_append]; simp only [he, true_or, or_true]
  have inh : ∀ e, e ∈ hl fh 6 → e ∈ (([] ++ [(a, 9, 0)]) ++ ((((((((((((((((((((([] ++ [(f0 0, 6, 0)]) ++ (stl f0)) ++ []) ++ [(f1 0, 6, 0)]) ++ (stl f1)) ++ []) ++ [(hs, 2, 0)]) ++ ((rr, 14, 6) :: hl fh 6)) ++ []) ++ [(fo, 1, 0)]) ++ [(ar, 0, 0), (wh, 8, 0)]) ++ []) ++ [(me, 3, 0)]) ++ [(m1, 12, 12), (m2, 12, 12), (m3, 13, 12)]) ++ []) ++ [(rd, 7, 0)]) ++ [(t1, 11, 20), (t2, 11, 20)]) ++ []) ++ [(bf, 11, 60)]) ++ []))) := fun e he => by simp only [List.mem_append, List.mem_cons]; simp only [he, true_or, or_true]
  have me0 : ∀ k, k < 10 → f0 k ∈ pL S2 := fun k hk => by
    rcases Nat.eq_zero_or_pos k with e | e
    · subst e; exact on _ 6 0 (by simp)
    · obtain ⟨kd, ln, h9⟩ := stl_mem (f := f0) e hk
      exact on _ _ _ (in0 _ h9)
  have me1 : ∀ k, k < 10 → f1 k ∈ pL S2 := fun k hk => by
    rcases Nat.eq_zero_or_pos k with e | e
    · subst e; exact on _ 6 0 (by simp)
    · obtain ⟨kd, ln, h9⟩ := stl_mem (f := f1) e hk
      exact on _ _ _ (in1 _ h9)
  have meh : ∀ j, j < 6 → ∀ k, k < 10 → fh j k ∈ pL S2 := fun j hj k hk => by
    obtain ⟨kd, ln, h9⟩ := hl_mem (f := fh) hj hk
    exact on _ _ _ (inh _ h9)
  have s0 : St0 S6 f0 := st0.nw nT me0 (fun k hk e => hse (e ▸ me0 k hk))
  have s1 : St0 S6 f1 := st1.nw nT me1 (fun k hk e => hse (e ▸ me1 k hk))
  have sh : ∀ j, j < 6 → St0 S6 (fh j) := fun j hj => (hH.2.2.2 j hj).nw nT (meh j hj) (fun k hk e => hse (e ▸ meh j hj k hk))
  have xa := on a 9 0 (by simp)
  have xs9 := on hs 2 0 (by simp)
  have xr := on rr 14 6 (by simp)
  have xfo := on fo 1 0 (by simp)
  have xme := on me 3 0 (by simp)
  have xrd := on rd 7 0 (by simp)
  obtain ⟨q, qe⟩ : ∃ y9 : Nat → Nat, y9 = q9 (TT9 a f0 f1 hs rr fh fo ar wh me m1 m2 m3 rd t1 t2 bf se co dd po) := ⟨_, rfl⟩
  have e0 : ∀ k, k < 10 → q k = f0 k := by rw [qe]; exact TT_0
  have e1 : ∀ k, k < 10 → q (10 + k) = f1 k := by rw [qe]; exact TT_1
  have eh : ∀ j, j < 6 → ∀ k, k < 10 → q (20 + 10 * j + k) = fh j k := by rw [qe]; exact TT_h
  have hK := TT_K (a := a) (f0 := f0) (f1 := f1) (hs := hs) (rr := rr) (fh := fh) (fo := fo) (ar := ar) (wh := wh) (me := me) (m1 := m1) (m2 := m2) (m3 := m3) (rd := rd) (t1 := t1) (t2 := t2) (bf := bf) (se := se) (co := co) (dd := dd) (po := po)
  have EE := TT_q (a := a) (f0 := f0) (f1 := f1) (hs := hs) (rr := rr) (fh := fh) (fo := fo) (ar := ar) (wh := wh) (me := me) (m1 := m1) (m2 := m2) (m3 := m3) (rd := rd) (t1 := t1) (t2 := t2) (bf := bf) (se := se) (co := co) (dd := dd) (po := po)
  have hsh := shp_of nA hK
  rw [← qe] at EE hsh
  clear qe hK
  obtain ⟨E80, E81, E82, E83, E84, E85, E86, E87, E88, E89, E90, E91, E92, E93, E94, E95, E96, E97⟩ := EE
  have sa := st_all s0 s1 sh e0 e1 eh
  have q0e : q 0 = f0 0 := e0 0 (by decide)
  have q10e : q 10 = f1 0 := e1 0 (by decide)
  have hR : ShpR S6.2.1 q := by
    refine ⟨st_R sa, ?_, ?_, ?_, ?_, ?_, ?_, ?_, ?_, ?_, ?_, ?_, ?_, ?_, ?_, ?_⟩
    · rw [E80, q0e]; exact R5 _ _ _ xa h2
    · rw [E80, q10e]; exact R5 _ _ _ xa h3
    · rw [E80, E81]; exact R5 _ _ _ xa h4
    · rw [E80, E83]; exact R5 _ _ _ xa h5
    · rw [E80, E86]; exact R5 _ _ _ xa h6
    · rw [E80, E90]; exact R5 _ _ _ xa h7
    · rw [E80, E93]; exact R5 _ _ _ xa h8
    · rw [E81, E82]; exact R5 _ _ _ xs9 hH.1
    · rw [E83, E84]; exact R5 _ _ _ xfo h9
    · rw [E83, E85]; exact R5 _ _ _ xfo h10
    · rw [E86, E87]; exact R5 _ _ _ xme h11
    · rw [E86, E88]; exact R5 _ _ _ xme h12
    · rw [E86, E89]; exact R5 _ _ _ xme h13
    · rw [E90, E91]; exact R5 _ _ _ xrd h14
    · rw [E90, E92]; exact R5 _ _ _ xrd h15
  have hq : Shp S6.1 S6.2.1 q := hsh hR
  have hC : Cl S6 q (z00, [], 0, 0, fun _ => 0) := st_Cl (sa 0 (by decide)) (by rw [E81]; exact (congrFun (I5 _ _ xs9 rfl) 0).trans hH.2.1) (fun i hi => by
      have eq : q (10 * (i + 2)) = fh i 0 := (congrArg q (by omega : 10 * (i + 2) = 20 + 10 * i + 0)).trans (eh i hi 0 (by decide))
      rw [E82, eq]; exact R5 _ _ _ xr (hH.2.2.1 i hi)) (by rw [E80]; exact congrFun (I5 _ _ xa h0) 7) (by rw [E80]; exact congrFun (I5 _ _ xa h0) 8)
  refine g_sub (L' := [(0, .ref (Γ.1.2.2.2.2.1 3)), (1, .ref (q 80)), (2, .ref (q 94)), (3, .ref (q 95)), (4, .ref (q 96)), (5, .ref (q 97))]) [5, 4, 3, 2, 1, 0] (by rw [E80, E94, E95, E96, E97]; rfl) ?_
  exact law_mid F q S6 _ _ (by decide) (by decide) hq hC (by rw [E94]; exact zse) (by rw [E96]; exact zdd) hend
