/-! what a constructor makes: new cells, in their order -/
abbrev NL : Type := List (Nat × Nat × Nat)
def Nw (S S' : PS) (a : Nat) (l : NL) : Prop := pL S' = pL S ++ l.map (fun e => e.1) ∧ (l.map (fun e => e.1)).Nodup ∧ (∀ e ∈ l, e.1 ∉ pL S) ∧ (∀ e ∈ l, pK S' e.1 = e.2.1 ∧ pN S' e.1 = e.2.2) ∧
  ∀ b ∈ pL S, (pK S' b = pK S b ∧ pN S' b = pN S b) ∧ (b ≠ a → pR S' b = pR S b ∧ pI S' b = pI S b ∧ pJ S' b = pJ S b)
theorem Nw.rf {S : PS} {a : Nat} : Nw S S a [] := ⟨by simp, List.nodup_nil, fun e h => (by cases h), fun e h => (by cases h), fun b _ => ⟨⟨rfl, rfl⟩, fun _ => ⟨rfl, rfl, rfl⟩⟩⟩
theorem Nw.tr {S S1 S2 : PS} {a b : Nat} {l1 l2 : NL} (h1 : Nw S S1 a l1) (h2 : Nw S1 S2 b l2) (hb : b = a ∨ b ∉ pL S) : Nw S S2 a (l1 ++ l2) := by
  obtain ⟨a1, a2, a3, a4, a5⟩ := h1
  obtain ⟨b1, b2, b3, b4, b5⟩ := h2
  refine ⟨by rw [b1, a1, List.map_append, List.append_assoc], ?_, ?_, ?_, ?_⟩
  · rw [List.map_append, List.nodup_append]
    refine ⟨a2, b2, fun x hx y hy e => ?_⟩
    subst e
    obtain ⟨e2, he2, rfl⟩ := List.mem_map.mp hy
    exact b3 e2 he2 (by rw [a1]; exact List.mem_append_right _ hx)
  · intro e he
    rcases List.mem_append.mp he with h | h
    · exact a3 e h
    · exact fun g => b3 e h (by rw [a1]; exact List.mem_append_left _ g)
  · intro e he
    rcases List.mem_append.mp he with h | h
    · have hm : e.1 ∈ pL S1 := by rw [a1]; exact List.mem_append_right _ (List.mem_map.mpr ⟨e, h, rfl⟩)
      obtain ⟨⟨k1, k2⟩, -⟩ := b5 e.1 hm
      exact ⟨k1.trans (a4 e h).1, k2.trans (a4 e h).2⟩
    · exact b4 e h
  · intro x hx
    have hm : x ∈ pL S1 := by rw [a1]; exact List.mem_append_left _ hx
    obtain ⟨⟨k1, k2⟩, k3⟩ := a5 x hx
    obtain ⟨⟨m1, m2⟩, m3⟩ := b5 x hm
    refine ⟨⟨m1.trans k1, m2.trans k2⟩, fun hne => ?_⟩
    obtain ⟨r1, r2, r3⟩ := k3 hne
    obtain ⟨s1, s2, s3⟩ := m3 (fun e => by
      rcases hb with g | g
      · exact hne (e.trans g)
      · exact g (e ▸ hx))
    exact ⟨s1.trans r1, s2.trans r2, s3.trans r3⟩
theorem Nw.new {S : PS} {a b k n : Nat} (h : b ∉ pL S) : Nw S (aN S b k n) a [(b, k, n)] := by
  refine ⟨rfl, by simp, fun e he => ?_, fun e he => ?_, fun x hx => ?_⟩
  · rw [List.mem_singleton.mp he]; exact h
  · rw [List.mem_singleton.mp he]; exact ⟨aN_K, aN_N⟩
  · have hne : x ≠ b := fun e => h (e ▸ hx)
    refine ⟨⟨by simp [pK, aN, va_up, hne], by simp [pN, aN, va_up, hne]⟩, fun _ => ⟨upr_a hne, upr_a hne, upr_a hne⟩⟩
theorem Nw.wR {S : PS} {a k : Nat} {v : Option Nat} : Nw S (wR S a k v) a [] := ⟨by simp, List.nodup_nil, fun e h => (by cases h), fun e h => (by cases h), fun b _ => ⟨⟨rfl, rfl⟩, fun h => ⟨up2_r h, rfl, rfl⟩⟩⟩
theorem Nw.wI {S : PS} {a k : Nat} {v : Int32} : Nw S (wI S a k v) a [] := ⟨by simp, List.nodup_nil, fun e h => (by cases h), fun e h => (by cases h), fun b _ => ⟨⟨rfl, rfl⟩, fun h => ⟨rfl, up2_r h, rfl⟩⟩⟩
theorem Nw.wJ {S : PS} {a k : Nat} {v : Int64} : Nw S (wJ S a k v) a [] := ⟨by simp, List.nodup_nil, fun e h => (by cases h), fun e h => (by cases h), fun b _ => ⟨⟨rfl, rfl⟩, fun h => ⟨rfl, rfl, up2_r h⟩⟩⟩
theorem Nw.wIr {S : PS} {a : Nat} {g : Nat → Int32} : Nw S (wIr S a g) a [] := ⟨by simp, List.nodup_nil, fun e h => (by cases h), fun e h => (by cases h), fun b _ => ⟨⟨rfl, rfl⟩, fun h => ⟨rfl, upr_a h, rfl⟩⟩⟩
theorem Nw.is {S S' : PS} {a x k : Nat} {l : NL} (h : Nw S S' a l) (hx : Is S.1 x k) : Is S'.1 x k := by
  refine ⟨?_, (h.2.2.2.2 x hx.1).1.1.trans hx.2⟩
  have e : pL S' = _ := h.1
  show x ∈ pL S'
  rw [e]
  exact List.mem_append_left _ hx.1
theorem Nw.nn {S S' : PS} {a x n : Nat} {l : NL} (h : Nw S S' a l) (hx : x ∈ pL S) (hn : pN S x = n) : pN S' x = n := (h.2.2.2.2 x hx).1.2.trans hn
theorem Nw.on {S S' : PS} {a x k n : Nat} {l : NL} (h : Nw S S' a l) (hx : (x, k, n) ∈ l) : Is S'.1 x k ∧ pN S' x = n := by
  refine ⟨⟨?_, (h.2.2.2.1 _ hx).1⟩, (h.2.2.2.1 _ hx).2⟩
  have e : pL S' = _ := h.1
  show x ∈ pL S'
  rw [e]
  exact List.mem_append_right _ (List.mem_map.mpr ⟨_, hx, rfl⟩)
theorem Nw.R {S S' : PS} {a x k : Nat} {v : Option Nat} {l : NL} (h : Nw S S' a l) (hx : x ∈ pL S) (hn : x ≠ a) (hv : pR S x k = v) : pR S' x k = v := (congrFun ((h.2.2.2.2 x hx).2 hn).1 k).trans hv
theorem Nw.I {S S' : PS} {a x : Nat} {f : Nat → Int32} {l : NL} (h : Nw S S' a l) (hx : x ∈ pL S) (hn : x ≠ a) (hv : pI S x = f) : pI S' x = f := ((h.2.2.2.2 x hx).2 hn).2.1.trans hv
theorem Nw.J {S S' : PS} {a x : Nat} {f : Nat → Int64} {l : NL} (h : Nw S S' a l) (hx : x ∈ pL S) (hn : x ≠ a) (hv : pJ S x = f) : pJ S' x = f := ((h.2.2.2.2 x hx).2 hn).2.2.trans hv
theorem Nw.ne {S S' : PS} {a x y k n : Nat} {l : NL} (h : Nw S S' a l) (hx : x ∈ pL S) (hy : (y, k, n) ∈ l) : x ≠ y := fun e => h.2.2.1 _ hy (e ▸ hx)
theorem Nw.sub {S S' : PS} {a x : Nat} {l : NL} (h : Nw S S' a l) (hx : x ∈ pL S) : x ∈ pL S' := by
  have e : pL S' = _ := h.1
  rw [e]
  exact List.mem_append_left _ hx
/-- the cells of a state, its own one apart, in the order of making -/
abbrev stl (f : Nat → Nat) : NL := [(f 1, 11, 5), (f 2, 4, 0), (f 3, 11, 20), (f 4, 11, 20), (f 5, 11, 20), (f 6, 5, 0), (f 7, 11, 12), (f 8, 13, 12), (f 9, 12, 12)]
/-- a state as it is made -/
def St0 (S : PS) (f : Nat → Nat) : Prop := pR S (f 0) 3 = some (f 1) ∧ pR S (f 0) 4 = some (f 2) ∧ pR S (f 0) 5 = some (f 6) ∧ pR S (f 2) 1 = some (f 3) ∧ pR S (f 2) 2 = some (f 4) ∧ pR S (f 2) 3 = some (f 5) ∧ pR S (f 6) 1 = some (f 7) ∧ pR S (f 6) 2 = some (f 8) ∧ pR S (f 6) 3 = some (f 9) ∧
  pI S (f 0) 0 = 0 ∧ pI S (f 0) 1 = 0 ∧ pI S (f 0) 2 = 200 ∧ (∀ i, i < 5 → pI S (f 1) i = atF i) ∧ pI S (f 2) 0 = 0 ∧ pI S (f 6) 0 = 0
theorem St0.nw {S S' : PS} {f : Nat → Nat} {b : Nat} {l : NL} (h : St0 S f) (n : Nw S S' b l) (hm : ∀ k, k < 10 → f k ∈ pL S) (hn : ∀ k, k < 10 → f k ≠ b) : St0 S' f := by
  have e : ∀ k, k < 10 → pR S' (f k) = pR S (f k) ∧ pI S' (f k) = pI S (f k) := fun k hk => ⟨((n.2.2.2.2 _ (hm k hk)).2 (hn k hk)).1, ((n.2.2.2.2 _ (hm k hk)).2 (hn k hk)).2.1⟩
  unfold St0
  rw [(e 0 (by decide)).1, (e 2 (by decide)).1, (e 6 (by decide)).1, (e 0 (by decide)).2, (e 1 (by decide)).2, (e 2 (by decide)).2, (e 6 (by decide)).2]
  exact h
/-- the saved states' cells -/
def hl (f : Nat → Nat → Nat) : Nat → NL
  | 0 => []
  | n + 1 => hl f n ++ ((f n 0, 6, 0) :: stl (f n))
theorem hl_c {f f' : Nat → Nat → Nat} : ∀ {n : Nat}, (∀ j, j < n → f j = f' j) → hl f n = hl f' n
  | 0, _ => rfl
  | n + 1, h => by
    show hl f n ++ _ = hl f' n ++ _
    rw [hl_c (fun j hj => h j (by omega)), h n (by omega)]
theorem stl_mem {f : Nat → Nat} {k : Nat} (h0 : 0 < k) (hk : k < 10) : ∃ kd ln, (f k, kd, ln) ∈ stl f := by
  rcases (by omega : k = 1 ∨ k = 2 ∨ k = 3 ∨ k = 4 ∨ k = 5 ∨ k = 6 ∨ k = 7 ∨ k = 8 ∨ k = 9) with e | e | e | e | e | e | e | e | e <;> subst e
  · exact ⟨_, _, List.mem_of_getElem? (i := 0) rfl⟩
  · exact ⟨_, _, List.mem_of_getElem? (i := 1) rfl⟩
  · exact ⟨_, _, List.mem_of_getElem? (i := 2) rfl⟩
  · exact ⟨_, _, List.mem_of_getElem? (i := 3) rfl⟩
  · exact ⟨_, _, List.mem_of_getElem? (i := 4) rfl⟩
  · exact ⟨_, _, List.mem_of_getElem? (i := 5) rfl⟩
  · exact ⟨_, _, List.mem_of_getElem? (i := 6) rfl⟩
  · exact ⟨_, _, List.mem_of_getElem? (i := 7) rfl⟩
  · exact ⟨_, _, List.mem_of_getElem? (i := 8) rfl⟩
theorem hl_mem {f : Nat → Nat → Nat} {j k : Nat} : ∀ {n : Nat}, j < n → k < 10 → ∃ kd ln, (f j k, kd, ln) ∈ hl f n
  | 0, h, _ => absurd h (Nat.not_lt_zero j)
  | n + 1, h, hk => by
    rcases Nat.lt_or_ge j n with g | g
    · obtain ⟨kd, ln, hm⟩ := hl_mem (f := f) g hk
      exact ⟨kd, ln, List.mem_append_left _ hm⟩
    · obtain rfl : j = n := by omega
      rcases Nat.eq_zero_or_pos k with e | e
      · subst e; exact ⟨6, 0, List.mem_append_right _ List.mem_cons_self⟩
      · obtain ⟨kd, ln, hm⟩ := stl_mem (f := f j) e hk
        exact ⟨kd, ln, List.mem_append_right _ (List.mem_cons_of_mem _ hm)⟩
/-- the history as it is made -/
def Hi0 (S : PS) (a r : Nat) (f : Nat → Nat → Nat) : Prop := pR S a 1 = some r ∧ pI S a 0 = 0 ∧ (∀ j, j < 6 → pR S r j = some (f j 0)) ∧ ∀ j, j < 6 → St0 S (f j)
theorem blk_St {S1 S2 S3 : PS} {a b : Nat} {f : Nat → Nat} {l : NL} (h0 : f 0 = b) (h : St0 S2 f) (n : Nw S1 S2 b (stl f)) (n3 : Nw S2 S3 a l) (hb : Is S1.1 b 6) (ha : a ∈ pL S1) (hn : b ≠ a) : St0 S3 f := by
  refine h.nw n3 (fun k hk => ?_) (fun k hk => ?_)
  · rcases Nat.eq_zero_or_pos k with e | e
    · subst e; rw [h0]; exact n.sub hb.1
    · obtain ⟨kd, ln, hm⟩ := stl_mem (f := f) e hk
      exact (n.on hm).1.1
  · rcases Nat.eq_zero_or_pos k with e | e
    · subst e; rw [h0]; exact hn
    · obtain ⟨kd, ln, hm⟩ := stl_mem (f := f) e hk
      exact fun g => n.2.2.1 _ hm (by show f k ∈ _; rw [g]; exact ha)
theorem blk_Hi {S1 S2 S3 : PS} {a b r : Nat} {f : Nat → Nat → Nat} {l : NL} (h : Hi0 S2 b r f) (n : Nw S1 S2 b ((r, 14, 6) :: hl f 6)) (n3 : Nw S2 S3 a l) (hb : Is S1.1 b 2) (hn : b ≠ a) (ha : a ∈ pL S1) : Hi0 S3 b r f := by
  obtain ⟨h1, h2, h3, h4⟩ := h
  have hr := n.on (x := r) (k := 14) (n := 6) List.mem_cons_self
  have hra : r ≠ a := fun e => n.2.2.1 _ List.mem_cons_self (by show r ∈ _; rw [e]; exact ha)
  refine ⟨n3.R (n.sub hb.1) hn h1, (congrFun (n3.I (n.sub hb.1) hn rfl) 0).trans h2, fun j hj => n3.R hr.1.1 hra (h3 j hj), fun j hj => (h4 j hj).nw n3 (fun k hk => ?_) (fun k hk => ?_)⟩
  · obtain ⟨kd, ln, hm⟩ := hl_mem (f := f) hj hk
    exact (n.on (List.mem_cons_of_mem _ hm)).1.1
  · obtain ⟨kd, ln, hm⟩ := hl_mem (f := f) hj hk
    exact fun g => n.2.2.1 _ (List.mem_cons_of_mem _ hm) (by show f j k ∈ _; rw [g]; exact ha)
theorem at_cp {g : Nat → Int32} {i : Nat} (hi : i < 5) : va_cpy atF g 0 0 5 i = atF i := by
  simp [va_cpy, hi]
section RowsQ
variable {Γ : Ctx} {own : String} {cc : ByteArray} {rm : Room × Nat} {S : PS} {c n pc : Nat} {L L' : List (Nat × Value)} {st : List Value}
theorem g_newQ {x : Int32} {N idx : Nat} (F : Fx Γ own cc rm) (hw : Cond.classLink own idx "PolarPlanimeter$State" ∈ wsL_law) (hx : x = nI N) (hN : N < 100000) (hcc : c + 1 ≤ rm.1.cells ∧ n + N ≤ rm.1.slots) (d : decode cc pc = .ok (.anewarray idx, 3)) (k9 : ∀ q, q ∉ pL S → G Γ (aN S q 14 N) (c + 1) (n + N) (pc + 3) L (.ref q :: st)) : G Γ S c n pc L (.int x :: st) := by
  intro H locs ls hP hD hS hl
  subst hx
  refine va_newq (N' := N) F.x F.b F.o (F.w _ hw) F.e.2.2.2.2.2.2.1.2.1 F.k hP hD hS (fun q h => Nat.le_trans F.base h) (nI_pos (by omega)) (nI_clamp (by omega)) (by omega) (by rw [F.r]; exact hcc.1) (by rw [F.r]; exact hcc.2) d (fun q cA H1 hK1 hP1 hD1 hS1 => ?_)
  have ec : cA = (gC Γ.1).2.2.2 := ra_eqO (C := "PolarPlanimeter$State") (hK1.2 4 (cA, .object "PolarPlanimeter$State") rfl).2 (F.k.2 3 _ rfl).2
  subst ec
  have hq := aN_new hD1
  rw [aN_push (kd := 14) (ln := N) hD1 (by rw [cE_q aN_K, aN_N, aN_R])] at hP1 hD1
  exact k9 q hq H1 locs ls hP1 hD1 hS1 hl
theorem g_acs {idx t a N : Nat} {x : Int32} {f : Nat → Int32} (F : Fx Γ own cc rm) (hX : va_X t N f (ks Γ) (ks Γ).heap) (ht : t < Γ.1.2.2.2.1) (h1 : Cond.methodLink own idx arraycopyName ∈ wsL_law) (h2 : Cond.native arraycopyName ∈ wsL_law) (h3 : Cond.static arraycopyName ∈ wsL_law) (h4 : Cond.initialized "java/lang/System" ∈ wsL_law) (hd : Is S.1 a 11) (hx : x = nI N) (hN : N < 100000) (hn1 : N ≤ S.1.2.2 a) (hR : 1 ≤ rm.1.frames ∧ (st.map fun v => v.category).sum + (nativeFrameWords "java/lang/System" "arraycopy" 5 + 11) ≤ rm.1.locals) (d : decode cc pc = .ok (.invokestatic idx, 3)) (k9 : G Γ (wIr S a (va_cpy f (pI S a) 0 0 N)) c n (pc + 3) L st) : G Γ S c n pc L (.int x :: .int 0 :: .ref a :: .int 0 :: .ref t :: st) := by
  intro H locs ls hP hD hS hl
  subst hx
  obtain ⟨q1, hq1, hq2⟩ := mP_at (cy := gC Γ.1) (S := S) hd.1 (cE_i hd.2)
  have c0 : (0 : Int32).toNatClampNeg = 0 := by decide
  have cN : (nI N).toNatClampNeg = N := nI_clamp (by omega)
  refine va_copyx F.x F.b (by rw [F.ml]; exact hl.1.symm) F.o (F.w _ h1) (F.w _ h2) (F.w _ h3) (F.w _ h4) F.k hP hD hS hX (Nat.lt_of_lt_of_le ht F.base) (Nat.not_le.mpr ht) q1 0 hq1 rfl (by decide) (by decide) (nI_pos (by omega)) (by rw [c0, cN]; omega) (by rw [c0, cN]; show 0 + N ≤ S.1.2.2 a; omega) (by rw [F.r]; exact hR.1) (by rw [F.r]; exact hR.2) d (fun H1 locs1 hP1 hD1 hS1 => ?_)
  rw [c0, cN] at hP1 hD1
  have e := mP_put (S' := wIr S a (va_cpy f (pI S a) 0 0 N)) (e := .inl ((gC Γ.1).1, pN S a, .inl (va_cpy f (pI S a) 0 0 N))) hD hd.1 hq2 rfl (fun b => upE_ri hd.2 b)
  rw [e] at hP1 hD1
  exact k9 H1 locs1 ls hP1 hD1 hS1 hl
end RowsQ
theorem nwX0 : ∀ k, k < 9 → parseFieldDescriptor (TX0 k).2.2.1 = some ((parseFieldDescriptor (TX0 k).2.2.1).getD .int) ∧ defaultValue ((parseFieldDescriptor (TX0 k).2.2.1).getD .int) = (if ft 0 k = 0 then .int 0 else if ft 0 k = 1 then .long 0 else .null) := by decide +kernel
theorem nwX1 : ∀ k, k < 4 → parseFieldDescriptor (TX1 k).2.2.1 = some ((parseFieldDescriptor (TX1 k).2.2.1).getD .int) ∧ defaultValue ((parseFieldDescriptor (TX1 k).2.2.1).getD .int) = (if ft 1 k = 0 then .int 0 else if ft 1 k = 1 then .long 0 else .null) := by decide +kernel
theorem nwX2 : ∀ k, k < 2 → parseFieldDescriptor (TX2 k).2.2.1 = some ((parseFieldDescriptor (TX2 k).2.2.1).getD .int) ∧ defaultValue ((parseFieldDescriptor (TX2 k).2.2.1).getD .int) = (if ft 2 k = 0 then .int 0 else if ft 2 k = 1 then .long 0 else .null) := by decide +kernel
theorem nwX3 : ∀ k, k < 6 → parseFieldDescriptor (TX3 k).2.2.1 = some ((parseFieldDescriptor (TX3 k).2.2.1).getD .int) ∧ defaultValue ((parseFieldDescriptor (TX3 k).2.2.1).getD .int) = (if ft 3 k = 0 then .int 0 else if ft 3 k = 1 then .long 0 else .null) := by decide +kernel
theorem nwX4 : ∀ k, k < 4 → parseFieldDescriptor (TX4 k).2.2.1 = some ((parseFieldDescriptor (TX4 k).2.2.1).getD .int) ∧ defaultValue ((parseFieldDescriptor (TX4 k).2.2.1).getD .int) = (if ft 4 k = 0 then .int 0 else if ft 4 k = 1 then .long 0 else .null) := by decide +kernel
theorem nwX5 : ∀ k, k < 4 → parseFieldDescriptor (TX5 k).2.2.1 = some ((parseFieldDescriptor (TX5 k).2.2.1).getD .int) ∧ defaultValue ((parseFieldDescriptor (TX5 k).2.2.1).getD .int) = (if ft 5 k = 0 then .int 0 else if ft 5 k = 1 then .long 0 else .null) := by decide +kernel
theorem nwX6 : ∀ k, k < 6 → parseFieldDescriptor (TX6 k).2.2.1 = some ((parseFieldDescriptor (TX6 k).2.2.1).getD .int) ∧ defaultValue ((parseFieldDescriptor (TX6 k).2.2.1).getD .int) = (if ft 6 k = 0 then .int 0 else if ft 6 k = 1 then .long 0 else .null) := by decide +kernel
theorem nwX7 : ∀ k, k < 7 → parseFieldDescriptor (TX7 k).2.2.1 = some ((parseFieldDescriptor (TX7 k).2.2.1).getD .int) ∧ defaultValue ((parseFieldDescriptor (TX7 k).2.2.1).getD .int) = (if ft 7 k = 0 then .int 0 else if ft 7 k = 1 then .long 0 else .null) := by decide +kernel
theorem nwX8 : ∀ k, k < 3 → parseFieldDescriptor (TX8 k).2.2.1 = some ((parseFieldDescriptor (TX8 k).2.2.1).getD .int) ∧ defaultValue ((parseFieldDescriptor (TX8 k).2.2.1).getD .int) = (if ft 8 k = 0 then .int 0 else if ft 8 k = 1 then .long 0 else .null) := by decide +kernel
