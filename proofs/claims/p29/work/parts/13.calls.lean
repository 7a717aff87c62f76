/-! CONTRACTS over the pool, and calls -/
abbrev Mt : Type := MethodName × ByteArray × Nat × Option FieldType × Nat × Nat × Nat
abbrev mws (M : Mt) : List Cond := Cond.code M.1 M.2.1 M.2.2.1 M.2.2.2.1 :: wsL_law
abbrev mrm (M : Mt) (mc ms : Nat) : Room := { frames := M.2.2.2.2.1, cells := mc, slots := ms, locals := M.2.2.2.2.2.1 }
theorem castW_tab {w : Cond} (hw : w ∈ castW) : w.onTables = true := by
  have h1 := List.all_eq_true.mp castW_ok w hw
  simp only [isCast, Bool.and_eq_true] at h1
  exact h1.2
theorem castW_warm {s U : State} {w : Cond} (hW : s.WarmedH U.vm) (hw : w ∈ castW) (h : va_Nw w s) : va_Nw w U := by
  have h1 := List.all_eq_true.mp castW_ok w hw
  simp only [isCast, Bool.and_eq_true] at h1
  exact va_tabs h1.2 (rfl : (s.setVm U.vm).vm = U.vm) (Cond.before_shiftedFace (State.Shifted.of_warmed hW) _ h1.1 h)
theorem castW_same {s U : State} {w : Cond} (hv : s.vm = U.vm) (hw : w ∈ castW) (h : va_Nw w s) : va_Nw w U := va_Nw.same (castW_tab hw) hv h
theorem EnvP.warm {g : Glo} {s U : State} {H : Heap} {locs : List Loc} (h : EnvP g s s.heap) (hbs : g.2.2.2.1 ≤ s.heap.size) (hS : va_S (gA g) s.heap H locs) (hW : s.WarmedH U.vm) (hU : U.heap = H) : EnvP g U U.heap := by
  obtain ⟨h1, h2, ⟨g1, g2⟩, ⟨a1, a2, a3⟩, ⟨b1, b2, b3⟩, ⟨c1, c2, c3⟩, ⟨h3, ao, x1, x2, x3⟩, h4, h5, h6⟩ := h
  have hk : ∀ q : Nat, q < s.heap.size → ¬ gA g q → U.heap[q]? = s.heap[q]? := by rw [hU]; exact hS.2.1
  have hx : ∀ q : Nat, q < g.2.2.2.1 → U.heap[q]? = s.heap[q]? := fun q hq => hk q (Nat.lt_of_lt_of_le hq hbs) (Nat.not_le.mpr hq)
  refine ⟨fun w hw => ?_, fun w hw => ?_, ⟨fun w hw => castW_warm hW hw (g1 w hw), fun e he => (g2 e he).moved hW.alike⟩, ⟨(a1.moved hW.alike).kept hk, (a2.moved hW.alike).kept (hx _ a3), a3⟩, ⟨(b1.moved hW.alike).kept hk, (b2.moved hW.alike).kept (hx _ b3), b3⟩, ⟨(c1.moved hW.alike).kept hk, (c2.moved hW.alike).kept (hx _ c3), c3⟩, ⟨fun e he => (h3 e he).warm hW, ao.moved hW.alike, (x1.moved hW.alike).kept (hx _ x2), x2, x3⟩, (h4.moved hW.alike).kept hk, (h5.moved hW.alike).kept hk, h6⟩
  · have h0 := h1 w hw
    simp only [nestF, List.mem_cons, List.not_mem_nil, or_false] at hw
    rcases hw with rfl | rfl | rfl | rfl | rfl | rfl | rfl | rfl | rfl | rfl | rfl | rfl | rfl | rfl | rfl | rfl | rfl | rfl | rfl | rfl | rfl | rfl | rfl | rfl | rfl | rfl | rfl | rfl | rfl | rfl | rfl | rfl | rfl | rfl | rfl | rfl 
    all_goals exact va_Nw.warmF hW h0
  · have h0 := h2 w hw
    simp only [nestM, List.mem_cons, List.not_mem_nil, or_false] at hw
    rcases hw with rfl | rfl | rfl | rfl | rfl | rfl | rfl | rfl | rfl | rfl | rfl | rfl | rfl | rfl | rfl | rfl | rfl | rfl | rfl | rfl | rfl | rfl | rfl | rfl | rfl | rfl | rfl | rfl | rfl | rfl | rfl | rfl | rfl | rfl | rfl | rfl | rfl | rfl | rfl | rfl | rfl | rfl | rfl | rfl | rfl | rfl | rfl | rfl | rfl | rfl | rfl | rfl | rfl | rfl | rfl | rfl | rfl | rfl | rfl 
    all_goals exact va_Nw.warmM hW h0
theorem EnvP.same {g : Glo} {s U : State} (h : EnvP g s s.heap) (hv : s.vm = U.vm) (hh : U.heap = s.heap) : EnvP g U U.heap := by
  have hal : s.vm.Alike U.vm := by rw [hv]; exact Vm.Alike.refl _
  obtain ⟨h1, h2, ⟨g1, g2⟩, ⟨a1, a2, a3⟩, ⟨b1, b2, b3⟩, ⟨c1, c2, c3⟩, ⟨h3, ao, x1, x2, x3⟩, h4, h5, h6⟩ := h
  rw [hh]
  refine ⟨fun w hw => ?_, fun w hw => ?_, ⟨fun w hw => castW_same hv hw (g1 w hw), fun e he => (g2 e he).moved hal⟩, ⟨a1.moved hal, a2.moved hal, a3⟩, ⟨b1.moved hal, b2.moved hal, b3⟩, ⟨c1.moved hal, c2.moved hal, c3⟩, ⟨fun e he => (h3 e he).same hv.symm, ao.moved hal, x1.moved hal, x2, x3⟩, h4.moved hal, h5.moved hal, h6⟩
  · have h0 := h1 w hw
    simp only [nestF, List.mem_cons, List.not_mem_nil, or_false] at hw
    rcases hw with rfl | rfl | rfl | rfl | rfl | rfl | rfl | rfl | rfl | rfl | rfl | rfl | rfl | rfl | rfl | rfl | rfl | rfl | rfl | rfl | rfl | rfl | rfl | rfl | rfl | rfl | rfl | rfl | rfl | rfl | rfl | rfl | rfl | rfl | rfl | rfl 
    all_goals exact va_Nw.same rfl hv h0
  · have h0 := h2 w hw
    simp only [nestM, List.mem_cons, List.not_mem_nil, or_false] at hw
    rcases hw with rfl | rfl | rfl | rfl | rfl | rfl | rfl | rfl | rfl | rfl | rfl | rfl | rfl | rfl | rfl | rfl | rfl | rfl | rfl | rfl | rfl | rfl | rfl | rfl | rfl | rfl | rfl | rfl | rfl | rfl | rfl | rfl | rfl | rfl | rfl | rfl | rfl | rfl | rfl | rfl | rfl | rfl | rfl | rfl | rfl | rfl | rfl | rfl | rfl | rfl | rfl | rfl | rfl | rfl | rfl | rfl | rfl | rfl | rfl 
    all_goals exact va_Nw.same rfl hv h0
/-- a method's start: the pool S, whole -/
def Pc9 (g : Glo) (args : List Value) (S : PS) : Array Value → State → Prop := va_Pc args (fun U => g.2.2.2.1 ≤ U.heap.size ∧ va_P (gD g) vwCl (mP (gC g) S) U.heap ∧ va_K (gD g) vwCl (mT (gC g)) U ∧ va_D (gA g) (mP (gC g) S) ∧ EnvP g U U.heap)
def Qc9 (g : Glo) (post : Option Value → PS → Prop) : Array Value → State → Outcome → State → Prop := fun _ st o t =>
  (∃ (v : Option Value) (S' : PS), o = .returned v ∧ post v S' ∧ va_P (gD g) vwCl (mP (gC g) S') t.heap ∧ va_D (gA g) (mP (gC g) S')) ∧ va_F (gA g) st t
def Xc9 (g : Glo) (px : String → PS → Prop) : String → State → State → Prop := fun E st t =>
  (∃ S' : PS, px E S' ∧ va_P (gD g) vwCl (mP (gC g) S') t.heap ∧ va_D (gA g) (mP (gC g) S')) ∧ va_F (gA g) st t
theorem Pc9_blind {g : Glo} {args : List Value} {S : PS} : FrameBlind (Pc9 g args S) := by
  intro a U gg mk h
  obtain ⟨h0, h1, h2, h3, h4, h5⟩ := h
  exact ⟨h0, h1, h2, va_K.moved (u := U) (U := U.calling gg mk a) (Vm.Alike.refl U.vm) h3, h4, EnvP.same (s := U) (U := U.calling gg mk a) h5 rfl rfl⟩
/-- contracts: Ct returns; Cx returns or throws -/
def Ct (g : Glo) (M : Mt) (mc ms : Nat) (args : List Value) (S : PS) (post : Option Value → PS → Prop) : Prop :=
  Met g.1 M.1 (mws M) (mrm M mc ms) (Pc9 g args S) (Qc9 g post) mc ms (gA g)
def Cx (g : Glo) (M : Mt) (mc ms : Nat) (args : List Value) (S : PS) (post : Option Value → PS → Prop) (px : String → PS → Prop) : Prop :=
  vx_Met g.1 M.1 (mws M) (mrm M mc ms) (Pc9 g args S) (Qc9 g post) (Xc9 g px) mc ms (gA g)
/-- where the frame's walk ends -/
def Rt (Γ : Ctx) (mc ms : Nat) (post : Option Value → PS → Prop) (ret : Option FieldType) (nm : String) : Prop :=
  kQ Γ = MQ (kb Γ) (Qc9 Γ.1 post) (ka Γ) (ks Γ) mc ms (gA Γ.1) ∧ (kM Γ).sig.returnType = ret ∧ (kM Γ).name = nm
def Rx (Γ : Ctx) (mc ms : Nat) (post : Option Value → PS → Prop) (px : String → PS → Prop) (ret : Option FieldType) (nm : String) : Prop :=
  kQ Γ = vx_MQ (kb Γ) (Qc9 Γ.1 post) (Xc9 Γ.1 px) (ka Γ) (ks Γ) mc ms (gA Γ.1) ∧ (kM Γ).sig.returnType = ret ∧ (kM Γ).name = nm ∧ ∀ x ∈ (kc Γ).exceptionTable.toList, False
theorem Ct.of {g : Glo} {M : Mt} {mc ms : Nat} {args : List Value} {S : PS} {post : Option Value → PS → Prop} (hy : plainName M.1.cls = true) (hlen : (lg_sl args).length ≤ M.2.2.1)
    (body : ∀ Γ : Ctx, Γ.1 = g → Fx Γ M.1.cls M.2.1 (mrm M mc ms, M.2.2.1) → Rt Γ mc ms post M.2.2.2.1 M.1.name → G Γ S 0 0 0 (lv_args 0 args) []) : Ct g M mc ms args S post := by
  refine Met.ofW (cc := M.2.1) (maxL := M.2.2.1) (ret := M.2.2.2.1) hy rfl ?_
  intro p e s m args' below meth c s₁ B hml hv
  obtain ⟨rfl, h1, h2, h3, h4, h5⟩ := hv
  have hts := atoms_spec (ws := mws M) B.pre
  have F : Fx (g, (p, e, mrm M mc ms, s, m, args.toArray, below, meth, c), MQ below (Qc9 g post) args.toArray s mc ms (gA g), M.2.2.1) M.1.cls M.2.1 (mrm M mc ms, M.2.2.1) :=
    ⟨B.exec, B.bytes, hml, findClass_of_methodNamed B.named, fun w hw => hts w (List.mem_cons_of_mem _ hw), B.notSynchronized, h5, h3, h1, rfl, rfl⟩
  have k := body _ rfl F ⟨rfl, B.returns, (name_of_methodNamed B.named B.method).1⟩
  rw [lg_entry_eq]
  exact k s.heap [] _ h2 h4 va_S.rf (lv_entry args hlen)
theorem Cx.of {g : Glo} {M : Mt} {mc ms : Nat} {args : List Value} {S : PS} {post : Option Value → PS → Prop} {px : String → PS → Prop} (hy : plainName M.1.cls = true) (hlen : (lg_sl args).length ≤ M.2.2.1)
    (body : ∀ Γ : Ctx, Γ.1 = g → Fx Γ M.1.cls M.2.1 (mrm M mc ms, M.2.2.1) → Rx Γ mc ms post px M.2.2.2.1 M.1.name → G Γ S 0 0 0 (lv_args 0 args) []) : Cx g M mc ms args S post px := by
  refine vx_ofW (cc := M.2.1) (maxL := M.2.2.1) (ret := M.2.2.2.1) hy rfl ?_
  intro p e s m args' below meth c s₁ B hml hnt hv
  obtain ⟨rfl, h1, h2, h3, h4, h5⟩ := hv
  have hts := atoms_spec (ws := mws M) B.pre
  have F : Fx (g, (p, e, mrm M mc ms, s, m, args.toArray, below, meth, c), vx_MQ below (Qc9 g post) (Xc9 g px) args.toArray s mc ms (gA g), M.2.2.1) M.1.cls M.2.1 (mrm M mc ms, M.2.2.1) :=
    ⟨B.exec, B.bytes, hml, findClass_of_methodNamed B.named, fun w hw => hts w (List.mem_cons_of_mem _ hw), B.notSynchronized, h5, h3, h1, rfl, rfl⟩
  have k := body _ rfl F ⟨rfl, B.returns, (name_of_methodNamed B.named B.method).1, hnt⟩
  rw [lg_entry_eq]
  exact k s.heap [] _ h2 h4 va_S.rf (lv_entry args hlen)
section RowsR
variable {Γ : Ctx} {own : String} {cc : ByteArray} {rm : Room × Nat} {S : PS} {c n pc mc ms : Nat} {L L' : List (Nat × Value)} {st : List Value} {post : Option Value → PS → Prop} {px : String → PS → Prop} {nm : String}
theorem Qc9.mk {S : PS} {H : Heap} {locs : List Loc} {v : Option Value} (hp : post v S) (hP : va_P (gD Γ.1) vwCl (mP (gC Γ.1) S) H) (hD : va_D (gA Γ.1) (mP (gC Γ.1) S)) (hS : va_S (gA Γ.1) (ks Γ).heap H locs) (t : State) (ht : t.heap = H) : Qc9 Γ.1 post (ka Γ) (ks Γ) (.returned v) t :=
  ⟨⟨v, S, rfl, hp, by rw [ht]; exact hP, hD⟩, hS.F ht⟩
theorem g_zret {ty : FieldType} {x : Int32} (F : Fx Γ own cc rm) (T : Rt Γ mc ms post (some ty) nm) (hn : narrow ty (.int x) = .int x) (hp : post (some (.int x)) S) (hc : c ≤ mc) (hs : n ≤ ms) (d : decode cc pc = .ok (.ireturn, 1)) : G Γ S c n pc L [.int x] := by
  intro H locs ls hP hD hS hl
  rw [T.1]
  exact W.widen hc hs (W.zret F.x F.b T.2.1 hn (fun t ht _ => Qc9.mk hp hP hD hS t ht) hS.2.2 d F.lk)
theorem g_iret {x : Int32} (F : Fx Γ own cc rm) (T : Rt Γ mc ms post (some .int) nm) (hp : post (some (.int x)) S) (hc : c ≤ mc) (hs : n ≤ ms) (d : decode cc pc = .ok (.ireturn, 1)) : G Γ S c n pc L [.int x] := g_zret F T rfl hp hc hs d
theorem g_lret {x : Int64} (F : Fx Γ own cc rm) (T : Rt Γ mc ms post (some .long) nm) (hp : post (some (.long x)) S) (hc : c ≤ mc) (hs : n ≤ ms) (d : decode cc pc = .ok (.lreturn, 1)) : G Γ S c n pc L [.long x] := by
  intro H locs ls hP hD hS hl
  rw [T.1]
  exact W.widen hc hs (W.lret F.x F.b T.2.1 (fun t ht _ => Qc9.mk hp hP hD hS t ht) hS.2.2 d F.lk)
theorem g_dret {x : UInt64} (F : Fx Γ own cc rm) (T : Rt Γ mc ms post (some .double) nm) (hp : post (some (.double x)) S) (hc : c ≤ mc) (hs : n ≤ ms) (d : decode cc pc = .ok (.dreturn, 1)) : G Γ S c n pc L [.double x] := by
  intro H locs ls hP hD hS hl
  rw [T.1]
  exact W.widen hc hs (W.dret F.x F.b T.2.1 (fun t ht _ => Qc9.mk hp hP hD hS t ht) hS.2.2 d F.lk)
theorem g_vret (F : Fx Γ own cc rm) (T : Rt Γ mc ms post none nm) (hp : post none S) (hc : c ≤ mc) (hs : n ≤ ms) (d : decode cc pc = .ok (.return_, 1)) : G Γ S c n pc L [] := by
  intro H locs ls hP hD hS hl
  rw [T.1]
  exact W.widen hc hs (W.vret F.x F.b T.2.1 (fun t ht _ => Qc9.mk hp hP hD hS t ht) hS.2.2 d F.lk)
theorem x_zret {ty : FieldType} {x : Int32} (F : Fx Γ own cc rm) (T : Rx Γ mc ms post px (some ty) nm) (hn : narrow ty (.int x) = .int x) (hp : post (some (.int x)) S) (hc : c ≤ mc) (hs : n ≤ ms) (d : decode cc pc = .ok (.ireturn, 1)) : G Γ S c n pc L [.int x] := by
  intro H locs ls hP hD hS hl
  rw [T.1]
  exact vx_ret (W.widen hc hs (W.zret F.x F.b T.2.1 hn (fun t ht _ => Qc9.mk hp hP hD hS t ht) hS.2.2 d F.lk))
theorem x_iret {x : Int32} (F : Fx Γ own cc rm) (T : Rx Γ mc ms post px (some .int) nm) (hp : post (some (.int x)) S) (hc : c ≤ mc) (hs : n ≤ ms) (d : decode cc pc = .ok (.ireturn, 1)) : G Γ S c n pc L [.int x] := x_zret F T rfl hp hc hs d
theorem x_lret {x : Int64} (F : Fx Γ own cc rm) (T : Rx Γ mc ms post px (some .long) nm) (hp : post (some (.long x)) S) (hc : c ≤ mc) (hs : n ≤ ms) (d : decode cc pc = .ok (.lreturn, 1)) : G Γ S c n pc L [.long x] := by
  intro H locs ls hP hD hS hl
  rw [T.1]
  exact vx_ret (W.widen hc hs (W.lret F.x F.b T.2.1 (fun t ht _ => Qc9.mk hp hP hD hS t ht) hS.2.2 d F.lk))
theorem x_vret (F : Fx Γ own cc rm) (T : Rx Γ mc ms post px none nm) (hp : post none S) (hc : c ≤ mc) (hs : n ≤ ms) (d : decode cc pc = .ok (.return_, 1)) : G Γ S c n pc L [] := by
  intro H locs ls hP hD hS hl
  rw [T.1]
  exact vx_ret (W.widen hc hs (W.vret F.x F.b T.2.1 (fun t ht _ => Qc9.mk hp hP hD hS t ht) hS.2.2 d F.lk))
end RowsR
/-- what the tables say of a method, beside its link at a call -/
def okV (M : Mt) (C : String) (ci : Nat) : Prop := M.1.cls = C ∧ (M.1.cls ≠ "java/lang/invoke/MethodHandle" ∧ M.1.cls ≠ "java/lang/invoke/VarHandle" ∧ (parseMethodDescriptor M.1.desc).map (fun d => d.parameters.length) = some M.2.2.2.2.2.2) ∧ Cond.code M.1 M.2.1 M.2.2.1 M.2.2.2.1 ∈ wsL_law ∧ Cond.instanceMethod M.1 ∈ wsL_law ∧ Cond.selects C M.1 M.1 ∈ wsL_law ∧ Cond.initialized M.1.cls ∈ wsL_law ∧ ∃ T N, clOk ci C T N
def okS (M : Mt) : Prop := (M.1.cls ≠ "java/lang/invoke/MethodHandle" ∧ M.1.cls ≠ "java/lang/invoke/VarHandle" ∧ (parseMethodDescriptor M.1.desc).map (fun d => d.parameters.length) = some M.2.2.2.2.2.2) ∧ Cond.code M.1 M.2.1 M.2.2.1 M.2.2.2.1 ∈ wsL_law ∧ Cond.static M.1 ∈ wsL_law ∧ Cond.initialized M.1.cls ∈ wsL_law
def okI (M : Mt) (C : String) (ci : Nat) : Prop := M.1.cls = C ∧ M.1.name = "<init>" ∧ M.2.2.2.1 = none ∧ (M.1.cls ≠ "java/lang/invoke/MethodHandle" ∧ M.1.cls ≠ "java/lang/invoke/VarHandle" ∧ (parseMethodDescriptor M.1.desc).map (fun d => d.parameters.length) = some M.2.2.2.2.2.2) ∧ Cond.code M.1 M.2.1 M.2.2.1 M.2.2.2.1 ∈ wsL_law ∧ Cond.instanceMethod M.1 ∈ wsL_law ∧ Cond.initialized M.1.cls ∈ wsL_law ∧ ∃ T N, clOk ci C T N
theorem wsL_law_good : wsL_law.all goodWord = true := by decide +kernel
theorem gi_law {w : Cond} {l : List Cond} (h : ∀ x ∈ l, x ∈ wsL_law) : GoodIn wsL_law l := fun w hw => ⟨h w hw, good_of_word (List.all_eq_true.mp wsL_law_good w (h w hw))⟩
theorem gi_mws {M : Mt} (h : Cond.code M.1 M.2.1 M.2.2.1 M.2.2.2.1 ∈ wsL_law) : GoodIn wsL_law (mws M) := gi_law (w := .code M.1 M.2.1 M.2.2.1 M.2.2.2.1) (fun x hx => by
  rcases List.mem_cons.mp hx with rfl | hx
  · exact h
  · exact hx)
abbrev rmFit (M : Mt) (rm : Room × Nat) : Prop := M.2.2.2.2.1 + 1 ≤ rm.1.frames ∧ 8 + (M.2.2.1 + 11) + M.2.2.2.2.2.1 ≤ rm.1.locals
theorem cb_of {Γ : Ctx} {own : String} {cc : ByteArray} {rm : Room × Nat} {M : Mt} {mc ms idx : Nat} (F : Fx Γ own cc rm) (hd : M.1.cls ≠ "java/lang/invoke/MethodHandle" ∧ M.1.cls ≠ "java/lang/invoke/VarHandle" ∧ (parseMethodDescriptor M.1.desc).map (fun d => d.parameters.length) = some M.2.2.2.2.2.2) (hcw : Cond.code M.1 M.2.1 M.2.2.1 M.2.2.2.1 ∈ wsL_law) (hi : Cond.initialized M.1.cls ∈ wsL_law) (hl : Cond.methodLink own idx M.1 ∈ wsL_law) (hR : rmFit M rm) :
    CallB (kR Γ) (ks Γ) (ka Γ) own idx M.1 M.2.1 M.2.2.1 M.2.2.2.1 (mws M) (mrm M mc ms) mc ms M.2.2.2.2.2.2 :=
  callB_of (Ts := wsL_law) M.2.2.2.2.2.2 F.w (gi_mws hcw) rfl rfl rfl (F.w _ hi) (F.w _ hl) hd (by rw [F.r]; exact hR)
theorem cn_of {Γ : Ctx} {own host : String} {cc : ByteArray} {rm : Room × Nat} {M : Mt} {mc ms idx : Nat} (F : Fx Γ own cc rm) (hd : M.1.cls ≠ "java/lang/invoke/MethodHandle" ∧ M.1.cls ≠ "java/lang/invoke/VarHandle" ∧ (parseMethodDescriptor M.1.desc).map (fun d => d.parameters.length) = some M.2.2.2.2.2.2) (hcw : Cond.code M.1 M.2.1 M.2.2.1 M.2.2.2.1 ∈ wsL_law) (hi : Cond.initialized M.1.cls ∈ wsL_law) (hl : Cond.methodLinkNest own idx M.1 host ∈ nestM) (hR : rmFit M rm) :
    va_CN (kR Γ) (ks Γ) (ka Γ) own idx M.1 host M.2.1 M.2.2.1 M.2.2.2.1 (mws M) (mrm M mc ms) mc ms M.2.2.2.2.2.2 :=
  va_cnB (Ts := wsL_law) M.2.2.2.2.2.2 F.w (gi_mws hcw) rfl rfl rfl (F.e.2.1 _ hl) (F.w _ hi) hd (by rw [F.r]; exact hR)
theorem pre_of {Γ : Ctx} {own : String} {cc : ByteArray} {rm : Room × Nat} {S : PS} {H : Heap} {locs : List Loc} {args : List Value} (F : Fx Γ own cc rm) (hP : va_P (gD Γ.1) vwCl (mP (gC Γ.1) S) H) (hD : va_D (gA Γ.1) (mP (gC Γ.1) S)) (hS : va_S (gA Γ.1) (ks Γ).heap H locs) (U : State) (hU : U.heap = H) (hW : (ks Γ).WarmedH U.vm) : Pc9 Γ.1 args S args.toArray U :=
  ⟨rfl, by rw [hU]; exact Nat.le_trans F.base hS.1, by rw [hU]; exact hP, va_K.moved hW.alike F.k, hD, EnvP.warm F.e F.base hS hW hU⟩
section RowsC
variable {Γ : Ctx} {own : String} {cc : ByteArray} {rm : Room × Nat} {S : PS} {c n pc mc ms idx : Nat} {L L' : List (Nat × Value)} {st stk : List Value} {post : Option Value → PS → Prop} {px : String → PS → Prop} {M : Mt}
/-- behind a call that returns -/
theorem g_behind {args : List Value} {H : Heap} {locs : List Loc} {ls : Array Slot} (hr : va_Run (kp Γ) Γ.1.1 (ke Γ) (kR Γ) (ks Γ) (km Γ) (ka Γ) (kb Γ) (kM Γ) (kc Γ) H locs c n mc ms (F0 (km Γ) pc ls stk) st (Qc9 Γ.1 post args.toArray) (gA Γ.1)) (hS : va_S (gA Γ.1) (ks Γ).heap H locs) (hl : lv_has ls (kn Γ) L)
    (kk : ∀ v S', post v S' → G Γ S' (c + mc) (n + ms) (pc + 3) L (v.toList ++ st)) : W (kp Γ) Γ.1.1 (ke Γ) (kR Γ) (ks Γ) (km Γ) (ka Γ) (kb Γ) (kM Γ) (kc Γ) H locs c n (kQ Γ) (F0 (km Γ) pc ls stk) := by
  intro T hT X
  obtain ⟨v, st₀, t, T', Lx, h0, X', hL, e1, e2, ⟨⟨v', S', hv, hp, hP', hD'⟩, hz, hk⟩, stp⟩ := hr T hT X
  cases hv
  rw [h0] at hz hk
  obtain ⟨t2, a1, b1⟩ := kk v S' hp T'.heap (locs ++ Lx) ls (by rw [e1]; exact hP') hD'
    ⟨Nat.le_trans hS.1 (by rw [e1]; exact hz), fun q h1 h2 => by rw [e1, hk q (Nat.lt_of_lt_of_le h1 hS.1) h2]; exact hS.2.1 q h1 h2, fun q hq => by
      rcases List.mem_append.mp hq with h | h
      · exact hS.2.2 q h
      · exact hL q h⟩ hl T' rfl X'
  exact ⟨t2, stp t2 a1, b1⟩
theorem g_callV {C : String} {b ci : Nat} {As : List Value} (F : Fx Γ own cc rm) (hM : Ct Γ.1 M mc ms (.ref b :: As) S post) (ok : okV M C ci) (hb : Is S.1 b ci) (hl : Cond.methodLink own idx M.1 ∈ wsL_law) (hR : rmFit M rm) (hn : As.length = M.2.2.2.2.2.2) (hst : stk = As.reverse ++ .ref b :: st) (hW : (st.map fun v => v.category).sum ≤ 8) (hf : c + mc ≤ rm.1.cells ∧ n + ms ≤ rm.1.slots) (d : decode cc pc = .ok (.invokevirtual idx, 3))
    (kk : ∀ v S', post v S' → G Γ S' (c + mc) (n + ms) (pc + 3) L (v.toList ++ st)) : G Γ S c n pc L stk := by
  intro H locs ls hP hD hS hl9
  obtain ⟨hC, hd, h1, h2, h3, h4, TT, NN, hcl⟩ := ok
  obtain ⟨q0, hq, -⟩ := mP_at (cy := gC Γ.1) (S := S) hb.1 (cE_o hb.2 hcl.2.2.2.2)
  refine g_behind (args := .ref b :: As) (va_runV (Ts := wsL_law) (own := own) (As := As) (C := C) ⟨F.x, F.b, F.ml, F.o, F.w⟩ hM ⟨cb_of F hd h1 h4 hl hR, F.w _ h2, F.w _ h3⟩ ⟨Pc9_blind, va_recv (q := (C, TT, NN)) F.k hP hcl.1 hq, pre_of F hP hD hS⟩ rfl hn hl9.1 hst (lv_room hW) d (by rw [F.r]; exact hf)) hS hl9 kk
theorem g_callVN {C host : String} {b ci : Nat} {As : List Value} (F : Fx Γ own cc rm) (hM : Ct Γ.1 M mc ms (.ref b :: As) S post) (ok : okV M C ci) (hb : Is S.1 b ci) (hl : Cond.methodLinkNest own idx M.1 host ∈ nestM) (hR : rmFit M rm) (hn : As.length = M.2.2.2.2.2.2) (hst : stk = As.reverse ++ .ref b :: st) (hW : (st.map fun v => v.category).sum ≤ 8) (hf : c + mc ≤ rm.1.cells ∧ n + ms ≤ rm.1.slots) (d : decode cc pc = .ok (.invokevirtual idx, 3))
    (kk : ∀ v S', post v S' → G Γ S' (c + mc) (n + ms) (pc + 3) L (v.toList ++ st)) : G Γ S c n pc L stk := by
  intro H locs ls hP hD hS hl9
  obtain ⟨hC, hd, h1, h2, h3, h4, TT, NN, hcl⟩ := ok
  obtain ⟨q0, hq, -⟩ := mP_at (cy := gC Γ.1) (S := S) hb.1 (cE_o hb.2 hcl.2.2.2.2)
  refine g_behind (args := .ref b :: As) (va_runVN (Ts := wsL_law) (own := own) (As := As) (C := C) ⟨F.x, F.b, F.ml, F.o, F.w⟩ hM ⟨cn_of F hd h1 h4 hl hR, F.w _ h2, F.w _ h3⟩ ⟨Pc9_blind, va_recv (q := (C, TT, NN)) F.k hP hcl.1 hq, pre_of F hP hD hS⟩ rfl hn hl9.1 hst (lv_room hW) d (by rw [F.r]; exact hf)) hS hl9 kk
theorem g_callS {As : List Value} (F : Fx Γ own cc rm) (hM : Ct Γ.1 M mc ms As S post) (ok : okS M) (hl : Cond.methodLink own idx M.1 ∈ wsL_law) (hR : rmFit M rm) (hn : As.length = M.2.2.2.2.2.2) (hst : stk = As.reverse ++ st) (hW : (st.map fun v => v.category).sum ≤ 8) (hf : c + mc ≤ rm.1.cells ∧ n + ms ≤ rm.1.slots) (d : decode cc pc = .ok (.invokestatic idx, 3))
    (kk : ∀ v S', post v S' → G Γ S' (c + mc) (n + ms) (pc + 3) L (v.toList ++ st)) : G Γ S c n pc L stk := by
  intro H locs ls hP hD hS hl9
  obtain ⟨hd, h1, h2, h4⟩ := ok
  refine g_behind (args := As) (va_runS (Ts := wsL_law) (own := own) (As := As) ⟨F.x, F.b, F.ml, F.o, F.w⟩ hM ⟨cb_of F hd h1 h4 hl hR, F.w _ h2⟩ ⟨Pc9_blind, pre_of F hP hD hS⟩ rfl hn hl9.1 hst (lv_room hW) d (by rw [F.r]; exact hf)) hS hl9 kk
theorem g_callSN {host : String} {As : List Value} (F : Fx Γ own cc rm) (hM : Ct Γ.1 M mc ms As S post) (ok : okS M) (hl : Cond.methodLinkNest own idx M.1 host ∈ nestM) (hR : rmFit M rm) (hn : As.length = M.2.2.2.2.2.2) (hst : stk = As.reverse ++ st) (hW : (st.map fun v => v.category).sum ≤ 8) (hf : c + mc ≤ rm.1.cells ∧ n + ms ≤ rm.1.slots) (d : decode cc pc = .ok (.invokestatic idx, 3))
    (kk : ∀ v S', post v S' → G Γ S' (c + mc) (n + ms) (pc + 3) L (v.toList ++ st)) : G Γ S c n pc L stk := by
  intro H locs ls hP hD hS hl9
  obtain ⟨hd, h1, h2, h4⟩ := ok
  refine g_behind (args := As) (va_runSN (Ts := wsL_law) (own := own) (As := As) ⟨F.x, F.b, F.ml, F.o, F.w⟩ hM ⟨cn_of F hd h1 h4 hl hR, F.w _ h2, trivial⟩ ⟨Pc9_blind, pre_of F hP hD hS⟩ rfl hn hl9.1 hst (lv_room hW) d (by rw [F.r]; exact hf)) hS hl9 kk
theorem g_callI {C : String} {b ci : Nat} {As : List Value} (F : Fx Γ own cc rm) (hM : Ct Γ.1 M mc ms (.ref b :: As) S post) (ok : okI M C ci) (hl : Cond.methodLink own idx M.1 ∈ wsL_law) (hR : rmFit M rm) (hn : As.length = M.2.2.2.2.2.2) (hst : stk = As.reverse ++ .ref b :: st) (hW : (st.map fun v => v.category).sum ≤ 8) (hf : c + mc ≤ rm.1.cells ∧ n + ms ≤ rm.1.slots) (d : decode cc pc = .ok (.invokespecial idx, 3))
    (kk : ∀ v S', post v S' → G Γ S' (c + mc) (n + ms) (pc + 3) L (v.toList ++ st)) : G Γ S c n pc L stk := by
  intro H locs ls hP hD hS hl9
  obtain ⟨hC, hin, hnone, hd, h1, h2, h4, -⟩ := ok
  have hcb := cb_of (mc := mc) (ms := ms) F hd h1 h4 hl hR
  rw [hnone] at hcb
  refine g_behind (args := .ref b :: As) (va_runI (Ts := wsL_law) (own := own) (As := As) ⟨F.x, F.b, F.ml, F.o, F.w⟩ hM ⟨hcb, hin, F.w _ h2⟩ ⟨Pc9_blind, pre_of F hP hD hS⟩ rfl hn hl9.1 hst (lv_room hW) d (by rw [F.r]; exact hf)) hS hl9 kk
theorem g_callIN {C host : String} {b ci : Nat} {As : List Value} (F : Fx Γ own cc rm) (hM : Ct Γ.1 M mc ms (.ref b :: As) S post) (ok : okI M C ci) (hl : Cond.methodLinkNest own idx M.1 host ∈ nestM) (hR : rmFit M rm) (hn : As.length = M.2.2.2.2.2.2) (hst : stk = As.reverse ++ .ref b :: st) (hW : (st.map fun v => v.category).sum ≤ 8) (hf : c + mc ≤ rm.1.cells ∧ n + ms ≤ rm.1.slots) (d : decode cc pc = .ok (.invokespecial idx, 3))
    (kk : ∀ v S', post v S' → G Γ S' (c + mc) (n + ms) (pc + 3) L (v.toList ++ st)) : G Γ S c n pc L stk := by
  intro H locs ls hP hD hS hl9
  obtain ⟨hC, hin, hnone, hd, h1, h2, h4, -⟩ := ok
  have hcb := cn_of (mc := mc) (ms := ms) F hd h1 h4 hl hR
  rw [hnone] at hcb
  refine g_behind (args := .ref b :: As) (va_runIN (Ts := wsL_law) (own := own) (As := As) ⟨F.x, F.b, F.ml, F.o, F.w⟩ hM ⟨hcb, hin, F.w _ h2⟩ ⟨Pc9_blind, pre_of F hP hD hS⟩ rfl hn hl9.1 hst (lv_room hW) d (by rw [F.r]; exact hf)) hS hl9 kk
end RowsC
