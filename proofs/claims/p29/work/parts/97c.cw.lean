/-! methods with an exception table -/
def Cw (g : Glo) (M : Mt) (hh : List (Nat × Nat × Nat × Nat)) (mc ms : Nat) (args : List Value) (S : PS) (post : Option Value → PS → Prop) : Prop :=
  Met g.1 M.1 (Cond.codeWith M.1 M.2.1 M.2.2.1 M.2.2.2.1 hh :: wsL_law) (mrm M mc ms) (Pc9 g args S) (Qc9 g post) mc ms (gA g)
theorem Cw.of {g : Glo} {M : Mt} {hh : List (Nat × Nat × Nat × Nat)} {mc ms : Nat} {args : List Value} {S : PS} {post : Option Value → PS → Prop} (hy : plainName M.1.cls = true) (hlen : (lg_sl args).length ≤ M.2.2.1)
    (body : ∀ Γ : Ctx, Γ.1 = g → Fx Γ M.1.cls M.2.1 (mrm M mc ms, M.2.2.1) → Rt Γ mc ms post M.2.2.2.1 M.1.name → (kc Γ).exceptionTable.toList = tableOf hh → G Γ S 0 0 0 (lv_args 0 args) []) : Cw g M hh mc ms args S post := by
  refine va_MetW (cc := M.2.1) (maxL := M.2.2.1) (ret := M.2.2.2.1) (hh := hh) hy rfl ?_
  intro p e s m args' below meth c s₁ B hml hv
  obtain ⟨rfl, h1, h2, h3, h4, h5⟩ := hv
  have hts := atoms_spec (ws := Cond.codeWith M.1 M.2.1 M.2.2.1 M.2.2.2.1 hh :: wsL_law) B.pre
  have F : Fx (g, (p, e, mrm M mc ms, s, m, args.toArray, below, meth, c), MQ below (Qc9 g post) args.toArray s mc ms (gA g), M.2.2.1) M.1.cls M.2.1 (mrm M mc ms, M.2.2.1) :=
    ⟨B.exec, B.bytes, hml, findClass_of_methodNamed B.named, fun w hw => hts w (List.mem_cons_of_mem _ hw), B.notSynchronized, h5, h3, h1, rfl, rfl⟩
  have k := body _ rfl F ⟨rfl, B.returns, (name_of_methodNamed B.named B.method).1⟩ (vx_table (x := M.1) B (hts _ List.mem_cons_self))
  rw [lg_entry_eq]
  exact k s.heap [] _ h2 h4 va_S.rf (lv_entry args hlen)
def okSW (M : Mt) (hh : List (Nat × Nat × Nat × Nat)) : Prop := (M.1.cls ≠ "java/lang/invoke/MethodHandle" ∧ M.1.cls ≠ "java/lang/invoke/VarHandle" ∧ (parseMethodDescriptor M.1.desc).map (fun d => d.parameters.length) = some M.2.2.2.2.2.2) ∧ Cond.codeWith M.1 M.2.1 M.2.2.1 M.2.2.2.1 hh ∈ wsL_law ∧ Cond.static M.1 ∈ wsL_law ∧ Cond.initialized M.1.cls ∈ wsL_law
section RowsW
variable {Γ : Ctx} {own : String} {cc : ByteArray} {rm : Room × Nat} {S : PS} {c n pc mc ms idx : Nat} {L L' : List (Nat × Value)} {st stk : List Value} {post : Option Value → PS → Prop} {M : Mt} {hh : List (Nat × Nat × Nat × Nat)}
theorem g_callSW {As : List Value} (F : Fx Γ own cc rm) (hM : Cw Γ.1 M hh mc ms As S post) (ok : okSW M hh) (hl : Cond.methodLink own idx M.1 ∈ wsL_law) (hR : rmFit M rm) (hn : As.length = M.2.2.2.2.2.2) (hst : stk = As.reverse ++ st) (hW : (st.map fun v => v.category).sum ≤ 8) (hf : c + mc ≤ rm.1.cells ∧ n + ms ≤ rm.1.slots) (d : decode cc pc = .ok (.invokestatic idx, 3))
    (kk : ∀ v S', post v S' → G Γ S' (c + mc) (n + ms) (pc + 3) L (v.toList ++ st)) : G Γ S c n pc L stk := by
  intro H locs ls hP hD hS hl9
  obtain ⟨hd, h1, h2, h4⟩ := ok
  have hgi : GoodIn wsL_law (va_wsS own idx M.1 (Cond.codeWith M.1 M.2.1 M.2.2.1 M.2.2.2.1 hh :: wsL_law)) := gi_law (w := Cond.static M.1) (fun w hw => by
    unfold va_wsS at hw
    simp only [List.cons_append, List.nil_append, List.mem_cons] at hw
    rcases hw with rfl | rfl | rfl | rfl | hw
    · exact hl
    · exact h2
    · exact h4
    · exact h1
    · exact hw)
  refine g_behind (args := As) (vx_runSW (Ts := wsL_law) (own := own) (As := As) ⟨F.x, F.b, F.ml, F.o, F.w⟩ hM (vx_cwSW (Ts := wsL_law) M.2.2.2.2.2.2 F.w hgi rfl rfl rfl hd (by rw [F.r]; exact hR)) ⟨Pc9_blind, pre_of F hP hD hS⟩ rfl hn hl9.1 hst (lv_room hW) d (by rw [F.r]; exact hf)) hS hl9 kk
theorem x_catch2 {E nm : String} {k : Nat} (F : Fx Γ own cc rm) (pre : List ExceptionTableEntry) (x : ExceptionTableEntry) (suf : List ExceptionTableEntry) (hsplit : (kc Γ).exceptionTable.toList = pre ++ x :: suf) (hpass : ∀ z ∈ pre, covers z pc = false ∨ (z.catchType ≠ 0 ∧ ∃ m2 : String, Cond.classLink own z.catchType m2 ∈ wsL_law ∧ (E, m2) ∈ ncW)) (hx : covers x pc = true) (h0 : x.catchType ≠ 0)
    (hlink : Cond.classLink own x.catchType nm ∈ wsL_law) (hcast : Cond.castable E nm ∈ castW) (hst : decode cc x.handlerPc = .ok (.astore k, 2)) (hk : k < rm.2) (hL : L.filter (fun q => !(q.1 == k) && !(q.1 + 1 == k && q.2.category == 2)) = L') (k9 : G Γ S c n (x.handlerPc + 2) L' []) : GX Γ E S c n pc L st := by
  intro H locs ls q ce hP hD hS hl hq hv hcl
  refine vx_catch F.o pre x suf hsplit (fun z hz => ?_) hx h0 (F.w _ hlink) (va_Nw.use rfl (F.e.2.2.1.1 _ hcast)) hq hv hcl ?_
  · rcases hpass z hz with h | ⟨h, m2, h1, h2⟩
    · exact Or.inl h
    · exact Or.inr ⟨h, m2, F.w _ h1, F.e.2.2.1.2 _ h2⟩
  · exact lv_astore F.x F.b hst hl (by rw [F.nl]; exact hk) rfl (fun ls' hl9 => k9 H locs ls' hP hD hS (by
      refine ⟨hl9.1, hl9.2.1, fun z hz => hl9.2.2 z (List.mem_cons_of_mem _ (by rw [hL]; exact hz))⟩))
end RowsW
theorem cst_IAE : Cond.castable eIAE eIAE ∈ castW := by decide +kernel
theorem cst_IOB : Cond.castable eIOB eIOB ∈ castW := by decide +kernel
theorem cst_ISE : Cond.castable eISE eISE ∈ castW := by decide +kernel
def P94x : Nat → Prop := fun i => 94 ≤ i ∧ i ≠ 100
