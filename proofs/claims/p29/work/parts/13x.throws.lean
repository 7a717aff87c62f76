section RowsX
variable {Γ : Ctx} {own : String} {cc : ByteArray} {rm : Room × Nat} {S : PS} {c n pc mc ms idx : Nat} {L L' : List (Nat × Value)} {st stk : List Value} {post : Option Value → PS → Prop} {px : String → PS → Prop} {M : Mt}
/-- at a frame into which a callee has thrown -/
def GX (Γ : Ctx) (E : String) (S : PS) (c n pc : Nat) (L : List (Nat × Value)) (st : List Value) : Prop :=
  ∀ (H : Heap) (locs : List Loc) (ls : Array Slot) (q : Addr) (ce : Cell), va_P (gD Γ.1) vwCl (mP (gC Γ.1) S) H → va_D (gA Γ.1) (mP (gC Γ.1) S) → va_S (gA Γ.1) (ks Γ).heap H locs → lv_has ls (kn Γ) L → H[q]? = some ce → ce.vm = .none → (ks Γ).vm.findClass E = some ce.cls →
    vx_W (kp Γ) Γ.1.1 (ke Γ) (kR Γ) (ks Γ) (km Γ) (ka Γ) (kb Γ) (kM Γ) (kc Γ) H locs c n (kQ Γ) (F0 (km Γ) pc ls st) q
theorem x_behind {args : List Value} {H : Heap} {locs : List Loc} {ls : Array Slot} (hr : vx_Run (kp Γ) Γ.1.1 (ke Γ) (kR Γ) (ks Γ) (km Γ) (ka Γ) (kb Γ) (kM Γ) (kc Γ) H locs c n mc ms (F0 (km Γ) pc ls stk) st (Qc9 Γ.1 post args.toArray) (Xc9 Γ.1 px) (gA Γ.1)) (hS : va_S (gA Γ.1) (ks Γ).heap H locs) (hl : lv_has ls (kn Γ) L)
    (kx : ∀ E S', px E S' → GX Γ E S' (c + mc) (n + ms) pc L st) (kk : ∀ v S', post v S' → G Γ S' (c + mc) (n + ms) (pc + 3) L (v.toList ++ st)) : W (kp Γ) Γ.1.1 (ke Γ) (kR Γ) (ks Γ) (km Γ) (ka Γ) (kb Γ) (kM Γ) (kc Γ) H locs c n (kQ Γ) (F0 (km Γ) pc ls stk) := by
  intro T hT X
  rcases hr T hT X with ⟨v, st₀, t, T', Lx, h0, X', hL, e1, e2, ⟨⟨v', S', hv, hp, hP', hD'⟩, hF⟩, stp⟩ | ⟨q, st₀, t, T', Lx, E, ce, h0, X', hL, e1, e2, ⟨⟨S', hp, hP', hD'⟩, hF⟩, hce, hcv, hcl, stp⟩
  · cases hv
    obtain ⟨k1, k2, k3⟩ := vx_keep h0 e1 hS (fun q _ h => h) (fun q h => h) hL hF
    obtain ⟨t2, a1, b1⟩ := kk v S' hp T'.heap (locs ++ Lx) ls (by rw [e1]; exact hP') hD' k3 hl T' rfl X'
    exact ⟨t2, stp t2 a1, b1⟩
  · obtain ⟨k1, k2, k3⟩ := vx_keep h0 e1 hS (fun q _ h => h) (fun q h => h) hL hF
    obtain ⟨t2, a1, b1⟩ := kx E S' hp T'.heap (locs ++ Lx) ls q ce (by rw [e1]; exact hP') hD' k3 hl (by rw [e1]; exact hce) hcv hcl T' rfl X'
    exact ⟨t2, stp.trans a1, b1⟩
theorem x_callV {C : String} {b ci : Nat} {As : List Value} (F : Fx Γ own cc rm) (hM : Cx Γ.1 M mc ms (.ref b :: As) S post px) (ok : okV M C ci) (hb : Is S.1 b ci) (hl : Cond.methodLink own idx M.1 ∈ wsL_law) (hR : rmFit M rm) (hn : As.length = M.2.2.2.2.2.2) (hst : stk = As.reverse ++ .ref b :: st) (hW : (st.map fun v => v.category).sum ≤ 8) (hf : c + mc ≤ rm.1.cells ∧ n + ms ≤ rm.1.slots) (d : decode cc pc = .ok (.invokevirtual idx, 3))
    (kx : ∀ E S', px E S' → GX Γ E S' (c + mc) (n + ms) pc L st) (kk : ∀ v S', post v S' → G Γ S' (c + mc) (n + ms) (pc + 3) L (v.toList ++ st)) : G Γ S c n pc L stk := by
  intro H locs ls hP hD hS hl9
  obtain ⟨hC, hd, h1, h2, h3, h4, TT, NN, hcl⟩ := ok
  obtain ⟨q0, hq, -⟩ := mP_at (cy := gC Γ.1) (S := S) hb.1 (cE_o hb.2 hcl.2.2.2.2)
  refine x_behind (args := .ref b :: As) (vx_runV (Ts := wsL_law) (own := own) (As := As) (C := C) ⟨F.x, F.b, F.ml, F.o, F.w⟩ hM ⟨cb_of F hd h1 h4 hl hR, F.w _ h2, F.w _ h3⟩ ⟨Pc9_blind, va_recv (q := (C, TT, NN)) F.k hP hcl.1 hq, pre_of F hP hD hS⟩ rfl hn hl9.1 hst (lv_room hW) d (by rw [F.r]; exact hf)) hS hl9 kx kk
theorem x_callS {As : List Value} (F : Fx Γ own cc rm) (hM : Cx Γ.1 M mc ms As S post px) (ok : okS M) (hl : Cond.methodLink own idx M.1 ∈ wsL_law) (hR : rmFit M rm) (hn : As.length = M.2.2.2.2.2.2) (hst : stk = As.reverse ++ st) (hW : (st.map fun v => v.category).sum ≤ 8) (hf : c + mc ≤ rm.1.cells ∧ n + ms ≤ rm.1.slots) (d : decode cc pc = .ok (.invokestatic idx, 3))
    (kx : ∀ E S', px E S' → GX Γ E S' (c + mc) (n + ms) pc L st) (kk : ∀ v S', post v S' → G Γ S' (c + mc) (n + ms) (pc + 3) L (v.toList ++ st)) : G Γ S c n pc L stk := by
  intro H locs ls hP hD hS hl9
  obtain ⟨hd, h1, h2, h4⟩ := ok
  refine x_behind (args := As) (vx_runS (Ts := wsL_law) (own := own) (As := As) ⟨F.x, F.b, F.ml, F.o, F.w⟩ hM ⟨cb_of F hd h1 h4 hl hR, F.w _ h2⟩ ⟨Pc9_blind, pre_of F hP hD hS⟩ rfl hn hl9.1 hst (lv_room hW) d (by rw [F.r]; exact hf)) hS hl9 kx kk
/-- what a callee threw goes on to the caller -/
theorem x_out {E nm : String} {ret : Option FieldType} (F : Fx Γ own cc rm) (T : Rx Γ mc ms post px ret nm) (hp : px E S) (hc : c ≤ mc) (hs : n ≤ ms) : GX Γ E S c n pc L st := by
  intro H locs ls q ce hP hD hS hl hq hv hcl
  rw [T.1]
  exact vx_out (fun x hx => absurd hx (fun h => T.2.2.2 x h)) F.lk hq hv hcl (fun t ht _ => ⟨⟨S, hp, by rw [ht]; exact hP, hD⟩, hS.F ht⟩) hS.2.2 hc hs
def thrOk (ic ik : Nat) (E : String) : Prop := (∀ w ∈ (vx_atS RX9 ic E nmE).filter goodWord, w ∈ wsL_law) ∧ (∀ w ∈ (vx_atS RX9 ic E nmE).filter (fun w => !goodWord w), w ∈ castW) ∧ (∀ w ∈ Cond.classLink RX9 ik E :: Cond.initialized E :: vx_atS RX9 ic E nmE, vx_ot w = true) ∧ Bundle.fit E = true ∧ (∀ x ∈ nmE, Bundle.fit x = true) ∧ Cond.classLink RX9 ik E ∈ wsL_law ∧ Cond.initialized E ∈ wsL_law
/-- throw new E("text") in a method without an exception table -/
theorem x_throw {ic ik is : Nat} {E tx nm : String} {ret : Option FieldType} (F : Fx Γ RX9 cc rm) (T : Rx Γ mc ms post px ret nm) (hE : thrOk ic ik E) (htx : (is, tx) ∈ txts) (hp : px E S) (hR : 5 < rm.1.frames ∧ (st.map fun v => v.category).sum + 82 ≤ rm.1.locals ∧ c + 1 ≤ rm.1.cells ∧ n + 6 ≤ rm.1.slots) (hc : c + 1 ≤ mc) (hs : n + 6 ≤ ms)
    (d0 : decode cc pc = .ok (.new ik, 3)) (d3 : decode cc (pc + 3) = .ok (.dup, 1)) (d4 : decode cc (pc + 4) = .ok (.ldc is, 2)) (d6 : decode cc (pc + 6) = .ok (.invokespecial ic, 3)) (d9 : decode cc (pc + 9) = .ok (.athrow, 1)) : G Γ S c n pc L st := by
  intro H locs ls hP hD hS hl
  rw [T.1]
  obtain ⟨hE1, hE2, hE3, hE4, hE5, hE6, hE7⟩ := hE
  refine vx_throwS (cls := E) (names := nmE) (text := tx) F.x F.b F.e.2.2.2.2.2.2.2.2.2 F.o hE4 hE5 (F.w _ hE6) (F.w _ hE7) (F.e.2.2.2.2.2.2.1.1 _ htx) ?_ hE3 F.e.2.2.2.2.2.2.2.1 F.e.2.2.2.2.2.2.2.2.1 hS (by rw [hl.1, F.ml]) d0 d3 d4 d6 d9 (fun x hx => absurd hx (fun h => T.2.2.2 x h)) (by rw [F.r]; exact hR.1) (by rw [F.r]; exact hR.2.1) (by rw [F.r]; exact hR.2.2.1) (by rw [F.r]; exact hR.2.2.2) F.lk ?_ hS.2.2 hc hs
  · exact vx_hat (fun w hw => F.w w (hE1 w hw)) hE2 (fun w hw => va_Nw.use (castW_tab hw) (F.e.2.2.1.1 w hw))
  · intro t hal hz hk
    have hP2 : va_P (gD Γ.1) vwCl (mP (gC Γ.1) S) t.heap := fun k q hq => (hP k q hq).kept (hk q.1 (hP k q hq).lt)
    exact ⟨⟨S, hp, hP2, hD⟩, ⟨Nat.le_trans hS.1 hz, fun q h1 h2 => by rw [hk q (Nat.lt_of_lt_of_le h1 hS.1)]; exact hS.2.1 q h1 h2⟩⟩
/-- catch: the exception lands on the stack of the handler -/
theorem x_catch {E nm : String} {k : Fin 4} (F : Fx Γ own cc rm) (pre : List ExceptionTableEntry) (x : ExceptionTableEntry) (suf : List ExceptionTableEntry) (hsplit : (kc Γ).exceptionTable.toList = pre ++ x :: suf) (hpass : ∀ z ∈ pre, covers z pc = false ∨ (z.catchType ≠ 0 ∧ ∃ m2 : String, Cond.classLink own z.catchType m2 ∈ wsL_law ∧ (E, m2) ∈ ncW)) (hx : covers x pc = true) (h0 : x.catchType ≠ 0)
    (hlink : Cond.classLink own x.catchType nm ∈ wsL_law) (hcast : Cond.castable E nm ∈ castW) (hst : decode cc x.handlerPc = .ok (.astore_n k, 1)) (hk : (k : Nat) < rm.2) (hL : L.filter (fun q => !(q.1 == (k : Nat)) && !(q.1 + 1 == (k : Nat) && q.2.category == 2)) = L') (k9 : G Γ S c n (x.handlerPc + 1) L' []) : GX Γ E S c n pc L st := by
  intro H locs ls q ce hP hD hS hl hq hv hcl
  refine vx_catch F.o pre x suf hsplit (fun z hz => ?_) hx h0 (F.w _ hlink) (va_Nw.use rfl (F.e.2.2.1.1 _ hcast)) hq hv hcl ?_
  · rcases hpass z hz with h | ⟨h, m2, h1, h2⟩
    · exact Or.inl h
    · exact Or.inr ⟨h, m2, F.w _ h1, F.e.2.2.1.2 _ h2⟩
  · exact lv_astore_n F.x F.b hst rfl hl (by rw [F.nl]; exact hk) rfl (fun ls' hl9 => k9 H locs ls' hP hD hS (by
      refine ⟨hl9.1, hl9.2.1, fun z hz => hl9.2.2 z (List.mem_cons_of_mem _ (by rw [hL]; exact hz))⟩))
end RowsX
