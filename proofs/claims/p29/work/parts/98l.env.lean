/-! the law's entry: what the Statement gives of the start -/
theorem en_len {args : Array Value} {s : State} {t : Term} {v : Value} (hv : (Term.length t).eval args s none [] s = some v) : ∃ (b : Nat) (cell : Cell), t.eval args s none [] s = some (.ref b) ∧ s.arrayAt? b = some cell ∧ cell.slots.size < 2 ^ 31 ∧ v = .int cell.slots.size.toInt32 := by
  obtain ⟨b, cell, ht, harr, hz⟩ := Term.length_spec hv
  refine ⟨b, cell, ht, harr, ?_, hz⟩
  simp only [Term.eval, ht, harr, Option.bind_eq_bind, Option.bind_some] at hv
  by_cases hlt : cell.slots.size < 2147483648
  · exact hlt
  · simp [hlt] at hv
theorem en_arr {args : Array Value} {s : State} {C n : String} {f : Nat → Int32} (hl : (Cond.laysStatic C n "[I").before args s = true) (hini : (Cond.initialized C).before args s = true) (harr : (Cond.arrayOf (.static C n "[I") .int).before args s = true) (hlen : (Cond.eq (.length (.static C n "[I")) (.int 5)).before args s = true) (hel : ∀ j : Nat, j < 5 → (Cond.eq (.elem (.static C n "[I") (.int (Int32.ofNat j))) (.int (f j))).before args s = true) : ∃ t : Nat, va_Z C n "[I" (.ref t) (fun q => s.heap.size ≤ q) s s.heap ∧ va_X t 5 f s s.heap ∧ t < s.heap.size := by
  have hA : ∀ a : Nat, a < s.heap.size → ¬ (fun q : Nat => s.heap.size ≤ q) a := fun a h => Nat.not_le.mpr h
  have hv := va_eqt hlen
  obtain ⟨t, ht, cell, hcell, hof, hkn, -, -, hj, -⟩ := va_Tof (N := 5) (f := fun j => .int (f j)) (A := fun q : Nat => s.heap.size ≤ q) (by decide) harr hv (fun j hj => va_eqt (hel j hj)) hA
  obtain ⟨t', cell', ht', hat, h31, hv'⟩ := en_len hv
  cases ht.symm.trans ht'
  cases hcell.symm.trans (State.arrayAt?_spec hat).1
  have hsz : cell.slots.size = 5 := by
    have e := congrArg Int32.toNatClampNeg (Value.int.inj hv')
    have e1 : (5 : Int32).toNatClampNeg = 5 := by decide
    have e2 : cell.slots.size.toInt32.toNatClampNeg = cell.slots.size := Int32.toNatClampNeg_ofNat_of_lt h31
    rw [e1, e2] at e
    exact e.symm
  exact ⟨t, va_Zref hl hini ht hA, ⟨cell, hcell, hof, hkn, hsz, hj⟩, (Array.getElem?_eq_some_iff.mp hcell).1⟩
theorem en_K0 {args : Array Value} {s : State} {ty : FieldType} (h : (Cond.arrayClass ty).before args s = true) : ∃ c : ClassId, ArrOfT s c ty ∧ s.vm.findClass ("[" ++ ty.toString) = some c := by
  obtain ⟨c, k, comp, h1, h2, h3⟩ := Cond.arrayClass_spec h
  exact ⟨c, fun n z => ⟨fun k h => (by cases h), k, h2, comp, h3⟩, h1⟩
theorem en_KO {args : Array Value} {s : State} {C : String} (h : (Cond.arrayOver (.object C)).before args s = true) : ∃ c : ClassId, ArrOfT s c (.object C) ∧ va_RA s c (.object C) := by
  obtain ⟨comp, c, k, h1, -, h3, h4, h5⟩ := Cond.arrayOver_spec h
  exact ⟨c, fun n z => ⟨fun k h => (by cases h), k, h3, comp, h4⟩, k, comp, h3, h4, h1, h5⟩
set_option maxRecDepth 20000 in
theorem en_kn {args : Array Value} {s : State} (hts : ∀ w ∈ lw_tbl, w.before args s = true) : ∀ k : Nat, ∃ p : ClassId × (Nat → Nat), ∀ q : vw_C, vwCl[k]? = some q → u_Kn s q.1 q.2.1 q.2.2 p.1 p.2 := by
  obtain ⟨c0, i0, k0⟩ := u_known (C := RX0) (T := TX0) (N := 9) (n := 9) hts lc_w0 (hts _ (wsL_law_in _ mw74))
  obtain ⟨c1, i1, k1⟩ := u_known (C := RX1) (T := TX1) (N := 4) (n := 4) hts lc_w1 (hts _ (wsL_law_in _ mw23))
  obtain ⟨c2, i2, k2⟩ := u_known (C := RX2) (T := TX2) (N := 2) (n := 2) hts lc_w2 (hts _ (wsL_law_in _ mw19))
  obtain ⟨c3, i3, k3⟩ := u_known (C := RX3) (T := TX3) (N := 6) (n := 6) hts lc_w3 (hts _ (wsL_law_in _ mw27))
  obtain ⟨c4, i4, k4⟩ := u_known (C := RX4) (T := TX4) (N := 4) (n := 4) hts lc_w4 (hts _ (wsL_law_in _ mw41))
  obtain ⟨c5, i5, k5⟩ := u_known (C := RX5) (T := TX5) (N := 4) (n := 4) hts lc_w5 (hts _ (wsL_law_in _ mw45))
  obtain ⟨c6, i6, k6⟩ := u_known (C := RX6) (T := TX6) (N := 6) (n := 6) hts lc_w6 (hts _ (wsL_law_in _ mw14))
  obtain ⟨c7, i7, k7⟩ := u_known (C := RX7) (T := TX7) (N := 7) (n := 7) hts lc_w7 (hts _ (wsL_law_in _ mw31))
  obtain ⟨c8, i8, k8⟩ := u_known (C := RX8) (T := TX8) (N := 3) (n := 3) hts lc_w8 (hts _ (wsL_law_in _ mw78))
  obtain ⟨c9, i9, k9⟩ := u_known (C := RX9) (T := TX9) (N := 9) (n := 9) hts lc_w9 (hts _ (wsL_law_in _ mw1))
  intro k
  match k with
  | 0 => exact ⟨(c0, i0), fun q hq => by cases hq; exact k0⟩
  | 1 => exact ⟨(c1, i1), fun q hq => by cases hq; exact k1⟩
  | 2 => exact ⟨(c2, i2), fun q hq => by cases hq; exact k2⟩
  | 3 => exact ⟨(c3, i3), fun q hq => by cases hq; exact k3⟩
  | 4 => exact ⟨(c4, i4), fun q hq => by cases hq; exact k4⟩
  | 5 => exact ⟨(c5, i5), fun q hq => by cases hq; exact k5⟩
  | 6 => exact ⟨(c6, i6), fun q hq => by cases hq; exact k6⟩
  | 7 => exact ⟨(c7, i7), fun q hq => by cases hq; exact k7⟩
  | 8 => exact ⟨(c8, i8), fun q hq => by cases hq; exact k8⟩
  | 9 => exact ⟨(c9, i9), fun q hq => by cases hq; exact k9⟩
  | k + 10 => exact ⟨(c0, i0), fun q hq => by simp [vwCl] at hq⟩
theorem en_K {args : Array Value} {s : State} (hts : ∀ w ∈ lw_tbl, w.before args s = true) : ∃ (dG : va_G) (cy : Cy), va_K dG vwCl (mT cy) s := by
  have H := en_kn hts
  obtain ⟨a1, b1, d1⟩ := en_K0 (hts _ (wsL_law_in _ mw3))
  obtain ⟨a2, b2, d2⟩ := en_K0 (hts _ (wsL_law_in _ mw4))
  obtain ⟨a3, b3, d3⟩ := en_K0 (hts _ (wsL_law_in _ mw62))
  obtain ⟨a4, b4, d4⟩ := en_KO (C := "PolarPlanimeter$State") (hts (.arrayOver (.object "PolarPlanimeter$State")) (by decide +kernel))
  refine ⟨(fun k => (Classical.choose (H k)).1, fun k => (Classical.choose (H k)).2), (a1, a2, a3, a4), fun k q hq => Classical.choose_spec (H k) q hq, fun k q hq => ?_⟩
  match k, hq with
  | 0, hq => cases hq; exact ⟨b1, d1⟩
  | 1, hq => cases hq; exact ⟨b2, d2⟩
  | 2, hq => cases hq; exact ⟨b3, d3⟩
  | 3, hq => cases hq; exact ⟨b4, d4⟩
  | k + 4, hq => simp [mT] at hq
theorem en_nF : nestF.all (fun w => w.onTables && decide (w ∈ lw_tbl)) = true := by decide +kernel
theorem en_nM : nestM.all (fun w => w.onTables && decide (w ∈ lw_tbl)) = true := by decide +kernel
theorem en_ca : castW.all (fun w => w.onTables && decide (w ∈ lw_tbl)) = true := by decide +kernel
theorem en_tx : txts.all (fun e => decide (Cond.stringRef RX9 e.1 e.2 ∈ lw_tbl)) = true := by decide +kernel
theorem en_nw {ws : List Cond} (h : ws.all (fun w => w.onTables && decide (w ∈ lw_tbl)) = true) {args : Array Value} {s : State} (hts : ∀ w ∈ lw_tbl, w.before args s = true) : ∀ w ∈ ws, va_Nw w s := fun w hw => by
  have e := List.all_eq_true.mp h w hw
  rw [Bool.and_eq_true] at e
  exact va_Nw.of e.1 (hts w (of_decide_eq_true e.2))
set_option maxRecDepth 20000 in
theorem en_AT_FIRST {args : Array Value} {s : State} (hts : ∀ w ∈ lw_tbl, w.before args s = true) (hgv : (Jvm.Cond.and given_1 narrow_1).before args s = true) : ∃ t : Nat, va_Z RX9 "AT_FIRST" "[I" (.ref t) (fun q => s.heap.size ≤ q) s s.heap ∧ va_X t 5 atF s s.heap ∧ t < s.heap.size := by
  have hs := flat_of_before _ hgv
  refine en_arr (hts (.laysStatic RX9 "AT_FIRST" "[I") (by decide +kernel)) (hts (.initialized RX9) (by decide +kernel)) (hs _ (by decide +kernel)) (hs _ (by decide +kernel)) (fun j hj => ?_)
  rcases (by omega : j = 0 ∨ j = 1 ∨ j = 2 ∨ j = 3 ∨ j = 4) with e | e | e | e | e <;> subst e
  · exact hs _ (by decide +kernel)
  · exact hs _ (by decide +kernel)
  · exact hs _ (by decide +kernel)
  · exact hs _ (by decide +kernel)
  · exact hs _ (by decide +kernel)
set_option maxRecDepth 20000 in
theorem en_LEAST {args : Array Value} {s : State} (hts : ∀ w ∈ lw_tbl, w.before args s = true) (hgv : (Jvm.Cond.and given_1 narrow_1).before args s = true) : ∃ t : Nat, va_Z RX9 "LEAST" "[I" (.ref t) (fun q => s.heap.size ≤ q) s s.heap ∧ va_X t 5 leF s s.heap ∧ t < s.heap.size := by
  have hs := flat_of_before _ hgv
  refine en_arr (hts (.laysStatic RX9 "LEAST" "[I") (by decide +kernel)) (hts (.initialized RX9) (by decide +kernel)) (hs _ (by decide +kernel)) (hs _ (by decide +kernel)) (fun j hj => ?_)
  rcases (by omega : j = 0 ∨ j = 1 ∨ j = 2 ∨ j = 3 ∨ j = 4) with e | e | e | e | e <;> subst e
  · exact hs _ (by decide +kernel)
  · exact hs _ (by decide +kernel)
  · exact hs _ (by decide +kernel)
  · exact hs _ (by decide +kernel)
  · exact hs _ (by decide +kernel)
set_option maxRecDepth 20000 in
theorem en_GREATEST {args : Array Value} {s : State} (hts : ∀ w ∈ lw_tbl, w.before args s = true) (hgv : (Jvm.Cond.and given_1 narrow_1).before args s = true) : ∃ t : Nat, va_Z RX9 "GREATEST" "[I" (.ref t) (fun q => s.heap.size ≤ q) s s.heap ∧ va_X t 5 grF s s.heap ∧ t < s.heap.size := by
  have hs := flat_of_before _ hgv
  refine en_arr (hts (.laysStatic RX9 "GREATEST" "[I") (by decide +kernel)) (hts (.initialized RX9) (by decide +kernel)) (hs _ (by decide +kernel)) (hs _ (by decide +kernel)) (fun j hj => ?_)
  rcases (by omega : j = 0 ∨ j = 1 ∨ j = 2 ∨ j = 3 ∨ j = 4) with e | e | e | e | e <;> subst e
  · exact hs _ (by decide +kernel)
  · exact hs _ (by decide +kernel)
  · exact hs _ (by decide +kernel)
  · exact hs _ (by decide +kernel)
  · exact hs _ (by decide +kernel)
def tx9 (args : Array Value) (s : State) (k : Nat) : Nat := match (Term.string RX9 k).eval args s none [] s with
  | some (.ref a) => a
  | _ => 0
theorem en_txt {args : Array Value} {s : State} (hts : ∀ w ∈ lw_tbl, w.before args s = true) : ∀ e ∈ txts, vk_R RX9 e.1 e.2 (tx9 args s e.1) s := fun e he => by
  have h1 := hts _ (of_decide_eq_true (List.all_eq_true.mp en_tx e he))
  obtain ⟨c, k, hfc, -⟩ := Cond.instantiable_spec (hts _ (wsL_law_in _ mw1))
  obtain ⟨-, -, -, a, -, -, -, -, -, hev⟩ := Cond.stringRef_spec hfc h1
  have e9 : tx9 args s e.1 = a := by unfold tx9; rw [hev]
  rw [e9]
  exact vk_R.of h1 hev
set_option maxRecDepth 20000 in
theorem en_all {args : Array Value} {s : State} (l : Launch) (hflags : l.flags = flags0) (hts : ∀ w ∈ lw_tbl, w.before args s = true) (hgv : (Jvm.Cond.and given_1 narrow_1).before args s = true) (dG : va_G) (cy : Cy) {b L : Nat} {xs : Nat → Int32} (hX : va_X b L xs s s.heap) (hbl : b < s.heap.size) (hL : L ≤ 260) : ∃ (aF bF : Nat → Nat), aF 3 = b ∧ EnvP (l, dG, cy, s.heap.size, aF, bF) s s.heap := by
  obtain ⟨t0, x0⟩ := en_AT_FIRST hts hgv
  obtain ⟨t1, x1⟩ := en_LEAST hts hgv
  obtain ⟨t2, x2⟩ := en_GREATEST hts hgv
  have hs := flat_of_before _ hgv
  have hA : ∀ a : Nat, a < s.heap.size → ¬ (fun q : Nat => s.heap.size ≤ q) a := fun a h => Nat.not_le.mpr h
  have ex : xsG (l, dG, cy, s.heap.size, (fun k => [t0, t1, t2, b, L].getD k (xs (k - 5)).toUInt32.toNat), tx9 args s) = xs := by
    funext j
    unfold xsG
    show (UInt32.ofNat ([t0, t1, t2, b, L].getD (5 + j) (xs (5 + j - 5)).toUInt32.toNat)).toInt32 = _
    rw [List.getD_eq_getElem?_getD, List.getElem?_eq_none (by simp), show 5 + j - 5 = j by omega]
    show (UInt32.ofNat (xs j).toUInt32.toNat).toInt32 = _
    rw [UInt32.ofNat_toNat]
    rfl
  refine ⟨fun k => [t0, t1, t2, b, L].getD k (xs (k - 5)).toUInt32.toNat, tx9 args s, rfl, en_nw en_nF hts, en_nw en_nM hts, ⟨en_nw en_ca hts, fun e he => ?_⟩, x0, x1, x2, ⟨en_txt hts, va_AO.of (hts (.arrayOver (.object "PolarPlanimeter$State")) (by decide +kernel)), by rw [Scr, ex]; exact ⟨hX, hbl, hL⟩⟩, ?_, ?_, ?_⟩
  · unfold ncW at he
    exact absurd he List.not_mem_nil
  · exact vx_Zqof (hts (.laysStatic Bundle.tN "UNASSIGNED_STACK" Bundle.steD) (by decide +kernel)) (hts (.initialized Bundle.tN) (by decide +kernel)) (hs _ (by decide +kernel)) hA
  · exact vx_Zqof (hts (.laysStatic Bundle.tN "SUPPRESSED_SENTINEL" Bundle.listD) (by decide +kernel)) (hts (.initialized Bundle.tN) (by decide +kernel)) (hs _ (by decide +kernel)) hA
  · show l.stackTraces = false
    unfold Launch.stackTraces
    rw [hflags]
    decide +kernel
