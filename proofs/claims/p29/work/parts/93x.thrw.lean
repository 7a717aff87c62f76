section RowsX
variable {Γ : Ctx} {own : String} {cc : ByteArray} {rm : Room × Nat} {S : PS} {c n pc mc ms idx : Nat} {L L' : List (Nat × Value)} {st stk : List Value} {post : Option Value → PS → Prop} {px : String → PS → Prop} {M : Mt}
/-- throw new E("text") in a method without an exception table (ldc_w) -/
theorem x_throwW {ic ik is : Nat} {E tx nm : String} {ret : Option FieldType} (F : Fx Γ RX9 cc rm) (T : Rx Γ mc ms post px ret nm) (hE : thrOk ic ik E) (htx : (is, tx) ∈ txts) (hp : px E S) (hR : 5 < rm.1.frames ∧ (st.map fun v => v.category).sum + 82 ≤ rm.1.locals ∧ c + 1 ≤ rm.1.cells ∧ n + 6 ≤ rm.1.slots) (hc : c + 1 ≤ mc) (hs : n + 6 ≤ ms)
    (d0 : decode cc pc = .ok (.new ik, 3)) (d3 : decode cc (pc + 3) = .ok (.dup, 1)) (d4 : decode cc (pc + 4) = .ok (.ldc_w is, 3)) (d7 : decode cc (pc + 7) = .ok (.invokespecial ic, 3)) (d10 : decode cc (pc + 10) = .ok (.athrow, 1)) : G Γ S c n pc L st := by
  intro H locs ls hP hD hS hl
  rw [T.1]
  obtain ⟨hE1, hE2, hE3, hE4, hE5, hE6, hE7⟩ := hE
  refine vx_throwSW (cls := E) (names := nmE) (text := tx) F.x F.b F.e.2.2.2.2.2.2.2.2.2 F.o hE4 hE5 (F.w _ hE6) (F.w _ hE7) (F.e.2.2.2.2.2.2.1.1 _ htx) ?_ hE3 F.e.2.2.2.2.2.2.2.1 F.e.2.2.2.2.2.2.2.2.1 hS (by rw [hl.1, F.ml]) d0 d3 d4 d7 d10 (fun x hx => absurd hx (fun h => T.2.2.2 x h)) (by rw [F.r]; exact hR.1) (by rw [F.r]; exact hR.2.1) (by rw [F.r]; exact hR.2.2.1) (by rw [F.r]; exact hR.2.2.2) F.lk ?_ hS.2.2 hc hs
  · exact vx_hat (fun w hw => F.w w (hE1 w hw)) hE2 (fun w hw => va_Nw.use (castW_tab hw) (F.e.2.2.1.1 w hw))
  · intro t hal hz hk
    have hP2 : va_P (gD Γ.1) vwCl (mP (gC Γ.1) S) t.heap := fun k q hq => (hP k q hq).kept (hk q.1 (hP k q hq).lt)
    exact ⟨⟨S, hp, hP2, hD⟩, ⟨Nat.le_trans hS.1 hz, fun q h1 h2 => by rw [hk q (Nat.lt_of_lt_of_le h1 hS.1)]; exact hS.2.1 q h1 h2⟩⟩
end RowsX
abbrev eIAE : String := "java/lang/IllegalArgumentException"
abbrev eIOB : String := "java/lang/IndexOutOfBoundsException"
abbrev eISE : String := "java/lang/IllegalStateException"
theorem le_e {k : Int32} (h : 0 ≤ k.toInt ∧ k.toInt ≤ 4) : (leF k.toInt.toNat).toInt = vLo k ∧ (grF k.toInt.toNat).toInt = vHi k := by
  have hk : k = nI k.toInt.toNat := kN h.1
  have hj : k.toInt.toNat < 5 := by omega
  generalize k.toInt.toNat = j at hk hj ⊢
  subst hk
  rcases (by omega : j = 0 ∨ j = 1 ∨ j = 2 ∨ j = 3 ∨ j = 4) with e | e | e | e | e <;> subst e <;> decide
theorem am_am {z : ZZ} {a b : Nat} : zAm (zAm z a) b = zAm z b := by
  funext j
  show (if j = 3 then _ else if j = 3 then _ else z j) = if j = 3 then _ else z j
  split <;> rfl
