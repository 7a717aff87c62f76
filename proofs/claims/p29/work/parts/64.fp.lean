section RowsD
variable {Γ : Ctx} {own : String} {cc : ByteArray} {rm : Room × Nat} {S : PS} {c n pc : Nat} {L L' : List (Nat × Value)} {st : List Value}
theorem g_dconst0 (F : Fx Γ own cc rm) (d : decode cc pc = .ok (.dconst 0, 1)) (k9 : G Γ S c n (pc + 1) L (.double FP.dconst0 :: st)) : G Γ S c n pc L st := fun H locs ls hP hD hS hl => lv_dconst0 F.x F.b d (k9 H locs ls hP hD hS hl)
theorem g_dconst1 (F : Fx Γ own cc rm) (d : decode cc pc = .ok (.dconst 1, 1)) (k9 : G Γ S c n (pc + 1) L (.double FP.dconst1 :: st)) : G Γ S c n pc L st := fun H locs ls hP hD hS hl => lv_dconst1 F.x F.b d (k9 H locs ls hP hD hS hl)
theorem g_topd {x : UInt64} (k9 : ∀ y : UInt64, y = x → G Γ S c n pc L (.double y :: st)) : G Γ S c n pc L (.double x :: st) := k9 x rfl
theorem g_raw {idx : Nat} {b : UInt64} (F : Fx Γ own cc rm) (h1 : Cond.methodLink own idx ⟨"java/lang/Double", "doubleToRawLongBits", "(D)J"⟩ ∈ wsL_law) (h2 : Cond.native ⟨"java/lang/Double", "doubleToRawLongBits", "(D)J"⟩ ∈ wsL_law) (h3 : Cond.static ⟨"java/lang/Double", "doubleToRawLongBits", "(D)J"⟩ ∈ wsL_law) (h4 : Cond.initialized "java/lang/Double" ∈ wsL_law) (hR : 1 ≤ rm.1.frames ∧ (st.map fun v => v.category).sum + (nativeFrameWords "java/lang/Double" "doubleToRawLongBits" 2 + 11) ≤ rm.1.locals) (d : decode cc pc = .ok (.invokestatic idx, 3)) (k9 : G Γ S c n (pc + 3) L (.long b.toInt64 :: st)) : G Γ S c n pc L (.double b :: st) := by
  intro H locs ls hP hD hS hl T hT X
  obtain ⟨r, kS, methS, hnS, hmS, hkS, N⟩ := NativeOf.of_static (F.w _ h2) (F.w _ h3) (ps := [.double]) (ret := some .long) (by decide +kernel)
  have hini := Cond.initialized_spec (findClass_of_methodNamed hnS) hkS (F.w _ h4)
  obtain ⟨vm', X', step⟩ := X.invokestatic F.x F.o (F.w _ h1) hnS hmS N.static hkS hini (by decide) (g := F0 (km Γ) pc ls (.double b :: st)) rfl (argsL := [.double b]) (rest := st) (by rw [N.sig]; rfl) rfl (by rw [F.b]; exact d)
  obtain ⟨t, a1, b1⟩ := k9 H locs ls hP hD hS hl (T.setVm vm') hT X'
  refine ⟨t, step t fun acts => ?_, b1⟩
  obtain ⟨kS', N'⟩ := N.alike X'.warmed.alike
  exact Steps.doubleToRawLongBitsOf (g := F0 (km Γ) pc ls st) (ig := .invokestatic idx) (len := 3) (kp Γ) X'.here acts N' b (X'.notFull (g := F0 (km Γ) pc ls st) (by rw [F.ml]; exact hl.1) (vars := nativeFrameWords "java/lang/Double" "doubleToRawLongBits" 2) (by rw [F.r]; exact hR.1) (by rw [F.r]; show 2 * 0 + (st.map fun v => v.category).sum + _ ≤ _; have := hR.2; omega)) (by rw [F.b]; exact d) a1
end RowsD
theorem vf_of {r : UInt64} (h : FP.Core.val64 r ≠ .nan) : vf_n64 r := by
  unfold vf_n64
  rw [UInt64.le_iff_toNat_le, FP.Core.mask_toNat]
  exact (FP.Core.ne_nan r).mp h
theorem one9 (D : Int64) : FP.dmul FP.dconst1 (FP.l2d D) = FP.l2d D := FP.Core.one_dmul (FP.Core.l2d_notNaN D)
theorem rr_nn {f : FP.Core.Fmt} {s : Bool} {a b : Nat} {e : Int} : FP.Core.roundRatio f s a b e ≠ .nan := by
  unfold FP.Core.roundRatio
  split
  · intro h; cases h
  · unfold FP.Core.roundAt FP.Core.settle FP.Core.bound
    split <;> split <;> intro h <;> cases h
theorem dv_nn {D A : Int64} (hA : ¬ A = 0) (hs : FP.Core.Small53 A) : FP.Core.val64 (FP.ddiv (FP.l2d D) (FP.l2d A)) ≠ .nan := by
  show FP.Core.val64 (FP.Core.ddiv (FP.Core.l2d D) (FP.Core.l2d A)) ≠ .nan
  rw [FP.Core.val64_ddiv]
  obtain ⟨c, q, h1⟩ := FP.Core.l2d_shape D
  obtain ⟨d, r, h2⟩ := FP.Core.l2d_shape A
  have hw := FP.Core.l2d_whole hs
  rw [h2] at hw
  have hd : ¬ d = 0 := fun e => hA (Int64.toInt_inj.mp ((FP.Core.whole_zero hw).mp e))
  rw [h1, h2]
  show (if d = 0 then _ else FP.Core.roundRatio _ _ _ _ _) ≠ _
  rw [if_neg hd]
  exact rr_nn
theorem vf_one {D : Int64} : vf_n64 (FP.dmul FP.dconst1 (FP.l2d D)) := by
  rw [one9]
  exact vf_of ((FP.Core.notNaN_iff _).mp (FP.Core.l2d_notNaN D))
theorem vf_div1 {D A : Int64} (hA : ¬ A = 0) (hs : FP.Core.Small53 A) : vf_n64 (FP.ddiv (FP.dmul FP.dconst1 (FP.l2d D)) (FP.l2d A)) := by
  rw [one9]
  exact vf_of (dv_nn hA hs)
theorem sumF_b {f : Nat → Int64} {B : Int} (hB : 0 ≤ B ∧ B ≤ 100000000000) (h : ∀ i, -B ≤ (f i).toInt ∧ (f i).toInt ≤ B) : ∀ n : Nat, n ≤ 1000 → -(B * n) ≤ (sumF f n).toInt ∧ (sumF f n).toInt ≤ B * n
  | 0, _ => by show _ ≤ (0 : Int64).toInt ∧ (0 : Int64).toInt ≤ _; rw [L0_0]; omega
  | n + 1, hn => by
    have ih := sumF_b hB h n (by omega)
    have h1 := h n
    have e : B * ((n + 1 : Nat) : Int) = B * n + B := by rw [Int.natCast_add, Int.mul_add]; omega
    have h2 : B * (n : Int) ≤ 100000000000 * 1000 := Int.mul_le_mul hB.2 (by omega) (by omega) (by omega)
    show _ ≤ (sumF f n + f n).toInt ∧ (sumF f n + f n).toInt ≤ _
    rw [e, L_add (by omega) (by omega)]
    omega
theorem tw_t {a b : Int64} (ha : wtn a (-1000) 1000) (hb : wtn b (-1000) 1000) : (a * b).toInt = a.toInt * b.toInt ∧ -1000000 ≤ (a * b).toInt ∧ (a * b).toInt ≤ 1000000 := by
  unfold wtn at ha hb
  have := mulb (a := a.toInt) (b := b.toInt) (A := 1000) (B := 1000) (by omega) (by omega) (by omega) (by omega)
  have e : (a * b).toInt = a.toInt * b.toInt := by rw [L_mul] <;> omega
  exact ⟨e, by omega, by omega⟩
theorem tw_b {z : ZZ} (hB : Bz z) : -40000000 ≤ (zTw z).toInt ∧ (zTw z).toInt ≤ 40000000 := by
  have hn := (nc_e hB).2
  rcases Nat.eq_zero_or_pos (nc z) with h | h
  · unfold zTw
    rw [h]
    show _ ≤ (0 : Int64).toInt ∧ (0 : Int64).toInt ≤ _
    rw [L0_0]; omega
  · have := sumF_b (f := fun k => zX z k * zY z (k + 1) - zX z (k + 1) * zY z k) (B := 2000000) (by omega) (fun i => by
      obtain ⟨-, a1, a2⟩ := tw_t (zX_b hB h i) (zY_b hB h (i + 1))
      obtain ⟨-, b1, b2⟩ := tw_t (zX_b hB h (i + 1)) (zY_b hB h i)
      show -2000000 ≤ (zX z i * zY z (i + 1) - zX z (i + 1) * zY z i).toInt ∧ (zX z i * zY z (i + 1) - zX z (i + 1) * zY z i).toInt ≤ 2000000
      rw [L_sub (by omega) (by omega)]
      omega) (nc z) (by omega)
    unfold zTw
    omega
theorem tw_2 {z : ZZ} (hB : Bz z) : (zTw z / 2).toInt = (zTw z).toInt.tdiv 2 ∧ -20000000 ≤ (zTw z / 2).toInt ∧ (zTw z / 2).toInt ≤ 20000000 := by
  have h := tw_b hB
  have hq := tdiv_q (a := (zTw z).toInt) (b := 2) (B := 20000000) (by omega) (by omega)
  have e : (zTw z / 2).toInt = (zTw z).toInt.tdiv 2 := by
    rw [Int64.toInt_div, show (2 : Int64).toInt = 2 by decide, Int.bmod_def]; omega
  exact ⟨e, by omega, by omega⟩
theorem tw_s {z : ZZ} (hB : Bz z) : FP.Core.Small53 (zTw z / 2) := by
  have := tw_2 hB
  unfold FP.Core.Small53
  omega
/-- the error of the mean -/
def zEr (z : ZZ) : UInt64 := if z 69 = 0 ∨ zTw z / 2 = 0 then FP.dconst0 else FP.ddiv (FP.l2d (zDi z)) (FP.l2d (zTw z / 2))
theorem zEr_nn {z : ZZ} (hB : Bz z) : FP.Core.val64 (zEr z) ≠ .nan := by
  unfold zEr
  split
  · show FP.Core.val64 FP.Core.dconst0 ≠ .nan
    rw [FP.Core.val64_dconst0]
    intro h; cases h
  · next g => exact dv_nn (fun h => g (.inr h)) (tw_s hB)
theorem cmp_self {v : UInt64} {op : CmpOp} (h : FP.Core.val64 v ≠ .nan) : Op.cmpValue (FP.dcmp v v) op = 0 := by
  rw [show FP.dcmp v v = some .eq from FP.Core.dcmp_self h]
  rfl
/-- the digest -/
def mixF (f : Nat → Int64) : Nat → Int64 → Int64 := fun n h => foldF (fun i h => 31 * h + f i) n h
def oErr (w : WW) : Int32 × UInt64 := (0, zEr w.1)
noncomputable def oLea (w : WW) : Int32 × Int32 := (0, zLe w.1)
noncomputable def zD1 (w : WW) : Int64 := mixF (fun i => zCt w.1 w.2.1.length (nI i)) 15 2113
noncomputable def zD2 (w : WW) : Int64 := mixF (fun i => w.1 (2 + i)) 5 (zD1 w)
noncomputable def zD3 (w : WW) : Int64 := mixF (fun i => zCn w.1 (i / 6) (nI (i % 6))) (6 * nc w.1) (zD2 w)
noncomputable def zD4 (w : WW) (n : Nat) : Int64 := foldF (fun r h => mixF (fun k => zMn w.1 r (nI k)) 6 h) n (zD3 w)
noncomputable def zD5 (w : WW) : Int64 := 31 * (31 * (31 * (31 * zD4 w (nr w.1) + (zLe w.1).toInt64) + (zEr w.1).toInt64) + w.2.2.1.toInt64) + (nI w.2.2.2.1).toInt64
noncomputable def zDg (w : WW) : Int64 := mixF (fun i => (w.2.2.2.2 i).toInt64) w.2.2.2.1 (zD5 w)
noncomputable def oDig (w : WW) : Int32 × Int64 := (0, zDg w)
