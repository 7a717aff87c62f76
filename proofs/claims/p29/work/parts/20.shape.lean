/-! THE SHAPE: the cells of the class and of the model by their places; q gives each place its address. 10 s + 0 .. 9: the state s (0 now, 1 trial, 2 .. 7 saved): State, settings, Outline, xs, ys, slips, Runs, corners, backward, sums; 80 PolarPlanimeter, 81 History, 82 its states, 83 Follower, 84 Arm, 85 Wheel, 86 Mean, 87 areas, 88 ascending, 89 leftOut, 90 TextReader, 91 xs, 92 ys, 93 buffer, 94 the model, 95 z, 96 saved, 97 text, 98 isOut, 99 read, 100 out -/
abbrev Sh : Type := List Nat × (Nat → Nat) × (Nat → Nat)
def kd (i : Nat) : Nat := if i < 80 then [6, 11, 4, 11, 11, 11, 5, 11, 13, 12].getD (i % 10) 0 else [9, 2, 14, 1, 0, 8, 3, 12, 12, 13, 7, 11, 11, 11, 11, 11, 11, 12].getD (i - 80) 0
def ln (i : Nat) : Nat := if i < 80 then [0, 5, 0, 20, 20, 20, 0, 12, 12, 12].getD (i % 10) 0 else [0, 0, 6, 0, 0, 0, 0, 12, 12, 12, 0, 20, 20, 60, 7, 27, 2, 3].getD (i - 80) 0
def ShpR (R : Nat → Nat → Option Nat) (q : Nat → Nat) : Prop := (∀ s, s < 8 → R (q (10 * s)) 3 = some (q (10 * s + 1)) ∧ R (q (10 * s)) 4 = some (q (10 * s + 2)) ∧ R (q (10 * s)) 5 = some (q (10 * s + 6)) ∧ R (q (10 * s + 2)) 1 = some (q (10 * s + 3)) ∧ R (q (10 * s + 2)) 2 = some (q (10 * s + 4)) ∧ R (q (10 * s + 2)) 3 = some (q (10 * s + 5)) ∧ R (q (10 * s + 6)) 1 = some (q (10 * s + 7)) ∧ R (q (10 * s + 6)) 2 = some (q (10 * s + 8)) ∧ R (q (10 * s + 6)) 3 = some (q (10 * s + 9))) ∧ R (q 80) 0 = some (q 0) ∧ R (q 80) 1 = some (q 10) ∧ R (q 80) 2 = some (q 81) ∧ R (q 80) 3 = some (q 83) ∧ R (q 80) 4 = some (q 86) ∧ R (q 80) 5 = some (q 90) ∧ R (q 80) 6 = some (q 93) ∧ R (q 81) 1 = some (q 82) ∧ R (q 83) 0 = some (q 84) ∧ R (q 83) 1 = some (q 85) ∧ R (q 86) 0 = some (q 87) ∧ R (q 86) 1 = some (q 88) ∧ R (q 86) 2 = some (q 89) ∧ R (q 90) 0 = some (q 91) ∧ R (q 90) 1 = some (q 92)
def Shp (sh : Sh) (R : Nat → Nat → Option Nat) (q : Nat → Nat) : Prop := (∀ i, i < 98 → Is sh (q i) (kd i)) ∧ (∀ i j, i < 98 → j < 98 → q i = q j → i = j) ∧ (∀ i, i < 98 → sh.2.2 (q i) = ln i) ∧ ShpR R q
section ShapeRows
variable {sh : Sh} {R : Nat → Nat → Option Nat} {q : Nat → Nat}
theorem qi80 (h : Shp sh R q) : Is sh (q 80) 9 := h.1 80 (by decide)
theorem qi81 (h : Shp sh R q) : Is sh (q 81) 2 := h.1 81 (by decide)
theorem qi82 (h : Shp sh R q) : Is sh (q 82) 14 := h.1 82 (by decide)
theorem qn82 (h : Shp sh R q) : sh.2.2 (q 82) = 6 := h.2.2.1 82 (by decide)
theorem qi83 (h : Shp sh R q) : Is sh (q 83) 1 := h.1 83 (by decide)
theorem qi84 (h : Shp sh R q) : Is sh (q 84) 0 := h.1 84 (by decide)
theorem qi85 (h : Shp sh R q) : Is sh (q 85) 8 := h.1 85 (by decide)
theorem qi86 (h : Shp sh R q) : Is sh (q 86) 3 := h.1 86 (by decide)
theorem qi87 (h : Shp sh R q) : Is sh (q 87) 12 := h.1 87 (by decide)
theorem qn87 (h : Shp sh R q) : sh.2.2 (q 87) = 12 := h.2.2.1 87 (by decide)
theorem qi88 (h : Shp sh R q) : Is sh (q 88) 12 := h.1 88 (by decide)
theorem qn88 (h : Shp sh R q) : sh.2.2 (q 88) = 12 := h.2.2.1 88 (by decide)
theorem qi89 (h : Shp sh R q) : Is sh (q 89) 13 := h.1 89 (by decide)
theorem qn89 (h : Shp sh R q) : sh.2.2 (q 89) = 12 := h.2.2.1 89 (by decide)
theorem qi90 (h : Shp sh R q) : Is sh (q 90) 7 := h.1 90 (by decide)
theorem qi91 (h : Shp sh R q) : Is sh (q 91) 11 := h.1 91 (by decide)
theorem qn91 (h : Shp sh R q) : sh.2.2 (q 91) = 20 := h.2.2.1 91 (by decide)
theorem qi92 (h : Shp sh R q) : Is sh (q 92) 11 := h.1 92 (by decide)
theorem qn92 (h : Shp sh R q) : sh.2.2 (q 92) = 20 := h.2.2.1 92 (by decide)
theorem qi93 (h : Shp sh R q) : Is sh (q 93) 11 := h.1 93 (by decide)
theorem qn93 (h : Shp sh R q) : sh.2.2 (q 93) = 60 := h.2.2.1 93 (by decide)
theorem qi94 (h : Shp sh R q) : Is sh (q 94) 11 := h.1 94 (by decide)
theorem qn94 (h : Shp sh R q) : sh.2.2 (q 94) = 7 := h.2.2.1 94 (by decide)
theorem qi95 (h : Shp sh R q) : Is sh (q 95) 11 := h.1 95 (by decide)
theorem qn95 (h : Shp sh R q) : sh.2.2 (q 95) = 27 := h.2.2.1 95 (by decide)
theorem qi96 (h : Shp sh R q) : Is sh (q 96) 11 := h.1 96 (by decide)
theorem qn96 (h : Shp sh R q) : sh.2.2 (q 96) = 2 := h.2.2.1 96 (by decide)
theorem qi97 (h : Shp sh R q) : Is sh (q 97) 12 := h.1 97 (by decide)
theorem qn97 (h : Shp sh R q) : sh.2.2 (q 97) = 3 := h.2.2.1 97 (by decide)
theorem qs0 (h : Shp sh R q) {s : Nat} (hs : s < 8) : Is sh (q (10 * s)) 6 := by have e := h.1 (10 * s + 0) (by omega); rw [show kd (10 * s + 0) = 6 by unfold kd; rw [if_pos (by omega), show (10 * s + 0) % 10 = 0 by omega]; rfl] at e; exact e
theorem qs1 (h : Shp sh R q) {s : Nat} (hs : s < 8) : Is sh (q (10 * s + 1)) 11 := by have e := h.1 (10 * s + 1) (by omega); rw [show kd (10 * s + 1) = 11 by unfold kd; rw [if_pos (by omega), show (10 * s + 1) % 10 = 1 by omega]; rfl] at e; exact e
theorem qm1 (h : Shp sh R q) {s : Nat} (hs : s < 8) : sh.2.2 (q (10 * s + 1)) = 5 := by have e := h.2.2.1 (10 * s + 1) (by omega); rw [show ln (10 * s + 1) = 5 by unfold ln; rw [if_pos (by omega), show (10 * s + 1) % 10 = 1 by omega]; rfl] at e; exact e
theorem qs2 (h : Shp sh R q) {s : Nat} (hs : s < 8) : Is sh (q (10 * s + 2)) 4 := by have e := h.1 (10 * s + 2) (by omega); rw [show kd (10 * s + 2) = 4 by unfold kd; rw [if_pos (by omega), show (10 * s + 2) % 10 = 2 by omega]; rfl] at e; exact e
theorem qs3 (h : Shp sh R q) {s : Nat} (hs : s < 8) : Is sh (q (10 * s + 3)) 11 := by have e := h.1 (10 * s + 3) (by omega); rw [show kd (10 * s + 3) = 11 by unfold kd; rw [if_pos (by omega), show (10 * s + 3) % 10 = 3 by omega]; rfl] at e; exact e
theorem qm3 (h : Shp sh R q) {s : Nat} (hs : s < 8) : sh.2.2 (q (10 * s + 3)) = 20 := by have e := h.2.2.1 (10 * s + 3) (by omega); rw [show ln (10 * s + 3) = 20 by unfold ln; rw [if_pos (by omega), show (10 * s + 3) % 10 = 3 by omega]; rfl] at e; exact e
theorem qs4 (h : Shp sh R q) {s : Nat} (hs : s < 8) : Is sh (q (10 * s + 4)) 11 := by have e := h.1 (10 * s + 4) (by omega); rw [show kd (10 * s + 4) = 11 by unfold kd; rw [if_pos (by omega), show (10 * s + 4) % 10 = 4 by omega]; rfl] at e; exact e
theorem qm4 (h : Shp sh R q) {s : Nat} (hs : s < 8) : sh.2.2 (q (10 * s + 4)) = 20 := by have e := h.2.2.1 (10 * s + 4) (by omega); rw [show ln (10 * s + 4) = 20 by unfold ln; rw [if_pos (by omega), show (10 * s + 4) % 10 = 4 by omega]; rfl] at e; exact e
theorem qs5 (h : Shp sh R q) {s : Nat} (hs : s < 8) : Is sh (q (10 * s + 5)) 11 := by have e := h.1 (10 * s + 5) (by omega); rw [show kd (10 * s + 5) = 11 by unfold kd; rw [if_pos (by omega), show (10 * s + 5) % 10 = 5 by omega]; rfl] at e; exact e
theorem qm5 (h : Shp sh R q) {s : Nat} (hs : s < 8) : sh.2.2 (q (10 * s + 5)) = 20 := by have e := h.2.2.1 (10 * s + 5) (by omega); rw [show ln (10 * s + 5) = 20 by unfold ln; rw [if_pos (by omega), show (10 * s + 5) % 10 = 5 by omega]; rfl] at e; exact e
theorem qs6 (h : Shp sh R q) {s : Nat} (hs : s < 8) : Is sh (q (10 * s + 6)) 5 := by have e := h.1 (10 * s + 6) (by omega); rw [show kd (10 * s + 6) = 5 by unfold kd; rw [if_pos (by omega), show (10 * s + 6) % 10 = 6 by omega]; rfl] at e; exact e
theorem qs7 (h : Shp sh R q) {s : Nat} (hs : s < 8) : Is sh (q (10 * s + 7)) 11 := by have e := h.1 (10 * s + 7) (by omega); rw [show kd (10 * s + 7) = 11 by unfold kd; rw [if_pos (by omega), show (10 * s + 7) % 10 = 7 by omega]; rfl] at e; exact e
theorem qm7 (h : Shp sh R q) {s : Nat} (hs : s < 8) : sh.2.2 (q (10 * s + 7)) = 12 := by have e := h.2.2.1 (10 * s + 7) (by omega); rw [show ln (10 * s + 7) = 12 by unfold ln; rw [if_pos (by omega), show (10 * s + 7) % 10 = 7 by omega]; rfl] at e; exact e
theorem qs8 (h : Shp sh R q) {s : Nat} (hs : s < 8) : Is sh (q (10 * s + 8)) 13 := by have e := h.1 (10 * s + 8) (by omega); rw [show kd (10 * s + 8) = 13 by unfold kd; rw [if_pos (by omega), show (10 * s + 8) % 10 = 8 by omega]; rfl] at e; exact e
theorem qm8 (h : Shp sh R q) {s : Nat} (hs : s < 8) : sh.2.2 (q (10 * s + 8)) = 12 := by have e := h.2.2.1 (10 * s + 8) (by omega); rw [show ln (10 * s + 8) = 12 by unfold ln; rw [if_pos (by omega), show (10 * s + 8) % 10 = 8 by omega]; rfl] at e; exact e
theorem qs9 (h : Shp sh R q) {s : Nat} (hs : s < 8) : Is sh (q (10 * s + 9)) 12 := by have e := h.1 (10 * s + 9) (by omega); rw [show kd (10 * s + 9) = 12 by unfold kd; rw [if_pos (by omega), show (10 * s + 9) % 10 = 9 by omega]; rfl] at e; exact e
theorem qm9 (h : Shp sh R q) {s : Nat} (hs : s < 8) : sh.2.2 (q (10 * s + 9)) = 12 := by have e := h.2.2.1 (10 * s + 9) (by omega); rw [show ln (10 * s + 9) = 12 by unfold ln; rw [if_pos (by omega), show (10 * s + 9) % 10 = 9 by omega]; rfl] at e; exact e
theorem qt0_3 (h : Shp sh R q) {s : Nat} (hs : s < 8) : R (q (10 * s)) 3 = some (q (10 * s + 1)) := (h.2.2.2.1 s hs).1
theorem qt0_4 (h : Shp sh R q) {s : Nat} (hs : s < 8) : R (q (10 * s)) 4 = some (q (10 * s + 2)) := (h.2.2.2.1 s hs).2.1
theorem qt0_5 (h : Shp sh R q) {s : Nat} (hs : s < 8) : R (q (10 * s)) 5 = some (q (10 * s + 6)) := (h.2.2.2.1 s hs).2.2.1
theorem qt2_1 (h : Shp sh R q) {s : Nat} (hs : s < 8) : R (q (10 * s + 2)) 1 = some (q (10 * s + 3)) := (h.2.2.2.1 s hs).2.2.2.1
theorem qt2_2 (h : Shp sh R q) {s : Nat} (hs : s < 8) : R (q (10 * s + 2)) 2 = some (q (10 * s + 4)) := (h.2.2.2.1 s hs).2.2.2.2.1
theorem qt2_3 (h : Shp sh R q) {s : Nat} (hs : s < 8) : R (q (10 * s + 2)) 3 = some (q (10 * s + 5)) := (h.2.2.2.1 s hs).2.2.2.2.2.1
theorem qt6_1 (h : Shp sh R q) {s : Nat} (hs : s < 8) : R (q (10 * s + 6)) 1 = some (q (10 * s + 7)) := (h.2.2.2.1 s hs).2.2.2.2.2.2.1
theorem qt6_2 (h : Shp sh R q) {s : Nat} (hs : s < 8) : R (q (10 * s + 6)) 2 = some (q (10 * s + 8)) := (h.2.2.2.1 s hs).2.2.2.2.2.2.2.1
theorem qt6_3 (h : Shp sh R q) {s : Nat} (hs : s < 8) : R (q (10 * s + 6)) 3 = some (q (10 * s + 9)) := (h.2.2.2.1 s hs).2.2.2.2.2.2.2.2
theorem qr80_0 (h : Shp sh R q) : R (q 80) 0 = some (q 0) := h.2.2.2.2.1
theorem qr80_1 (h : Shp sh R q) : R (q 80) 1 = some (q 10) := h.2.2.2.2.2.1
theorem qr80_2 (h : Shp sh R q) : R (q 80) 2 = some (q 81) := h.2.2.2.2.2.2.1
theorem qr80_3 (h : Shp sh R q) : R (q 80) 3 = some (q 83) := h.2.2.2.2.2.2.2.1
theorem qr80_4 (h : Shp sh R q) : R (q 80) 4 = some (q 86) := h.2.2.2.2.2.2.2.2.1
theorem qr80_5 (h : Shp sh R q) : R (q 80) 5 = some (q 90) := h.2.2.2.2.2.2.2.2.2.1
theorem qr80_6 (h : Shp sh R q) : R (q 80) 6 = some (q 93) := h.2.2.2.2.2.2.2.2.2.2.1
theorem qr81_1 (h : Shp sh R q) : R (q 81) 1 = some (q 82) := h.2.2.2.2.2.2.2.2.2.2.2.1
theorem qr83_0 (h : Shp sh R q) : R (q 83) 0 = some (q 84) := h.2.2.2.2.2.2.2.2.2.2.2.2.1
theorem qr83_1 (h : Shp sh R q) : R (q 83) 1 = some (q 85) := h.2.2.2.2.2.2.2.2.2.2.2.2.2.1
theorem qr86_0 (h : Shp sh R q) : R (q 86) 0 = some (q 87) := h.2.2.2.2.2.2.2.2.2.2.2.2.2.2.1
theorem qr86_1 (h : Shp sh R q) : R (q 86) 1 = some (q 88) := h.2.2.2.2.2.2.2.2.2.2.2.2.2.2.2.1
theorem qr86_2 (h : Shp sh R q) : R (q 86) 2 = some (q 89) := h.2.2.2.2.2.2.2.2.2.2.2.2.2.2.2.2.1
theorem qr90_0 (h : Shp sh R q) : R (q 90) 0 = some (q 91) := h.2.2.2.2.2.2.2.2.2.2.2.2.2.2.2.2.2.1
theorem qr90_1 (h : Shp sh R q) : R (q 90) 1 = some (q 92) := h.2.2.2.2.2.2.2.2.2.2.2.2.2.2.2.2.2.2
theorem qne (h : Shp sh R q) {i j : Nat} (hi : i < 98) (hj : j < 98) (n : i ≠ j) : q i ≠ q j := fun e => n (h.2.1 i j hi hj e)
end ShapeRows
/-- what a call leaves as it was: the shape, the references, and all cells but those at the places l -/
def Fr (S S' : PS) (q : Nat → Nat) (l : List Nat) : Prop := S'.1 = S.1 ∧ S'.2.1 = S.2.1 ∧ ∀ i, i < 98 → i ∉ l → pI S' (q i) = pI S (q i) ∧ pJ S' (q i) = pJ S (q i)
theorem Fr.rf {S : PS} {q : Nat → Nat} {l : List Nat} : Fr S S q l := ⟨rfl, rfl, fun _ _ _ => ⟨rfl, rfl⟩⟩
theorem Fr.q {S S' : PS} {q : Nat → Nat} {l : List Nat} (h : Fr S S' q l) (hq : Shp S.1 S.2.1 q) : Shp S'.1 S'.2.1 q := by rw [h.1, h.2.1]; exact hq
theorem Fr.tr {S S' S2 : PS} {q : Nat → Nat} {l l2 l3 : List Nat} (h : Fr S S' q l) (h2 : Fr S' S2 q l2) (hl : ∀ i, i ∈ l → i ∈ l3) (hl2 : ∀ i, i ∈ l2 → i ∈ l3) : Fr S S2 q l3 := by
  refine ⟨h2.1.trans h.1, h2.2.1.trans h.2.1, fun i hi hn => ?_⟩
  obtain ⟨a, b⟩ := h.2.2 i hi (fun z => hn (hl i z))
  obtain ⟨a2, b2⟩ := h2.2.2 i hi (fun z => hn (hl2 i z))
  exact ⟨a2.trans a, b2.trans b⟩
theorem Fr.up {S S' : PS} {q : Nat → Nat} {l l3 : List Nat} (h : Fr S S' q l) (hl : ∀ i, i ∈ l → i ∈ l3) : Fr S S' q l3 := ⟨h.1, h.2.1, fun i hi hn => h.2.2 i hi (fun z => hn (hl i z))⟩
theorem Fr.wI {S S' : PS} {q : Nat → Nat} {l : List Nat} {j k : Nat} {v : Int32} (hq : Shp S.1 S.2.1 q) (h : Fr S S' q l) (hj : j < 98) (hl : j ∈ l) : Fr S (wI S' (q j) k v) q l := by
  refine ⟨h.1, h.2.1, fun i hi hn => ⟨?_, (h.2.2 i hi hn).2⟩⟩
  rw [← (h.2.2 i hi hn).1]
  exact up2_r (qne hq hi hj (fun e => hn (e ▸ hl)))
theorem Fr.wJ {S S' : PS} {q : Nat → Nat} {l : List Nat} {j k : Nat} {v : Int64} (hq : Shp S.1 S.2.1 q) (h : Fr S S' q l) (hj : j < 98) (hl : j ∈ l) : Fr S (wJ S' (q j) k v) q l := by
  refine ⟨h.1, h.2.1, fun i hi hn => ⟨(h.2.2 i hi hn).1, ?_⟩⟩
  rw [← (h.2.2 i hi hn).2]
  exact up2_r (qne hq hi hj (fun e => hn (e ▸ hl)))
/-- what a method answers -/
abbrev pI9 (P : Int32 → PS → Prop) : Option Value → PS → Prop := fun v S' => ∃ r : Int32, v = some (.int r) ∧ P r S'
abbrev pJ9 (P : Int64 → PS → Prop) : Option Value → PS → Prop := fun v S' => ∃ r : Int64, v = some (.long r) ∧ P r S'
abbrev pD9 (P : UInt64 → PS → Prop) : Option Value → PS → Prop := fun v S' => ∃ r : UInt64, v = some (.double r) ∧ P r S'
abbrev pV9 (P : PS → Prop) : Option Value → PS → Prop := fun v S' => v = none ∧ P S'
section ToK
variable {Γ : Ctx} {c n pc : Nat} {L : List (Nat × Value)} {st : List Value}
theorem toI {P : Int32 → PS → Prop} (k : ∀ r S', P r S' → G Γ S' c n pc L (.int r :: st)) : ∀ v S', pI9 P v S' → G Γ S' c n pc L (v.toList ++ st) := by
  rintro v S' ⟨r, rfl, h⟩
  exact k r S' h
theorem toJ {P : Int64 → PS → Prop} (k : ∀ r S', P r S' → G Γ S' c n pc L (.long r :: st)) : ∀ v S', pJ9 P v S' → G Γ S' c n pc L (v.toList ++ st) := by
  rintro v S' ⟨r, rfl, h⟩
  exact k r S' h
theorem toD {P : UInt64 → PS → Prop} (k : ∀ r S', P r S' → G Γ S' c n pc L (.double r :: st)) : ∀ v S', pD9 P v S' → G Γ S' c n pc L (v.toList ++ st) := by
  rintro v S' ⟨r, rfl, h⟩
  exact k r S' h
theorem toV {P : PS → Prop} (k : ∀ S', P S' → G Γ S' c n pc L st) : ∀ v S', pV9 P v S' → G Γ S' c n pc L (v.toList ++ st) := by
  rintro v S' ⟨rfl, h⟩
  exact k S' h
end ToK
section MathK
variable {Γ : Ctx} {own : String} {cc : ByteArray} {rm : Room × Nat} {S : PS} {c n pc idx : Nat} {L : List (Nat × Value)} {st : List Value}
theorem g_mmax {x y : Int32} (F : Fx Γ own cc rm) (hl0 : Cond.methodLink own idx Lib.Math.max.name ∈ wsL_law) (hR : 1 ≤ rm.1.frames ∧ (st.map fun v => v.category).sum + 15 ≤ rm.1.locals) (hc : c ≤ rm.1.cells ∧ n ≤ rm.1.slots) (d : decode cc pc = .ok (.invokestatic idx, 3)) (k9 : G Γ S c n (pc + 3) L (.int (if x < y then y else x) :: st)) : G Γ S c n pc L (.int y :: .int x :: st) := fun H locs ls hP hD hS hl => va_mmax F.x F.b (by rw [F.ml]; exact hl.1.symm) F.o (F.w _ hl0) (F.w _ mw157) (F.w _ mw154) (F.w _ mw158) (by rw [F.r]; exact hR.1) (by have := hR.2; rw [F.r]; omega) (by rw [F.r]; exact hc.1) (by rw [F.r]; exact hc.2) d (k9 H locs ls hP hD hS hl)
theorem g_mmin {x y : Int32} (F : Fx Γ own cc rm) (hl0 : Cond.methodLink own idx Lib.Math.min.name ∈ wsL_law) (hR : 1 ≤ rm.1.frames ∧ (st.map fun v => v.category).sum + 15 ≤ rm.1.locals) (hc : c ≤ rm.1.cells ∧ n ≤ rm.1.slots) (d : decode cc pc = .ok (.invokestatic idx, 3)) (k9 : G Γ S c n (pc + 3) L (.int (if y < x then y else x) :: st)) : G Γ S c n pc L (.int y :: .int x :: st) := fun H locs ls hP hD hS hl => va_mmin F.x F.b (by rw [F.ml]; exact hl.1.symm) F.o (F.w _ hl0) (F.w _ mw293) (F.w _ mw154) (F.w _ mw294) (by rw [F.r]; exact hR.1) (by have := hR.2; rw [F.r]; omega) (by rw [F.r]; exact hc.1) (by rw [F.r]; exact hc.2) d (k9 H locs ls hP hD hS hl)
theorem g_mabs {x : Int32} (F : Fx Γ own cc rm) (hl0 : Cond.methodLink own idx Lib.Math.abs.name ∈ wsL_law) (hR : 1 ≤ rm.1.frames ∧ (st.map fun v => v.category).sum + 15 ≤ rm.1.locals) (hc : c ≤ rm.1.cells ∧ n ≤ rm.1.slots) (d : decode cc pc = .ok (.invokestatic idx, 3)) (k9 : G Γ S c n (pc + 3) L (.int (if 0 ≤ x then x else 0 - x) :: st)) : G Γ S c n pc L (.int x :: st) := fun H locs ls hP hD hS hl => va_mabs F.x F.b (by rw [F.ml]; exact hl.1.symm) F.o (F.w _ hl0) (F.w _ mw153) (F.w _ mw154) (F.w _ mw155) (by rw [F.r]; exact hR.1) (by have := hR.2; rw [F.r]; omega) (by rw [F.r]; exact hc.1) (by rw [F.r]; exact hc.2) d (k9 H locs ls hP hD hS hl)
theorem g_mmaxL {x y : Int64} (F : Fx Γ own cc rm) (hl0 : Cond.methodLink own idx Lib.MathLoose.max_long.x ∈ wsL_law) (hR : 1 ≤ rm.1.frames ∧ (st.map fun v => v.category).sum + 15 ≤ rm.1.locals) (hc : c ≤ rm.1.cells ∧ n ≤ rm.1.slots) (d : decode cc pc = .ok (.invokestatic idx, 3)) (k9 : G Γ S c n (pc + 3) L (.long (if y < x then x else y) :: st)) : G Γ S c n pc L (.long y :: .long x :: st) := fun H locs ls hP hD hS hl => va_mmax_long F.x F.b (by rw [F.ml]; exact hl.1.symm) F.o (F.w _ hl0) (F.w _ mw160) (F.w _ mw154) (F.w _ mw161) (by rw [F.r]; exact hR.1) (by have := hR.2; rw [F.r]; omega) (by rw [F.r]; exact hc.1) (by rw [F.r]; exact hc.2) d (k9 H locs ls hP hD hS hl)
theorem g_mminL {x y : Int64} (F : Fx Γ own cc rm) (hl0 : Cond.methodLink own idx Lib.MathLoose.min_long.x ∈ wsL_law) (hR : 1 ≤ rm.1.frames ∧ (st.map fun v => v.category).sum + 15 ≤ rm.1.locals) (hc : c ≤ rm.1.cells ∧ n ≤ rm.1.slots) (d : decode cc pc = .ok (.invokestatic idx, 3)) (k9 : G Γ S c n (pc + 3) L (.long (if y < x then y else x) :: st)) : G Γ S c n pc L (.long y :: .long x :: st) := fun H locs ls hP hD hS hl => va_mmin_long F.x F.b (by rw [F.ml]; exact hl.1.symm) F.o (F.w _ hl0) (F.w _ mw193) (F.w _ mw154) (F.w _ mw194) (by rw [F.r]; exact hR.1) (by have := hR.2; rw [F.r]; omega) (by rw [F.r]; exact hc.1) (by rw [F.r]; exact hc.2) d (k9 H locs ls hP hD hS hl)
theorem g_mabsL {x : Int64} (F : Fx Γ own cc rm) (hl0 : Cond.methodLink own idx Lib.MathLoose.abs_long.x ∈ wsL_law) (hR : 1 ≤ rm.1.frames ∧ (st.map fun v => v.category).sum + 15 ≤ rm.1.locals) (hc : c ≤ rm.1.cells ∧ n ≤ rm.1.slots) (d : decode cc pc = .ok (.invokestatic idx, 3)) (k9 : G Γ S c n (pc + 3) L (.long (if 0 < x then x else -x) :: st)) : G Γ S c n pc L (.long x :: st) := fun H locs ls hP hD hS hl => va_mabs_long F.x F.b (by rw [F.ml]; exact hl.1.symm) F.o (F.w _ hl0) (F.w _ mw230) (F.w _ mw154) (F.w _ mw231) (by rw [F.r]; exact hR.1) (by have := hR.2; rw [F.r]; omega) (by rw [F.r]; exact hc.1) (by rw [F.r]; exact hc.2) d (k9 H locs ls hP hD hS hl)
end MathK
