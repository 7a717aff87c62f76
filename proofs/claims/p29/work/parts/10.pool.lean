/-! THE POOL: one memory for all cells, by address and slot; shape (addresses, kinds, lengths), references, ints, longs -/
abbrev PS : Type := (List Nat × (Nat → Nat) × (Nat → Nat)) × (Nat → Nat → Option Nat) × (Nat → Nat → Int32) × (Nat → Nat → Int64)
abbrev pL (S : PS) : List Nat := S.1.1
abbrev pK (S : PS) : Nat → Nat := S.1.2.1
abbrev pN (S : PS) : Nat → Nat := S.1.2.2
abbrev pR (S : PS) : Nat → Nat → Option Nat := S.2.1
abbrev pI (S : PS) : Nat → Nat → Int32 := S.2.2.1
abbrev pJ (S : PS) : Nat → Nat → Int64 := S.2.2.2
def up2 {α : Type} (f : Nat → Nat → α) (a k : Nat) (v : α) : Nat → Nat → α := fun b j => if b = a then (if j = k then v else f b j) else f b j
def upr {α : Type} (f : Nat → Nat → α) (a : Nat) (g : Nat → α) : Nat → Nat → α := fun b => if b = a then g else f b
abbrev wI (S : PS) (a k : Nat) (v : Int32) : PS := (S.1, S.2.1, up2 S.2.2.1 a k v, S.2.2.2)
abbrev wJ (S : PS) (a k : Nat) (v : Int64) : PS := (S.1, S.2.1, S.2.2.1, up2 S.2.2.2 a k v)
abbrev wR (S : PS) (a k : Nat) (v : Option Nat) : PS := (S.1, up2 S.2.1 a k v, S.2.2.1, S.2.2.2)
abbrev wIr (S : PS) (a : Nat) (g : Nat → Int32) : PS := (S.1, S.2.1, upr S.2.2.1 a g, S.2.2.2)
theorem up2_s {α : Type} {f : Nat → Nat → α} {a k : Nat} {v : α} : up2 f a k v a k = v := by simp [up2]
theorem up2_a {α : Type} {f : Nat → Nat → α} {a k b j : Nat} {v : α} (h : b ≠ a) : up2 f a k v b j = f b j := by simp [up2, h]
theorem up2_k {α : Type} {f : Nat → Nat → α} {a k b j : Nat} {v : α} (h : j ≠ k) : up2 f a k v b j = f b j := by simp [up2, h]
theorem up2_r {α : Type} {f : Nat → Nat → α} {a k b : Nat} {v : α} (h : b ≠ a) : up2 f a k v b = f b := by funext j; simp [up2, h]
theorem up2_upd {f : Nat → Nat → Int32} {a k : Nat} {v : Int32} : up2 f a k v a = upd (f a) k v := by funext j; simp [up2, upd]
theorem up2_updL {f : Nat → Nat → Int64} {a k : Nat} {v : Int64} : up2 f a k v a = vp_updL (f a) k v := by funext j; simp [up2, vp_updL]
theorem up2_up {α : Type} {f : Nat → Nat → α} {a k : Nat} {v : α} : up2 f a k v a = va_up (f a) k v := by funext j; simp [up2, va_up]
theorem upr_s {α : Type} {f : Nat → Nat → α} {a : Nat} {g : Nat → α} : upr f a g a = g := by simp [upr]
theorem upr_a {α : Type} {f : Nat → Nat → α} {a b : Nat} {g : Nat → α} (h : b ≠ a) : upr f a g b = f b := by simp [upr, h]
/-- how many fields, and of which type each: 0 int or boolean, 1 long, 2 reference -/
def nf (c : Nat) : Nat := [9, 4, 2, 6, 4, 4, 6, 7, 3, 9, 18].getD c 0
def ftl (c : Nat) : List Nat := [[1, 1, 1, 1, 0, 1, 1, 1, 1], [2, 2, 1, 1], [0, 2], [2, 2, 2, 0, 0, 1], [0, 2, 2, 2], [0, 2, 2, 2], [0, 0, 0, 2, 2, 2], [2, 2, 0, 0, 0, 0, 0], [1, 1, 1], [2, 2, 2, 2, 2, 2, 2, 0, 0], [0, 2, 0, 2, 0, 0, 2, 1, 1, 1, 1, 2, 0, 0, 0, 0, 2, 1]].getD c []
def ft (c k : Nat) : Nat := (ftl c).getD k 0
def fv (t : Nat) (S : PS) (a k : Nat) : Value := if t = 0 then .int (pI S a k) else if t = 1 then .long (pJ S a k) else va_rf (pR S a k)
def cF (c : Nat) (S : PS) (a : Nat) : List Value := (List.range (nf c)).map (fun k => fv (ft c k) S a k)
abbrev Cy : Type := ClassId × ClassId × ClassId × ClassId
def cE (cy : Cy) (S : PS) (a : Nat) : va_E :=
  if pK S a < 11 then .inr (pK S a, cF (pK S a) S a)
  else if pK S a = 11 then .inl (cy.1, pN S a, .inl (pI S a))
  else if pK S a = 12 then .inl (cy.2.1, pN S a, .inr (.inl (pJ S a)))
  else if pK S a = 13 then .inl (cy.2.2.1, pN S a, .inl (pI S a))
  else .inl (cy.2.2.2, pN S a, .inr (.inr (.inr (.inr (pR S a)))))
def mP (cy : Cy) (S : PS) : va_W := va_pl (pL S) (cE cy S)
def mT (cy : Cy) : List (ClassId × FieldType) := [(cy.1, .int), (cy.2.1, .long), (cy.2.2.1, .boolean), (cy.2.2.2, .object "PolarPlanimeter$State")]
theorem mP_nil (cy : Cy) (S : PS) : mP cy S = [] ++ va_pl (pL S) (cE cy S) := rfl
theorem cE_o {cy : Cy} {S : PS} {a c : Nat} (h : pK S a = c) (hc : c < 11) : cE cy S a = .inr (c, cF c S a) := by simp [cE, h, hc]
theorem cE_i {cy : Cy} {S : PS} {a : Nat} (h : pK S a = 11) : cE cy S a = .inl (cy.1, pN S a, .inl (pI S a)) := by simp [cE, h]
theorem cE_j {cy : Cy} {S : PS} {a : Nat} (h : pK S a = 12) : cE cy S a = .inl (cy.2.1, pN S a, .inr (.inl (pJ S a))) := by simp [cE, h]
theorem cE_z {cy : Cy} {S : PS} {a : Nat} (h : pK S a = 13) : cE cy S a = .inl (cy.2.2.1, pN S a, .inl (pI S a)) := by simp [cE, h]
theorem cE_q {cy : Cy} {S : PS} {a : Nat} (h : pK S a = 14) : cE cy S a = .inl (cy.2.2.2, pN S a, .inr (.inr (.inr (.inr (pR S a))))) := by simp [cE, h]
theorem cF_get {c : Nat} {S : PS} {a k : Nat} (hk : k < nf c) : (cF c S a)[k]? = some (fv (ft c k) S a k) := by simp [cF, List.getElem?_map, List.getElem?_range hk]
theorem cF_len {c : Nat} {S : PS} {a : Nat} : (cF c S a).length = nf c := by simp [cF]
theorem mP_at {cy : Cy} {S : PS} {a : Nat} {e : va_E} (hL : a ∈ pL S) (he : cE cy S a = e) : ∃ k : Nat, (mP cy S)[k]? = some (a, e) ∧ (mP cy S)[k]? = some (a, cE cy S a) := by
  obtain ⟨k, hk⟩ := va_pl_get (X := []) (f := cE cy S) hL
  exact ⟨k, by rw [← he]; exact hk, hk⟩
theorem mP_put {cy : Cy} {S S' : PS} {A : Nat → Prop} {a k : Nat} {e : va_E} (hD : va_D A (mP cy S)) (hL : a ∈ pL S) (hk : (mP cy S)[k]? = some (a, cE cy S a)) (hl : pL S' = pL S) (h : ∀ b, va_up (cE cy S) a e b = cE cy S' b) : (mP cy S).set k (a, e) = mP cy S' := by
  have h1 := va_pl_set (X := []) (e := e) hD hL hk
  show ([] ++ va_pl (pL S) (cE cy S)).set k (a, e) = va_pl (pL S') (cE cy S')
  rw [h1, hl]
  exact va_pl_congr h
theorem cF_set {c : Nat} {S S' : PS} {a k : Nat} {v : Value} (hk : k < nf c) (hv : fv (ft c k) S' a k = v) (ho : ∀ j, j ≠ k → fv (ft c j) S' a j = fv (ft c j) S a j) : (cF c S a).set k v = cF c S' a := by
  apply List.ext_getElem?
  intro j
  by_cases hj : j < nf c
  · rw [cF_get hj]
    by_cases e : j = k
    · subst e
      rw [List.getElem?_set_self (by rw [cF_len]; exact hj), hv]
    · rw [List.getElem?_set_ne (fun q => e q.symm), cF_get hj, ho j e]
  · rw [List.getElem?_eq_none (by rw [List.length_set, cF_len]; omega), List.getElem?_eq_none (by rw [cF_len]; omega)]
theorem cF_other {c : Nat} {S S' : PS} {a : Nat} (hI : pI S' a = pI S a) (hJ : pJ S' a = pJ S a) (hR : pR S' a = pR S a) : cF c S' a = cF c S a := by
  unfold cF
  apply List.map_congr_left
  intro k _
  unfold fv
  rw [hI, hJ, hR]
theorem cE_other {cy : Cy} {S S' : PS} {a : Nat} (hK : pK S' a = pK S a) (hN : pN S' a = pN S a) (hI : pI S' a = pI S a) (hJ : pJ S' a = pJ S a) (hR : pR S' a = pR S a) : cE cy S' a = cE cy S a := by
  unfold cE
  rw [hK, hN, hI, hJ, hR, cF_other hI hJ hR]
theorem upE_I {cy : Cy} {S : PS} {a c k : Nat} {v : Int32} (h : pK S a = c) (hc : c < 11) (hk : k < nf c) (ht : ft c k = 0) (b : Nat) : va_up (cE cy S) a (.inr (c, (cF c S a).set k (.int v))) b = cE cy (wI S a k v) b := by
  by_cases e : b = a
  · subst e
    rw [cE_o (S := wI S b k v) h hc]
    simp only [va_up, if_true]
    rw [cF_set (S' := wI S b k v) hk (by simp [fv, ht, up2, pI, pJ, pR, wI, wJ, wR]) (fun j hj => by simp [fv, up2, hj, pI, pJ, pR, wI, wJ, wR])]
  · simp only [va_up, if_neg e]
    exact (cE_other (S := S) (S' := wI S a k v) rfl rfl (up2_r e) rfl rfl).symm
theorem upE_J {cy : Cy} {S : PS} {a c k : Nat} {v : Int64} (h : pK S a = c) (hc : c < 11) (hk : k < nf c) (ht : ft c k = 1) (b : Nat) : va_up (cE cy S) a (.inr (c, (cF c S a).set k (.long v))) b = cE cy (wJ S a k v) b := by
  by_cases e : b = a
  · subst e
    rw [cE_o (S := wJ S b k v) h hc]
    simp only [va_up, if_true]
    rw [cF_set (S' := wJ S b k v) hk (by simp [fv, ht, up2, pI, pJ, pR, wI, wJ, wR]) (fun j hj => by simp [fv, up2, hj, pI, pJ, pR, wI, wJ, wR])]
  · simp only [va_up, if_neg e]
    exact (cE_other (S := S) (S' := wJ S a k v) rfl rfl rfl (up2_r e) rfl).symm
theorem upE_R {cy : Cy} {S : PS} {a c k : Nat} {v : Option Nat} (h : pK S a = c) (hc : c < 11) (hk : k < nf c) (ht : ft c k = 2) (b : Nat) : va_up (cE cy S) a (.inr (c, (cF c S a).set k (va_rf v))) b = cE cy (wR S a k v) b := by
  by_cases e : b = a
  · subst e
    rw [cE_o (S := wR S b k v) h hc]
    simp only [va_up, if_true]
    rw [cF_set (S' := wR S b k v) hk (by simp [fv, ht, up2, pI, pJ, pR, wI, wJ, wR]) (fun j hj => by simp [fv, up2, hj, pI, pJ, pR, wI, wJ, wR])]
  · simp only [va_up, if_neg e]
    exact (cE_other (S := S) (S' := wR S a k v) rfl rfl rfl rfl (up2_r e)).symm
theorem upE_ri {cy : Cy} {S : PS} {a : Nat} {g : Nat → Int32} (h : pK S a = 11) (b : Nat) : va_up (cE cy S) a (.inl (cy.1, pN S a, .inl g)) b = cE cy (wIr S a g) b := by
  by_cases e : b = a
  · subst e
    rw [cE_i (S := wIr S b g) h]
    simp [va_up, pI, pJ, pR, wI, wJ, wR, wIr, upr]
  · simp only [va_up, if_neg e]
    exact (cE_other (S := S) (S' := wIr S a g) rfl rfl (upr_a e) rfl rfl).symm
theorem upE_i {cy : Cy} {S : PS} {a k : Nat} {v : Int32} (h : pK S a = 11) (b : Nat) : va_up (cE cy S) a (.inl (cy.1, pN S a, .inl (upd (pI S a) k v))) b = cE cy (wI S a k v) b := by
  by_cases e : b = a
  · subst e
    rw [cE_i (S := wI S b k v) h]
    simp [va_up, pI, pJ, pR, wI, wJ, wR, wIr, up2_upd]
  · simp only [va_up, if_neg e]
    exact (cE_other (S := S) (S' := wI S a k v) rfl rfl (up2_r e) rfl rfl).symm
theorem upE_z {cy : Cy} {S : PS} {a k : Nat} {v : Int32} (h : pK S a = 13) (b : Nat) : va_up (cE cy S) a (.inl (cy.2.2.1, pN S a, .inl (upd (pI S a) k v))) b = cE cy (wI S a k v) b := by
  by_cases e : b = a
  · subst e
    rw [cE_z (S := wI S b k v) h]
    simp [va_up, pI, pJ, pR, wI, wJ, wR, wIr, up2_upd]
  · simp only [va_up, if_neg e]
    exact (cE_other (S := S) (S' := wI S a k v) rfl rfl (up2_r e) rfl rfl).symm
theorem upE_j {cy : Cy} {S : PS} {a k : Nat} {v : Int64} (h : pK S a = 12) (b : Nat) : va_up (cE cy S) a (.inl (cy.2.1, pN S a, .inr (.inl (vp_updL (pJ S a) k v)))) b = cE cy (wJ S a k v) b := by
  by_cases e : b = a
  · subst e
    rw [cE_j (S := wJ S b k v) h]
    simp [va_up, pI, pJ, pR, wI, wJ, wR, wIr, up2_updL]
  · simp only [va_up, if_neg e]
    exact (cE_other (S := S) (S' := wJ S a k v) rfl rfl rfl (up2_r e) rfl).symm
theorem upE_q {cy : Cy} {S : PS} {a k : Nat} {v : Option Nat} (h : pK S a = 14) (b : Nat) : va_up (cE cy S) a (.inl (cy.2.2.2, pN S a, .inr (.inr (.inr (.inr (va_up (pR S a) k v)))))) b = cE cy (wR S a k v) b := by
  by_cases e : b = a
  · subst e
    rw [cE_q (S := wR S b k v) h]
    simp [va_up, pI, pJ, pR, wI, wJ, wR, wIr, up2_up]
  · simp only [va_up, if_neg e]
    exact (cE_other (S := S) (S' := wR S a k v) rfl rfl rfl rfl (up2_r e)).symm
/-- the facts of a class that a field's row needs -/
def clOk (c : Nat) (C : String) (T : u_T) (N : Nat) : Prop := vwCl[c]? = some (C, T, N) ∧ nf c = N ∧ (∀ w ∈ u_ws C T N, w ∈ wsL_law) ∧ (∀ a, a < N → ∀ b, b < N → a ≠ b → (T a).2.1 ≠ (T b).2.1) ∧ c < 11
