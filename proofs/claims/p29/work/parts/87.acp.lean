def cpA (f g : Nat → Int32) (N : Nat) : Nat → Int32 := fun k => if k < N then f k else g k
theorem acp_e {f f' g g' : Nat → Int32} {N : Nat} (h : f = f') (h2 : g = g') : va_cpy f g 0 0 N = cpA f' g' N := by
  subst h h2
  funext k
  unfold va_cpy cpA
  by_cases e : k < N
  · rw [if_pos ⟨Nat.zero_le k, by omega⟩, if_pos e, show 0 + (k - 0) = k by omega]
  · rw [if_neg (fun h => e (by omega)), if_neg e]
theorem cpA_v {f g : Nat → Int32} {N k : Nat} (h : k < N) : cpA f g N k = f k := if_pos h
theorem Fr.wr {S S' : PS} {q : Nat → Nat} {l : List Nat} {j : Nat} {g : Nat → Int32} (hq : Shp S.1 S.2.1 q) (h : Fr S S' q l) (hj : j < 98) (hl : j ∈ l) : Fr S (wIr S' (q j) g) q l := by
  refine ⟨h.1, h.2.1, fun i hi hn => ⟨?_, (h.2.2 i hi hn).2⟩⟩
  rw [← (h.2.2 i hi hn).1]
  exact upr_a (qne hq hi hj (fun e => hn (e ▸ hl)))
section RowsA
variable {Γ : Ctx} {own : String} {cc : ByteArray} {rm : Room × Nat} {S : PS} {c n pc : Nat} {L L' : List (Nat × Value)} {st : List Value}
theorem g_acp {idx a0 a N : Nat} {x : Int32} (F : Fx Γ own cc rm) (h1 : Cond.methodLink own idx arraycopyName ∈ wsL_law) (h2 : Cond.native arraycopyName ∈ wsL_law) (h3 : Cond.static arraycopyName ∈ wsL_law) (h4 : Cond.initialized "java/lang/System" ∈ wsL_law) (hs : Is S.1 a0 11) (hd : Is S.1 a 11) (hx : x = nI N) (hN : N < 100000) (hn0 : N ≤ S.1.2.2 a0) (hn1 : N ≤ S.1.2.2 a) (hR : 1 ≤ rm.1.frames ∧ (st.map fun v => v.category).sum + (nativeFrameWords "java/lang/System" "arraycopy" 5 + 11) ≤ rm.1.locals) (d : decode cc pc = .ok (.invokestatic idx, 3)) (k9 : G Γ (wIr S a (va_cpy (pI S a0) (pI S a) 0 0 N)) c n (pc + 3) L st) : G Γ S c n pc L (.int x :: .int 0 :: .ref a :: .int 0 :: .ref a0 :: st) := by
  intro H locs ls hP hD hS hl
  subst hx
  obtain ⟨q0, hq0, -⟩ := mP_at (cy := gC Γ.1) (S := S) hs.1 (cE_i hs.2)
  obtain ⟨q1, hq1, hq2⟩ := mP_at (cy := gC Γ.1) (S := S) hd.1 (cE_i hd.2)
  have c0 : (0 : Int32).toNatClampNeg = 0 := by decide
  have cN : (nI N).toNatClampNeg = N := nI_clamp (by omega)
  refine va_copyi F.x F.b (by rw [F.ml]; exact hl.1.symm) F.o (F.w _ h1) (F.w _ h2) (F.w _ h3) (F.w _ h4) F.k hP hD hS q0 q1 0 0 (ty := .int) hq0 hq1 rfl rfl rfl (by decide) (by decide) (nI_pos (by omega)) (by rw [c0, cN]; show 0 + N ≤ S.1.2.2 a0; omega) (by rw [c0, cN]; show 0 + N ≤ S.1.2.2 a; omega) (fun _ _ => rfl) (by rw [F.r]; exact hR.1) (by rw [F.r]; exact hR.2) d (fun H1 locs1 hP1 hD1 hS1 => ?_)
  rw [c0, cN] at hP1 hD1
  have e := mP_put (S' := wIr S a (va_cpy (pI S a0) (pI S a) 0 0 N)) (e := .inl ((gC Γ.1).1, pN S a, .inl (va_cpy (pI S a0) (pI S a) 0 0 N))) hD hd.1 hq2 rfl (fun b => upE_ri hd.2 b)
  rw [e] at hP1 hD1
  exact k9 H1 locs1 ls hP1 hD1 hS1 hl
end RowsA
theorem rI_set {S : PS} {a i : Nat} {x : Int32} {g : Nat → Int32} (h : ∀ r, r < i → pI S a r = g r) (hx : x = g i) : ∀ r, r < i + 1 → pI (wI S a i x) a r = g r := by
  intro j hj
  by_cases e : j = i
  · subst e; exact up2_s.trans hx
  · exact (up2_k e).trans (h j (by omega))
theorem rI_o {S : PS} {a b i k : Nat} {x : Int32} {g : Nat → Int32} (hn : a ≠ b) (h : ∀ r, r < i → pI S a r = g r) : ∀ r, r < i → pI (wI S b k x) a r = g r := fun r hr => (up2_a hn).trans (h r hr)
theorem bool_n {x : Int32} {v : Int64} (h : x.toInt64 = v) (hb : wtn v 0 1) : vp_nar .boolean x = x := by
  have e : x = 0 ∨ x = 1 := by
    have h2 := congrArg Int64.toInt h
    rw [I64_t] at h2
    unfold wtn at hb
    rcases (show x.toInt = 0 ∨ x.toInt = 1 by omega) with g | g
    · exact .inl (Int32.toInt_inj.mp g)
    · exact .inr (Int32.toInt_inj.mp g)
  rcases e with rfl | rfl <;> rfl
theorem Cs.bool {S : PS} {q : Nat → Nat} {s : Nat} {z : ZZ} (h : Cs S q s z) (hB : Bz z) {r : Nat} (hr : r < nr z) : vp_nar .boolean (pI S (q (10 * s + 8)) r) = pI S (q (10 * s + 8)) r := bool_n (h.2.2.2.2.2 r hr).2.1 (hB.2.2.2.2.2.2 r hr).2.1
theorem Cs_cp {S S1 S2 S3 : PS} {q : Nat → Nat} {s u : Nat} {z : ZZ} (hs : s < 8) (hu : u < 8) (hsu : s ≠ u) (hB : Bz z) (hc : Cs S q u z) (hF1 : Fr S S1 q [10 * s, 10 * s + 1, 10 * s + 2, 10 * s + 3, 10 * s + 4, 10 * s + 5, 10 * s + 6, 10 * s + 7, 10 * s + 8, 10 * s + 9])
    (a : (pI S1 (q (10 * s)) 0).toInt64 = z 0 ∧ (pI S1 (q (10 * s)) 1).toInt64 = z 1 ∧ (pI S1 (q (10 * s)) 2).toInt64 = z 7) (b : ∀ i, i < 5 → (pI S1 (q (10 * s + 1)) i).toInt64 = z (2 + i))
    (hF2 : Fr S1 S2 q [10 * s + 2, 10 * s + 3, 10 * s + 4, 10 * s + 5]) (n1 : pI S2 (q (10 * s + 2)) 0 = nI (nc z)) (o1 : ∀ k, k < 20 → pI S2 (q (10 * s + 3)) k = pI S1 (q (10 * u + 3)) k ∧ pI S2 (q (10 * s + 4)) k = pI S1 (q (10 * u + 4)) k ∧ pI S2 (q (10 * s + 5)) k = pI S1 (q (10 * u + 5)) k)
    (hF3 : Fr S2 S3 q [10 * s + 6, 10 * s + 7, 10 * s + 8, 10 * s + 9]) (n2 : pI S3 (q (10 * s + 6)) 0 = nI (nr z)) (o2 : ∀ r, r < nr z → pI S3 (q (10 * s + 7)) r = pI S2 (q (10 * u + 7)) r ∧ pI S3 (q (10 * s + 8)) r = pI S2 (q (10 * u + 8)) r ∧ pJ S3 (q (10 * s + 9)) r = pJ S2 (q (10 * u + 9)) r) : Cs S3 q s z := by
  have hn := (nc_e hB).2
  have e12 : ∀ i, i < 98 → i = 10 * s ∨ i = 10 * s + 1 → pI S3 (q i) = pI S1 (q i) := fun i hi h => ((hF3.2.2 i hi (by simp; omega)).1).trans (hF2.2.2 i hi (by simp; omega)).1
  have e23 : ∀ i, i < 98 → 10 * s + 2 ≤ i → i ≤ 10 * s + 5 → pI S3 (q i) = pI S2 (q i) := fun i hi h1 h2 => (hF3.2.2 i hi (by simp; omega)).1
  have eu1 : ∀ i, i < 10 → pI S1 (q (10 * u + i)) = pI S (q (10 * u + i)) := fun i hi => (hF1.2.2 _ (by omega) (by simp; omega)).1
  have eu2 : ∀ i, i < 10 → pI S2 (q (10 * u + i)) = pI S (q (10 * u + i)) ∧ pJ S2 (q (10 * u + i)) = pJ S (q (10 * u + i)) := fun i hi => by
    have h1 := hF1.2.2 (10 * u + i) (by omega) (by simp; omega)
    have h2 := hF2.2.2 (10 * u + i) (by omega) (by simp; omega)
    exact ⟨h2.1.trans h1.1, h2.2.trans h1.2⟩
  refine ⟨?_, fun i hi => ?_, ?_, fun k hk => ?_, n2, fun r hr => ?_⟩
  · rw [e12 _ (by omega) (.inl rfl)]; exact a
  · rw [e12 _ (by omega) (.inr rfl)]; exact b i hi
  · rw [e23 _ (by omega) (by omega) (by omega)]; exact n1
  · rw [e23 _ (by omega) (by omega) (by omega), e23 _ (by omega) (by omega) (by omega), e23 _ (by omega) (by omega) (by omega)]
    obtain ⟨x, y, w⟩ := o1 k (by omega)
    rw [x, y, w, eu1 3 (by omega), eu1 4 (by omega), eu1 5 (by omega)]
    exact hc.2.2.2.1 k hk
  · obtain ⟨x, y, w⟩ := o2 r hr
    rw [x, y, w, (eu2 7 (by omega)).1, (eu2 8 (by omega)).1, (eu2 9 (by omega)).2]
    exact hc.2.2.2.2.2 r hr
