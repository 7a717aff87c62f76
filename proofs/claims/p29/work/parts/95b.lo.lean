theorem Tc.of {S S' : PS} {q : Nat → Nat} {t : TT} (h0 : pI S' (q 90) = pI S (q 90)) (h1 : pI S' (q 91) = pI S (q 91)) (h2 : pI S' (q 92) = pI S (q 92)) (h : Tc S q t) : Tc S' q t := by
  unfold Tc rXY at h ⊢
  rw [h0, h1, h2]
  exact h
theorem raF_nr {z : ZZ} (hB : Bz z) : ∀ {i : Nat}, i ≤ 2 * nc z → nr (raF z i).2.2 = nr z + (raF z i).2.1
  | 0, _ => rfl
  | i + 1, hi => by
    have ih := raF_nr hB (i := i) (by omega)
    obtain ⟨h1, h2, h3, h4⟩ := raF_B hB (i := i) (by omega)
    rw [raF_s]
    unfold raS
    split
    · split
      · next g2 =>
        obtain ⟨a, b, c⟩ := zRf_0 h1 g2
        show nr (zMk _ _ _) = nr z + (_ + 1)
        rw [mk_nr2 h1 c, ih]
        omega
      · exact ih
    · exact ih
theorem foldF_c {α : Type} {f g : Nat → α → α} : ∀ {n : Nat} {a : α}, (∀ i, i < n → ∀ b, f i b = g i b) → foldF f n a = foldF g n a
  | 0, _, _ => rfl
  | n + 1, a, h => by
    show f n (foldF f n a) = g n (foldF g n a)
    rw [foldF_c (fun i hi b => h i (by omega) b), h n (by omega)]
/-! without its runs: the same outline -/
section NoRuns
variable {y : ZZ}
theorem nr_nc : nc (vp_updL y 69 0) = nc y := uL_nc (by decide)
theorem nr_XY (h0 : 0 < nc y) (h20 : nc y ≤ 20) : zX (vp_updL y 69 0) = zX y ∧ zY (vp_updL y 69 0) = zY y := by
  constructor
  · funext k
    have := Nat.mod_lt k h0
    unfold zX
    rw [nr_nc, uLn (by omega)]
  · funext k
    have := Nat.mod_lt k h0
    unfold zY
    rw [nr_nc, uLn (by omega)]
theorem nr_P (h0 : 0 < nc y) (h20 : nc y ≤ 20) : zN (vp_updL y 69 0) = zN y ∧ zPx (vp_updL y 69 0) = zPx y ∧ zPy (vp_updL y 69 0) = zPy y := by
  obtain ⟨hx, hy⟩ := nr_XY h0 h20
  have hn : zN (vp_updL y 69 0) = zN y := by funext k; unfold zN; rw [hx, hy]; rfl
  refine ⟨hn, ?_, ?_⟩
  · funext k i; unfold zPx; rw [hx, hn]
  · funext k i; unfold zPy; rw [hy, hn]
theorem nr_Ra (h0 : 0 < nc y) (h20 : nc y ≤ 20) : zRa (vp_updL y 69 0) = zRa y := by
  obtain ⟨hn, h1, h2⟩ := nr_P h0 h20
  unfold zRa zRk
  rw [nr_nc, hn, h1, h2]
  rfl
theorem nr_OO (h0 : 0 < nc y) (h20 : nc y ≤ 20) : zOO (vp_updL y 69 0) = zOO y := by
  obtain ⟨hx, hy⟩ := nr_XY h0 h20
  unfold zOO zOn zSd
  rw [nr_nc, hx, hy]
  rfl
theorem nr_Sh (h20 : nc y ≤ 20) : zSh (vp_updL y 69 0) = zSh y := by
  unfold zSh
  rw [nr_nc]
  split
  · rfl
  · rw [nr_OO (by omega) h20, nr_Ra (by omega) h20]
theorem nr_Su (h0 : 0 < nc y) (h20 : nc y ≤ 20) {c : Nat} {b : Bool} : zSum (vp_updL y 69 0) c b = zSum y c b := by
  obtain ⟨hn, h1, h2⟩ := nr_P h0 h20
  have hSi : zSi (vp_updL y 69 0) = zSi y := by
    funext k i j
    unfold zSi
    rw [h1, h2]
    rfl
  have hFs : zFs (vp_updL y 69 0) = zFs y := by
    funext b k i
    unfold zFs
    rw [hn, hSi]
  have hFo : ∀ k, k < 20 → ∀ (n : Nat) (a : Int64 × Int64), zFo (vp_updL y 69 0) b k n a = zFo y b k n a := fun k hk n a => by
    unfold zFo
    rw [hFs, show zS (vp_updL y 69 0) k = zS y k from uLn (by omega)]
    rfl
  have hSu : zSu (vp_updL y 69 0) c b (nc y) = zSu y c b (nc y) := by
    unfold zSu
    rw [nr_nc, hn]
    refine foldF_c (fun i hi a => hFo _ ?_ _ a)
    have hk : zSk (nc y) c b i < nc y := by unfold zSk; split <;> exact Nat.mod_lt _ h0
    omega
  unfold zSum
  rw [nr_nc, hSu]
end NoRuns
theorem nr_Rf {y : ZZ} (h20 : nc y ≤ 20) : zRf (vp_updL y 69 0) = zSh y := by
  unfold zRf
  rw [nr_Sh h20, if_neg (fun h => absurd (uLs.symm.trans h.2) (by decide))]
