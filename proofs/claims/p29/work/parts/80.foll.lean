def zPi (z : ZZ) (b : Bool) (k j : Nat) : Nat := if b then zN z k - j else j
theorem zPi_le {z : ZZ} {b : Bool} {k j : Nat} (h : j ≤ zN z k) : zPi z b k j ≤ zN z k := by unfold zPi; split <;> omega
theorem zFs_e {z : ZZ} {b : Bool} {k j : Nat} : zSi z k (zPi z b k j) (zPi z b k (j + 1)) = zFs z b k j := by
  cases b
  · rfl
  · rfl
theorem pi_f {z : ZZ} {b : Bool} {k j : Nat} (h : b = false) : zPi z b k j = j := by rw [h]; rfl
theorem pi_t {z : ZZ} {b : Bool} {k j : Nat} (h : b = true) : zPi z b k j = zN z k - j := by rw [h]; rfl
def zMc (z : ZZ) (c : Nat) (b : Bool) (i : Nat) : Nat := if b then zSk (nc z) c b i + 1 else zSk (nc z) c b i
theorem ap_start {S : PS} {q : Nat → Nat} {z : ZZ} {c i : Nat} {b : Bool} (hB : Bz z) (h0 : 0 < nc z) (h : Ap S q z (16 * zX z (zMc z c b i)) (16 * zY z (zMc z c b i))) : Ap S q z (zPx z (zSk (nc z) c b i) (zPi z b (zSk (nc z) c b i) 0)) (zPy z (zSk (nc z) c b i) (zPi z b (zSk (nc z) c b i) 0)) := by
  cases b
  · rw [pi_f rfl, p0_e.1, p0_e.2]; exact h
  · rw [pi_t rfl, Nat.sub_zero, (pn_e hB h0).1, (pn_e hB h0).2]; exact h
theorem ap_end {S : PS} {q : Nat → Nat} {z : ZZ} {c i : Nat} {b : Bool} (hB : Bz z) (h0 : 0 < nc z) (hc : c < nc z) (hi : i < nc z) (h : Ap S q z (zPx z (zSk (nc z) c b i) (zPi z b (zSk (nc z) c b i) (zN z (zSk (nc z) c b i)))) (zPy z (zSk (nc z) c b i) (zPi z b (zSk (nc z) c b i) (zN z (zSk (nc z) c b i))))) : Ap S q z (16 * zX z (zMc z c b (i + 1))) (16 * zY z (zMc z c b (i + 1))) := by
  have hk := sk_lt (n := nc z) (c := c) (b := b) h0 i
  have hs := sk_s (b := b) hc hi
  cases b
  · rw [pi_f rfl, (pn_e hB h0).1, (pn_e hB h0).2] at h
    have e : zMc z c false (i + 1) = nx (nc z) (zSk (nc z) c false i) := hs
    have e2 := zX_m (z := z) (nx_m hk)
    rw [e, e2.1, e2.2]
    exact h
  · rw [pi_t rfl, Nat.sub_self, p0_e.1, p0_e.2] at h
    have e : zMc z c true (i + 1) = pv (nc z) (zSk (nc z) c true i) + 1 := congrArg (· + 1) hs
    have e2 := zX_m (z := z) (pv_p1 hk)
    rw [e, e2.1, e2.2]
    exact h
theorem mc_0 {z : ZZ} {c : Nat} {b : Bool} (hc : c < nc z) : zX z (zMc z c b 0) = zX z c ∧ zY z (zMc z c b 0) = zY z c := by
  have hs := sk_0 (b := b) hc
  cases b
  · have e : zMc z c false 0 = c := hs
    rw [e]; exact ⟨rfl, rfl⟩
  · have e : zMc z c true 0 = pv (nc z) c + 1 := congrArg (· + 1) hs
    rw [e]
    exact zX_m (pv_p1 hc)
theorem zSu_s {z : ZZ} {c i : Nat} {b : Bool} : zSu z c b (i + 1) = zFo z b (zSk (nc z) c b i) (zN z (zSk (nc z) c b i)) (zSu z c b i) := rfl
theorem zSi_d {z : ZZ} {k i j : Nat} : zSw z (zPx z k i) (zPy z k i) (zPx z k j) (zPy z k j) = zSi z k i j := rfl
