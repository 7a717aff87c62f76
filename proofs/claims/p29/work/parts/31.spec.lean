/-! THE INSTRUMENT IN NUMBERS: z is the row of all that can be undone (0, 1 anchor; 2 .. 6 settings; 7 tolerance; 8 corners; 9 + 3 k .. x, y, slip of corner k; 69 runs; 70 + 3 r .. corner, backward, sum of run r) -/
abbrev ZZ : Type := Nat → Int64
def nc (z : ZZ) : Nat := (z 8).toInt.toNat
def nr (z : ZZ) : Nat := (z 69).toInt.toNat
def zX (z : ZZ) (k : Nat) : Int64 := z (9 + 3 * (k % nc z))
def zY (z : ZZ) (k : Nat) : Int64 := z (9 + 3 * (k % nc z) + 1)
def zS (z : ZZ) (k : Nat) : Int64 := z (9 + 3 * k + 2)
def wtn (v : Int64) (a b : Int) : Prop := a ≤ v.toInt ∧ v.toInt ≤ b
def Bz (z : ZZ) : Prop := (wtn (z 0) (-2000) 2000 ∧ wtn (z 1) (-2000) 2000) ∧ (wtn (z 2) 200 3000 ∧ wtn (z 3) 200 3000 ∧ wtn (z 4) 20 200 ∧ wtn (z 5) 0 1 ∧ wtn (z 6) 0 10000) ∧ wtn (z 7) 0 100000 ∧ wtn (z 8) 0 20 ∧ wtn (z 69) 0 12 ∧ (∀ k, k < nc z → wtn (z (9 + 3 * k)) (-1000) 1000 ∧ wtn (z (9 + 3 * k + 1)) (-1000) 1000 ∧ wtn (z (9 + 3 * k + 2)) 0 100) ∧ ∀ r, r < nr z → wtn (z (70 + 3 * r)) 0 19 ∧ wtn (z (70 + 3 * r + 1)) 0 1 ∧ wtn (z (70 + 3 * r + 2)) (-9223372036854775808) 9223372036854775807
/-- the whole root -/
def isq : Nat → Nat
  | 0 => 0
  | n + 1 => if (isq n + 1) * (isq n + 1) ≤ n + 1 then isq n + 1 else isq n
def rt (v : Int64) : Int64 := lN (isq v.toInt.toNat)
def sz (v : Int64) : Int64 := if v < 0 then -v else v
def sp (p l r : Int64) : Prop := 0 < r ∧ r ≤ p + l ∧ sz (p - l) ≤ r
def zD (z : ZZ) (tx ty : Int64) : Int64 := (tx - 16 * z 0) * (tx - 16 * z 0) + (ty - 16 * z 1) * (ty - 16 * z 1)
def zRe (z : ZZ) (tx ty : Int64) : Prop := sp (16 * z 2) (16 * z 3) (rt (zD z tx ty))
def zA (z : ZZ) (tx ty : Int64) : Int64 := (zD z tx ty + 16 * z 2 * (16 * z 2) - 16 * z 3 * (16 * z 3)) / (2 * rt (zD z tx ty))
def zHb (z : ZZ) (tx ty : Int64) : Int64 := 16 * z 2 * (16 * z 2) - zA z tx ty * zA z tx ty
def zH (z : ZZ) (tx ty : Int64) : Int64 := if z 5 = 1 then -(if zHb z tx ty < 0 then 0 else rt (zHb z tx ty)) else if zHb z tx ty < 0 then 0 else rt (zHb z tx ty)
def zEx (z : ZZ) (tx ty : Int64) : Int64 := 16 * z 0 + ((tx - 16 * z 0) * zA z tx ty - (ty - 16 * z 1) * zH z tx ty) / rt (zD z tx ty)
def zEy (z : ZZ) (tx ty : Int64) : Int64 := 16 * z 1 + ((ty - 16 * z 1) * zA z tx ty + (tx - 16 * z 0) * zH z tx ty) / rt (zD z tx ty)
/-- the steps of a segment, and its points -/
def nSt (st x u y v : Int) : Nat := max 1 ((max (u - x).natAbs (v - y).natAbs + st.toNat - 1) / st.toNat)
def zN (z : ZZ) (k : Nat) : Nat := nSt (z 4).toInt (zX z k).toInt (zX z (k + 1)).toInt (zY z k).toInt (zY z (k + 1)).toInt
def pt (f t : Int64) (i n : Nat) : Int64 := 16 * f + 16 * (t - f) * lN i / lN n
def zPx (z : ZZ) (k i : Nat) : Int64 := pt (zX z k) (zX z (k + 1)) i (zN z k)
def zPy (z : ZZ) (k i : Nat) : Int64 := pt (zY z k) (zY z (k + 1)) i (zN z k)
def zRk (z : ZZ) (k : Nat) : Prop := ∀ i, i ≤ zN z k → zRe z (zPx z k i) (zPy z k i)
def zRa (z : ZZ) : Prop := ∀ k, k < nc z → zRk z k
def tn (ax ay bx cy9 cx cy : Int64) : Int64 := (bx - ax) * (cy - ay) - (cy9 - ay) * (cx - ax)
def zSw (z : ZZ) (tx ty ux uy : Int64) : Int64 := tn (zEx z tx ty) (zEy z tx ty) tx ty ux uy + tn (zEx z tx ty) (zEy z tx ty) ux uy (zEx z ux uy) (zEy z ux uy)
def zSi (z : ZZ) (k i j : Nat) : Int64 := zSw z (zPx z k i) (zPy z k i) (zPx z k j) (zPy z k j)
def sumF (f : Nat → Int64) : Nat → Int64
  | 0 => 0
  | n + 1 => sumF f n + f n
def foldF {α : Type} (f : Nat → α → α) : Nat → α → α
  | 0, a => a
  | n + 1, a => f n (foldF f n a)
def zRoll (z : ZZ) (k : Nat) : Int64 := sumF (fun i => zSi z k i (i + 1)) (zN z k)
/-- the wheel: what is in the play, and what is counted -/
def roP (play p : Int64) : Int64 := if play < p then play else if p < 0 then 0 else p
def roW (play p w : Int64) : Int64 := if play < p then w + (p - play) else if p < 0 then w + p else w
def ro (play sl q : Int64) (a : Int64 × Int64) : Int64 × Int64 := (roP play (a.1 + q * (100 - sl) / 100), roW play (a.1 + q * (100 - sl) / 100) a.2)
def zFs (z : ZZ) (b : Bool) (k i : Nat) : Int64 := if b then zSi z k (zN z k - i) (zN z k - i - 1) else zSi z k i (i + 1)
def zFo (z : ZZ) (b : Bool) (k : Nat) (n : Nat) (a : Int64 × Int64) : Int64 × Int64 := foldF (fun i a => ro (512 * z 6) (zS z k) (zFs z b k i) a) n a
def zSk (n c : Nat) (b : Bool) (i : Nat) : Nat := if b then (c + 2 * n - 1 - i) % n else (c + i) % n
def zSu (z : ZZ) (c : Nat) (b : Bool) (n : Nat) : Int64 × Int64 := foldF (fun i a => zFo z b (zSk (nc z) c b i) (zN z (zSk (nc z) c b i)) a) n (0, 0)
def zSum (z : ZZ) (c : Nat) (b : Bool) : Int64 := if b then -(zSu z c b (nc z)).2 else (zSu z c b (nc z)).2
/-- the anchor and the outline -/
def zSd (z : ZZ) (k : Nat) : Int64 := tn (zX z k) (zY z k) (zX z (k + 1)) (zY z (k + 1)) (z 0) (z 1)
def btw (v a b : Int64) : Prop := (if a < b then a else b) ≤ v ∧ v ≤ (if a < b then b else a)
def zOn (z : ZZ) (k : Nat) : Prop := zSd z k = 0 ∧ btw (z 0) (zX z k) (zX z (k + 1)) ∧ btw (z 1) (zY z k) (zY z (k + 1))
def zOO (z : ZZ) : Prop := ∃ k, k < nc z ∧ zOn z k
def zCr (z : ZZ) (k : Nat) : Int64 := if (zY z k ≤ z 1 ∧ z 1 < zY z (k + 1)) ∧ 0 < zSd z k then 1 else if (z 1 < zY z k ∧ zY z (k + 1) ≤ z 1) ∧ zSd z k < 0 then -1 else 0
def zWi (z : ZZ) : Int64 := sumF (zCr z) (nc z)
def zCo (z : ZZ) : Int64 := zWi z * (355 * z 2 * z 2 / 113)
def zTw (z : ZZ) : Int64 := sumF (fun k => zX z k * zY z (k + 1) - zX z (k + 1) * zY z k) (nc z)
def zAs (z : ZZ) : Int64 := sumF (fun k => lN (zN z k)) (nc z)

noncomputable def ifP {α : Type} (P : Prop) (a b : α) : α := @ite α P (Classical.propDecidable P) a b
noncomputable def zSh (z : ZZ) : Nat := if nc z < 3 then 1 else ifP (zOO z) 2 (ifP (zRa z) 0 3)
noncomputable def zRf (z : ZZ) : Nat := if zSh z = 0 ∧ z 69 = 12 then 4 else zSh z
def zAr (z : ZZ) (r : Nat) : Int64 := z (70 + 3 * r + 2) / 512 + zCo z
