theorem dg_s {z : ZZ} {k j : Nat} {x : Int64} (hj : j < 6) : 31 * mixF (fun i => zCn z (i / 6) (nI (i % 6))) (6 * k + j) x + zCn z k (nI j) = mixF (fun i => zCn z (i / 6) (nI (i % 6))) (6 * k + (j + 1)) x := by
  show _ = 31 * mixF (fun i => zCn z (i / 6) (nI (i % 6))) (6 * k + j) x + zCn z ((6 * k + j) / 6) (nI ((6 * k + j) % 6))
  rw [show (6 * k + j) / 6 = k by omega, show (6 * k + j) % 6 = j by omega]
