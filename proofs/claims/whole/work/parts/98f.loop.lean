theorem lw_ge {L i : Nat} (hL : L ≤ 2560) (hi : i ≤ 2560) : (nI L - 5 < nI i) ↔ L < i + 5 := by
  have h5 : (5 : Int32).toInt = 5 := by decide
  rw [Int32.lt_iff_toInt_lt, I_sub (by rw [nI_toInt (by omega), h5]; omega) (by rw [nI_toInt (by omega), h5]; omega), nI_toInt (by omega), nI_toInt (by omega), h5]
  omega
set_option maxHeartbeats 4000000 in
set_option maxRecDepth 100000 in
theorem law_loop {Γ : Ctx} {b L : Nat} {xs : Nat → Int32} (F : Fx Γ RL cL_law rmL) (hX : va_X b L xs (ks Γ) (ks Γ).heap) (hb : b < Γ.1.2.2.2.1) (hL : L ≤ 2560) (q : Nat → Nat) (hend : ∀ (S : PS) (c m i : Nat), c ≤ 600000 → m ≤ 7000000 → G Γ S c m 1514 [(0, .ref b), (1, .ref (q 80)), (2, .ref (q 94)), (3, .ref (q 100)), (4, .int (nI i))] []) :
    ∀ (n9 k : Nat) (S : PS) (w : WW) (c m : Nat), 512 < k + n9 → 5 * k ≤ L → Shp S.1 S.2.1 q → Iw w → Cl S q w → Mw S q w → c ≤ 300 + 3 * k → m ≤ 5000 + 18 * k → G Γ S c m 23 [(0, .ref b), (1, .ref (q 80)), (2, .ref (q 94)), (3, .ref (q 100)), (4, .int (nI (5 * k)))] [] := by
  intro n9
  induction n9 with
  | zero => intro k S w c m h1 h2; exact absurd h1 (by omega)
  | succ n9 ih =>
    intro k S w c m h1 h2 hq hI hC hM hc hm
    obtain ⟨z, H, l, n, tx⟩ := w
    obtain ⟨i, hi⟩ : ∃ y9 : Nat, y9 = 5 * k := ⟨_, rfl⟩
    rw [← hi]
    refine g_iload F 4 rfl dL_law_23 ?_
    refine g_aload_n (k := 0) F 0 rfl dL_law_25 ?_
    refine g_slen F hX hb dL_law_26 ?_
    refine g_iconst (v := 5) F (by decide) dL_law_27 ?_
    refine g_isub F dL_law_28 ?_
    refine g_icmp_gt (t := 1514) F dL_law_29 (by decide) (fun u => ?_) (fun u => ?_)
    · exact hend S c m i (by omega) (by omega)
    · have hiL : i + 5 ≤ L := by
        rw [lw_ge hL (by omega)] at u
        omega
      have kk : ∀ (S' : PS) (w' : WW) (c' m' : Nat), Shp S'.1 S'.2.1 q → Iw w' → Cl S' q w' → Mw S' q w' → c' ≤ c + 3 → m' ≤ m + 18 → G Γ S' c' m' 1508 [(0, .ref b), (1, .ref (q 80)), (2, .ref (q 94)), (3, .ref (q 100)), (4, .int (nI i))] [] := by
        intro S' w' c' m' a1 a2 a3 a4 a5 a6
        obtain ⟨x, ex⟩ : ∃ y9 : Int32, y9 = nI i + 5 := ⟨_, rfl⟩
        refine g_iinc (k := 4) (v := x) (L' := [(4, .int x), (0, .ref b), (1, .ref (q 80)), (2, .ref (q 94)), (3, .ref (q 100))]) F dL_law_1508 rfl (by rw [ex]; rfl) (Nat.le_of_ble_eq_true rfl) rfl ?_
        refine g_goto (t := 23) F dL_law_1511 (by decide) ?_
        obtain rfl : x = nI (5 * (k + 1)) := ex.trans ((nadd (b := 5) rfl rfl).trans (congrArg nI (by omega)))
        refine g_sub (L' := [(0, .ref b), (1, .ref (q 80)), (2, .ref (q 94)), (3, .ref (q 100)), (4, .int (nI (5 * (k + 1))))]) [1, 2, 3, 4, 0] rfl ?_
        exact ih (k + 1) S' w' c' m' (by omega) (by omega) a1 a2 a3 a4 (by omega) (by omega)
      refine g_aload_n (k := 0) F 0 rfl dL_law_32 ?_
      refine g_iload F 4 rfl dL_law_33 ?_
      refine g_sald (j := i) F hX hb rfl (by omega) (by omega) dL_law_35 ?_
      refine g_bipush (v := 31) F (by decide) dL_law_36 ?_
      refine g_iand F dL_law_38 ?_
      refine g_topi (fun v ev => ?_)
      by_cases w0 : v = 0
      · refine g_tin (off := 117) (t := 156) F dL_law_39 (by rw [w0]; decide) (by rw [w0]; decide) (by rw [w0]; decide) (by decide) ?_
        exact lc_0 F hX hb hL S q hq z H l n tx hI hC hM c m (by omega) (by omega) i hiL kk
      by_cases w1 : v = 1
      · refine g_tin (off := 185) (t := 224) F dL_law_39 (by rw [w1]; decide) (by rw [w1]; decide) (by rw [w1]; decide) (by decide) ?_
        exact lc_1 F hX hb hL S q hq z H l n tx hI hC hM c m (by omega) (by omega) i hiL kk
      by_cases w2 : v = 2
      · refine g_tin (off := 253) (t := 292) F dL_law_39 (by rw [w2]; decide) (by rw [w2]; decide) (by rw [w2]; decide) (by decide) ?_
        exact lc_2 F hX hb hL S q hq z H l n tx hI hC hM c m (by omega) (by omega) i hiL kk
      by_cases w3 : v = 3
      · refine g_tin (off := 309) (t := 348) F dL_law_39 (by rw [w3]; decide) (by rw [w3]; decide) (by rw [w3]; decide) (by decide) ?_
        exact lc_3 F hX hb hL S q hq z H l n tx hI hC hM c m (by omega) (by omega) i hiL kk
      by_cases w4 : v = 4
      · refine g_tin (off := 389) (t := 428) F dL_law_39 (by rw [w4]; decide) (by rw [w4]; decide) (by rw [w4]; decide) (by decide) ?_
        exact lc_4 F hX hb hL S q hq z H l n tx hI hC hM c m (by omega) (by omega) i hiL kk
      by_cases w5 : v = 5
      · refine g_tin (off := 469) (t := 508) F dL_law_39 (by rw [w5]; decide) (by rw [w5]; decide) (by rw [w5]; decide) (by decide) ?_
        exact lc_5 F hX hb hL S q hq z H l n tx hI hC hM c m (by omega) (by omega) i hiL kk
      by_cases w6 : v = 6
      · refine g_tin (off := 525) (t := 564) F dL_law_39 (by rw [w6]; decide) (by rw [w6]; decide) (by rw [w6]; decide) (by decide) ?_
        exact lc_6 F hX hb hL S q hq z H l n tx hI hC hM c m (by omega) (by omega) i hiL kk
      by_cases w7 : v = 7
      · refine g_tin (off := 593) (t := 632) F dL_law_39 (by rw [w7]; decide) (by rw [w7]; decide) (by rw [w7]; decide) (by decide) ?_
        exact lc_7 F hX hb hL S q hq z H l n tx hI hC hM c m (by omega) (by omega) i hiL kk
      by_cases w8 : v = 8
      · refine g_tin (off := 677) (t := 716) F dL_law_39 (by rw [w8]; decide) (by rw [w8]; decide) (by rw [w8]; decide) (by decide) ?_
        exact lc_8 F hX hb hL S q hq z H l n tx hI hC hM c m (by omega) (by omega) i hiL kk
      by_cases w9 : v = 9
      · refine g_tin (off := 690) (t := 729) F dL_law_39 (by rw [w9]; decide) (by rw [w9]; decide) (by rw [w9]; decide) (by decide) ?_
        exact lc_9 F hX hb hL S q hq z H l n tx hI hC hM c m (by omega) (by omega) i hiL kk
      by_cases w10 : v = 10
      · refine g_tin (off := 703) (t := 742) F dL_law_39 (by rw [w10]; decide) (by rw [w10]; decide) (by rw [w10]; decide) (by decide) ?_
        exact lc_10 F hX hb hL S q hq z H l n tx hI hC hM c m (by omega) (by omega) i hiL kk
      by_cases w11 : v = 11
      · refine g_tin (off := 759) (t := 798) F dL_law_39 (by rw [w11]; decide) (by rw [w11]; decide) (by rw [w11]; decide) (by decide) ?_
        exact lc_11 F hX hb hL S q hq z H l n tx hI hC hM c m (by omega) (by omega) i hiL kk
      by_cases w12 : v = 12
      · refine g_tin (off := 772) (t := 811) F dL_law_39 (by rw [w12]; decide) (by rw [w12]; decide) (by rw [w12]; decide) (by decide) ?_
        exact lc_12 F hX hb hL S q hq z H l n tx hI hC hM c m (by omega) (by omega) i hiL kk
      by_cases w13 : v = 13
      · refine g_tin (off := 785) (t := 824) F dL_law_39 (by rw [w13]; decide) (by rw [w13]; decide) (by rw [w13]; decide) (by decide) ?_
        exact lc_13 F hX hb hL S q hq z H l n tx hI hC hM c m (by omega) (by omega) i hiL kk
      by_cases w14 : v = 14
      · refine g_tin (off := 829) (t := 868) F dL_law_39 (by rw [w14]; decide) (by rw [w14]; decide) (by rw [w14]; decide) (by decide) ?_
        exact lc_14 F hX hb hL S q hq z H l n tx hI hC hM c m (by omega) (by omega) i hiL kk
      by_cases w15 : v = 15
      · refine g_tin (off := 873) (t := 912) F dL_law_39 (by rw [w15]; decide) (by rw [w15]; decide) (by rw [w15]; decide) (by decide) ?_
        exact lc_15 F hX hb hL S q hq z H l n tx hI hC hM c m (by omega) (by omega) i hiL kk
      by_cases w16 : v = 16
      · refine g_tin (off := 886) (t := 925) F dL_law_39 (by rw [w16]; decide) (by rw [w16]; decide) (by rw [w16]; decide) (by decide) ?_
        exact lc_16 F hX hb hL S q hq z H l n tx hI hC hM c m (by omega) (by omega) i hiL kk
      by_cases w17 : v = 17
      · refine g_tin (off := 953) (t := 992) F dL_law_39 (by rw [w17]; decide) (by rw [w17]; decide) (by rw [w17]; decide) (by decide) ?_
        exact lc_17 F hX hb hL S q hq z H l n tx hI hC hM c m (by omega) (by omega) i hiL kk
      by_cases w18 : v = 18
      · refine g_tin (off := 1020) (t := 1059) F dL_law_39 (by rw [w18]; decide) (by rw [w18]; decide) (by rw [w18]; decide) (by decide) ?_
        exact lc_18 F hX hb hL S q hq z H l n tx hI hC hM c m (by omega) (by omega) i hiL kk
      by_cases w19 : v = 19
      · refine g_tin (off := 1099) (t := 1138) F dL_law_39 (by rw [w19]; decide) (by rw [w19]; decide) (by rw [w19]; decide) (by decide) ?_
        exact lc_19 F hX hb hL S q hq z H l n tx hI hC hM c m (by omega) (by omega) i hiL kk
      by_cases w20 : v = 20
      · refine g_tin (off := 1154) (t := 1193) F dL_law_39 (by rw [w20]; decide) (by rw [w20]; decide) (by rw [w20]; decide) (by decide) ?_
        exact lc_20 F hX hb hL S q hq z H l n tx hI hC hM c m (by omega) (by omega) i hiL kk
      by_cases w21 : v = 21
      · refine g_tin (off := 1210) (t := 1249) F dL_law_39 (by rw [w21]; decide) (by rw [w21]; decide) (by rw [w21]; decide) (by decide) ?_
        exact lc_21 F hX hb hL S q hq z H l n tx hI hC hM c m (by omega) (by omega) i hiL kk
      by_cases w22 : v = 22
      · refine g_tin (off := 1294) (t := 1333) F dL_law_39 (by rw [w22]; decide) (by rw [w22]; decide) (by rw [w22]; decide) (by decide) ?_
        exact lc_22 F hX hb hL S q hq z H l n tx hI hC hM c m (by omega) (by omega) i hiL kk
      by_cases w23 : v = 23
      · refine g_tin (off := 1401) (t := 1440) F dL_law_39 (by rw [w23]; decide) (by rw [w23]; decide) (by rw [w23]; decide) (by decide) ?_
        exact lc_23 F hX hb hL S q hq z H l n tx hI hC hM c m (by omega) (by omega) i hiL kk
      by_cases w24 : v = 24
      · refine g_tin (off := 1414) (t := 1453) F dL_law_39 (by rw [w24]; decide) (by rw [w24]; decide) (by rw [w24]; decide) (by decide) ?_
        exact lc_24 F hX hb hL S q hq z H l n tx hI hC hM c m (by omega) (by omega) i hiL kk
      by_cases w25 : v = 25
      · refine g_tin (off := 1455) (t := 1494) F dL_law_39 (by rw [w25]; decide) (by rw [w25]; decide) (by rw [w25]; decide) (by decide) ?_
        exact lc_25 F hX hb hL S q hq z H l n tx hI hC hM c m (by omega) (by omega) i hiL kk
      refine g_tout (t := 1508) F dL_law_39 (by have a0 : ¬ v.toInt = 0 := fun h9 => w0 (Int32.toInt_inj.mp h9); have a1 : ¬ v.toInt = 1 := fun h9 => w1 (Int32.toInt_inj.mp h9); have a2 : ¬ v.toInt = 2 := fun h9 => w2 (Int32.toInt_inj.mp h9); have a3 : ¬ v.toInt = 3 := fun h9 => w3 (Int32.toInt_inj.mp h9); have a4 : ¬ v.toInt = 4 := fun h9 => w4 (Int32.toInt_inj.mp h9); have a5 : ¬ v.toInt = 5 := fun h9 => w5 (Int32.toInt_inj.mp h9); have a6 : ¬ v.toInt = 6 := fun h9 => w6 (Int32.toInt_inj.mp h9); have a7 : ¬ v.toInt = 7 := fun h9 => w7 (Int32.toInt_inj.mp h9); have a8 : ¬ v.toInt = 8 := fun h9 => w8 (Int32.toInt_inj.mp h9); have a9 : ¬ v.toInt = 9 := fun h9 => w9 (Int32.toInt_inj.mp h9); have a10 : ¬ v.toInt = 10 := fun h9 => w10 (Int32.toInt_inj.mp h9); have a11 : ¬ v.toInt = 11 := fun h9 => w11 (Int32.toInt_inj.mp h9); have a12 : ¬ v.toInt = 12 := fun h9 => w12 (Int32.toInt_inj.mp h9); have a13 : ¬ v.toInt = 13 := fun h9 => w13 (Int32.toInt_inj.mp h9); have a14 : ¬ v.toInt = 14 := fun h9 => w14 (Int32.toInt_inj.mp h9); have a15 : ¬ v.toInt = 15 := fun h9 => w15 (Int32.toInt_inj.mp h9); have a16 : ¬ v.toInt = 16 := fun h9 => w16 (Int32.toInt_inj.mp h9); have a17 : ¬ v.toInt = 17 := fun h9 => w17 (Int32.toInt_inj.mp h9); have a18 : ¬ v.toInt = 18 := fun h9 => w18 (Int32.toInt_inj.mp h9); have a19 : ¬ v.toInt = 19 := fun h9 => w19 (Int32.toInt_inj.mp h9); have a20 : ¬ v.toInt = 20 := fun h9 => w20 (Int32.toInt_inj.mp h9); have a21 : ¬ v.toInt = 21 := fun h9 => w21 (Int32.toInt_inj.mp h9); have a22 : ¬ v.toInt = 22 := fun h9 => w22 (Int32.toInt_inj.mp h9); have a23 : ¬ v.toInt = 23 := fun h9 => w23 (Int32.toInt_inj.mp h9); have a24 : ¬ v.toInt = 24 := fun h9 => w24 (Int32.toInt_inj.mp h9); have a25 : ¬ v.toInt = 25 := fun h9 => w25 (Int32.toInt_inj.mp h9); omega) (by decide) ?_
      exact kk S (z, H, l, n, tx) c m hq hI hC hM (by omega) (by omega)
