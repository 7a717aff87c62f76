set_option maxHeartbeats 4000000 in
set_option maxRecDepth 100000 in
theorem kX9_bitsOfSize (g : Glo) (S : PS) (v m : UInt64) (hm : BS v m) : Ct g mX9_bitsOfSize 0 0 [.double v] S (pJ9 (fun r S' => r = m.toInt64 ∧ S = S')) := by
  refine Ct.of (by decide) (Nat.le_of_ble_eq_true rfl) (fun Γ hg F T => ?_)
  subst hg
  show G Γ S 0 0 0 [(0, .double v)] []
  refine g_dload_n (k := 0) F 0 rfl dX9_bitsOfSize_0 ?_
  refine g_dconst0 F dX9_bitsOfSize_1 ?_
  refine g_dcmp F dX9_bitsOfSize_2 ?_
  refine g_if_ne (t := 8) F dX9_bitsOfSize_3 (by decide) (fun c1 => ?_) (fun c1 => ?_)
  · obtain ⟨E, t, hE1, hE2, ht, rfl, rfl⟩ := bs_ne hm c1
    refine g_dload_n (k := 0) F 0 rfl dX9_bitsOfSize_8 ?_
    refine g_dstore_n (k := 2) (L' := [(2, .double (bd E t)), (0, .double (bd E t))]) F dX9_bitsOfSize_9 (Nat.le_of_ble_eq_true rfl) rfl ?_
    refine g_lconst (v := 0) F (by decide) dX9_bitsOfSize_10 ?_
    refine g_lstore (L' := [(4, .long 0), (2, .double (bd E t)), (0, .double (bd E t))]) F dX9_bitsOfSize_11 (Nat.le_of_ble_eq_true rfl) rfl ?_
    have lp2 : ∀ (n9 : Nat) (e : Nat) (x : Int64), e < n9 → (1 ≤ e) → (e ≤ E) → (x.toInt = (E : Int) - e) → G Γ S 0 0 13 [(4, .long x), (2, .double (bd e t)), (0, .double (bd E t))] [] := by
      intro n9
      induction n9 with
      | zero =>
        intro e x hm9 he1 he2 hx
        exact absurd hm9 (by omega)
      | succ n9 ihlp2 =>
        intro e x hm9 he1 he2 hx
        refine g_dload_n (k := 2) F 1 rfl dX9_bitsOfSize_13 ?_
        refine g_ldc2d F mw983 dX9_bitsOfSize_14 ?_
        refine g_dcmp F dX9_bitsOfSize_17 ?_
        refine g_if_lt (t := 45) F dX9_bitsOfSize_18 (by decide) (fun c3 => ?_) (fun c3 => ?_)
        · have h18 : e < 1024 := (bd_lt2 (by omega) (by omega) ht).mp c3
          have lp4 : ∀ (n9 : Nat) (e : Nat) (x : Int64), 1023 < e + n9 → (1 ≤ e) → (e ≤ 1023) → (x.toInt = (E : Int) - e) → G Γ S 0 0 45 [(4, .long x), (2, .double (bd e t)), (0, .double (bd E t))] [] := by
            intro n9
            induction n9 with
            | zero =>
              intro e x hm9 he1 he2 hx
              exact absurd hm9 (by omega)
            | succ n9 ihlp4 =>
              intro e x hm9 he1 he2 hx
              refine g_dload_n (k := 2) F 1 rfl dX9_bitsOfSize_45 ?_
              refine g_dconst1 F dX9_bitsOfSize_46 ?_
              refine g_dcmp F dX9_bitsOfSize_47 ?_
              refine g_if_ge (t := 75) F dX9_bitsOfSize_48 (by decide) (fun c5 => ?_) (fun c5 => ?_)
              · have h48 : ¬ e < 1023 := fun h => absurd ((bd_lt1 (by omega) (by omega) ht).mpr h) (I_nlt.mpr c5)
                obtain rfl : e = 1023 := by omega
                refine g_dload_n (k := 2) F 1 rfl dX9_bitsOfSize_75 ?_
                refine g_dconst1 F dX9_bitsOfSize_76 ?_
                refine g_dsub F dX9_bitsOfSize_77 (vf_of (bd_fr ht).2.1) ?_
                refine g_ldc2d F mw986 dX9_bitsOfSize_78 ?_
                refine g_dmul F dX9_bitsOfSize_81 (vf_of (bd_fr ht).1) ?_
                refine g_d2l F dX9_bitsOfSize_82 ?_
                refine g_topl (fun x6 ex6 => ?_)
                refine g_lstore (L' := [(6, .long x6), (4, .long x), (2, .double (bd 1023 t)), (0, .double (bd E t))]) F dX9_bitsOfSize_83 (Nat.le_of_ble_eq_true rfl) rfl ?_
                refine g_lload F 1 rfl dX9_bitsOfSize_85 ?_
                refine g_ldc2 F mw984 dX9_bitsOfSize_87 ?_
                refine g_ladd F dX9_bitsOfSize_90 ?_
                refine g_bipush (v := 52) F (by decide) dX9_bitsOfSize_91 ?_
                refine g_lshl F dX9_bitsOfSize_93 ?_
                refine g_lload F 0 rfl dX9_bitsOfSize_94 ?_
                refine g_lor F dX9_bitsOfSize_96 ?_
                refine g_lret F T ⟨_, rfl, ?_⟩ (Nat.le_of_ble_eq_true rfl) (Nat.le_of_ble_eq_true rfl) dX9_bitsOfSize_97
                exact ⟨by rw [ex6, (bd_fr ht).2.2]; exact bd_or hE2 ht (by omega), rfl⟩
              · have h48 : e < 1023 := (bd_lt1 (by omega) (by omega) ht).mp (I_nle.mp c5)
                refine g_lload F 0 rfl dX9_bitsOfSize_51 ?_
                refine g_ldc2 F mw985 dX9_bitsOfSize_53 ?_
                refine g_lcmp F dX9_bitsOfSize_56 ?_
                refine g_if_le (t := 75) F dX9_bitsOfSize_57 (by decide) (fun c7 => ?_) (fun c7 => ?_)
                · rw [lc_le] at c7
                  rw [Int64.le_iff_toInt_le, show (-1022 : Int64).toInt = -1022 by decide] at c7
                  obtain rfl : e = 1023 := by omega
                  refine g_dload_n (k := 2) F 1 rfl dX9_bitsOfSize_75 ?_
                  refine g_dconst1 F dX9_bitsOfSize_76 ?_
                  refine g_dsub F dX9_bitsOfSize_77 (vf_of (bd_fr ht).2.1) ?_
                  refine g_ldc2d F mw986 dX9_bitsOfSize_78 ?_
                  refine g_dmul F dX9_bitsOfSize_81 (vf_of (bd_fr ht).1) ?_
                  refine g_d2l F dX9_bitsOfSize_82 ?_
                  refine g_topl (fun x8 ex8 => ?_)
                  refine g_lstore (L' := [(6, .long x8), (4, .long x), (2, .double (bd 1023 t)), (0, .double (bd E t))]) F dX9_bitsOfSize_83 (Nat.le_of_ble_eq_true rfl) rfl ?_
                  refine g_lload F 1 rfl dX9_bitsOfSize_85 ?_
                  refine g_ldc2 F mw984 dX9_bitsOfSize_87 ?_
                  refine g_ladd F dX9_bitsOfSize_90 ?_
                  refine g_bipush (v := 52) F (by decide) dX9_bitsOfSize_91 ?_
                  refine g_lshl F dX9_bitsOfSize_93 ?_
                  refine g_lload F 0 rfl dX9_bitsOfSize_94 ?_
                  refine g_lor F dX9_bitsOfSize_96 ?_
                  refine g_lret F T ⟨_, rfl, ?_⟩ (Nat.le_of_ble_eq_true rfl) (Nat.le_of_ble_eq_true rfl) dX9_bitsOfSize_97
                  exact ⟨by rw [ex8, (bd_fr ht).2.2]; exact bd_or hE2 ht (by omega), rfl⟩
                · rw [lc_le] at c7
                  rw [Int64.le_iff_toInt_le, show (-1022 : Int64).toInt = -1022 by decide] at c7
                  refine g_dload_n (k := 2) F 1 rfl dX9_bitsOfSize_60 ?_
                  refine g_ldc2d F mw983 dX9_bitsOfSize_61 ?_
                  refine g_dmul F dX9_bitsOfSize_64 (vf_of (by rw [bd_dbl (by omega) (by omega) ht]; exact bd_nn (by omega) (by omega) ht)) ?_
                  refine g_red (bd_dbl (by omega) (by omega) ht) ?_
                  refine g_dstore_n (k := 2) (L' := [(2, .double (bd (e + 1) t)), (4, .long x), (0, .double (bd E t))]) F dX9_bitsOfSize_65 (Nat.le_of_ble_eq_true rfl) rfl ?_
                  refine g_lload F 1 rfl dX9_bitsOfSize_66 ?_
                  refine g_lconst (v := 1) F (by decide) dX9_bitsOfSize_68 ?_
                  refine g_lsub F dX9_bitsOfSize_69 ?_
                  refine g_topl (fun x9 ex9 => ?_)
                  refine g_lstore (L' := [(4, .long x9), (2, .double (bd (e + 1) t)), (0, .double (bd E t))]) F dX9_bitsOfSize_70 (Nat.le_of_ble_eq_true rfl) rfl ?_
                  refine g_goto (t := 45) F dX9_bitsOfSize_72 (by decide) ?_
                  refine g_sub (L' := [(4, .long x9), (2, .double (bd (e + 1) t)), (0, .double (bd E t))]) [0, 1, 2] rfl ?_
                  exact ihlp4 (e + 1) (x9) (by omega) (by omega) (by omega) (ex9 ▸ bx_m hx (by omega) (by omega) hE2)
          exact lp4 1024 e x (by omega) (by omega) (by omega) hx
        · have h18 : ¬ e < 1024 := fun h => c3 ((bd_lt2 (by omega) (by omega) ht).mpr h)
          refine g_lload F 0 rfl dX9_bitsOfSize_21 ?_
          refine g_ldc2 F mw984 dX9_bitsOfSize_23 ?_
          refine g_lcmp F dX9_bitsOfSize_26 ?_
          refine g_if_ge (t := 45) F dX9_bitsOfSize_27 (by decide) (fun c10 => ?_) (fun c10 => ?_)
          · rw [lc_ge] at c10
            rw [Int64.le_iff_toInt_le, show (1023 : Int64).toInt = 1023 by decide] at c10
            have lp11 : ∀ (n9 : Nat) (e : Nat) (x : Int64), 1023 < e + n9 → (1 ≤ e) → (e ≤ 1023) → (x.toInt = (E : Int) - e) → G Γ S 0 0 45 [(4, .long x), (2, .double (bd e t)), (0, .double (bd E t))] [] := by
              intro n9
              induction n9 with
              | zero =>
                intro e x hm9 he1 he2 hx
                exact absurd hm9 (by omega)
              | succ n9 ihlp11 =>
                intro e x hm9 he1 he2 hx
                refine g_dload_n (k := 2) F 1 rfl dX9_bitsOfSize_45 ?_
                refine g_dconst1 F dX9_bitsOfSize_46 ?_
                refine g_dcmp F dX9_bitsOfSize_47 ?_
                refine g_if_ge (t := 75) F dX9_bitsOfSize_48 (by decide) (fun c12 => ?_) (fun c12 => ?_)
                · have h48 : ¬ e < 1023 := fun h => absurd ((bd_lt1 (by omega) (by omega) ht).mpr h) (I_nlt.mpr c12)
                  obtain rfl : e = 1023 := by omega
                  refine g_dload_n (k := 2) F 1 rfl dX9_bitsOfSize_75 ?_
                  refine g_dconst1 F dX9_bitsOfSize_76 ?_
                  refine g_dsub F dX9_bitsOfSize_77 (vf_of (bd_fr ht).2.1) ?_
                  refine g_ldc2d F mw986 dX9_bitsOfSize_78 ?_
                  refine g_dmul F dX9_bitsOfSize_81 (vf_of (bd_fr ht).1) ?_
                  refine g_d2l F dX9_bitsOfSize_82 ?_
                  refine g_topl (fun x13 ex13 => ?_)
                  refine g_lstore (L' := [(6, .long x13), (4, .long x), (2, .double (bd 1023 t)), (0, .double (bd E t))]) F dX9_bitsOfSize_83 (Nat.le_of_ble_eq_true rfl) rfl ?_
                  refine g_lload F 1 rfl dX9_bitsOfSize_85 ?_
                  refine g_ldc2 F mw984 dX9_bitsOfSize_87 ?_
                  refine g_ladd F dX9_bitsOfSize_90 ?_
                  refine g_bipush (v := 52) F (by decide) dX9_bitsOfSize_91 ?_
                  refine g_lshl F dX9_bitsOfSize_93 ?_
                  refine g_lload F 0 rfl dX9_bitsOfSize_94 ?_
                  refine g_lor F dX9_bitsOfSize_96 ?_
                  refine g_lret F T ⟨_, rfl, ?_⟩ (Nat.le_of_ble_eq_true rfl) (Nat.le_of_ble_eq_true rfl) dX9_bitsOfSize_97
                  exact ⟨by rw [ex13, (bd_fr ht).2.2]; exact bd_or hE2 ht (by omega), rfl⟩
                · have h48 : e < 1023 := (bd_lt1 (by omega) (by omega) ht).mp (I_nle.mp c12)
                  refine g_lload F 0 rfl dX9_bitsOfSize_51 ?_
                  refine g_ldc2 F mw985 dX9_bitsOfSize_53 ?_
                  refine g_lcmp F dX9_bitsOfSize_56 ?_
                  refine g_if_le (t := 75) F dX9_bitsOfSize_57 (by decide) (fun c14 => ?_) (fun c14 => ?_)
                  · rw [lc_le] at c14
                    rw [Int64.le_iff_toInt_le, show (-1022 : Int64).toInt = -1022 by decide] at c14
                    obtain rfl : e = 1023 := by omega
                    refine g_dload_n (k := 2) F 1 rfl dX9_bitsOfSize_75 ?_
                    refine g_dconst1 F dX9_bitsOfSize_76 ?_
                    refine g_dsub F dX9_bitsOfSize_77 (vf_of (bd_fr ht).2.1) ?_
                    refine g_ldc2d F mw986 dX9_bitsOfSize_78 ?_
                    refine g_dmul F dX9_bitsOfSize_81 (vf_of (bd_fr ht).1) ?_
                    refine g_d2l F dX9_bitsOfSize_82 ?_
                    refine g_topl (fun x15 ex15 => ?_)
                    refine g_lstore (L' := [(6, .long x15), (4, .long x), (2, .double (bd 1023 t)), (0, .double (bd E t))]) F dX9_bitsOfSize_83 (Nat.le_of_ble_eq_true rfl) rfl ?_
                    refine g_lload F 1 rfl dX9_bitsOfSize_85 ?_
                    refine g_ldc2 F mw984 dX9_bitsOfSize_87 ?_
                    refine g_ladd F dX9_bitsOfSize_90 ?_
                    refine g_bipush (v := 52) F (by decide) dX9_bitsOfSize_91 ?_
                    refine g_lshl F dX9_bitsOfSize_93 ?_
                    refine g_lload F 0 rfl dX9_bitsOfSize_94 ?_
                    refine g_lor F dX9_bitsOfSize_96 ?_
                    refine g_lret F T ⟨_, rfl, ?_⟩ (Nat.le_of_ble_eq_true rfl) (Nat.le_of_ble_eq_true rfl) dX9_bitsOfSize_97
                    exact ⟨by rw [ex15, (bd_fr ht).2.2]; exact bd_or hE2 ht (by omega), rfl⟩
                  · rw [lc_le] at c14
                    rw [Int64.le_iff_toInt_le, show (-1022 : Int64).toInt = -1022 by decide] at c14
                    refine g_dload_n (k := 2) F 1 rfl dX9_bitsOfSize_60 ?_
                    refine g_ldc2d F mw983 dX9_bitsOfSize_61 ?_
                    refine g_dmul F dX9_bitsOfSize_64 (vf_of (by rw [bd_dbl (by omega) (by omega) ht]; exact bd_nn (by omega) (by omega) ht)) ?_
                    refine g_red (bd_dbl (by omega) (by omega) ht) ?_
                    refine g_dstore_n (k := 2) (L' := [(2, .double (bd (e + 1) t)), (4, .long x), (0, .double (bd E t))]) F dX9_bitsOfSize_65 (Nat.le_of_ble_eq_true rfl) rfl ?_
                    refine g_lload F 1 rfl dX9_bitsOfSize_66 ?_
                    refine g_lconst (v := 1) F (by decide) dX9_bitsOfSize_68 ?_
                    refine g_lsub F dX9_bitsOfSize_69 ?_
                    refine g_topl (fun x16 ex16 => ?_)
                    refine g_lstore (L' := [(4, .long x16), (2, .double (bd (e + 1) t)), (0, .double (bd E t))]) F dX9_bitsOfSize_70 (Nat.le_of_ble_eq_true rfl) rfl ?_
                    refine g_goto (t := 45) F dX9_bitsOfSize_72 (by decide) ?_
                    refine g_sub (L' := [(4, .long x16), (2, .double (bd (e + 1) t)), (0, .double (bd E t))]) [0, 1, 2] rfl ?_
                    exact ihlp11 (e + 1) (x16) (by omega) (by omega) (by omega) (ex16 ▸ bx_m hx (by omega) (by omega) hE2)
            exact lp11 1024 e x (by omega) (by omega) (by omega) hx
          · rw [lc_ge] at c10
            rw [Int64.le_iff_toInt_le, show (1023 : Int64).toInt = 1023 by decide] at c10
            refine g_dload_n (k := 2) F 1 rfl dX9_bitsOfSize_30 ?_
            refine g_ldc2d F mw983 dX9_bitsOfSize_31 ?_
            refine g_ddiv F dX9_bitsOfSize_34 (vf_of (by rw [bd_half (by omega) (by omega) ht]; exact bd_nn (by omega) (by omega) ht)) ?_
            refine g_red (bd_half (by omega) (by omega) ht) ?_
            refine g_dstore_n (k := 2) (L' := [(2, .double (bd (e - 1) t)), (4, .long x), (0, .double (bd E t))]) F dX9_bitsOfSize_35 (Nat.le_of_ble_eq_true rfl) rfl ?_
            refine g_lload F 1 rfl dX9_bitsOfSize_36 ?_
            refine g_lconst (v := 1) F (by decide) dX9_bitsOfSize_38 ?_
            refine g_ladd F dX9_bitsOfSize_39 ?_
            refine g_topl (fun x17 ex17 => ?_)
            refine g_lstore (L' := [(4, .long x17), (2, .double (bd (e - 1) t)), (0, .double (bd E t))]) F dX9_bitsOfSize_40 (Nat.le_of_ble_eq_true rfl) rfl ?_
            refine g_goto (t := 13) F dX9_bitsOfSize_42 (by decide) ?_
            refine g_sub (L' := [(4, .long x17), (2, .double (bd (e - 1) t)), (0, .double (bd E t))]) [0, 1, 2] rfl ?_
            exact ihlp2 (e - 1) (x17) (by omega) (by omega) (by omega) (ex17 ▸ bx_p hx (by omega) (by omega) hE2)
    exact lp2 (E + 1) E 0 (by omega) (by omega) (by omega) (by rw [show (0 : Int64).toInt = 0 by decide]; omega)
  · refine g_lconst (v := 0) F (by decide) dX9_bitsOfSize_6 ?_
    refine g_lret F T ⟨_, rfl, ?_⟩ (Nat.le_of_ble_eq_true rfl) (Nat.le_of_ble_eq_true rfl) dX9_bitsOfSize_7
    exact ⟨by rw [bs_eq hm c1]; rfl, rfl⟩
set_option maxHeartbeats 4000000 in
set_option maxRecDepth 100000 in
theorem kX9_errorBits (g : Glo) (S : PS) (q : Nat → Nat) (hq : Shp S.1 S.2.1 q) (z : ZZ) (hB : Bz z) (hc : Cs S q 0 z) : Ct g mX9_errorBits 0 0 [.ref (q 80)] S (pJ9 (fun r S' => r = (zEr z).toInt64 ∧ Fr S S' q [86, 87, 88, 89])) := by
  refine Ct.of (by decide) (Nat.le_of_ble_eq_true rfl) (fun Γ hg F T => ?_)
  subst hg
  show G Γ S 0 0 0 [(0, .ref (q 80))] []
  have hnr := (nr_e hB).2
  refine g_aload_n (k := 0) F 0 rfl dX9_errorBits_0 ?_
  refine gfX9_10 F (qi80 hq) (qr80_0 hq) dX9_errorBits_1 ?_
  refine gfX9_100 F (qs0 hq (s := 0) (by decide)) (qt0_4 hq (s := 0) (by decide)) dX9_errorBits_4 ?_
  refine g_callVN (host := "PolarPlanimeter") F (kX4_area Γ.1 S q hq 0 (by decide) z hB hc ) okX4_area (qs2 hq (s := 0) (by decide)) nwM14 ⟨(Nat.le_of_ble_eq_true rfl), (Nat.le_of_ble_eq_true rfl)⟩ rfl rfl (Nat.le_of_ble_eq_true rfl) ⟨(Nat.le_of_ble_eq_true rfl), (Nat.le_of_ble_eq_true rfl)⟩ dX9_errorBits_7 (toJ (fun r1 S2 h3 => ?_))
  obtain ⟨er1, rfl⟩ := h3
  refine g_lstore_n (k := 1) (L' := [(1, .long r1), (0, .ref (q 80))]) F dX9_errorBits_10 (Nat.le_of_ble_eq_true rfl) rfl ?_
  refine g_aload_n (k := 0) F 1 rfl dX9_errorBits_11 ?_
  refine gfX9_10 F (qi80 hq) (qr80_0 hq) dX9_errorBits_12 ?_
  refine gfX9_73 F (qs0 hq (s := 0) (by decide)) (qt0_5 hq (s := 0) (by decide)) dX9_errorBits_15 ?_
  refine gfX9_160e F (qs6 hq (s := 0) (by decide)) hc.m dX9_errorBits_18 ?_
  refine g_if_eq (t := 30) F dX9_errorBits_21 (by decide) (fun c4 => ?_) (fun c4 => ?_)
  · have h69 : z 69 = 0 := (z69_0 hB).mpr (by
      rw [show (0 : Int32) = nI 0 from rfl, nI_eq (by omega) (by omega)] at c4
      exact c4)
    refine g_lconst (v := 0) F (by decide) dX9_errorBits_30 ?_
    refine g_lret F T ⟨_, rfl, ?_⟩ (Nat.le_of_ble_eq_true rfl) (Nat.le_of_ble_eq_true rfl) dX9_errorBits_31
    exact ⟨by unfold zEr; rw [if_pos (.inl h69)]; rfl, Fr.rf⟩
  · have h69 : ¬ z 69 = 0 := fun h => c4 (by rw [(z69_0 hB).mp h]; rfl)
    refine g_lload_n (k := 1) F 0 rfl dX9_errorBits_24 ?_
    refine g_lconst (v := 0) F (by decide) dX9_errorBits_25 ?_
    refine g_lcmp F dX9_errorBits_26 ?_
    refine g_if_ne (t := 32) F dX9_errorBits_27 (by decide) (fun c5 => ?_) (fun c5 => ?_)
    · rw [lc_eq] at c5
      have hA9 : ¬ zTw z / 2 = 0 := by rw [← er1]; exact c5
      refine g_aload_n (k := 0) F 1 rfl dX9_errorBits_32 ?_
      refine g_callV F (kX9_meanMinusArea Γ.1 S q hq z hB hc) okX9_meanMinusArea (qi80 hq) mw863 ⟨(Nat.le_of_ble_eq_true rfl), (Nat.le_of_ble_eq_true rfl)⟩ rfl rfl (Nat.le_of_ble_eq_true rfl) ⟨(Nat.le_of_ble_eq_true rfl), (Nat.le_of_ble_eq_true rfl)⟩ dX9_errorBits_33 (toJ (fun r6 S7 h8 => ?_))
      obtain ⟨er6, fr6⟩ := h8
      have hq9 : Shp S7.1 S7.2.1 q := Fr.q fr6 hq
      refine g_lstore_n (k := 3) (L' := [(3, .long r6), (1, .long r1), (0, .ref (q 80))]) F dX9_errorBits_36 (Nat.le_of_ble_eq_true rfl) rfl ?_
      refine g_lload_n (k := 3) F 0 rfl dX9_errorBits_37 ?_
      refine g_lconst (v := 0) F (by decide) dX9_errorBits_38 ?_
      refine g_lcmp F dX9_errorBits_39 ?_
      have jn11 : ∀ (w67 : Int32), w67 = bI ((decide (zDi z < 0)) != (decide (zTw z / 2 < 0))) → G Γ S7 0 0 67 [(3, .long r6), (1, .long r1), (0, .ref (q 80))] [.int w67] := by
        intro w67 hng
        refine g_istore (L' := [(5, .int w67), (3, .long r6), (1, .long r1), (0, .ref (q 80))]) F dX9_errorBits_67 (Nat.le_of_ble_eq_true rfl) rfl ?_
        obtain ⟨m, hm9⟩ := er_shape h69 hA9
        refine g_lload_n (k := 3) F 1 rfl dX9_errorBits_69 ?_
        refine g_mabsL F mw978 ⟨(Nat.le_of_ble_eq_true rfl), (Nat.le_of_ble_eq_true rfl)⟩ ⟨(Nat.le_of_ble_eq_true rfl), (Nat.le_of_ble_eq_true rfl)⟩ dX9_errorBits_70 ?_
        refine g_l2d F dX9_errorBits_73 ?_
        refine g_lload_n (k := 1) F 2 rfl dX9_errorBits_74 ?_
        refine g_mabsL F mw978 ⟨(Nat.le_of_ble_eq_true rfl), (Nat.le_of_ble_eq_true rfl)⟩ ⟨(Nat.le_of_ble_eq_true rfl), (Nat.le_of_ble_eq_true rfl)⟩ dX9_errorBits_75 ?_
        refine g_l2d F dX9_errorBits_78 ?_
        have hbs : BS (FP.ddiv (FP.l2d (if 0 < r6 then r6 else -r6)) (FP.l2d (if 0 < r1 then r1 else -r1))) m := by rw [er6, er1]; exact bs_Z hB h69 hA9 hm9
        refine g_ddiv F dX9_errorBits_79 (vf_of (bs_nn hbs)) ?_
        refine g_callS F (kX9_bitsOfSize Γ.1 S7 (FP.ddiv (FP.l2d (if 0 < r6 then r6 else -r6)) (FP.l2d (if 0 < r1 then r1 else -r1))) m hbs) okX9_bitsOfSize mw980 ⟨(Nat.le_of_ble_eq_true rfl), (Nat.le_of_ble_eq_true rfl)⟩ rfl rfl (Nat.le_of_ble_eq_true rfl) ⟨(Nat.le_of_ble_eq_true rfl), (Nat.le_of_ble_eq_true rfl)⟩ dX9_errorBits_80 (toJ (fun r12 S13 h14 => ?_))
        obtain ⟨er12, rfl⟩ := h14
        refine g_lstore (L' := [(6, .long r12), (5, .int w67), (3, .long r6), (1, .long r1), (0, .ref (q 80))]) F dX9_errorBits_83 (Nat.le_of_ble_eq_true rfl) rfl ?_
        refine g_iload F 1 rfl dX9_errorBits_85 ?_
        refine g_if_eq (t := 99) F dX9_errorBits_87 (by decide) (fun c15 => ?_) (fun c15 => ?_)
        · refine g_lload F 0 rfl dX9_errorBits_99 ?_
          refine g_lret F T ⟨_, rfl, ?_⟩ (Nat.le_of_ble_eq_true rfl) (Nat.le_of_ble_eq_true rfl) dX9_errorBits_101
          exact ⟨by rw [er_bits hm9, show sDA z = false from bI_0 (hng ▸ c15), er12]; rfl, (Fr.tr (l := [86, 87, 88, 89]) Fr.rf fr6 (by decide) (by decide))⟩
        · refine g_lload F 0 rfl dX9_errorBits_90 ?_
          refine g_ldc2 F mw979 dX9_errorBits_92 ?_
          refine g_lor F dX9_errorBits_95 ?_
          refine g_goto (t := 101) F dX9_errorBits_96 (by decide) ?_
          refine g_lret F T ⟨_, rfl, ?_⟩ (Nat.le_of_ble_eq_true rfl) (Nat.le_of_ble_eq_true rfl) dX9_errorBits_101
          exact ⟨by rw [er_bits hm9, show sDA z = true from bI_1 (hng ▸ c15), er12]; rfl, (Fr.tr (l := [86, 87, 88, 89]) Fr.rf fr6 (by decide) (by decide))⟩
      refine g_if_ge (t := 47) F dX9_errorBits_40 (by decide) (fun c10 => ?_) (fun c10 => ?_)
      · rw [lc_ge] at c10
        have g1 : ¬ zDi z < 0 := by rw [← er6]; exact L_nlt.mpr c10
        refine g_iconst (v := 0) F (by decide) dX9_errorBits_47 ?_
        refine g_lload_n (k := 1) F 1 rfl dX9_errorBits_48 ?_
        refine g_lconst (v := 0) F (by decide) dX9_errorBits_49 ?_
        refine g_lcmp F dX9_errorBits_50 ?_
        refine g_if_ge (t := 58) F dX9_errorBits_51 (by decide) (fun c16 => ?_) (fun c16 => ?_)
        · rw [lc_ge] at c16
          have g2 : ¬ zTw z / 2 < 0 := by rw [← er1]; exact L_nlt.mpr c16
          refine g_iconst (v := 0) F (by decide) dX9_errorBits_58 ?_
          refine g_icmp_eq (t := 66) F dX9_errorBits_59 (by decide) (fun c17 => ?_) (fun c17 => ?_)
          · refine g_iconst (v := 0) F (by decide) dX9_errorBits_66 ?_
            exact jn11 (0) (by show _ = bI ((decide (zDi z < 0)) != (decide (zTw z / 2 < 0))); rw [decide_eq_false g1, decide_eq_false g2]; rfl)
          · exact absurd rfl c17
        · rw [lc_ge] at c16
          have g2 : zTw z / 2 < 0 := by rw [← er1]; exact L_nle.mp c16
          refine g_iconst (v := 1) F (by decide) dX9_errorBits_54 ?_
          refine g_goto (t := 59) F dX9_errorBits_55 (by decide) ?_
          refine g_icmp_eq (t := 66) F dX9_errorBits_59 (by decide) (fun c18 => ?_) (fun c18 => ?_)
          · exact absurd c18 (by decide)
          · refine g_iconst (v := 1) F (by decide) dX9_errorBits_62 ?_
            refine g_goto (t := 67) F dX9_errorBits_63 (by decide) ?_
            exact jn11 (1) (by show _ = bI ((decide (zDi z < 0)) != (decide (zTw z / 2 < 0))); rw [decide_eq_false g1, decide_eq_true g2]; rfl)
      · rw [lc_ge] at c10
        have g1 : zDi z < 0 := by rw [← er6]; exact L_nle.mp c10
        refine g_iconst (v := 1) F (by decide) dX9_errorBits_43 ?_
        refine g_goto (t := 48) F dX9_errorBits_44 (by decide) ?_
        refine g_lload_n (k := 1) F 1 rfl dX9_errorBits_48 ?_
        refine g_lconst (v := 0) F (by decide) dX9_errorBits_49 ?_
        refine g_lcmp F dX9_errorBits_50 ?_
        refine g_if_ge (t := 58) F dX9_errorBits_51 (by decide) (fun c19 => ?_) (fun c19 => ?_)
        · rw [lc_ge] at c19
          have g2 : ¬ zTw z / 2 < 0 := by rw [← er1]; exact L_nlt.mpr c19
          refine g_iconst (v := 0) F (by decide) dX9_errorBits_58 ?_
          refine g_icmp_eq (t := 66) F dX9_errorBits_59 (by decide) (fun c20 => ?_) (fun c20 => ?_)
          · exact absurd c20 (by decide)
          · refine g_iconst (v := 1) F (by decide) dX9_errorBits_62 ?_
            refine g_goto (t := 67) F dX9_errorBits_63 (by decide) ?_
            exact jn11 (1) (by show _ = bI ((decide (zDi z < 0)) != (decide (zTw z / 2 < 0))); rw [decide_eq_true g1, decide_eq_false g2]; rfl)
        · rw [lc_ge] at c19
          have g2 : zTw z / 2 < 0 := by rw [← er1]; exact L_nle.mp c19
          refine g_iconst (v := 1) F (by decide) dX9_errorBits_54 ?_
          refine g_goto (t := 59) F dX9_errorBits_55 (by decide) ?_
          refine g_icmp_eq (t := 66) F dX9_errorBits_59 (by decide) (fun c21 => ?_) (fun c21 => ?_)
          · refine g_iconst (v := 0) F (by decide) dX9_errorBits_66 ?_
            exact jn11 (0) (by show _ = bI ((decide (zDi z < 0)) != (decide (zTw z / 2 < 0))); rw [decide_eq_true g1, decide_eq_true g2]; rfl)
          · exact absurd rfl c21
    · rw [lc_eq] at c5
      have hA9 : zTw z / 2 = 0 := by rw [← er1]; exact c5
      refine g_lconst (v := 0) F (by decide) dX9_errorBits_30 ?_
      refine g_lret F T ⟨_, rfl, ?_⟩ (Nat.le_of_ble_eq_true rfl) (Nat.le_of_ble_eq_true rfl) dX9_errorBits_31
      exact ⟨by unfold zEr; rw [if_pos (.inr hA9)]; rfl, Fr.rf⟩
