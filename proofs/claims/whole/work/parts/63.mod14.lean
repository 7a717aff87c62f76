set_option maxHeartbeats 4000000 in
set_option maxRecDepth 100000 in
theorem kX10_corners0 (g : Glo) (S : PS) (q : Nat → Nat) (hq : Shp S.1 S.2.1 q) (z : ZZ) (hz : pJ S (q 95) = z) (K : Nat) (h8 : (z 8).toInt32 = nI K) : Ct g mX10_corners 0 0 [.ref (q 94)] S (pI9 (fun r S' => r = nI K ∧ S = S')) := by
  refine Ct.of (by decide) (Nat.le_of_ble_eq_true rfl) (fun Γ hg F T => ?_)
  subst hg
  show G Γ S 0 0 0 [(0, .ref (q 94))] []
  refine g_aload_n (k := 0) F 0 rfl dX10_corners_0 ?_
  refine gfX10_7 F (qi94 hq) (qr94_1 hq) dX10_corners_1 ?_
  refine g_bipush (v := 8) F (by decide) dX10_corners_4 ?_
  refine g_lalde hz (j := 8) F (qi95 hq) rfl (by rw [(qn95 hq)]; omega) (by rw [(qn95 hq)]; decide) dX10_corners_6 ?_
  refine g_l2i F dX10_corners_7 ?_
  refine g_iret F T ⟨_, rfl, ?_⟩ (Nat.le_of_ble_eq_true rfl) (Nat.le_of_ble_eq_true rfl) dX10_corners_8
  exact ⟨h8, rfl⟩
set_option maxHeartbeats 4000000 in
set_option maxRecDepth 100000 in
theorem kX10_load (g : Glo) (S : PS) (q : Nat → Nat) (hq : Shp S.1 S.2.1 q) (z : ZZ) (hz : pJ S (q 95) = z) (hB : Bz z) (H : List ZZ) (l : Int32) (n : Nat) (tx : Nat → Int32) (hm : Mo S q z H l n tx) (hn60 : n ≤ 60) : Ct g mX10_load 0 0 [.ref (q 94)] S (pI9 (fun r S' => r = (oLod (z, H, l, n, tx)).2.1 ∧ Fr S S' q [94, 95, 96, 99] ∧ pI S' (q 94) 0 = (oLod (z, H, l, n, tx)).1 ∧ Mw S' q (oLod (z, H, l, n, tx)).2.2)) := by
  refine Ct.of (by decide) (Nat.le_of_ble_eq_true rfl) (fun Γ hg F T => ?_)
  subst hg
  show G Γ S 0 0 0 [(0, .ref (q 94))] []
  have hk9 := rdS_I (tx := tx) n
  have h39 := hk9.1.2.1
  have h29 := hk9.1.1
  refine g_aload_n (k := 0) F 0 rfl dX10_load_0 ?_
  refine g_callV F (kX10_readText Γ.1 S q hq n tx hm.2.2.2.1 hn60 (fun j9 hj9 => (congrFun rfl j9).trans (hm.2.2.2.2 j9 hj9))) okX10_readText (qi94 hq) mw638 ⟨(Nat.le_of_ble_eq_true rfl), (Nat.le_of_ble_eq_true rfl)⟩ rfl rfl (Nat.le_of_ble_eq_true rfl) ⟨(Nat.le_of_ble_eq_true rfl), (Nat.le_of_ble_eq_true rfl)⟩ dX10_load_1 (toI (fun r1 S2 h3 => ?_))
  obtain ⟨rfl, fr1, lr1, tr1⟩ := h3
  have hq4 : Shp S2.1 S2.2.1 q := Fr.q fr1 hq
  refine g_aload_n (k := 0) F 0 rfl dX10_load_4 ?_
  refine gfX10_236e F (qi94 hq4) ((lr1 5 (by decide)).trans hm.2.2.2.1) dX10_load_5 ?_
  have jn6 : ∀ (w42 : Int32), (w42 = 1 ∧ tLod tx n = 0) ∨ (w42 = 0 ∧ ¬ tLod tx n = 0) → G Γ S2 0 0 42 [(0, .ref (q 94))] [.int w42] := by
    intro w42 hw
    refine g_istore_n (k := 1) (L' := [(1, .int w42), (0, .ref (q 94))]) F dX10_load_42 (Nat.le_of_ble_eq_true rfl) rfl ?_
    refine g_aload_n (k := 0) F 1 rfl dX10_load_43 ?_
    refine g_iload_n (k := 1) F 0 rfl dX10_load_44 ?_
    have jn8 : ∀ (w53 : Int32), w53 = tLod tx n → G Γ S2 0 0 53 [(1, .int w42), (0, .ref (q 94))] [.int w53, .ref (q 94)] := by
      intro w53 ht
      refine pfX10_35 F (qi94 hq4) dX10_load_53 ?_
      refine g_aload_n (k := 0) F 1 rfl dX10_load_56 ?_
      refine gfX10_35e F (qi94 hq4) up2_s dX10_load_57 ?_
      refine g_if_le (t := 65) F dX10_load_60 (by decide) (fun c9 => ?_) (fun c9 => ?_)
      · have ht0 : tLod tx n = 0 := tLod_0 (ht ▸ c9)
        obtain ⟨hr1, hr2, hr3, hr4⟩ := tLod_1 ht0
        have hT := tr1 hr1
        have hI := hk9.1
        refine g_aload_n (k := 0) F 1 rfl dX10_load_65 ?_
        refine g_callV F (kX10_endNumber Γ.1 (wI S2 (q 94) 0 w53) q hq4 (rdS tx n).2 (TRl_w hq4 (by decide) hT) hI hr2) okX10_endNumber (qi94 hq4) mw651 ⟨(Nat.le_of_ble_eq_true rfl), (Nat.le_of_ble_eq_true rfl)⟩ rfl rfl (Nat.le_of_ble_eq_true rfl) ⟨(Nat.le_of_ble_eq_true rfl), (Nat.le_of_ble_eq_true rfl)⟩ dX10_load_66 (toV (fun S11 h12 => ?_))
        obtain ⟨f0r10, lr10, tr10⟩ := h12
        have hRD : ∀ i, i < (rdS tx n).2.2.2.2.1 + 1 → pI S11 (q 99) i = (rdE (rdS tx n).2).2.2.2.2 i := tr10.2.2.2
        have hq13 : Shp S11.1 S11.2.1 q := Fr.q f0r10 hq4
        refine g_aload_n (k := 0) F 1 rfl dX10_load_69 ?_
        refine g_callV F (kX10_save Γ.1 S11 q hq13 z ((f0r10.2.2 (95) (by decide) (by decide)).2.trans ((fr1.2.2 (95) (by decide) (by decide)).2.trans hz)) hB H (Sv_of hm.2.1 ((lr10 2 (by decide)).trans ((up2_k (by decide)).trans ((lr1 2 (by decide)).trans rfl))) ((f0r10.2.2 (96) (by decide) (by decide)).2.trans ((fr1.2.2 (96) (by decide) (by decide)).2.trans rfl)))) okX10_save (qi94 hq13) mw161 ⟨(Nat.le_of_ble_eq_true rfl), (Nat.le_of_ble_eq_true rfl)⟩ rfl rfl (Nat.le_of_ble_eq_true rfl) ⟨(Nat.le_of_ble_eq_true rfl), (Nat.le_of_ble_eq_true rfl)⟩ dX10_load_70 (toV (fun S15 h16 => ?_))
        obtain ⟨fr14, gr14, jr14, vr14⟩ := h16
        have hq17 : Shp S15.1 S15.2.1 q := Fr.q fr14 hq13
        refine g_aload_n (k := 0) F 1 rfl dX10_load_73 ?_
        refine gfX10_7 F (qi94 hq17) (qr94_1 hq17) dX10_load_74 ?_
        refine g_bipush (v := 8) F (by decide) dX10_load_77 ?_
        refine g_aload_n (k := 0) F 1 rfl dX10_load_79 ?_
        refine gfX10_255e F (qi94 hq17) ((gr14 15 (by decide)).trans tr10.2.1) dX10_load_80 ?_
        refine g_iconst (v := 2) F (by decide) dX10_load_83 ?_
        refine g_idiv F dX10_load_84 (by decide) ?_
        refine g_rei (nI (((rdS tx n).2.2.2.2.1 + 1) / 2)) (ndiv rfl rfl (by omega) (by omega) (by omega)) ?_
        refine g_i2l F dX10_load_85 ?_
        refine g_last (j := 8) F (qi95 hq17) rfl (by rw [(qn95 hq17)]; omega) (by rw [(qn95 hq17)]; decide) dX10_load_86 ?_
        refine g_iconst (v := 0) F (by decide) dX10_load_87 ?_
        refine g_istore_n (k := 2) (L' := [(2, .int 0), (1, .int w42), (0, .ref (q 94))]) F dX10_load_88 (Nat.le_of_ble_eq_true rfl) rfl ?_
        have lp18 : ∀ (n9 : Nat) (k : Nat) (S1 : PS), (((rdS tx n).2.2.2.2.1 + 1) / 2) < k + n9 → (k ≤ (((rdS tx n).2.2.2.2.1 + 1) / 2)) → (Fr (wJ S15 (q 95) (8) ((nI (((rdS tx n).2.2.2.2.1 + 1) / 2))).toInt64) S1 q [95]) → (pJ S1 (q 95) = ldR (zL8 z (((rdS tx n).2.2.2.2.1 + 1) / 2)) (rdE (rdS tx n).2).2.2.2.2 k) → G Γ S1 0 0 89 [(2, .int (nI k)), (1, .int w42), (0, .ref (q 94))] [] := by
          intro n9
          induction n9 with
          | zero =>
            intro k S1 hm9 hk hf hz1
            exact absurd hm9 (by omega)
          | succ n9 ihlp18 =>
            intro k S1 hm9 hk hf hz1
            have hq19 : Shp S1.1 S1.2.1 q := Fr.q hf hq17
            refine g_iload_n (k := 2) F 0 rfl dX10_load_89 ?_
            refine g_aload_n (k := 0) F 2 rfl dX10_load_90 ?_
            refine g_callV F (kX10_corners0 Γ.1 S1 q hq19 _ hz1 (((rdS tx n).2.2.2.2.1 + 1) / 2) (ld_8 (by omega))) okX10_corners (qi94 hq19) mw247 ⟨(Nat.le_of_ble_eq_true rfl), (Nat.le_of_ble_eq_true rfl)⟩ rfl rfl (Nat.le_of_ble_eq_true rfl) ⟨(Nat.le_of_ble_eq_true rfl), (Nat.le_of_ble_eq_true rfl)⟩ dX10_load_91 (toI (fun r20 S21 h22 => ?_))
            obtain ⟨rfl, rfl⟩ := h22
            refine g_icmp_ge (t := 127) F dX10_load_94 (by decide) (fun c23 => ?_) (fun c23 => ?_)
            · obtain rfl : k = (((rdS tx n).2.2.2.2.1 + 1) / 2) := by
                rw [nI_leI (by omega) (by omega)] at c23
                omega
              refine g_aload_n (k := 0) F 2 rfl dX10_load_127 ?_
              refine g_callV F (kX10_dropRuns Γ.1 S1 q hq19 _ hz1 (ld_B hB (by omega) (fun i hi => (rdI_E hI hr2).2 i (by omega)))) okX10_dropRuns (qi94 hq19) mw166 ⟨(Nat.le_of_ble_eq_true rfl), (Nat.le_of_ble_eq_true rfl)⟩ rfl rfl (Nat.le_of_ble_eq_true rfl) ⟨(Nat.le_of_ble_eq_true rfl), (Nat.le_of_ble_eq_true rfl)⟩ dX10_load_128 (toI (fun r24 S25 h26 => ?_))
              obtain ⟨er24, fr24, zr24⟩ := h26
              have hq27 : Shp S25.1 S25.2.1 q := Fr.q fr24 hq19
              refine g_pop F dX10_load_131 rfl ?_
              refine g_aload_n (k := 0) F 2 rfl dX10_load_132 ?_
              refine g_iconst (v := 0) F (by decide) dX10_load_133 ?_
              refine pfX10_236 F (qi94 hq27) dX10_load_134 ?_
              refine g_aload_n (k := 0) F 2 rfl dX10_load_137 ?_
              refine g_callV F (kX10_corners0 Γ.1 (wI S25 (q 94) 5 0) q hq27 _ zr24 (((rdS tx n).2.2.2.2.1 + 1) / 2) (by rw [uLn (by omega)]; exact ld_8 (by omega))) okX10_corners (qi94 hq27) mw247 ⟨(Nat.le_of_ble_eq_true rfl), (Nat.le_of_ble_eq_true rfl)⟩ rfl rfl (Nat.le_of_ble_eq_true rfl) ⟨(Nat.le_of_ble_eq_true rfl), (Nat.le_of_ble_eq_true rfl)⟩ dX10_load_138 (toI (fun r28 S29 h30 => ?_))
              obtain ⟨rfl, rfl⟩ := h30
              refine g_iret F T ⟨_, rfl, ?_⟩ (Nat.le_of_ble_eq_true rfl) (Nat.le_of_ble_eq_true rfl) dX10_load_141
              rw [show oLod (z, H, l, n, tx) = (0, nI (((rdS tx n).2.2.2.2.1 + 1) / 2), (zLod z (((rdS tx n).2.2.2.2.1 + 1) / 2) (rdE (rdS tx n).2).2.2.2.2, psh H z, l, 0, tx)) from if_pos ht0]
              exact ⟨rfl, (Fr.wI hq (Fr.tr (l := [94, 95, 96, 99]) (Fr.tr (l := [94, 95, 96, 99]) (Fr.wJ hq (Fr.tr (l := [94, 95, 96, 99]) (Fr.tr (l := [94, 95, 96, 99]) (Fr.wI hq (Fr.tr (l := [94, 95, 96, 99]) Fr.rf fr1 (by decide) (by decide)) (by decide) (by decide)) f0r10 (by decide) (by decide)) fr14 (by decide) (by decide)) (by decide) (by decide)) hf (by decide) (by decide)) fr24 (by decide) (by decide)) (by decide) (by decide)), ((up2_k (by decide)).trans ((congrFun (fr24.2.2 (94) (by decide) (by decide)).1 0).trans ((congrFun (hf.2.2 (94) (by decide) (by decide)).1 0).trans ((gr14 0 (by decide)).trans ((lr10 0 (by decide)).trans up2_s))))).trans (ht.trans ht0), ⟨zr24, Sv_of vr14 ((up2_k (by decide)).trans ((congrFun (fr24.2.2 (94) (by decide) (by decide)).1 2).trans ((congrFun (hf.2.2 (94) (by decide) (by decide)).1 2).trans rfl))) ((fr24.2.2 (96) (by decide) (by decide)).2.trans ((hf.2.2 (96) (by decide) (by decide)).2.trans ((up2_r (qne hq17 (by decide) (by decide) (by decide))).trans rfl))), ((up2_k (by decide)).trans ((congrFun (fr24.2.2 (94) (by decide) (by decide)).1 4).trans ((congrFun (hf.2.2 (94) (by decide) (by decide)).1 4).trans ((gr14 4 (by decide)).trans ((lr10 4 (by decide)).trans ((up2_k (by decide)).trans ((lr1 4 (by decide)).trans hm.2.2.1))))))), up2_s, fun j9 hj9 => absurd hj9 (Nat.not_lt_zero j9)⟩⟩
            · have hi9 : k < (((rdS tx n).2.2.2.2.1 + 1) / 2) := by
                rw [nI_leI (by omega) (by omega)] at c23
                omega
              refine g_aload_n (k := 0) F 2 rfl dX10_load_97 ?_
              refine g_iload_n (k := 2) F 0 rfl dX10_load_98 ?_
              refine g_aload_n (k := 0) F 2 rfl dX10_load_99 ?_
              refine gfX10_24 F (qi94 hq19) (qr94_16 hq19) dX10_load_100 ?_
              refine g_iconst (v := 2) F (by decide) dX10_load_103 ?_
              refine g_iload_n (k := 2) F 0 rfl dX10_load_104 ?_
              refine g_imul F dX10_load_105 ?_
              refine g_rei (nI (2 * k)) (nmul rfl rfl) ?_
              refine g_ialde ((hf.2.2 (99) (by decide) (by decide)).1.trans ((fr14.2.2 (99) (by decide) (by decide)).1.trans rfl)) (j := (2 * k)) F (qi99 hq19) rfl (by rw [(qn99 hq19)]; omega) (by rw [(qn99 hq19)]; decide) dX10_load_106 ?_
              refine g_rei ((rdE (rdS tx n).2).2.2.2.2 (2 * k)) (hRD (2 * k) (by omega)) ?_
              refine g_aload_n (k := 0) F 2 rfl dX10_load_107 ?_
              refine gfX10_24 F (qi94 hq19) (qr94_16 hq19) dX10_load_108 ?_
              refine g_iconst (v := 2) F (by decide) dX10_load_111 ?_
              refine g_iload_n (k := 2) F 0 rfl dX10_load_112 ?_
              refine g_imul F dX10_load_113 ?_
              refine g_rei (nI (2 * k)) (nmul rfl rfl) ?_
              refine g_iconst (v := 1) F (by decide) dX10_load_114 ?_
              refine g_iadd F dX10_load_115 ?_
              refine g_rei (nI ((2 * k) + 1)) (nadd rfl rfl) ?_
              refine g_ialde ((hf.2.2 (99) (by decide) (by decide)).1.trans ((fr14.2.2 (99) (by decide) (by decide)).1.trans rfl)) (j := ((2 * k) + 1)) F (qi99 hq19) rfl (by rw [(qn99 hq19)]; omega) (by rw [(qn99 hq19)]; decide) dX10_load_116 ?_
              refine g_rei ((rdE (rdS tx n).2).2.2.2.2 (2 * k + 1)) (hRD (2 * k + 1) (by omega)) ?_
              refine g_iconst (v := 0) F (by decide) dX10_load_117 ?_
              refine g_callV F (kX10_putCorner Γ.1 S1 q hq19 (ldR (zL8 z (((rdS tx n).2.2.2.2.1 + 1) / 2)) (rdE (rdS tx n).2).2.2.2.2 k) hz1 k (by omega) (nI k) rfl ((rdE (rdS tx n).2).2.2.2.2 (2 * k)) ((rdE (rdS tx n).2).2.2.2.2 (2 * k + 1)) 0) okX10_putCorner (qi94 hq19) mw255 ⟨(Nat.le_of_ble_eq_true rfl), (Nat.le_of_ble_eq_true rfl)⟩ rfl rfl (Nat.le_of_ble_eq_true rfl) ⟨(Nat.le_of_ble_eq_true rfl), (Nat.le_of_ble_eq_true rfl)⟩ dX10_load_118 (toV (fun S32 h33 => ?_))
              obtain ⟨fr31, zr31⟩ := h33
              have hq34 : Shp S32.1 S32.2.1 q := Fr.q fr31 hq19
              obtain ⟨x35, ex35⟩ : ∃ y9 : Int32, y9 = (nI k) + 1 := ⟨_, rfl⟩
              refine g_iinc (k := 0) (v := x35) (L' := [(2, .int x35), (1, .int w42), (0, .ref (q 94))]) F dX10_load_121 rfl (by rw [ex35]; rfl) (Nat.le_of_ble_eq_true rfl) rfl ?_
              refine g_goto (t := 89) F dX10_load_124 (by decide) ?_
              obtain rfl : x35 = nI (k + 1) := (ex35.trans (nI_1 _))
              refine g_sub (L' := [(2, .int (nI (k + 1))), (1, .int w42), (0, .ref (q 94))]) [0, 1, 2] rfl ?_
              exact ihlp18 (k + 1) (S32) (by omega) (by omega) (Fr.tr (l := [95]) hf fr31 (fun _ h => h) (fun _ h => h)) zr31
        exact lp18 ((((rdS tx n).2.2.2.2.1 + 1) / 2) + 1) 0 (wJ S15 (q 95) (8) ((nI (((rdS tx n).2.2.2.2.1 + 1) / 2))).toInt64) (by omega) (by omega) Fr.rf (up2_updL.trans (congrArg (fun f9 => vp_updL f9 (8) ((nI (((rdS tx n).2.2.2.2.1 + 1) / 2))).toInt64) ((fr14.2.2 (95) (by decide) (by decide)).2.trans ((f0r10.2.2 (95) (by decide) (by decide)).2.trans ((fr1.2.2 (95) (by decide) (by decide)).2.trans hz)))))
      · have ht1 : ¬ tLod tx n = 0 := fun h => c9 (by rw [ht, h]; decide)
        refine g_iconst (v := 0) F (by decide) dX10_load_63 ?_
        refine g_iret F T ⟨_, rfl, ?_⟩ (Nat.le_of_ble_eq_true rfl) (Nat.le_of_ble_eq_true rfl) dX10_load_64
        rw [show oLod (z, H, l, n, tx) = (1, 0, (z, H, l, n, tx)) from if_neg ht1]
        exact ⟨rfl, (Fr.wI hq (Fr.tr (l := [94, 95, 96, 99]) Fr.rf fr1 (by decide) (by decide)) (by decide) (by decide)), up2_s.trans (ht.trans (tLod_n ht1)), ⟨((fr1.2.2 (95) (by decide) (by decide)).2.trans hz), Sv_of hm.2.1 ((up2_k (by decide)).trans ((lr1 2 (by decide)).trans rfl)) ((fr1.2.2 (96) (by decide) (by decide)).2.trans rfl), ((up2_k (by decide)).trans ((lr1 4 (by decide)).trans hm.2.2.1)), ((up2_k (by decide)).trans ((lr1 5 (by decide)).trans hm.2.2.2.1)), fun j9 hj9 => (congrFun ((up2_r (qne hq4 (by decide) (by decide) (by decide))).trans ((fr1.2.2 (97) (by decide) (by decide)).1.trans rfl)) j9).trans (hm.2.2.2.2 j9 hj9)⟩⟩
    refine g_if_eq (t := 52) F dX10_load_45 (by decide) (fun c7 => ?_) (fun c7 => ?_)
    · have hb9 : ¬ tLod tx n = 0 := w0 hw c7
      refine g_iconst (v := 1) F (by decide) dX10_load_52 ?_
      exact jn8 (1) (tLod_n hb9).symm
    · have hb9 : tLod tx n = 0 := w1 hw c7
      refine g_iconst (v := 0) F (by decide) dX10_load_48 ?_
      refine g_goto (t := 53) F dX10_load_49 (by decide) ?_
      exact jn8 (0) hb9.symm
  refine g_icmp_ne (t := 41) F dX10_load_8 (by decide) (fun c5 => ?_) (fun c5 => ?_)
  · have h89 : ¬ (rdS tx n).1 = n := fun h => c5 (by rw [h])
    refine g_iconst (v := 0) F (by decide) dX10_load_41 ?_
    exact jn6 (0) (.inr ⟨rfl, fun h => h89 (tLod_1 h).1⟩)
  · have h89 : (rdS tx n).1 = n := by
      rw [nI_eq (by omega) (by omega)] at c5
      exact c5
    have hT := tr1 h89
    refine g_aload_n (k := 0) F 0 rfl dX10_load_11 ?_
    refine gfX10_239e F (qi94 hq4) hT.1 dX10_load_12 ?_
    refine g_iconst (v := 2) F (by decide) dX10_load_15 ?_
    refine g_icmp_ne (t := 41) F dX10_load_16 (by decide) (fun c36 => ?_) (fun c36 => ?_)
    · have hs9 : ¬ (rdS tx n).2.1 = 2 := fun h => c36 (by rw [h]; rfl)
      refine g_iconst (v := 0) F (by decide) dX10_load_41 ?_
      exact jn6 (0) (.inr ⟨rfl, fun h => hs9 (tLod_1 h).2.1⟩)
    · have hs9 : (rdS tx n).2.1 = 2 := by
        rw [show (2 : Int32) = nI 2 from rfl, nI_eq (by omega) (by omega)] at c36
        exact c36
      refine g_aload_n (k := 0) F 0 rfl dX10_load_19 ?_
      refine gfX10_255e F (qi94 hq4) hT.2.1 dX10_load_20 ?_
      refine g_iconst (v := 2) F (by decide) dX10_load_23 ?_
      refine g_irem F dX10_load_24 (by decide) ?_
      refine g_rei (nI ((rdS tx n).2.2.2.2.1 % 2)) (nrem rfl rfl (by omega) (by omega) (by omega)) ?_
      refine g_iconst (v := 1) F (by decide) dX10_load_25 ?_
      refine g_icmp_ne (t := 41) F dX10_load_26 (by decide) (fun c37 => ?_) (fun c37 => ?_)
      · have hp9 : ¬ (rdS tx n).2.2.2.2.1 % 2 = 1 := fun h => c37 (by rw [h]; rfl)
        refine g_iconst (v := 0) F (by decide) dX10_load_41 ?_
        exact jn6 (0) (.inr ⟨rfl, fun h => hp9 (tLod_1 h).2.2.1⟩)
      · have hp9 : (rdS tx n).2.2.2.2.1 % 2 = 1 := by
          rw [show (1 : Int32) = nI 1 from rfl, nI_eq (by omega) (by omega)] at c37
          exact c37
        refine g_aload_n (k := 0) F 0 rfl dX10_load_29 ?_
        refine gfX10_255e F (qi94 hq4) hT.2.1 dX10_load_30 ?_
        refine g_iconst (v := 4) F (by decide) dX10_load_33 ?_
        refine g_icmp_le (t := 41) F dX10_load_34 (by decide) (fun c38 => ?_) (fun c38 => ?_)
        · have hq9 : ¬ 4 < (rdS tx n).2.2.2.2.1 := by
            rw [show (4 : Int32) = nI 4 from rfl, nI_leI (by omega) (by omega)] at c38
            omega
          refine g_iconst (v := 0) F (by decide) dX10_load_41 ?_
          exact jn6 (0) (.inr ⟨rfl, fun h => hq9 (tLod_1 h).2.2.2⟩)
        · have hq9 : 4 < (rdS tx n).2.2.2.2.1 := by
            rw [show (4 : Int32) = nI 4 from rfl, nI_leI (by omega) (by omega)] at c38
            omega
          refine g_iconst (v := 1) F (by decide) dX10_load_37 ?_
          refine g_goto (t := 42) F dX10_load_38 (by decide) ?_
          exact jn6 (1) (.inl ⟨rfl, tLod_y h89 hs9 hp9 hq9⟩)
set_option maxHeartbeats 4000000 in
set_option maxRecDepth 100000 in
theorem kX10_cornerNow (g : Glo) (S : PS) (q : Nat → Nat) (hq : Shp S.1 S.2.1 q) (z : ZZ) (hz : pJ S (q 95) = z) (hB : Bz z) (k : Nat) (hk : k < nc z) (w : Int32) (hw : 0 ≤ w.toInt ∧ w.toInt ≤ 5) : Ct g mX10_cornerNow 0 0 [.ref (q 94), .int (nI k), .int w] S (pJ9 (fun r S' => r = zCn z k w ∧ Fm S S' q [7, 8])) := by
  refine Ct.of (by decide) (Nat.le_of_ble_eq_true rfl) (fun Γ hg F T => ?_)
  subst hg
  show G Γ S 0 0 0 [(0, .ref (q 94)), (1, .int (nI k)), (2, .int w)] []
  have hnc := (nc_e hB).2
  have h0 : 0 < nc z := by omega
  refine g_iload_n (k := 2) F 2 rfl dX10_cornerNow_0 ?_
  by_cases w1_3 : w = 3
  · refine g_tin (off := 27) (t := 28) F dX10_cornerNow_1 (by rw [w1_3]; decide) (by rw [w1_3]; decide) (by rw [w1_3]; decide) (by decide) ?_
    refine g_aload_n (k := 0) F 0 rfl dX10_cornerNow_28 ?_
    refine g_iload_n (k := 1) F 1 rfl dX10_cornerNow_29 ?_
    refine g_callV F (kX10_steps Γ.1 _ q hq z hz hB h0 k (by omega)) okX10_steps (qi94 hq) mw489 ⟨(Nat.le_of_ble_eq_true rfl), (Nat.le_of_ble_eq_true rfl)⟩ rfl rfl (Nat.le_of_ble_eq_true rfl) ⟨(Nat.le_of_ble_eq_true rfl), (Nat.le_of_ble_eq_true rfl)⟩ dX10_cornerNow_30 (toI (fun r2 S3 h4 => ?_))
    obtain ⟨rfl, rfl⟩ := h4
    refine g_i2l F dX10_cornerNow_33 ?_
    refine g_lret F T ⟨_, rfl, ?_⟩ (Nat.le_of_ble_eq_true rfl) (Nat.le_of_ble_eq_true rfl) dX10_cornerNow_34
    exact ⟨(nI_L (by have := zN_b hB h0 k; omega)).trans ((if_pos w1_3)).symm, Fm.rf⟩
  by_cases w1_4 : w = 4
  · refine g_tin (off := 34) (t := 35) F dX10_cornerNow_1 (by rw [w1_4]; decide) (by rw [w1_4]; decide) (by rw [w1_4]; decide) (by decide) ?_
    refine g_aload_n (k := 0) F 0 rfl dX10_cornerNow_35 ?_
    refine g_iload_n (k := 1) F 1 rfl dX10_cornerNow_36 ?_
    refine g_callV F (kX10_isReached Γ.1 _ q hq z hz hB h0 k (by omega)) okX10_isReached (qi94 hq) mw485 ⟨(Nat.le_of_ble_eq_true rfl), (Nat.le_of_ble_eq_true rfl)⟩ rfl rfl (Nat.le_of_ble_eq_true rfl) ⟨(Nat.le_of_ble_eq_true rfl), (Nat.le_of_ble_eq_true rfl)⟩ dX10_cornerNow_37 (toI (fun r5 S6 h7 => ?_))
    obtain ⟨er5, rfl⟩ := h7
    refine g_if_eq (t := 51) F dX10_cornerNow_40 (by decide) (fun c8 => ?_) (fun c8 => ?_)
    · have hr9 := w0 er5 c8
      refine g_lconst (v := 0) F (by decide) dX10_cornerNow_51 ?_
      refine g_lret F T ⟨_, rfl, ?_⟩ (Nat.le_of_ble_eq_true rfl) (Nat.le_of_ble_eq_true rfl) dX10_cornerNow_52
      exact ⟨(rfl).trans ((Eq.trans (if_neg w1_3) (Eq.trans (if_pos w1_4) (ifP_f hr9)))).symm, Fm.rf⟩
    · have hr9 := w1 er5 c8
      refine g_aload_n (k := 0) F 0 rfl dX10_cornerNow_43 ?_
      refine g_iload_n (k := 1) F 1 rfl dX10_cornerNow_44 ?_
      refine g_callV F (kX10_roll Γ.1 S q hq z hz hB h0 k (by omega) hr9) okX10_roll (qi94 hq) mw730 ⟨(Nat.le_of_ble_eq_true rfl), (Nat.le_of_ble_eq_true rfl)⟩ rfl rfl (Nat.le_of_ble_eq_true rfl) ⟨(Nat.le_of_ble_eq_true rfl), (Nat.le_of_ble_eq_true rfl)⟩ dX10_cornerNow_45 (toJ (fun r9 S10 h11 => ?_))
      obtain ⟨er9, gh11⟩ := h11
      have hq12 : Shp S10.1 S10.2.1 q := Fm.q gh11 hq
      refine g_goto (t := 52) F dX10_cornerNow_48 (by decide) ?_
      refine g_lret F T ⟨_, rfl, ?_⟩ (Nat.le_of_ble_eq_true rfl) (Nat.le_of_ble_eq_true rfl) dX10_cornerNow_52
      exact ⟨(er9).trans ((Eq.trans (if_neg w1_3) (Eq.trans (if_pos w1_4) (ifP_t hr9)))).symm, (Fm.tr Fm.rf gh11 (by decide))⟩
  by_cases w1_5 : w = 5
  · refine g_tin (off := 52) (t := 53) F dX10_cornerNow_1 (by rw [w1_5]; decide) (by rw [w1_5]; decide) (by rw [w1_5]; decide) (by decide) ?_
    refine g_aload_n (k := 0) F 0 rfl dX10_cornerNow_53 ?_
    refine g_iload_n (k := 1) F 1 rfl dX10_cornerNow_54 ?_
    refine g_callV F (kX10_isReached Γ.1 _ q hq z hz hB h0 k (by omega)) okX10_isReached (qi94 hq) mw485 ⟨(Nat.le_of_ble_eq_true rfl), (Nat.le_of_ble_eq_true rfl)⟩ rfl rfl (Nat.le_of_ble_eq_true rfl) ⟨(Nat.le_of_ble_eq_true rfl), (Nat.le_of_ble_eq_true rfl)⟩ dX10_cornerNow_55 (toI (fun r13 S14 h15 => ?_))
    obtain ⟨er13, rfl⟩ := h15
    refine g_if_eq (t := 65) F dX10_cornerNow_58 (by decide) (fun c16 => ?_) (fun c16 => ?_)
    · have hr9 := w0 er13 c16
      refine g_lconst (v := 0) F (by decide) dX10_cornerNow_65 ?_
      refine g_lret F T ⟨_, rfl, ?_⟩ (Nat.le_of_ble_eq_true rfl) (Nat.le_of_ble_eq_true rfl) dX10_cornerNow_66
      exact ⟨(rfl).trans ((Eq.trans (if_neg w1_3) (Eq.trans (if_neg w1_4) (Eq.trans (if_pos w1_5) (ifP_f hr9))))).symm, Fm.rf⟩
    · have hr9 := w1 er13 c16
      refine g_lconst (v := 1) F (by decide) dX10_cornerNow_61 ?_
      refine g_goto (t := 66) F dX10_cornerNow_62 (by decide) ?_
      refine g_lret F T ⟨_, rfl, ?_⟩ (Nat.le_of_ble_eq_true rfl) (Nat.le_of_ble_eq_true rfl) dX10_cornerNow_66
      exact ⟨(rfl).trans ((Eq.trans (if_neg w1_3) (Eq.trans (if_neg w1_4) (Eq.trans (if_pos w1_5) (ifP_t hr9))))).symm, Fm.rf⟩
  refine g_tout (t := 67) F dX10_cornerNow_1 (by have a3 : ¬ (w : Int32).toInt = 3 := fun h9 => w1_3 (Int32.toInt_inj.mp h9); have a4 : ¬ (w : Int32).toInt = 4 := fun h9 => w1_4 (Int32.toInt_inj.mp h9); have a5 : ¬ (w : Int32).toInt = 5 := fun h9 => w1_5 (Int32.toInt_inj.mp h9); omega) (by decide) ?_
  refine g_aload_n (k := 0) F 0 rfl dX10_cornerNow_67 ?_
  refine gfX10_7 F (qi94 hq) (qr94_1 hq) dX10_cornerNow_68 ?_
  refine g_bipush (v := 9) F (by decide) dX10_cornerNow_71 ?_
  refine g_iconst (v := 3) F (by decide) dX10_cornerNow_73 ?_
  refine g_iload_n (k := 1) F 1 rfl dX10_cornerNow_74 ?_
  refine g_imul F dX10_cornerNow_75 ?_
  refine g_rei (nI (3 * k)) (nmul rfl rfl) ?_
  refine g_iadd F dX10_cornerNow_76 ?_
  refine g_rei (nI (9 + (3 * k))) (nadd rfl rfl) ?_
  refine g_iload_n (k := 2) F 2 rfl dX10_cornerNow_77 ?_
  refine g_iadd F dX10_cornerNow_78 ?_
  refine g_rei (nI ((9 + (3 * k)) + w.toInt.toNat)) (nadd rfl (kN hw.1)) ?_
  refine g_lalde hz (j := ((9 + (3 * k)) + w.toInt.toNat)) F (qi95 hq) rfl (by rw [(qn95 hq)]; omega) (by rw [(qn95 hq)]; decide) dX10_cornerNow_79 ?_
  refine g_lret F T ⟨_, rfl, ?_⟩ (Nat.le_of_ble_eq_true rfl) (Nat.le_of_ble_eq_true rfl) dX10_cornerNow_80
  exact ⟨(rfl).trans ((Eq.trans (if_neg w1_3) (Eq.trans (if_neg w1_4) (if_neg w1_5)))).symm, Fm.rf⟩
theorem kX10_cornerNow2 (g : Glo) (S : PS) (q : Nat → Nat) (hq : Shp S.1 S.2.1 q) (z : ZZ) (hz : pJ S (q 95) = z) (hB : Bz z) (k : Nat) (hk : k < nc z) (w : Int32) (hw : 0 ≤ w.toInt ∧ w.toInt ≤ 5) (kk : Int32) (hkk : kk = nI k) : Ct g mX10_cornerNow 0 0 [.ref (q 94), .int kk, .int w] S (pJ9 (fun r S' => r = zCn z k w ∧ Fm S S' q [7, 8])) := by
  subst hkk
  exact kX10_cornerNow g S q hq z hz hB k hk w hw
set_option maxHeartbeats 4000000 in
set_option maxRecDepth 100000 in
theorem kX10_corner (g : Glo) (S : PS) (q : Nat → Nat) (hq : Shp S.1 S.2.1 q) (z : ZZ) (hz : pJ S (q 95) = z) (hB : Bz z) (H : List ZZ) (l : Int32) (n : Nat) (tx : Nat → Int32) (hm : Mo S q z H l n tx) (k w : Int32) : Ct g mX10_corner 0 0 [.ref (q 94), .int k, .int w] S (pJ9 (fun r S' => r = (oCor k w (z, H, l, n, tx)).2 ∧ Fr S S' q [94, 98] ∧ pI S' (q 94) 0 = (oCor k w (z, H, l, n, tx)).1 ∧ Mo S' q z H l n tx)) := by
  refine Ct.of (by decide) (Nat.le_of_ble_eq_true rfl) (fun Γ hg F T => ?_)
  subst hg
  show G Γ S 0 0 0 [(0, .ref (q 94)), (1, .int k), (2, .int w)] []
  refine g_aload_n (k := 0) F 0 rfl dX10_corner_0 ?_
  refine g_aload_n (k := 0) F 0 rfl dX10_corner_1 ?_
  refine g_iload_n (k := 1) F 1 rfl dX10_corner_2 ?_
  refine g_callV F (kX10_isCorner Γ.1 _ q hq z hz hB k) okX10_isCorner (qi94 hq) mw274 ⟨(Nat.le_of_ble_eq_true rfl), (Nat.le_of_ble_eq_true rfl)⟩ rfl rfl (Nat.le_of_ble_eq_true rfl) ⟨(Nat.le_of_ble_eq_true rfl), (Nat.le_of_ble_eq_true rfl)⟩ dX10_corner_3 (toI (fun r1 S2 h3 => ?_))
  obtain ⟨er1, rfl⟩ := h3
  have jn5 : ∀ (w30 : Int32), w30 = tCor z k w → G Γ S 0 0 30 [(0, .ref (q 94)), (1, .int k), (2, .int w)] [.int w30, .ref (q 94)] := by
    intro w30 ht
    refine pfX10_35 F (qi94 hq) dX10_corner_30 ?_
    refine g_aload_n (k := 0) F 0 rfl dX10_corner_33 ?_
    refine gfX10_35e F (qi94 hq) up2_s dX10_corner_34 ?_
    refine g_if_le (t := 44) F dX10_corner_37 (by decide) (fun c6 => ?_) (fun c6 => ?_)
    · obtain ⟨ht0, hk9, hw9⟩ := tCor_i (ht ▸ c6)
      refine g_aload_n (k := 0) F 0 rfl dX10_corner_44 ?_
      refine g_iload_n (k := 1) F 1 rfl dX10_corner_45 ?_
      refine g_iload_n (k := 2) F 2 rfl dX10_corner_46 ?_
      refine g_callV F (kX10_cornerNow2 Γ.1 (wI S (q 94) 0 w30) q hq z hz hB k.toInt.toNat (by omega) w hw9 k (kN hk9.1)) okX10_cornerNow (qi94 hq) mw726 ⟨(Nat.le_of_ble_eq_true rfl), (Nat.le_of_ble_eq_true rfl)⟩ rfl rfl (Nat.le_of_ble_eq_true rfl) ⟨(Nat.le_of_ble_eq_true rfl), (Nat.le_of_ble_eq_true rfl)⟩ dX10_corner_47 (toJ (fun r7 S8 h9 => ?_))
      obtain ⟨er7, gr7⟩ := h9
      have hq10 : Shp S8.1 S8.2.1 q := Fr.q gr7.1 hq
      refine g_lret F T ⟨_, rfl, ?_⟩ (Nat.le_of_ble_eq_true rfl) (Nat.le_of_ble_eq_true rfl) dX10_corner_50
      rw [show oCor k w (z, H, l, n, tx) = (0, zCn z k.toInt.toNat w) from if_pos ht0]
      exact ⟨er7, (Fr.tr (l := [94, 98]) (Fr.wI hq Fr.rf (by decide) (by decide)) gr7.1 (by decide) (by decide)), ((congrFun gr7.2.1 0).trans up2_s).trans (ht.trans ht0), ⟨((gr7.1.2.2 (95) (by decide) (by decide)).2.trans hz), Sv_of hm.2.1 ((congrFun gr7.2.1 2).trans ((up2_k (by decide)).trans rfl)) ((gr7.1.2.2 (96) (by decide) (by decide)).2.trans rfl), ((congrFun gr7.2.1 4).trans ((up2_k (by decide)).trans hm.2.2.1)), ((congrFun gr7.2.1 5).trans ((up2_k (by decide)).trans hm.2.2.2.1)), fun j9 hj9 => (congrFun ((gr7.1.2.2 (97) (by decide) (by decide)).1.trans ((up2_r (qne hq (by decide) (by decide) (by decide))).trans rfl)) j9).trans (hm.2.2.2.2 j9 hj9)⟩⟩
    · have ht1 : ¬ tCor z k w = 0 := fun h => c6 (by rw [ht, h]; decide)
      refine g_lconst (v := 0) F (by decide) dX10_corner_40 ?_
      refine g_goto (t := 50) F dX10_corner_41 (by decide) ?_
      refine g_lret F T ⟨_, rfl, ?_⟩ (Nat.le_of_ble_eq_true rfl) (Nat.le_of_ble_eq_true rfl) dX10_corner_50
      rw [show oCor k w (z, H, l, n, tx) = (tCor z k w, 0) from if_neg ht1]
      exact ⟨rfl, (Fr.wI hq Fr.rf (by decide) (by decide)), up2_s.trans ht, ⟨hz, Sv_of hm.2.1 ((up2_k (by decide)).trans rfl) rfl, ((up2_k (by decide)).trans hm.2.2.1), ((up2_k (by decide)).trans hm.2.2.2.1), fun j9 hj9 => (congrFun ((up2_r (qne hq (by decide) (by decide) (by decide))).trans rfl) j9).trans (hm.2.2.2.2 j9 hj9)⟩⟩
  refine g_if_ne (t := 13) F dX10_corner_6 (by decide) (fun c4 => ?_) (fun c4 => ?_)
  · have hk8 := if01_1 er1 c4
    refine g_iload_n (k := 2) F 2 rfl dX10_corner_13 ?_
    refine g_i2l F dX10_corner_14 ?_
    refine g_lconst (v := 0) F (by decide) dX10_corner_15 ?_
    refine g_ldc2 F mw725 dX10_corner_16 ?_
    refine g_callS F (kX10_within Γ.1 _ _ _ _) okX10_within mw158 ⟨(Nat.le_of_ble_eq_true rfl), (Nat.le_of_ble_eq_true rfl)⟩ rfl rfl (Nat.le_of_ble_eq_true rfl) ⟨(Nat.le_of_ble_eq_true rfl), (Nat.le_of_ble_eq_true rfl)⟩ dX10_corner_19 (toI (fun r11 S12 h13 => ?_))
    obtain ⟨er11, rfl⟩ := h13
    refine g_if_eq (t := 29) F dX10_corner_22 (by decide) (fun c14 => ?_) (fun c14 => ?_)
    · have hw8 := wI_f (lo := 0) (hi := 5) er11 c14 (by decide) (by decide)
      refine g_iconst (v := 2) F (by decide) dX10_corner_29 ?_
      exact jn5 (2) (by unfold tCor; rw [if_neg (fun h => h hk8), if_neg hw8])
    · have hw8 := wI_t (lo := 0) (hi := 5) er11 c14 (by decide) (by decide)
      refine g_iconst (v := 0) F (by decide) dX10_corner_25 ?_
      refine g_goto (t := 30) F dX10_corner_26 (by decide) ?_
      exact jn5 (0) (by unfold tCor; rw [if_neg (fun h => h hk8), if_pos hw8])
  · have hk8 := if01_0 er1 c4
    refine g_iconst (v := 1) F (by decide) dX10_corner_9 ?_
    refine g_goto (t := 30) F dX10_corner_10 (by decide) ?_
    exact jn5 (1) (by unfold tCor; rw [if_pos hk8])
set_option maxHeartbeats 4000000 in
set_option maxRecDepth 100000 in
theorem kX10_madeNow (g : Glo) (S : PS) (q : Nat → Nat) (hq : Shp S.1 S.2.1 q) (z : ZZ) (hz : pJ S (q 95) = z) (hB : Bz z) (r : Nat) (hr : r < nr z) (w : Int32) (hw : 0 ≤ w.toInt ∧ w.toInt ≤ 5) : Ct g mX10_madeNow 0 0 [.ref (q 94), .int (nI r), .int w] S (pJ9 (fun r9 S' => r9 = zMn z r w ∧ Fm S S' q [])) := by
  refine Ct.of (by decide) (Nat.le_of_ble_eq_true rfl) (fun Γ hg F T => ?_)
  subst hg
  show G Γ S 0 0 0 [(0, .ref (q 94)), (1, .int (nI r)), (2, .int w)] []
  have hnr := (nr_e hB).2
  refine g_iload_n (k := 2) F 2 rfl dX10_madeNow_0 ?_
  by_cases w1_3 : w = 3
  · refine g_tin (off := 27) (t := 28) F dX10_madeNow_1 (by rw [w1_3]; decide) (by rw [w1_3]; decide) (by rw [w1_3]; decide) (by decide) ?_
    refine g_aload_n (k := 0) F 0 rfl dX10_madeNow_28 ?_
    refine gfX10_7 F (qi94 hq) (qr94_1 hq) dX10_madeNow_29 ?_
    refine g_bipush (v := 70) F (by decide) dX10_madeNow_32 ?_
    refine g_iconst (v := 3) F (by decide) dX10_madeNow_34 ?_
    refine g_iload_n (k := 1) F 1 rfl dX10_madeNow_35 ?_
    refine g_imul F dX10_madeNow_36 ?_
    refine g_rei (nI (3 * r)) (nmul rfl rfl) ?_
    refine g_iadd F dX10_madeNow_37 ?_
    refine g_rei (nI (70 + (3 * r))) (nadd rfl rfl) ?_
    refine g_iconst (v := 2) F (by decide) dX10_madeNow_38 ?_
    refine g_iadd F dX10_madeNow_39 ?_
    refine g_rei (nI ((70 + (3 * r)) + 2)) (nadd rfl rfl) ?_
    refine g_lalde hz (j := ((70 + (3 * r)) + 2)) F (qi95 hq) rfl (by rw [(qn95 hq)]; omega) (by rw [(qn95 hq)]; decide) dX10_madeNow_40 ?_
    refine g_ldc2 F mw550 dX10_madeNow_41 ?_
    refine g_aload_n (k := 0) F 0 rfl dX10_madeNow_44 ?_
    refine g_iconst (v := 1) F (by decide) dX10_madeNow_45 ?_
    refine g_callV F (kX10_of Γ.1 _ q hq z hz hB 1 (by decide)) okX10_of (qi94 hq) mw496 ⟨(Nat.le_of_ble_eq_true rfl), (Nat.le_of_ble_eq_true rfl)⟩ rfl rfl (Nat.le_of_ble_eq_true rfl) ⟨(Nat.le_of_ble_eq_true rfl), (Nat.le_of_ble_eq_true rfl)⟩ dX10_madeNow_46 (toJ (fun r2 S3 h4 => ?_))
    obtain ⟨er2, rfl⟩ := h4
    refine g_lmul F dX10_madeNow_49 ?_
    refine g_ldiv F dX10_madeNow_50 (by rw [er2]; exact ne512 hB) ?_
    refine g_lret F T ⟨_, rfl, ?_⟩ (Nat.le_of_ble_eq_true rfl) (Nat.le_of_ble_eq_true rfl) dX10_madeNow_51
    exact ⟨(congrArg (z (70 + 3 * r + 2) / ·) (congrArg (512 * ·) er2)).trans ((if_pos w1_3)).symm, Fm.rf⟩
  by_cases w1_4 : w = 4
  · refine g_tin (off := 51) (t := 52) F dX10_madeNow_1 (by rw [w1_4]; decide) (by rw [w1_4]; decide) (by rw [w1_4]; decide) (by decide) ?_
    refine g_aload_n (k := 0) F 0 rfl dX10_madeNow_52 ?_
    refine g_iload_n (k := 1) F 1 rfl dX10_madeNow_53 ?_
    refine g_callV F (kX10_areaOf Γ.1 _ q hq z hz hB r (by omega)) okX10_areaOf (qi94 hq) mw799 ⟨(Nat.le_of_ble_eq_true rfl), (Nat.le_of_ble_eq_true rfl)⟩ rfl rfl (Nat.le_of_ble_eq_true rfl) ⟨(Nat.le_of_ble_eq_true rfl), (Nat.le_of_ble_eq_true rfl)⟩ dX10_madeNow_54 (toJ (fun r5 S6 h7 => ?_))
    obtain ⟨er5, rfl⟩ := h7
    refine g_lret F T ⟨_, rfl, ?_⟩ (Nat.le_of_ble_eq_true rfl) (Nat.le_of_ble_eq_true rfl) dX10_madeNow_57
    exact ⟨(er5).trans ((Eq.trans (if_neg w1_3) (if_pos w1_4))).symm, Fm.rf⟩
  by_cases w1_5 : w = 5
  · refine g_tin (off := 57) (t := 58) F dX10_madeNow_1 (by rw [w1_5]; decide) (by rw [w1_5]; decide) (by rw [w1_5]; decide) (by decide) ?_
    refine g_aload_n (k := 0) F 0 rfl dX10_madeNow_58 ?_
    refine g_callV F (kX10_layMean Γ.1 S q hq z hz hB ) okX10_layMean (qi94 hq) mw814 ⟨(Nat.le_of_ble_eq_true rfl), (Nat.le_of_ble_eq_true rfl)⟩ rfl rfl (Nat.le_of_ble_eq_true rfl) ⟨(Nat.le_of_ble_eq_true rfl), (Nat.le_of_ble_eq_true rfl)⟩ dX10_madeNow_59 (toV (fun S9 h10 => ?_))
    have hq11 : Shp S9.1 S9.2.1 q := Fm.q h10.1 hq
    refine g_aload_n (k := 0) F 0 rfl dX10_madeNow_62 ?_
    refine gfX10_20 F (qi94 hq11) (qr94_11 hq11) dX10_madeNow_63 ?_
    refine g_iload_n (k := 1) F 1 rfl dX10_madeNow_66 ?_
    refine g_zald (j := r) F (qi98 hq11) rfl (by rw [(qn98 hq11)]; omega) (by rw [(qn98 hq11)]; decide) dX10_madeNow_67 ?_
    refine g_if_eq (t := 75) F dX10_madeNow_68 (by decide) (fun c12 => ?_) (fun c12 => ?_)
    · have ob := bI_f (h10.2 r (by omega)) c12
      refine g_lconst (v := 0) F (by decide) dX10_madeNow_75 ?_
      refine g_lret F T ⟨_, rfl, ?_⟩ (Nat.le_of_ble_eq_true rfl) (Nat.le_of_ble_eq_true rfl) dX10_madeNow_76
      exact ⟨(rfl).trans ((Eq.trans (if_neg w1_3) (Eq.trans (if_neg w1_4) (Eq.trans (if_pos w1_5) (by rw [ob]; rfl))))).symm, (Fm.tr Fm.rf h10.1 (by decide))⟩
    · have ob := bI_t (h10.2 r (by omega)) c12
      refine g_lconst (v := 1) F (by decide) dX10_madeNow_71 ?_
      refine g_goto (t := 76) F dX10_madeNow_72 (by decide) ?_
      refine g_lret F T ⟨_, rfl, ?_⟩ (Nat.le_of_ble_eq_true rfl) (Nat.le_of_ble_eq_true rfl) dX10_madeNow_76
      exact ⟨(rfl).trans ((Eq.trans (if_neg w1_3) (Eq.trans (if_neg w1_4) (Eq.trans (if_pos w1_5) (by rw [ob]; rfl))))).symm, (Fm.tr Fm.rf h10.1 (by decide))⟩
  refine g_tout (t := 77) F dX10_madeNow_1 (by have a3 : ¬ (w : Int32).toInt = 3 := fun h9 => w1_3 (Int32.toInt_inj.mp h9); have a4 : ¬ (w : Int32).toInt = 4 := fun h9 => w1_4 (Int32.toInt_inj.mp h9); have a5 : ¬ (w : Int32).toInt = 5 := fun h9 => w1_5 (Int32.toInt_inj.mp h9); omega) (by decide) ?_
  have hw2 := w_le2 hw w1_3 w1_4 w1_5
  refine g_aload_n (k := 0) F 0 rfl dX10_madeNow_77 ?_
  refine gfX10_7 F (qi94 hq) (qr94_1 hq) dX10_madeNow_78 ?_
  refine g_bipush (v := 70) F (by decide) dX10_madeNow_81 ?_
  refine g_iconst (v := 3) F (by decide) dX10_madeNow_83 ?_
  refine g_iload_n (k := 1) F 1 rfl dX10_madeNow_84 ?_
  refine g_imul F dX10_madeNow_85 ?_
  refine g_rei (nI (3 * r)) (nmul rfl rfl) ?_
  refine g_iadd F dX10_madeNow_86 ?_
  refine g_rei (nI (70 + (3 * r))) (nadd rfl rfl) ?_
  refine g_iload_n (k := 2) F 2 rfl dX10_madeNow_87 ?_
  refine g_iadd F dX10_madeNow_88 ?_
  refine g_rei (nI ((70 + (3 * r)) + w.toInt.toNat)) (nadd rfl (kN hw.1)) ?_
  refine g_lalde hz (j := ((70 + (3 * r)) + w.toInt.toNat)) F (qi95 hq) rfl (by rw [(qn95 hq)]; omega) (by rw [(qn95 hq)]; decide) dX10_madeNow_89 ?_
  refine g_lret F T ⟨_, rfl, ?_⟩ (Nat.le_of_ble_eq_true rfl) (Nat.le_of_ble_eq_true rfl) dX10_madeNow_90
  exact ⟨(rfl).trans ((Eq.trans (if_neg w1_3) (Eq.trans (if_neg w1_4) (if_neg w1_5)))).symm, Fm.rf⟩
theorem kX10_madeNow2 (g : Glo) (S : PS) (q : Nat → Nat) (hq : Shp S.1 S.2.1 q) (z : ZZ) (hz : pJ S (q 95) = z) (hB : Bz z) (r : Nat) (hr : r < nr z) (w : Int32) (hw : 0 ≤ w.toInt ∧ w.toInt ≤ 5) (kk : Int32) (hkk : kk = nI r) : Ct g mX10_madeNow 0 0 [.ref (q 94), .int kk, .int w] S (pJ9 (fun r9 S' => r9 = zMn z r w ∧ Fm S S' q [])) := by
  subst hkk
  exact kX10_madeNow g S q hq z hz hB r hr w hw
set_option maxHeartbeats 4000000 in
set_option maxRecDepth 100000 in
theorem kX10_made (g : Glo) (S : PS) (q : Nat → Nat) (hq : Shp S.1 S.2.1 q) (z : ZZ) (hz : pJ S (q 95) = z) (hB : Bz z) (H : List ZZ) (l : Int32) (n : Nat) (tx : Nat → Int32) (hm : Mo S q z H l n tx) (k w : Int32) : Ct g mX10_made 0 0 [.ref (q 94), .int k, .int w] S (pJ9 (fun r S' => r = (oMad k w (z, H, l, n, tx)).2 ∧ Fr S S' q [94, 98] ∧ pI S' (q 94) 0 = (oMad k w (z, H, l, n, tx)).1 ∧ Mo S' q z H l n tx)) := by
  refine Ct.of (by decide) (Nat.le_of_ble_eq_true rfl) (fun Γ hg F T => ?_)
  subst hg
  show G Γ S 0 0 0 [(0, .ref (q 94)), (1, .int k), (2, .int w)] []
  refine g_aload_n (k := 0) F 0 rfl dX10_made_0 ?_
  refine g_iload_n (k := 1) F 1 rfl dX10_made_1 ?_
  refine g_i2l F dX10_made_2 ?_
  refine g_lconst (v := 0) F (by decide) dX10_made_3 ?_
  refine g_aload_n (k := 0) F 0 rfl dX10_made_4 ?_
  refine gfX10_7 F (qi94 hq) (qr94_1 hq) dX10_made_5 ?_
  refine g_bipush (v := 69) F (by decide) dX10_made_8 ?_
  refine g_lalde hz (j := 69) F (qi95 hq) rfl (by rw [(qn95 hq)]; omega) (by rw [(qn95 hq)]; decide) dX10_made_10 ?_
  refine g_lconst (v := 1) F (by decide) dX10_made_11 ?_
  refine g_lsub F dX10_made_12 ?_
  refine g_callS F (kX10_within Γ.1 _ _ _ _) okX10_within mw158 ⟨(Nat.le_of_ble_eq_true rfl), (Nat.le_of_ble_eq_true rfl)⟩ rfl rfl (Nat.le_of_ble_eq_true rfl) ⟨(Nat.le_of_ble_eq_true rfl), (Nat.le_of_ble_eq_true rfl)⟩ dX10_made_13 (toI (fun r1 S2 h3 => ?_))
  obtain ⟨er1, rfl⟩ := h3
  have jn5 : ∀ (w40 : Int32), w40 = tMad z k w → G Γ S 0 0 40 [(0, .ref (q 94)), (1, .int k), (2, .int w)] [.int w40, .ref (q 94)] := by
    intro w40 ht
    refine pfX10_35 F (qi94 hq) dX10_made_40 ?_
    refine g_aload_n (k := 0) F 0 rfl dX10_made_43 ?_
    refine gfX10_35e F (qi94 hq) up2_s dX10_made_44 ?_
    refine g_if_le (t := 54) F dX10_made_47 (by decide) (fun c6 => ?_) (fun c6 => ?_)
    · obtain ⟨ht0, hk9, hw9⟩ := tMad_i (ht ▸ c6)
      refine g_aload_n (k := 0) F 0 rfl dX10_made_54 ?_
      refine g_iload_n (k := 1) F 1 rfl dX10_made_55 ?_
      refine g_iload_n (k := 2) F 2 rfl dX10_made_56 ?_
      refine g_callV F (kX10_madeNow2 Γ.1 (wI S (q 94) 0 w40) q hq z hz hB k.toInt.toNat (by omega) w hw9 k (kN hk9.1)) okX10_madeNow (qi94 hq) mw795 ⟨(Nat.le_of_ble_eq_true rfl), (Nat.le_of_ble_eq_true rfl)⟩ rfl rfl (Nat.le_of_ble_eq_true rfl) ⟨(Nat.le_of_ble_eq_true rfl), (Nat.le_of_ble_eq_true rfl)⟩ dX10_made_57 (toJ (fun r7 S8 h9 => ?_))
      obtain ⟨er7, gr7⟩ := h9
      have hq10 : Shp S8.1 S8.2.1 q := Fr.q gr7.1 hq
      refine g_lret F T ⟨_, rfl, ?_⟩ (Nat.le_of_ble_eq_true rfl) (Nat.le_of_ble_eq_true rfl) dX10_made_60
      rw [show oMad k w (z, H, l, n, tx) = (0, zMn z k.toInt.toNat w) from if_pos ht0]
      exact ⟨er7, (Fr.tr (l := [94, 98]) (Fr.wI hq Fr.rf (by decide) (by decide)) gr7.1 (by decide) (by decide)), ((congrFun gr7.2.1 0).trans up2_s).trans (ht.trans ht0), ⟨((gr7.1.2.2 (95) (by decide) (by decide)).2.trans hz), Sv_of hm.2.1 ((congrFun gr7.2.1 2).trans ((up2_k (by decide)).trans rfl)) ((gr7.1.2.2 (96) (by decide) (by decide)).2.trans rfl), ((congrFun gr7.2.1 4).trans ((up2_k (by decide)).trans hm.2.2.1)), ((congrFun gr7.2.1 5).trans ((up2_k (by decide)).trans hm.2.2.2.1)), fun j9 hj9 => (congrFun ((gr7.1.2.2 (97) (by decide) (by decide)).1.trans ((up2_r (qne hq (by decide) (by decide) (by decide))).trans rfl)) j9).trans (hm.2.2.2.2 j9 hj9)⟩⟩
    · have ht1 : ¬ tMad z k w = 0 := fun h => c6 (by rw [ht, h]; decide)
      refine g_lconst (v := 0) F (by decide) dX10_made_50 ?_
      refine g_goto (t := 60) F dX10_made_51 (by decide) ?_
      refine g_lret F T ⟨_, rfl, ?_⟩ (Nat.le_of_ble_eq_true rfl) (Nat.le_of_ble_eq_true rfl) dX10_made_60
      rw [show oMad k w (z, H, l, n, tx) = (tMad z k w, 0) from if_neg ht1]
      exact ⟨rfl, (Fr.wI hq Fr.rf (by decide) (by decide)), up2_s.trans ht, ⟨hz, Sv_of hm.2.1 ((up2_k (by decide)).trans rfl) rfl, ((up2_k (by decide)).trans hm.2.2.1), ((up2_k (by decide)).trans hm.2.2.2.1), fun j9 hj9 => (congrFun ((up2_r (qne hq (by decide) (by decide) (by decide))).trans rfl) j9).trans (hm.2.2.2.2 j9 hj9)⟩⟩
  refine g_if_ne (t := 23) F dX10_made_16 (by decide) (fun c4 => ?_) (fun c4 => ?_)
  · have hk8 := wI_t (lo := 0) (hi := (nr z : Int) - 1) er1 c4 (by decide) (z69m hB)
    refine g_iload_n (k := 2) F 2 rfl dX10_made_23 ?_
    refine g_i2l F dX10_made_24 ?_
    refine g_lconst (v := 0) F (by decide) dX10_made_25 ?_
    refine g_ldc2 F mw725 dX10_made_26 ?_
    refine g_callS F (kX10_within Γ.1 _ _ _ _) okX10_within mw158 ⟨(Nat.le_of_ble_eq_true rfl), (Nat.le_of_ble_eq_true rfl)⟩ rfl rfl (Nat.le_of_ble_eq_true rfl) ⟨(Nat.le_of_ble_eq_true rfl), (Nat.le_of_ble_eq_true rfl)⟩ dX10_made_29 (toI (fun r11 S12 h13 => ?_))
    obtain ⟨er11, rfl⟩ := h13
    refine g_if_eq (t := 39) F dX10_made_32 (by decide) (fun c14 => ?_) (fun c14 => ?_)
    · have hw8 := wI_f (lo := 0) (hi := 5) er11 c14 (by decide) (by decide)
      refine g_iconst (v := 2) F (by decide) dX10_made_39 ?_
      exact jn5 (2) (by unfold tMad; rw [if_neg (fun h => h hk8), if_neg hw8])
    · have hw8 := wI_t (lo := 0) (hi := 5) er11 c14 (by decide) (by decide)
      refine g_iconst (v := 0) F (by decide) dX10_made_35 ?_
      refine g_goto (t := 40) F dX10_made_36 (by decide) ?_
      exact jn5 (0) (by unfold tMad; rw [if_neg (fun h => h hk8), if_pos hw8])
  · have hk8 := wI_f (lo := 0) (hi := (nr z : Int) - 1) er1 c4 (by decide) (z69m hB)
    refine g_iconst (v := 1) F (by decide) dX10_made_19 ?_
    refine g_goto (t := 40) F dX10_made_20 (by decide) ?_
    exact jn5 (1) (by unfold tMad; rw [if_pos hk8])
set_option maxHeartbeats 4000000 in
set_option maxRecDepth 100000 in
theorem kX10_elbowNow (g : Glo) (S : PS) (q : Nat → Nat) (hq : Shp S.1 S.2.1 q) (z : ZZ) (hz : pJ S (q 95) = z) (hB : Bz z) (tx ty : Int64) (ht : wtn tx (-50000) 50000) (hu : wtn ty (-50000) 50000) (w : Int32) : Ct g mX10_elbowNow 0 0 [.ref (q 94), .long tx, .long ty, .int w] S (pJ9 (fun r S' => r = zEn z tx ty w ∧ Fm S S' q [7, 8])) := by
  refine Ct.of (by decide) (Nat.le_of_ble_eq_true rfl) (fun Γ hg F T => ?_)
  subst hg
  show G Γ S 0 0 0 [(0, .ref (q 94)), (1, .long tx), (3, .long ty), (5, .int w)] []
  refine g_aload_n (k := 0) F 0 rfl dX10_elbowNow_0 ?_
  refine g_lload_n (k := 1) F 1 rfl dX10_elbowNow_1 ?_
  refine g_lload_n (k := 3) F 2 rfl dX10_elbowNow_2 ?_
  refine g_callV F (kX10_reaches Γ.1 _ q hq z hz hB tx ty ht hu) okX10_reaches (qi94 hq) mw509 ⟨(Nat.le_of_ble_eq_true rfl), (Nat.le_of_ble_eq_true rfl)⟩ rfl rfl (Nat.le_of_ble_eq_true rfl) ⟨(Nat.le_of_ble_eq_true rfl), (Nat.le_of_ble_eq_true rfl)⟩ dX10_elbowNow_3 (toI (fun r1 S2 h3 => ?_))
  obtain ⟨er1, rfl⟩ := h3
  refine g_if_ne (t := 11) F dX10_elbowNow_6 (by decide) (fun c4 => ?_) (fun c4 => ?_)
  · have hr9 := w1 er1 c4
    refine g_aload_n (k := 0) F 0 rfl dX10_elbowNow_11 ?_
    refine g_lload_n (k := 1) F 1 rfl dX10_elbowNow_12 ?_
    refine g_lload_n (k := 3) F 2 rfl dX10_elbowNow_13 ?_
    refine g_callV F (kX10_layElbow Γ.1 S q hq z hz hB tx ty ht hu hr9) okX10_layElbow (qi94 hq) mw542 ⟨(Nat.le_of_ble_eq_true rfl), (Nat.le_of_ble_eq_true rfl)⟩ rfl rfl (Nat.le_of_ble_eq_true rfl) ⟨(Nat.le_of_ble_eq_true rfl), (Nat.le_of_ble_eq_true rfl)⟩ dX10_elbowNow_14 (toV (fun S6 h7 => ?_))
    have hq8 : Shp S6.1 S6.2.1 q := Fm.q h7.1 hq
    refine g_iload F 3 rfl dX10_elbowNow_17 ?_
    refine g_if_ne (t := 26) F dX10_elbowNow_19 (by decide) (fun c9 => ?_) (fun c9 => ?_)
    · have hw0 := c9
      refine g_iload F 3 rfl dX10_elbowNow_26 ?_
      refine g_iconst (v := 1) F (by decide) dX10_elbowNow_28 ?_
      refine g_icmp_ne (t := 39) F dX10_elbowNow_29 (by decide) (fun c10 => ?_) (fun c10 => ?_)
      · have hw1 := c10
        refine g_aload_n (k := 0) F 0 rfl dX10_elbowNow_39 ?_
        refine gfX10_68e F (qi94 hq8) h7.2.2 dX10_elbowNow_40 ?_
        refine g_lret F T ⟨_, rfl, ?_⟩ (Nat.le_of_ble_eq_true rfl) (Nat.le_of_ble_eq_true rfl) dX10_elbowNow_43
        exact ⟨((ifP_t hr9).trans ((if_neg hw0).trans (if_neg hw1))).symm, (Fm.tr Fm.rf h7.1 (by decide))⟩
      · have hw1 := c10
        refine g_aload_n (k := 0) F 0 rfl dX10_elbowNow_32 ?_
        refine gfX10_64e F (qi94 hq8) h7.2.1 dX10_elbowNow_33 ?_
        refine g_goto (t := 43) F dX10_elbowNow_36 (by decide) ?_
        refine g_lret F T ⟨_, rfl, ?_⟩ (Nat.le_of_ble_eq_true rfl) (Nat.le_of_ble_eq_true rfl) dX10_elbowNow_43
        exact ⟨((ifP_t hr9).trans ((if_neg hw0).trans (if_pos hw1))).symm, (Fm.tr Fm.rf h7.1 (by decide))⟩
    · have hw0 := c9
      refine g_lconst (v := 1) F (by decide) dX10_elbowNow_22 ?_
      refine g_goto (t := 43) F dX10_elbowNow_23 (by decide) ?_
      refine g_lret F T ⟨_, rfl, ?_⟩ (Nat.le_of_ble_eq_true rfl) (Nat.le_of_ble_eq_true rfl) dX10_elbowNow_43
      exact ⟨((ifP_t hr9).trans (if_pos hw0)).symm, (Fm.tr Fm.rf h7.1 (by decide))⟩
  · have hr9 := w0 er1 c4
    refine g_lconst (v := 0) F (by decide) dX10_elbowNow_9 ?_
    refine g_lret F T ⟨_, rfl, ?_⟩ (Nat.le_of_ble_eq_true rfl) (Nat.le_of_ble_eq_true rfl) dX10_elbowNow_10
    exact ⟨(ifP_f hr9).symm, Fm.rf⟩
set_option maxHeartbeats 4000000 in
set_option maxRecDepth 100000 in
theorem kX10_elbow (g : Glo) (S : PS) (q : Nat → Nat) (hq : Shp S.1 S.2.1 q) (z : ZZ) (hz : pJ S (q 95) = z) (hB : Bz z) (H : List ZZ) (l : Int32) (n : Nat) (tx : Nat → Int32) (hm : Mo S q z H l n tx) (a b w : Int32) : Ct g mX10_elbow 0 0 [.ref (q 94), .int a, .int b, .int w] S (pJ9 (fun r S' => r = (oElb a b w (z, H, l, n, tx)).2 ∧ Fr S S' q [94, 98] ∧ pI S' (q 94) 0 = (oElb a b w (z, H, l, n, tx)).1 ∧ Mo S' q z H l n tx)) := by
  refine Ct.of (by decide) (Nat.le_of_ble_eq_true rfl) (fun Γ hg F T => ?_)
  subst hg
  show G Γ S 0 0 0 [(0, .ref (q 94)), (1, .int a), (2, .int b), (3, .int w)] []
  refine g_aload_n (k := 0) F 0 rfl dX10_elbow_0 ?_
  refine g_iload_n (k := 1) F 1 rfl dX10_elbow_1 ?_
  refine g_i2l F dX10_elbow_2 ?_
  refine g_ldc2 F mw838 dX10_elbow_3 ?_
  refine g_ldc2 F mw839 dX10_elbow_6 ?_
  refine g_callS F (kX10_within Γ.1 _ _ _ _) okX10_within mw158 ⟨(Nat.le_of_ble_eq_true rfl), (Nat.le_of_ble_eq_true rfl)⟩ rfl rfl (Nat.le_of_ble_eq_true rfl) ⟨(Nat.le_of_ble_eq_true rfl), (Nat.le_of_ble_eq_true rfl)⟩ dX10_elbow_9 (toI (fun r1 S2 h3 => ?_))
  obtain ⟨er1, rfl⟩ := h3
  have jn5 : ∀ (w46 : Int32), w46 = tElb a b w → G Γ S 0 0 46 [(0, .ref (q 94)), (1, .int a), (2, .int b), (3, .int w)] [.int w46, .ref (q 94)] := by
    intro w46 ht
    refine pfX10_35 F (qi94 hq) dX10_elbow_46 ?_
    refine g_aload_n (k := 0) F 0 rfl dX10_elbow_49 ?_
    refine gfX10_35e F (qi94 hq) up2_s dX10_elbow_50 ?_
    refine g_if_le (t := 60) F dX10_elbow_53 (by decide) (fun c6 => ?_) (fun c6 => ?_)
    · obtain ⟨ht0, hx9, hy9⟩ := tElb_i (ht ▸ c6)
      refine g_aload_n (k := 0) F 0 rfl dX10_elbow_60 ?_
      refine g_iload_n (k := 1) F 1 rfl dX10_elbow_61 ?_
      refine g_i2l F dX10_elbow_62 ?_
      refine g_iload_n (k := 2) F 2 rfl dX10_elbow_63 ?_
      refine g_i2l F dX10_elbow_64 ?_
      refine g_iload_n (k := 3) F 3 rfl dX10_elbow_65 ?_
      refine g_callV F (kX10_elbowNow Γ.1 (wI S (q 94) 0 w46) q hq z hz hB a.toInt64 b.toInt64 hx9 hy9 w) okX10_elbowNow (qi94 hq) mw840 ⟨(Nat.le_of_ble_eq_true rfl), (Nat.le_of_ble_eq_true rfl)⟩ rfl rfl (Nat.le_of_ble_eq_true rfl) ⟨(Nat.le_of_ble_eq_true rfl), (Nat.le_of_ble_eq_true rfl)⟩ dX10_elbow_66 (toJ (fun r7 S8 h9 => ?_))
      obtain ⟨er7, gr7⟩ := h9
      have hq10 : Shp S8.1 S8.2.1 q := Fr.q gr7.1 hq
      refine g_lret F T ⟨_, rfl, ?_⟩ (Nat.le_of_ble_eq_true rfl) (Nat.le_of_ble_eq_true rfl) dX10_elbow_69
      rw [show oElb a b w (z, H, l, n, tx) = (0, zEn z a.toInt64 b.toInt64 w) from if_pos ht0]
      exact ⟨er7, (Fr.tr (l := [94, 98]) (Fr.wI hq Fr.rf (by decide) (by decide)) gr7.1 (by decide) (by decide)), ((congrFun gr7.2.1 0).trans up2_s).trans (ht.trans ht0), ⟨((gr7.1.2.2 (95) (by decide) (by decide)).2.trans hz), Sv_of hm.2.1 ((congrFun gr7.2.1 2).trans ((up2_k (by decide)).trans rfl)) ((gr7.1.2.2 (96) (by decide) (by decide)).2.trans rfl), ((congrFun gr7.2.1 4).trans ((up2_k (by decide)).trans hm.2.2.1)), ((congrFun gr7.2.1 5).trans ((up2_k (by decide)).trans hm.2.2.2.1)), fun j9 hj9 => (congrFun ((gr7.1.2.2 (97) (by decide) (by decide)).1.trans ((up2_r (qne hq (by decide) (by decide) (by decide))).trans rfl)) j9).trans (hm.2.2.2.2 j9 hj9)⟩⟩
    · have ht1 : ¬ tElb a b w = 0 := fun h => c6 (by rw [ht, h]; decide)
      refine g_lconst (v := 0) F (by decide) dX10_elbow_56 ?_
      refine g_goto (t := 69) F dX10_elbow_57 (by decide) ?_
      refine g_lret F T ⟨_, rfl, ?_⟩ (Nat.le_of_ble_eq_true rfl) (Nat.le_of_ble_eq_true rfl) dX10_elbow_69
      rw [show oElb a b w (z, H, l, n, tx) = (tElb a b w, 0) from if_neg ht1]
      exact ⟨rfl, (Fr.wI hq Fr.rf (by decide) (by decide)), up2_s.trans ht, ⟨hz, Sv_of hm.2.1 ((up2_k (by decide)).trans rfl) rfl, ((up2_k (by decide)).trans hm.2.2.1), ((up2_k (by decide)).trans hm.2.2.2.1), fun j9 hj9 => (congrFun ((up2_r (qne hq (by decide) (by decide) (by decide))).trans rfl) j9).trans (hm.2.2.2.2 j9 hj9)⟩⟩
  refine g_if_eq (t := 45) F dX10_elbow_12 (by decide) (fun c4 => ?_) (fun c4 => ?_)
  · have ha9 := wI_f (lo := -40000) (hi := 40000) er1 c4 (by decide) (by decide)
    refine g_iconst (v := 1) F (by decide) dX10_elbow_45 ?_
    exact jn5 (1) (by unfold tElb; rw [if_neg (fun h => ha9 h.1)])
  · have ha9 := wI_t (lo := -40000) (hi := 40000) er1 c4 (by decide) (by decide)
    refine g_iload_n (k := 2) F 2 rfl dX10_elbow_15 ?_
    refine g_i2l F dX10_elbow_16 ?_
    refine g_ldc2 F mw838 dX10_elbow_17 ?_
    refine g_ldc2 F mw839 dX10_elbow_20 ?_
    refine g_callS F (kX10_within Γ.1 _ _ _ _) okX10_within mw158 ⟨(Nat.le_of_ble_eq_true rfl), (Nat.le_of_ble_eq_true rfl)⟩ rfl rfl (Nat.le_of_ble_eq_true rfl) ⟨(Nat.le_of_ble_eq_true rfl), (Nat.le_of_ble_eq_true rfl)⟩ dX10_elbow_23 (toI (fun r11 S12 h13 => ?_))
    obtain ⟨er11, rfl⟩ := h13
    refine g_if_eq (t := 45) F dX10_elbow_26 (by decide) (fun c14 => ?_) (fun c14 => ?_)
    · have hb9 := wI_f (lo := -40000) (hi := 40000) er11 c14 (by decide) (by decide)
      refine g_iconst (v := 1) F (by decide) dX10_elbow_45 ?_
      exact jn5 (1) (by unfold tElb; rw [if_neg (fun h => hb9 h.2.1)])
    · have hb9 := wI_t (lo := -40000) (hi := 40000) er11 c14 (by decide) (by decide)
      refine g_iload_n (k := 3) F 3 rfl dX10_elbow_29 ?_
      refine g_i2l F dX10_elbow_30 ?_
      refine g_lconst (v := 0) F (by decide) dX10_elbow_31 ?_
      refine g_ldc2 F mw517 dX10_elbow_32 ?_
      refine g_callS F (kX10_within Γ.1 _ _ _ _) okX10_within mw158 ⟨(Nat.le_of_ble_eq_true rfl), (Nat.le_of_ble_eq_true rfl)⟩ rfl rfl (Nat.le_of_ble_eq_true rfl) ⟨(Nat.le_of_ble_eq_true rfl), (Nat.le_of_ble_eq_true rfl)⟩ dX10_elbow_35 (toI (fun r15 S16 h17 => ?_))
      obtain ⟨er15, rfl⟩ := h17
      refine g_if_eq (t := 45) F dX10_elbow_38 (by decide) (fun c18 => ?_) (fun c18 => ?_)
      · have hw9 := wI_f (lo := 0) (hi := 2) er15 c18 (by decide) (by decide)
        refine g_iconst (v := 1) F (by decide) dX10_elbow_45 ?_
        exact jn5 (1) (by unfold tElb; rw [if_neg (fun h => hw9 h.2.2)])
      · have hw9 := wI_t (lo := 0) (hi := 2) er15 c18 (by decide) (by decide)
        refine g_iconst (v := 0) F (by decide) dX10_elbow_41 ?_
        refine g_goto (t := 46) F dX10_elbow_42 (by decide) ?_
        exact jn5 (0) (by unfold tElb; rw [if_pos ⟨ha9, hb9, hw9⟩])
set_option maxHeartbeats 4000000 in
set_option maxRecDepth 100000 in
theorem kX10_counted (g : Glo) (S : PS) (q : Nat → Nat) (hq : Shp S.1 S.2.1 q) (z : ZZ) (hz : pJ S (q 95) = z) (hB : Bz z) (h6 : Nat) (h96 : h6 ≤ 6) (hs6 : pI S (q 94) 2 = nI h6) (w : Int32) (hw : 0 ≤ w.toInt ∧ w.toInt ≤ 14) : Ct g mX10_counted 0 0 [.ref (q 94), .int w] S (pJ9 (fun r S' => r = zCt z h6 w ∧ Fm S S' q [])) := by
  refine Ct.of (by decide) (Nat.le_of_ble_eq_true rfl) (fun Γ hg F T => ?_)
  subst hg
  show G Γ S 0 0 0 [(0, .ref (q 94)), (1, .int w)] []
  refine g_iload_n (k := 1) F 1 rfl dX10_counted_0 ?_
  by_cases w1_0 : w = 0
  · refine g_tin (off := 71) (t := 72) F dX10_counted_1 (by rw [w1_0]; decide) (by rw [w1_0]; decide) (by rw [w1_0]; decide) (by decide) ?_
    refine g_aload_n (k := 0) F 0 rfl dX10_counted_72 ?_
    refine gfX10_7 F (qi94 hq) (qr94_1 hq) dX10_counted_73 ?_
    refine g_bipush (v := 8) F (by decide) dX10_counted_76 ?_
    refine g_lalde hz (j := 8) F (qi95 hq) rfl (by rw [(qn95 hq)]; omega) (by rw [(qn95 hq)]; decide) dX10_counted_78 ?_
    refine g_lret F T ⟨_, rfl, ?_⟩ (Nat.le_of_ble_eq_true rfl) (Nat.le_of_ble_eq_true rfl) dX10_counted_79
    exact ⟨(rfl).trans ((if_pos w1_0)).symm, Fm.rf⟩
  by_cases w1_1 : w = 1
  · refine g_tin (off := 79) (t := 80) F dX10_counted_1 (by rw [w1_1]; decide) (by rw [w1_1]; decide) (by rw [w1_1]; decide) (by decide) ?_
    refine g_aload_n (k := 0) F 0 rfl dX10_counted_80 ?_
    refine gfX10_7 F (qi94 hq) (qr94_1 hq) dX10_counted_81 ?_
    refine g_bipush (v := 69) F (by decide) dX10_counted_84 ?_
    refine g_lalde hz (j := 69) F (qi95 hq) rfl (by rw [(qn95 hq)]; omega) (by rw [(qn95 hq)]; decide) dX10_counted_86 ?_
    refine g_lret F T ⟨_, rfl, ?_⟩ (Nat.le_of_ble_eq_true rfl) (Nat.le_of_ble_eq_true rfl) dX10_counted_87
    exact ⟨(rfl).trans ((Eq.trans (if_neg w1_0) (if_pos w1_1))).symm, Fm.rf⟩
  by_cases w1_2 : w = 2
  · refine g_tin (off := 87) (t := 88) F dX10_counted_1 (by rw [w1_2]; decide) (by rw [w1_2]; decide) (by rw [w1_2]; decide) (by decide) ?_
    refine g_aload_n (k := 0) F 0 rfl dX10_counted_88 ?_
    refine gfX10_7 F (qi94 hq) (qr94_1 hq) dX10_counted_89 ?_
    refine g_iconst (v := 0) F (by decide) dX10_counted_92 ?_
    refine g_lalde hz (j := 0) F (qi95 hq) rfl (by rw [(qn95 hq)]; omega) (by rw [(qn95 hq)]; decide) dX10_counted_93 ?_
    refine g_lret F T ⟨_, rfl, ?_⟩ (Nat.le_of_ble_eq_true rfl) (Nat.le_of_ble_eq_true rfl) dX10_counted_94
    exact ⟨(rfl).trans ((Eq.trans (if_neg w1_0) (Eq.trans (if_neg w1_1) (if_pos w1_2)))).symm, Fm.rf⟩
  by_cases w1_3 : w = 3
  · refine g_tin (off := 94) (t := 95) F dX10_counted_1 (by rw [w1_3]; decide) (by rw [w1_3]; decide) (by rw [w1_3]; decide) (by decide) ?_
    refine g_aload_n (k := 0) F 0 rfl dX10_counted_95 ?_
    refine gfX10_7 F (qi94 hq) (qr94_1 hq) dX10_counted_96 ?_
    refine g_iconst (v := 1) F (by decide) dX10_counted_99 ?_
    refine g_lalde hz (j := 1) F (qi95 hq) rfl (by rw [(qn95 hq)]; omega) (by rw [(qn95 hq)]; decide) dX10_counted_100 ?_
    refine g_lret F T ⟨_, rfl, ?_⟩ (Nat.le_of_ble_eq_true rfl) (Nat.le_of_ble_eq_true rfl) dX10_counted_101
    exact ⟨(rfl).trans ((Eq.trans (if_neg w1_0) (Eq.trans (if_neg w1_1) (Eq.trans (if_neg w1_2) (if_pos w1_3))))).symm, Fm.rf⟩
  by_cases w1_4 : w = 4
  · refine g_tin (off := 101) (t := 102) F dX10_counted_1 (by rw [w1_4]; decide) (by rw [w1_4]; decide) (by rw [w1_4]; decide) (by decide) ?_
    refine g_aload_n (k := 0) F 0 rfl dX10_counted_102 ?_
    refine gfX10_7 F (qi94 hq) (qr94_1 hq) dX10_counted_103 ?_
    refine g_bipush (v := 7) F (by decide) dX10_counted_106 ?_
    refine g_lalde hz (j := 7) F (qi95 hq) rfl (by rw [(qn95 hq)]; omega) (by rw [(qn95 hq)]; decide) dX10_counted_108 ?_
    refine g_lret F T ⟨_, rfl, ?_⟩ (Nat.le_of_ble_eq_true rfl) (Nat.le_of_ble_eq_true rfl) dX10_counted_109
    exact ⟨(rfl).trans ((Eq.trans (if_neg w1_0) (Eq.trans (if_neg w1_1) (Eq.trans (if_neg w1_2) (Eq.trans (if_neg w1_3) (if_pos w1_4)))))).symm, Fm.rf⟩
  by_cases w1_5 : w = 5
  · refine g_tin (off := 109) (t := 110) F dX10_counted_1 (by rw [w1_5]; decide) (by rw [w1_5]; decide) (by rw [w1_5]; decide) (by decide) ?_
    refine g_aload_n (k := 0) F 0 rfl dX10_counted_110 ?_
    refine g_callV F (kX10_twiceArea Γ.1 _ q hq z hz hB ) okX10_twiceArea (qi94 hq) mw880 ⟨(Nat.le_of_ble_eq_true rfl), (Nat.le_of_ble_eq_true rfl)⟩ rfl rfl (Nat.le_of_ble_eq_true rfl) ⟨(Nat.le_of_ble_eq_true rfl), (Nat.le_of_ble_eq_true rfl)⟩ dX10_counted_111 (toJ (fun r2 S3 h4 => ?_))
    obtain ⟨er2, rfl⟩ := h4
    refine g_lret F T ⟨_, rfl, ?_⟩ (Nat.le_of_ble_eq_true rfl) (Nat.le_of_ble_eq_true rfl) dX10_counted_114
    exact ⟨(er2).trans ((Eq.trans (if_neg w1_0) (Eq.trans (if_neg w1_1) (Eq.trans (if_neg w1_2) (Eq.trans (if_neg w1_3) (Eq.trans (if_neg w1_4) (if_pos w1_5))))))).symm, Fm.rf⟩
  by_cases w1_6 : w = 6
  · refine g_tin (off := 114) (t := 115) F dX10_counted_1 (by rw [w1_6]; decide) (by rw [w1_6]; decide) (by rw [w1_6]; decide) (by decide) ?_
    refine g_aload_n (k := 0) F 0 rfl dX10_counted_115 ?_
    refine g_callV F (kX10_twiceArea Γ.1 _ q hq z hz hB ) okX10_twiceArea (qi94 hq) mw880 ⟨(Nat.le_of_ble_eq_true rfl), (Nat.le_of_ble_eq_true rfl)⟩ rfl rfl (Nat.le_of_ble_eq_true rfl) ⟨(Nat.le_of_ble_eq_true rfl), (Nat.le_of_ble_eq_true rfl)⟩ dX10_counted_116 (toJ (fun r5 S6 h7 => ?_))
    obtain ⟨er5, rfl⟩ := h7
    refine g_ldc2 F mw517 dX10_counted_119 ?_
    refine g_ldiv F dX10_counted_122 (by decide) ?_
    refine g_lret F T ⟨_, rfl, ?_⟩ (Nat.le_of_ble_eq_true rfl) (Nat.le_of_ble_eq_true rfl) dX10_counted_123
    exact ⟨(congrArg (· / 2) er5).trans ((Eq.trans (if_neg w1_0) (Eq.trans (if_neg w1_1) (Eq.trans (if_neg w1_2) (Eq.trans (if_neg w1_3) (Eq.trans (if_neg w1_4) (Eq.trans (if_neg w1_5) (if_pos w1_6)))))))).symm, Fm.rf⟩
  by_cases w1_7 : w = 7
  · refine g_tin (off := 123) (t := 124) F dX10_counted_1 (by rw [w1_7]; decide) (by rw [w1_7]; decide) (by rw [w1_7]; decide) (by decide) ?_
    refine g_aload_n (k := 0) F 0 rfl dX10_counted_124 ?_
    refine g_callV F (kX10_winding Γ.1 _ q hq z hz hB ) okX10_winding (qi94 hq) mw809 ⟨(Nat.le_of_ble_eq_true rfl), (Nat.le_of_ble_eq_true rfl)⟩ rfl rfl (Nat.le_of_ble_eq_true rfl) ⟨(Nat.le_of_ble_eq_true rfl), (Nat.le_of_ble_eq_true rfl)⟩ dX10_counted_125 (toJ (fun r8 S9 h10 => ?_))
    obtain ⟨er8, rfl⟩ := h10
    refine g_lret F T ⟨_, rfl, ?_⟩ (Nat.le_of_ble_eq_true rfl) (Nat.le_of_ble_eq_true rfl) dX10_counted_128
    exact ⟨(er8).trans ((Eq.trans (if_neg w1_0) (Eq.trans (if_neg w1_1) (Eq.trans (if_neg w1_2) (Eq.trans (if_neg w1_3) (Eq.trans (if_neg w1_4) (Eq.trans (if_neg w1_5) (Eq.trans (if_neg w1_6) (if_pos w1_7))))))))).symm, Fm.rf⟩
  by_cases w1_8 : w = 8
  · refine g_tin (off := 128) (t := 129) F dX10_counted_1 (by rw [w1_8]; decide) (by rw [w1_8]; decide) (by rw [w1_8]; decide) (by decide) ?_
    refine g_aload_n (k := 0) F 0 rfl dX10_counted_129 ?_
    refine g_callV F (kX10_constant Γ.1 _ q hq z hz hB ) okX10_constant (qi94 hq) mw803 ⟨(Nat.le_of_ble_eq_true rfl), (Nat.le_of_ble_eq_true rfl)⟩ rfl rfl (Nat.le_of_ble_eq_true rfl) ⟨(Nat.le_of_ble_eq_true rfl), (Nat.le_of_ble_eq_true rfl)⟩ dX10_counted_130 (toJ (fun r11 S12 h13 => ?_))
    obtain ⟨er11, rfl⟩ := h13
    refine g_lret F T ⟨_, rfl, ?_⟩ (Nat.le_of_ble_eq_true rfl) (Nat.le_of_ble_eq_true rfl) dX10_counted_133
    exact ⟨(er11).trans ((Eq.trans (if_neg w1_0) (Eq.trans (if_neg w1_1) (Eq.trans (if_neg w1_2) (Eq.trans (if_neg w1_3) (Eq.trans (if_neg w1_4) (Eq.trans (if_neg w1_5) (Eq.trans (if_neg w1_6) (Eq.trans (if_neg w1_7) (if_pos w1_8)))))))))).symm, Fm.rf⟩
  by_cases w1_9 : w = 9
  · refine g_tin (off := 133) (t := 134) F dX10_counted_1 (by rw [w1_9]; decide) (by rw [w1_9]; decide) (by rw [w1_9]; decide) (by decide) ?_
    refine g_aload_n (k := 0) F 0 rfl dX10_counted_134 ?_
    refine g_callV F (kX10_isOnOutline Γ.1 _ q hq z hz hB ) okX10_isOnOutline (qi94 hq) mw462 ⟨(Nat.le_of_ble_eq_true rfl), (Nat.le_of_ble_eq_true rfl)⟩ rfl rfl (Nat.le_of_ble_eq_true rfl) ⟨(Nat.le_of_ble_eq_true rfl), (Nat.le_of_ble_eq_true rfl)⟩ dX10_counted_135 (toI (fun r14 S15 h16 => ?_))
    obtain ⟨er14, rfl⟩ := h16
    refine g_if_eq (t := 145) F dX10_counted_138 (by decide) (fun c17 => ?_) (fun c17 => ?_)
    · have hr9 := w0 er14 c17
      refine g_lconst (v := 0) F (by decide) dX10_counted_145 ?_
      refine g_lret F T ⟨_, rfl, ?_⟩ (Nat.le_of_ble_eq_true rfl) (Nat.le_of_ble_eq_true rfl) dX10_counted_146
      exact ⟨(rfl).trans ((Eq.trans (if_neg w1_0) (Eq.trans (if_neg w1_1) (Eq.trans (if_neg w1_2) (Eq.trans (if_neg w1_3) (Eq.trans (if_neg w1_4) (Eq.trans (if_neg w1_5) (Eq.trans (if_neg w1_6) (Eq.trans (if_neg w1_7) (Eq.trans (if_neg w1_8) (Eq.trans (if_pos w1_9) (ifP_f hr9)))))))))))).symm, Fm.rf⟩
    · have hr9 := w1 er14 c17
      refine g_lconst (v := 1) F (by decide) dX10_counted_141 ?_
      refine g_goto (t := 146) F dX10_counted_142 (by decide) ?_
      refine g_lret F T ⟨_, rfl, ?_⟩ (Nat.le_of_ble_eq_true rfl) (Nat.le_of_ble_eq_true rfl) dX10_counted_146
      exact ⟨(rfl).trans ((Eq.trans (if_neg w1_0) (Eq.trans (if_neg w1_1) (Eq.trans (if_neg w1_2) (Eq.trans (if_neg w1_3) (Eq.trans (if_neg w1_4) (Eq.trans (if_neg w1_5) (Eq.trans (if_neg w1_6) (Eq.trans (if_neg w1_7) (Eq.trans (if_neg w1_8) (Eq.trans (if_pos w1_9) (ifP_t hr9)))))))))))).symm, Fm.rf⟩
  by_cases w1_10 : w = 10
  · refine g_tin (off := 146) (t := 147) F dX10_counted_1 (by rw [w1_10]; decide) (by rw [w1_10]; decide) (by rw [w1_10]; decide) (by decide) ?_
    refine g_aload_n (k := 0) F 0 rfl dX10_counted_147 ?_
    refine g_callV F (kX10_mean Γ.1 S q hq z hz hB ) okX10_mean (qi94 hq) mw884 ⟨(Nat.le_of_ble_eq_true rfl), (Nat.le_of_ble_eq_true rfl)⟩ rfl rfl (Nat.le_of_ble_eq_true rfl) ⟨(Nat.le_of_ble_eq_true rfl), (Nat.le_of_ble_eq_true rfl)⟩ dX10_counted_148 (toJ (fun r18 S19 h20 => ?_))
    obtain ⟨er18, gh20⟩ := h20
    have hq21 : Shp S19.1 S19.2.1 q := Fm.q gh20 hq
    refine g_lret F T ⟨_, rfl, ?_⟩ (Nat.le_of_ble_eq_true rfl) (Nat.le_of_ble_eq_true rfl) dX10_counted_151
    exact ⟨(er18).trans ((Eq.trans (if_neg w1_0) (Eq.trans (if_neg w1_1) (Eq.trans (if_neg w1_2) (Eq.trans (if_neg w1_3) (Eq.trans (if_neg w1_4) (Eq.trans (if_neg w1_5) (Eq.trans (if_neg w1_6) (Eq.trans (if_neg w1_7) (Eq.trans (if_neg w1_8) (Eq.trans (if_neg w1_9) (if_pos w1_10)))))))))))).symm, (Fm.tr Fm.rf gh20 (by decide))⟩
  by_cases w1_11 : w = 11
  · refine g_tin (off := 151) (t := 152) F dX10_counted_1 (by rw [w1_11]; decide) (by rw [w1_11]; decide) (by rw [w1_11]; decide) (by decide) ?_
    refine g_aload_n (k := 0) F 0 rfl dX10_counted_152 ?_
    refine g_callV F (kX10_outs Γ.1 S q hq z hz hB ) okX10_outs (qi94 hq) mw888 ⟨(Nat.le_of_ble_eq_true rfl), (Nat.le_of_ble_eq_true rfl)⟩ rfl rfl (Nat.le_of_ble_eq_true rfl) ⟨(Nat.le_of_ble_eq_true rfl), (Nat.le_of_ble_eq_true rfl)⟩ dX10_counted_153 (toJ (fun r22 S23 h24 => ?_))
    obtain ⟨er22, gh24⟩ := h24
    have hq25 : Shp S23.1 S23.2.1 q := Fm.q gh24 hq
    refine g_lret F T ⟨_, rfl, ?_⟩ (Nat.le_of_ble_eq_true rfl) (Nat.le_of_ble_eq_true rfl) dX10_counted_156
    exact ⟨(er22).trans ((Eq.trans (if_neg w1_0) (Eq.trans (if_neg w1_1) (Eq.trans (if_neg w1_2) (Eq.trans (if_neg w1_3) (Eq.trans (if_neg w1_4) (Eq.trans (if_neg w1_5) (Eq.trans (if_neg w1_6) (Eq.trans (if_neg w1_7) (Eq.trans (if_neg w1_8) (Eq.trans (if_neg w1_9) (Eq.trans (if_neg w1_10) (if_pos w1_11))))))))))))).symm, (Fm.tr Fm.rf gh24 (by decide))⟩
  by_cases w1_12 : w = 12
  · refine g_tin (off := 156) (t := 157) F dX10_counted_1 (by rw [w1_12]; decide) (by rw [w1_12]; decide) (by rw [w1_12]; decide) (by decide) ?_
    refine g_aload_n (k := 0) F 0 rfl dX10_counted_157 ?_
    refine g_callV F (kX10_difference Γ.1 S q hq z hz hB ) okX10_difference (qi94 hq) mw892 ⟨(Nat.le_of_ble_eq_true rfl), (Nat.le_of_ble_eq_true rfl)⟩ rfl rfl (Nat.le_of_ble_eq_true rfl) ⟨(Nat.le_of_ble_eq_true rfl), (Nat.le_of_ble_eq_true rfl)⟩ dX10_counted_158 (toJ (fun r26 S27 h28 => ?_))
    obtain ⟨er26, gh28⟩ := h28
    have hq29 : Shp S27.1 S27.2.1 q := Fm.q gh28 hq
    refine g_lret F T ⟨_, rfl, ?_⟩ (Nat.le_of_ble_eq_true rfl) (Nat.le_of_ble_eq_true rfl) dX10_counted_161
    exact ⟨(er26).trans ((Eq.trans (if_neg w1_0) (Eq.trans (if_neg w1_1) (Eq.trans (if_neg w1_2) (Eq.trans (if_neg w1_3) (Eq.trans (if_neg w1_4) (Eq.trans (if_neg w1_5) (Eq.trans (if_neg w1_6) (Eq.trans (if_neg w1_7) (Eq.trans (if_neg w1_8) (Eq.trans (if_neg w1_9) (Eq.trans (if_neg w1_10) (Eq.trans (if_neg w1_11) (if_pos w1_12)))))))))))))).symm, (Fm.tr Fm.rf gh28 (by decide))⟩
  by_cases w1_13 : w = 13
  · refine g_tin (off := 161) (t := 162) F dX10_counted_1 (by rw [w1_13]; decide) (by rw [w1_13]; decide) (by rw [w1_13]; decide) (by decide) ?_
    refine g_aload_n (k := 0) F 0 rfl dX10_counted_162 ?_
    refine g_callV F (kX10_allSteps Γ.1 _ q hq z hz hB ) okX10_allSteps (qi94 hq) mw896 ⟨(Nat.le_of_ble_eq_true rfl), (Nat.le_of_ble_eq_true rfl)⟩ rfl rfl (Nat.le_of_ble_eq_true rfl) ⟨(Nat.le_of_ble_eq_true rfl), (Nat.le_of_ble_eq_true rfl)⟩ dX10_counted_163 (toJ (fun r30 S31 h32 => ?_))
    obtain ⟨er30, rfl⟩ := h32
    refine g_lret F T ⟨_, rfl, ?_⟩ (Nat.le_of_ble_eq_true rfl) (Nat.le_of_ble_eq_true rfl) dX10_counted_166
    exact ⟨(er30).trans ((Eq.trans (if_neg w1_0) (Eq.trans (if_neg w1_1) (Eq.trans (if_neg w1_2) (Eq.trans (if_neg w1_3) (Eq.trans (if_neg w1_4) (Eq.trans (if_neg w1_5) (Eq.trans (if_neg w1_6) (Eq.trans (if_neg w1_7) (Eq.trans (if_neg w1_8) (Eq.trans (if_neg w1_9) (Eq.trans (if_neg w1_10) (Eq.trans (if_neg w1_11) (Eq.trans (if_neg w1_12) (if_pos w1_13))))))))))))))).symm, Fm.rf⟩
  refine g_tout (t := 167) F dX10_counted_1 (by have a0 : ¬ (w : Int32).toInt = 0 := fun h9 => w1_0 (Int32.toInt_inj.mp h9); have a1 : ¬ (w : Int32).toInt = 1 := fun h9 => w1_1 (Int32.toInt_inj.mp h9); have a2 : ¬ (w : Int32).toInt = 2 := fun h9 => w1_2 (Int32.toInt_inj.mp h9); have a3 : ¬ (w : Int32).toInt = 3 := fun h9 => w1_3 (Int32.toInt_inj.mp h9); have a4 : ¬ (w : Int32).toInt = 4 := fun h9 => w1_4 (Int32.toInt_inj.mp h9); have a5 : ¬ (w : Int32).toInt = 5 := fun h9 => w1_5 (Int32.toInt_inj.mp h9); have a6 : ¬ (w : Int32).toInt = 6 := fun h9 => w1_6 (Int32.toInt_inj.mp h9); have a7 : ¬ (w : Int32).toInt = 7 := fun h9 => w1_7 (Int32.toInt_inj.mp h9); have a8 : ¬ (w : Int32).toInt = 8 := fun h9 => w1_8 (Int32.toInt_inj.mp h9); have a9 : ¬ (w : Int32).toInt = 9 := fun h9 => w1_9 (Int32.toInt_inj.mp h9); have a10 : ¬ (w : Int32).toInt = 10 := fun h9 => w1_10 (Int32.toInt_inj.mp h9); have a11 : ¬ (w : Int32).toInt = 11 := fun h9 => w1_11 (Int32.toInt_inj.mp h9); have a12 : ¬ (w : Int32).toInt = 12 := fun h9 => w1_12 (Int32.toInt_inj.mp h9); have a13 : ¬ (w : Int32).toInt = 13 := fun h9 => w1_13 (Int32.toInt_inj.mp h9); omega) (by decide) ?_
  refine g_aload_n (k := 0) F 0 rfl dX10_counted_167 ?_
  refine gfX10_173e F (qi94 hq) hs6 dX10_counted_168 ?_
  refine g_i2l F dX10_counted_171 ?_
  refine g_lret F T ⟨_, rfl, ?_⟩ (Nat.le_of_ble_eq_true rfl) (Nat.le_of_ble_eq_true rfl) dX10_counted_172
  exact ⟨(nI_L (by omega)).trans ((Eq.trans (if_neg w1_0) (Eq.trans (if_neg w1_1) (Eq.trans (if_neg w1_2) (Eq.trans (if_neg w1_3) (Eq.trans (if_neg w1_4) (Eq.trans (if_neg w1_5) (Eq.trans (if_neg w1_6) (Eq.trans (if_neg w1_7) (Eq.trans (if_neg w1_8) (Eq.trans (if_neg w1_9) (Eq.trans (if_neg w1_10) (Eq.trans (if_neg w1_11) (Eq.trans (if_neg w1_12) (if_neg w1_13))))))))))))))).symm, Fm.rf⟩
set_option maxHeartbeats 4000000 in
set_option maxRecDepth 100000 in
theorem kX10_count (g : Glo) (S : PS) (q : Nat → Nat) (hq : Shp S.1 S.2.1 q) (z : ZZ) (hz : pJ S (q 95) = z) (hB : Bz z) (H : List ZZ) (l : Int32) (n : Nat) (tx : Nat → Int32) (hm : Mo S q z H l n tx) (w : Int32) : Ct g mX10_count 0 0 [.ref (q 94), .int w] S (pJ9 (fun r S' => r = (oCnt w (z, H, l, n, tx)).2 ∧ Fr S S' q [94, 98] ∧ pI S' (q 94) 0 = (oCnt w (z, H, l, n, tx)).1 ∧ Mo S' q z H l n tx)) := by
  refine Ct.of (by decide) (Nat.le_of_ble_eq_true rfl) (fun Γ hg F T => ?_)
  subst hg
  show G Γ S 0 0 0 [(0, .ref (q 94)), (1, .int w)] []
  refine g_aload_n (k := 0) F 0 rfl dX10_count_0 ?_
  refine g_iload_n (k := 1) F 1 rfl dX10_count_1 ?_
  refine g_i2l F dX10_count_2 ?_
  refine g_lconst (v := 0) F (by decide) dX10_count_3 ?_
  refine g_ldc2 F mw875 dX10_count_4 ?_
  refine g_callS F (kX10_within Γ.1 _ _ _ _) okX10_within mw158 ⟨(Nat.le_of_ble_eq_true rfl), (Nat.le_of_ble_eq_true rfl)⟩ rfl rfl (Nat.le_of_ble_eq_true rfl) ⟨(Nat.le_of_ble_eq_true rfl), (Nat.le_of_ble_eq_true rfl)⟩ dX10_count_7 (toI (fun r1 S2 h3 => ?_))
  obtain ⟨er1, rfl⟩ := h3
  have jn5 : ∀ (w18 : Int32), w18 = tCnt w → G Γ S 0 0 18 [(0, .ref (q 94)), (1, .int w)] [.int w18, .ref (q 94)] := by
    intro w18 ht
    refine pfX10_35 F (qi94 hq) dX10_count_18 ?_
    refine g_aload_n (k := 0) F 0 rfl dX10_count_21 ?_
    refine gfX10_35e F (qi94 hq) up2_s dX10_count_22 ?_
    refine g_if_le (t := 32) F dX10_count_25 (by decide) (fun c6 => ?_) (fun c6 => ?_)
    · obtain ⟨ht0, hw9⟩ := tCnt_i (ht ▸ c6)
      have hs9 := hm.2.1
      refine g_aload_n (k := 0) F 0 rfl dX10_count_32 ?_
      refine g_iload_n (k := 1) F 1 rfl dX10_count_33 ?_
      refine g_callV F (kX10_counted Γ.1 (wI S (q 94) 0 w18) q hq z hz hB H.length hs9.2.1 (((up2_k (by decide)).trans rfl).trans hs9.1) w hw9) okX10_counted (qi94 hq) mw876 ⟨(Nat.le_of_ble_eq_true rfl), (Nat.le_of_ble_eq_true rfl)⟩ rfl rfl (Nat.le_of_ble_eq_true rfl) ⟨(Nat.le_of_ble_eq_true rfl), (Nat.le_of_ble_eq_true rfl)⟩ dX10_count_34 (toJ (fun r7 S8 h9 => ?_))
      obtain ⟨er7, gr7⟩ := h9
      have hq10 : Shp S8.1 S8.2.1 q := Fr.q gr7.1 hq
      refine g_lret F T ⟨_, rfl, ?_⟩ (Nat.le_of_ble_eq_true rfl) (Nat.le_of_ble_eq_true rfl) dX10_count_37
      rw [show oCnt w (z, H, l, n, tx) = (0, zCt z H.length w) from if_pos ht0]
      exact ⟨er7, (Fr.tr (l := [94, 98]) (Fr.wI hq Fr.rf (by decide) (by decide)) gr7.1 (by decide) (by decide)), ((congrFun gr7.2.1 0).trans up2_s).trans (ht.trans ht0), ⟨((gr7.1.2.2 (95) (by decide) (by decide)).2.trans hz), Sv_of hm.2.1 ((congrFun gr7.2.1 2).trans ((up2_k (by decide)).trans rfl)) ((gr7.1.2.2 (96) (by decide) (by decide)).2.trans rfl), ((congrFun gr7.2.1 4).trans ((up2_k (by decide)).trans hm.2.2.1)), ((congrFun gr7.2.1 5).trans ((up2_k (by decide)).trans hm.2.2.2.1)), fun j9 hj9 => (congrFun ((gr7.1.2.2 (97) (by decide) (by decide)).1.trans ((up2_r (qne hq (by decide) (by decide) (by decide))).trans rfl)) j9).trans (hm.2.2.2.2 j9 hj9)⟩⟩
    · have ht1 : ¬ tCnt w = 0 := fun h => c6 (by rw [ht, h]; decide)
      refine g_lconst (v := 0) F (by decide) dX10_count_28 ?_
      refine g_goto (t := 37) F dX10_count_29 (by decide) ?_
      refine g_lret F T ⟨_, rfl, ?_⟩ (Nat.le_of_ble_eq_true rfl) (Nat.le_of_ble_eq_true rfl) dX10_count_37
      rw [show oCnt w (z, H, l, n, tx) = (tCnt w, 0) from if_neg ht1]
      exact ⟨rfl, (Fr.wI hq Fr.rf (by decide) (by decide)), up2_s.trans ht, ⟨hz, Sv_of hm.2.1 ((up2_k (by decide)).trans rfl) rfl, ((up2_k (by decide)).trans hm.2.2.1), ((up2_k (by decide)).trans hm.2.2.2.1), fun j9 hj9 => (congrFun ((up2_r (qne hq (by decide) (by decide) (by decide))).trans rfl) j9).trans (hm.2.2.2.2 j9 hj9)⟩⟩
  refine g_if_eq (t := 17) F dX10_count_10 (by decide) (fun c4 => ?_) (fun c4 => ?_)
  · have hw8 := wI_f (lo := 0) (hi := 14) er1 c4 (by decide) (by decide)
    refine g_iconst (v := 1) F (by decide) dX10_count_17 ?_
    exact jn5 (1) (by unfold tCnt; rw [if_neg hw8])
  · have hw8 := wI_t (lo := 0) (hi := 14) er1 c4 (by decide) (by decide)
    refine g_iconst (v := 0) F (by decide) dX10_count_13 ?_
    refine g_goto (t := 18) F dX10_count_14 (by decide) ?_
    exact jn5 (0) (by unfold tCnt; rw [if_pos hw8])
theorem kX10_of2 (g : Glo) (S : PS) (q : Nat → Nat) (hq : Shp S.1 S.2.1 q) (z : ZZ) (hz : pJ S (q 95) = z) (hB : Bz z) (i : Nat) (hi : i < 5) (kk : Int32) (hkk : kk = nI i) : Ct g mX10_of 0 0 [.ref (q 94), .int kk] S (pJ9 (fun r S' => r = z (2 + i) ∧ S = S')) := by
  subst hkk
  exact kX10_of g S q hq z hz hB i hi
set_option maxHeartbeats 4000000 in
set_option maxRecDepth 100000 in
theorem kX10_setting (g : Glo) (S : PS) (q : Nat → Nat) (hq : Shp S.1 S.2.1 q) (z : ZZ) (hz : pJ S (q 95) = z) (hB : Bz z) (H : List ZZ) (l : Int32) (n : Nat) (tx : Nat → Int32) (hm : Mo S q z H l n tx) (k : Int32) : Ct g mX10_setting 0 0 [.ref (q 94), .int k] S (pI9 (fun r S' => r = (oStg k (z, H, l, n, tx)).2 ∧ Fr S S' q [94] ∧ pI S' (q 94) 0 = (oStg k (z, H, l, n, tx)).1 ∧ Mo S' q z H l n tx)) := by
  refine Ct.of (by decide) (Nat.le_of_ble_eq_true rfl) (fun Γ hg F T => ?_)
  subst hg
  show G Γ S 0 0 0 [(0, .ref (q 94)), (1, .int k)] []
  refine g_aload_n (k := 0) F 0 rfl dX10_setting_0 ?_
  refine g_iload_n (k := 1) F 1 rfl dX10_setting_1 ?_
  refine g_callS F (kX10_isSetting Γ.1 _ _) okX10_isSetting mw196 ⟨(Nat.le_of_ble_eq_true rfl), (Nat.le_of_ble_eq_true rfl)⟩ rfl rfl (Nat.le_of_ble_eq_true rfl) ⟨(Nat.le_of_ble_eq_true rfl), (Nat.le_of_ble_eq_true rfl)⟩ dX10_setting_2 (toI (fun r1 S2 h3 => ?_))
  obtain ⟨er1, rfl⟩ := h3
  have jn5 : ∀ (w13 : Int32), w13 = tStg k → G Γ S 0 0 13 [(0, .ref (q 94)), (1, .int k)] [.int w13, .ref (q 94)] := by
    intro w13 ht
    refine pfX10_35 F (qi94 hq) dX10_setting_13 ?_
    refine g_aload_n (k := 0) F 0 rfl dX10_setting_16 ?_
    refine gfX10_35e F (qi94 hq) up2_s dX10_setting_17 ?_
    refine g_if_le (t := 27) F dX10_setting_20 (by decide) (fun c6 => ?_) (fun c6 => ?_)
    · obtain ⟨ht0, hk9⟩ := tStg_i (ht ▸ c6)
      refine g_aload_n (k := 0) F 0 rfl dX10_setting_27 ?_
      refine g_iload_n (k := 1) F 1 rfl dX10_setting_28 ?_
      refine g_callV F (kX10_of2 Γ.1 (wI S (q 94) 0 w13) q hq z hz hB k.toInt.toNat (by omega) _ (kN hk9.1)) okX10_of (qi94 hq) mw496 ⟨(Nat.le_of_ble_eq_true rfl), (Nat.le_of_ble_eq_true rfl)⟩ rfl rfl (Nat.le_of_ble_eq_true rfl) ⟨(Nat.le_of_ble_eq_true rfl), (Nat.le_of_ble_eq_true rfl)⟩ dX10_setting_29 (toJ (fun r7 S8 h9 => ?_))
      obtain ⟨er7, rfl⟩ := h9
      refine g_l2i F dX10_setting_32 ?_
      refine g_iret F T ⟨_, rfl, ?_⟩ (Nat.le_of_ble_eq_true rfl) (Nat.le_of_ble_eq_true rfl) dX10_setting_33
      rw [show oStg k (z, H, l, n, tx) = (0, (z (2 + k.toInt.toNat)).toInt32) from if_pos ht0]
      exact ⟨by rw [er7], (Fr.wI hq Fr.rf (by decide) (by decide)), up2_s.trans (ht.trans ht0), ⟨hz, Sv_of hm.2.1 ((up2_k (by decide)).trans rfl) rfl, ((up2_k (by decide)).trans hm.2.2.1), ((up2_k (by decide)).trans hm.2.2.2.1), fun j9 hj9 => (congrFun ((up2_r (qne hq (by decide) (by decide) (by decide))).trans rfl) j9).trans (hm.2.2.2.2 j9 hj9)⟩⟩
    · have ht1 : ¬ tStg k = 0 := fun h => c6 (by rw [ht, h]; decide)
      refine g_iconst (v := 0) F (by decide) dX10_setting_23 ?_
      refine g_goto (t := 33) F dX10_setting_24 (by decide) ?_
      refine g_iret F T ⟨_, rfl, ?_⟩ (Nat.le_of_ble_eq_true rfl) (Nat.le_of_ble_eq_true rfl) dX10_setting_33
      rw [show oStg k (z, H, l, n, tx) = (tStg k, 0) from if_neg ht1]
      exact ⟨rfl, (Fr.wI hq Fr.rf (by decide) (by decide)), up2_s.trans ht, ⟨hz, Sv_of hm.2.1 ((up2_k (by decide)).trans rfl) rfl, ((up2_k (by decide)).trans hm.2.2.1), ((up2_k (by decide)).trans hm.2.2.2.1), fun j9 hj9 => (congrFun ((up2_r (qne hq (by decide) (by decide) (by decide))).trans rfl) j9).trans (hm.2.2.2.2 j9 hj9)⟩⟩
  refine g_if_eq (t := 12) F dX10_setting_5 (by decide) (fun c4 => ?_) (fun c4 => ?_)
  · have hk8 := if01_0 er1 c4
    refine g_iconst (v := 1) F (by decide) dX10_setting_12 ?_
    exact jn5 (1) (by unfold tStg; rw [if_neg hk8])
  · have hk8 := if01_1 er1 c4
    refine g_iconst (v := 0) F (by decide) dX10_setting_8 ?_
    refine g_goto (t := 13) F dX10_setting_9 (by decide) ?_
    exact jn5 (0) (by unfold tStg; rw [if_pos hk8])
set_option maxHeartbeats 4000000 in
set_option maxRecDepth 100000 in
theorem kX10_why (g : Glo) (S : PS) (q : Nat → Nat) (hq : Shp S.1 S.2.1 q) (z : ZZ) (hz : pJ S (q 95) = z) (hB : Bz z) (H : List ZZ) (l : Int32) (n : Nat) (tx : Nat → Int32) (hm : Mo S q z H l n tx) (k : Int32) (b : Int32) : Ct g mX10_why 0 0 [.ref (q 94), .int k, .int b] S (pI9 (fun r S' => r = (oWhy k (z, H, l, n, tx)).2 ∧ Fr S S' q [94] ∧ pI S' (q 94) 0 = (oWhy k (z, H, l, n, tx)).1 ∧ Mo S' q z H l n tx)) := by
  refine Ct.of (by decide) (Nat.le_of_ble_eq_true rfl) (fun Γ hg F T => ?_)
  subst hg
  show G Γ S 0 0 0 [(0, .ref (q 94)), (1, .int k), (2, .int b)] []
  refine g_aload_n (k := 0) F 0 rfl dX10_why_0 ?_
  refine g_aload_n (k := 0) F 0 rfl dX10_why_1 ?_
  refine g_iload_n (k := 1) F 1 rfl dX10_why_2 ?_
  refine g_callV F (kX10_isCorner Γ.1 _ q hq z hz hB k) okX10_isCorner (qi94 hq) mw274 ⟨(Nat.le_of_ble_eq_true rfl), (Nat.le_of_ble_eq_true rfl)⟩ rfl rfl (Nat.le_of_ble_eq_true rfl) ⟨(Nat.le_of_ble_eq_true rfl), (Nat.le_of_ble_eq_true rfl)⟩ dX10_why_3 (toI (fun r1 S2 h3 => ?_))
  obtain ⟨er1, rfl⟩ := h3
  have jn5 : ∀ (w14 : Int32), w14 = tRem z k → G Γ S 0 0 14 [(0, .ref (q 94)), (1, .int k), (2, .int b)] [.int w14, .ref (q 94)] := by
    intro w14 ht
    refine pfX10_35 F (qi94 hq) dX10_why_14 ?_
    refine g_aload_n (k := 0) F 0 rfl dX10_why_17 ?_
    refine gfX10_35e F (qi94 hq) up2_s dX10_why_18 ?_
    refine g_if_le (t := 28) F dX10_why_21 (by decide) (fun c6 => ?_) (fun c6 => ?_)
    · obtain ⟨ht0, hk9, hv9⟩ := tRem_i (ht ▸ c6)
      rcases hv9 with hv9
      have hnc9 := (nc_e hB).2
      refine g_aload_n (k := 0) F 0 rfl dX10_why_28 ?_
      refine g_callV F (kX10_refusal Γ.1 (wI S (q 94) 0 w14) q hq z hz hB ) okX10_refusal (qi94 hq) mw453 ⟨(Nat.le_of_ble_eq_true rfl), (Nat.le_of_ble_eq_true rfl)⟩ rfl rfl (Nat.le_of_ble_eq_true rfl) ⟨(Nat.le_of_ble_eq_true rfl), (Nat.le_of_ble_eq_true rfl)⟩ dX10_why_29 (toI (fun r7 S8 h9 => ?_))
      obtain ⟨rfl, rfl⟩ := h9
      refine g_iret F T ⟨_, rfl, ?_⟩ (Nat.le_of_ble_eq_true rfl) (Nat.le_of_ble_eq_true rfl) dX10_why_32
      rw [show oWhy k (z, H, l, n, tx) = (0, nI (zRf z)) from if_pos ht0]
      exact ⟨rfl, (Fr.wI hq Fr.rf (by decide) (by decide)), up2_s.trans (ht.trans ht0), ⟨hz, Sv_of hm.2.1 ((up2_k (by decide)).trans rfl) rfl, ((up2_k (by decide)).trans hm.2.2.1), ((up2_k (by decide)).trans hm.2.2.2.1), fun j9 hj9 => (congrFun ((up2_r (qne hq (by decide) (by decide) (by decide))).trans rfl) j9).trans (hm.2.2.2.2 j9 hj9)⟩⟩
    · have ht1 : ¬ tRem z k = 0 := fun h => c6 (by rw [ht, h]; decide)
      refine g_iconst (v := 0) F (by decide) dX10_why_24 ?_
      refine g_goto (t := 32) F dX10_why_25 (by decide) ?_
      refine g_iret F T ⟨_, rfl, ?_⟩ (Nat.le_of_ble_eq_true rfl) (Nat.le_of_ble_eq_true rfl) dX10_why_32
      rw [show oWhy k (z, H, l, n, tx) = (tRem z k, 0) from if_neg ht1]
      exact ⟨rfl, (Fr.wI hq Fr.rf (by decide) (by decide)), up2_s.trans ht, ⟨hz, Sv_of hm.2.1 ((up2_k (by decide)).trans rfl) rfl, ((up2_k (by decide)).trans hm.2.2.1), ((up2_k (by decide)).trans hm.2.2.2.1), fun j9 hj9 => (congrFun ((up2_r (qne hq (by decide) (by decide) (by decide))).trans rfl) j9).trans (hm.2.2.2.2 j9 hj9)⟩⟩
  refine g_if_eq (t := 13) F dX10_why_6 (by decide) (fun c4 => ?_) (fun c4 => ?_)
  · have hk8 := if01_0 er1 c4
    refine g_iconst (v := 1) F (by decide) dX10_why_13 ?_
    exact jn5 (1) (by unfold tRem; rw [if_neg hk8])
  · have hk8 := if01_1 er1 c4
    refine g_iconst (v := 0) F (by decide) dX10_why_9 ?_
    refine g_goto (t := 14) F dX10_why_10 (by decide) ?_
    exact jn5 (0) (by unfold tRem; rw [if_pos hk8])
set_option maxHeartbeats 4000000 in
set_option maxRecDepth 100000 in
theorem kX10_sumWith (g : Glo) (S : PS) (q : Nat → Nat) (hq : Shp S.1 S.2.1 q) (z : ZZ) (hz : pJ S (q 95) = z) (hB : Bz z) (c : Nat) (hc : c < nc z) (b : Bool) (k v : Int32) (hk : 0 ≤ k.toInt ∧ k.toInt ≤ 4) (hv : vOk k v) : Ct g mX10_sumWith 0 0 [.ref (q 94), .int (nI c), .int (bI b), .int k, .int v] S (pJ9 (fun r S' => r = zIf z c b k.toInt.toNat v ∧ Fr S S' q [94, 95, 98] ∧ pI S' (q 94) = pI S (q 94) ∧ pJ S' (q 95) = z)) := by
  refine Ct.of (by decide) (Nat.le_of_ble_eq_true rfl) (fun Γ hg F T => ?_)
  subst hg
  show G Γ S 0 0 0 [(0, .ref (q 94)), (1, .int (nI c)), (2, .int (bI b)), (3, .int k), (4, .int v)] []
  have hk9 := hk
  have hBw := ws_B hB hk hv
  have hnw := ws_nc (z := z) (k := k.toInt.toNat) (v := v) (by omega)
  refine g_aload_n (k := 0) F 0 rfl dX10_sumWith_0 ?_
  refine g_iload_n (k := 3) F 3 rfl dX10_sumWith_1 ?_
  refine g_callV F (kX10_of2 Γ.1 S q hq z hz hB k.toInt.toNat (by omega) _ (kN hk9.1)) okX10_of (qi94 hq) mw496 ⟨(Nat.le_of_ble_eq_true rfl), (Nat.le_of_ble_eq_true rfl)⟩ rfl rfl (Nat.le_of_ble_eq_true rfl) ⟨(Nat.le_of_ble_eq_true rfl), (Nat.le_of_ble_eq_true rfl)⟩ dX10_sumWith_2 (toJ (fun r1 S2 h3 => ?_))
  obtain ⟨er1, rfl⟩ := h3
  refine g_lstore (L' := [(5, .long r1), (0, .ref (q 94)), (1, .int (nI c)), (2, .int (bI b)), (3, .int k), (4, .int v)]) F dX10_sumWith_5 (Nat.le_of_ble_eq_true rfl) rfl ?_
  refine g_aload_n (k := 0) F 1 rfl dX10_sumWith_7 ?_
  refine gfX10_7 F (qi94 hq) (qr94_1 hq) dX10_sumWith_8 ?_
  refine g_iconst (v := 2) F (by decide) dX10_sumWith_11 ?_
  refine g_iload_n (k := 3) F 4 rfl dX10_sumWith_12 ?_
  refine g_iadd F dX10_sumWith_13 ?_
  refine g_rei (nI (2 + k.toInt.toNat)) (nadd rfl (kN hk.1)) ?_
  refine g_iload F 5 rfl dX10_sumWith_14 ?_
  refine g_i2l F dX10_sumWith_16 ?_
  refine g_last (j := (2 + k.toInt.toNat)) F (qi95 hq) rfl (by rw [(qn95 hq)]; omega) (by rw [(qn95 hq)]; decide) dX10_sumWith_17 ?_
  refine g_aload_n (k := 0) F 1 rfl dX10_sumWith_18 ?_
  refine g_callV F (kX10_shut Γ.1 (wJ S (q 95) ((2 + k.toInt.toNat)) (v).toInt64) q hq (zWs z k.toInt.toNat v) (up2_updL.trans (congrArg (fun f9 => vp_updL f9 ((2 + k.toInt.toNat)) (v).toInt64) hz)) hBw ) okX10_shut (qi94 hq) mw458 ⟨(Nat.le_of_ble_eq_true rfl), (Nat.le_of_ble_eq_true rfl)⟩ rfl rfl (Nat.le_of_ble_eq_true rfl) ⟨(Nat.le_of_ble_eq_true rfl), (Nat.le_of_ble_eq_true rfl)⟩ dX10_sumWith_19 (toI (fun r4 S5 h6 => ?_))
  obtain ⟨rfl, rfl⟩ := h6
  refine g_if_ne (t := 34) F dX10_sumWith_22 (by decide) (fun c7 => ?_) (fun c7 => ?_)
  · have hs9 : ¬ zSh (zWs z k.toInt.toNat v) = 0 := fun h => c7 (by rw [h]; rfl)
    refine g_lconst (v := 0) F (by decide) dX10_sumWith_34 ?_
    refine g_lstore (L' := [(7, .long 0), (5, .long r1), (0, .ref (q 94)), (1, .int (nI c)), (2, .int (bI b)), (3, .int k), (4, .int v)]) F dX10_sumWith_35 (Nat.le_of_ble_eq_true rfl) rfl ?_
    refine g_aload_n (k := 0) F 2 rfl dX10_sumWith_37 ?_
    refine gfX10_7 F (qi94 hq) (qr94_1 hq) dX10_sumWith_38 ?_
    refine g_iconst (v := 2) F (by decide) dX10_sumWith_41 ?_
    refine g_iload_n (k := 3) F 5 rfl dX10_sumWith_42 ?_
    refine g_iadd F dX10_sumWith_43 ?_
    refine g_rei (nI (2 + k.toInt.toNat)) (nadd rfl (kN hk.1)) ?_
    refine g_lload F 1 rfl dX10_sumWith_44 ?_
    refine g_last (j := (2 + k.toInt.toNat)) F (qi95 hq) rfl (by rw [(qn95 hq)]; omega) (by rw [(qn95 hq)]; decide) dX10_sumWith_46 ?_
    refine g_lload F 0 rfl dX10_sumWith_47 ?_
    refine g_lret F T ⟨_, rfl, ?_⟩ (Nat.le_of_ble_eq_true rfl) (Nat.le_of_ble_eq_true rfl) dX10_sumWith_49
    exact ⟨(if_neg hs9).symm, (Fr.wJ hq (Fr.wJ hq Fr.rf (by decide) (by decide)) (by decide) (by decide)), rfl, (up2_updL.trans (congrArg (fun f9 => vp_updL f9 ((2 + k.toInt.toNat)) r1) (up2_updL.trans (congrArg (fun f9 => vp_updL f9 ((2 + k.toInt.toNat)) (v).toInt64) hz)))).trans (by rw [er1]; exact uL_back)⟩
  · have hs9 : zSh (zWs z k.toInt.toNat v) = 0 := by
      have := zSh_le (zWs z k.toInt.toNat v)
      rw [show (0 : Int32) = nI 0 from rfl, nI_eq (by omega) (by omega)] at c7
      exact c7
    refine g_aload_n (k := 0) F 1 rfl dX10_sumWith_25 ?_
    refine g_iload_n (k := 1) F 2 rfl dX10_sumWith_26 ?_
    refine g_iload_n (k := 2) F 3 rfl dX10_sumWith_27 ?_
    refine g_callV F (kX10_sumOf Γ.1 (wJ S (q 95) ((2 + k.toInt.toNat)) (v).toInt64) q hq (zWs z k.toInt.toNat v) (up2_updL.trans (congrArg (fun f9 => vp_updL f9 ((2 + k.toInt.toNat)) (v).toInt64) hz)) hBw (by omega) c (by omega) b (zSh_ra hs9).2.2) okX10_sumOf (qi94 hq) mw522 ⟨(Nat.le_of_ble_eq_true rfl), (Nat.le_of_ble_eq_true rfl)⟩ rfl rfl (Nat.le_of_ble_eq_true rfl) ⟨(Nat.le_of_ble_eq_true rfl), (Nat.le_of_ble_eq_true rfl)⟩ dX10_sumWith_28 (toJ (fun r8 S9 h10 => ?_))
    obtain ⟨er8, gr8⟩ := h10
    have hq11 : Shp S9.1 S9.2.1 q := Fr.q gr8.1 hq
    refine g_goto (t := 35) F dX10_sumWith_31 (by decide) ?_
    refine g_lstore (L' := [(7, .long r8), (5, .long r1), (0, .ref (q 94)), (1, .int (nI c)), (2, .int (bI b)), (3, .int k), (4, .int v)]) F dX10_sumWith_35 (Nat.le_of_ble_eq_true rfl) rfl ?_
    refine g_aload_n (k := 0) F 2 rfl dX10_sumWith_37 ?_
    refine gfX10_7 F (qi94 hq11) (qr94_1 hq11) dX10_sumWith_38 ?_
    refine g_iconst (v := 2) F (by decide) dX10_sumWith_41 ?_
    refine g_iload_n (k := 3) F 5 rfl dX10_sumWith_42 ?_
    refine g_iadd F dX10_sumWith_43 ?_
    refine g_rei (nI (2 + k.toInt.toNat)) (nadd rfl (kN hk.1)) ?_
    refine g_lload F 1 rfl dX10_sumWith_44 ?_
    refine g_last (j := (2 + k.toInt.toNat)) F (qi95 hq11) rfl (by rw [(qn95 hq11)]; omega) (by rw [(qn95 hq11)]; decide) dX10_sumWith_46 ?_
    refine g_lload F 0 rfl dX10_sumWith_47 ?_
    refine g_lret F T ⟨_, rfl, ?_⟩ (Nat.le_of_ble_eq_true rfl) (Nat.le_of_ble_eq_true rfl) dX10_sumWith_49
    exact ⟨(er8).trans (if_pos hs9).symm, (Fr.wJ hq (Fr.tr (l := [94, 95, 98]) (Fr.wJ hq Fr.rf (by decide) (by decide)) gr8.1 (by decide) (by decide)) (by decide) (by decide)), (gr8.2.1.trans rfl), (up2_updL.trans (congrArg (fun f9 => vp_updL f9 ((2 + k.toInt.toNat)) r1) ((gr8.1.2.2 (95) (by decide) (by decide)).2.trans (up2_updL.trans (congrArg (fun f9 => vp_updL f9 ((2 + k.toInt.toNat)) (v).toInt64) hz))))).trans (by rw [er1]; exact uL_back)⟩
theorem kX10_sumWith2 (g : Glo) (S : PS) (q : Nat → Nat) (hq : Shp S.1 S.2.1 q) (z : ZZ) (hz : pJ S (q 95) = z) (hB : Bz z) (c : Nat) (hc : c < nc z) (b : Bool) (k v : Int32) (hk : 0 ≤ k.toInt ∧ k.toInt ≤ 4) (hv : vOk k v) (kk : Int32) (hkk : kk = nI c) : Ct g mX10_sumWith 0 0 [.ref (q 94), .int kk, .int (bI b), .int k, .int v] S (pJ9 (fun r S' => r = zIf z c b k.toInt.toNat v ∧ Fr S S' q [94, 95, 98] ∧ pI S' (q 94) = pI S (q 94) ∧ pJ S' (q 95) = z)) := by
  subst hkk
  exact kX10_sumWith g S q hq z hz hB c hc b k v hk hv
set_option maxHeartbeats 4000000 in
set_option maxRecDepth 100000 in
theorem kX10_ifSet (g : Glo) (S : PS) (q : Nat → Nat) (hq : Shp S.1 S.2.1 q) (z : ZZ) (hz : pJ S (q 95) = z) (hB : Bz z) (H : List ZZ) (l : Int32) (n : Nat) (tx : Nat → Int32) (hm : Mo S q z H l n tx) (c : Int32) (b : Bool) (k v : Int32) : Ct g mX10_ifSet 0 0 [.ref (q 94), .int c, .int (bI b), .int k, .int v] S (pJ9 (fun r S' => r = (oIfs c b k v (z, H, l, n, tx)).2 ∧ Fr S S' q [94, 95, 98] ∧ pI S' (q 94) 0 = (oIfs c b k v (z, H, l, n, tx)).1 ∧ Mo S' q z H l n tx)) := by
  refine Ct.of (by decide) (Nat.le_of_ble_eq_true rfl) (fun Γ hg F T => ?_)
  subst hg
  show G Γ S 0 0 0 [(0, .ref (q 94)), (1, .int c), (2, .int (bI b)), (3, .int k), (4, .int v)] []
  refine g_aload_n (k := 0) F 0 rfl dX10_ifSet_0 ?_
  refine g_aload_n (k := 0) F 0 rfl dX10_ifSet_1 ?_
  refine g_iload_n (k := 1) F 1 rfl dX10_ifSet_2 ?_
  refine g_callV F (kX10_isCorner Γ.1 _ q hq z hz hB c) okX10_isCorner (qi94 hq) mw274 ⟨(Nat.le_of_ble_eq_true rfl), (Nat.le_of_ble_eq_true rfl)⟩ rfl rfl (Nat.le_of_ble_eq_true rfl) ⟨(Nat.le_of_ble_eq_true rfl), (Nat.le_of_ble_eq_true rfl)⟩ dX10_ifSet_3 (toI (fun r1 S2 h3 => ?_))
  obtain ⟨er1, rfl⟩ := h3
  have jn5 : ∀ (w34 : Int32), w34 = tIfs z c k v → G Γ S 0 0 34 [(0, .ref (q 94)), (1, .int c), (2, .int (bI b)), (3, .int k), (4, .int v)] [.int w34, .ref (q 94)] := by
    intro w34 ht
    refine pfX10_35 F (qi94 hq) dX10_ifSet_34 ?_
    refine g_aload_n (k := 0) F 0 rfl dX10_ifSet_37 ?_
    refine gfX10_35e F (qi94 hq) up2_s dX10_ifSet_38 ?_
    refine g_if_le (t := 48) F dX10_ifSet_41 (by decide) (fun c6 => ?_) (fun c6 => ?_)
    · obtain ⟨ht0, hk9, hs9, hv9⟩ := tIfs_i (ht ▸ c6)
      refine g_aload_n (k := 0) F 0 rfl dX10_ifSet_48 ?_
      refine g_iload_n (k := 1) F 1 rfl dX10_ifSet_49 ?_
      refine g_iload_n (k := 2) F 2 rfl dX10_ifSet_50 ?_
      refine g_iload_n (k := 3) F 3 rfl dX10_ifSet_51 ?_
      refine g_iload F 4 rfl dX10_ifSet_52 ?_
      refine g_callV F (kX10_sumWith2 Γ.1 (wI S (q 94) 0 w34) q hq z hz hB c.toInt.toNat (by omega) b k v hs9 hv9 c (kN hk9.1)) okX10_sumWith (qi94 hq) mw933 ⟨(Nat.le_of_ble_eq_true rfl), (Nat.le_of_ble_eq_true rfl)⟩ rfl rfl (Nat.le_of_ble_eq_true rfl) ⟨(Nat.le_of_ble_eq_true rfl), (Nat.le_of_ble_eq_true rfl)⟩ dX10_ifSet_54 (toJ (fun r7 S8 h9 => ?_))
      obtain ⟨er7, gr7⟩ := h9
      have hq10 : Shp S8.1 S8.2.1 q := Fr.q gr7.1 hq
      refine g_lret F T ⟨_, rfl, ?_⟩ (Nat.le_of_ble_eq_true rfl) (Nat.le_of_ble_eq_true rfl) dX10_ifSet_57
      rw [show oIfs c b k v (z, H, l, n, tx) = (0, zIf z c.toInt.toNat b k.toInt.toNat v) from if_pos ht0]
      exact ⟨er7, (Fr.tr (l := [94, 95, 98]) (Fr.wI hq Fr.rf (by decide) (by decide)) gr7.1 (by decide) (by decide)), ((congrFun gr7.2.1 0).trans up2_s).trans (ht.trans ht0), ⟨gr7.2.2, Sv_of hm.2.1 ((congrFun gr7.2.1 2).trans ((up2_k (by decide)).trans rfl)) ((gr7.1.2.2 (96) (by decide) (by decide)).2.trans rfl), ((congrFun gr7.2.1 4).trans ((up2_k (by decide)).trans hm.2.2.1)), ((congrFun gr7.2.1 5).trans ((up2_k (by decide)).trans hm.2.2.2.1)), fun j9 hj9 => (congrFun ((gr7.1.2.2 (97) (by decide) (by decide)).1.trans ((up2_r (qne hq (by decide) (by decide) (by decide))).trans rfl)) j9).trans (hm.2.2.2.2 j9 hj9)⟩⟩
    · have ht1 : ¬ tIfs z c k v = 0 := fun h => c6 (by rw [ht, h]; decide)
      refine g_lconst (v := 0) F (by decide) dX10_ifSet_44 ?_
      refine g_goto (t := 57) F dX10_ifSet_45 (by decide) ?_
      refine g_lret F T ⟨_, rfl, ?_⟩ (Nat.le_of_ble_eq_true rfl) (Nat.le_of_ble_eq_true rfl) dX10_ifSet_57
      rw [show oIfs c b k v (z, H, l, n, tx) = (tIfs z c k v, 0) from if_neg ht1]
      exact ⟨rfl, (Fr.wI hq Fr.rf (by decide) (by decide)), up2_s.trans ht, ⟨hz, Sv_of hm.2.1 ((up2_k (by decide)).trans rfl) rfl, ((up2_k (by decide)).trans hm.2.2.1), ((up2_k (by decide)).trans hm.2.2.2.1), fun j9 hj9 => (congrFun ((up2_r (qne hq (by decide) (by decide) (by decide))).trans rfl) j9).trans (hm.2.2.2.2 j9 hj9)⟩⟩
  refine g_if_eq (t := 16) F dX10_ifSet_6 (by decide) (fun c4 => ?_) (fun c4 => ?_)
  · have hk8 := if01_0 er1 c4
    refine g_iconst (v := 1) F (by decide) dX10_ifSet_16 ?_
    refine g_goto (t := 34) F dX10_ifSet_17 (by decide) ?_
    exact jn5 (1) (by unfold tIfs; rw [if_pos (.inl hk8)])
  · have hk8 := if01_1 er1 c4
    refine g_iload_n (k := 3) F 3 rfl dX10_ifSet_9 ?_
    refine g_callS F (kX10_isSetting Γ.1 _ _) okX10_isSetting mw196 ⟨(Nat.le_of_ble_eq_true rfl), (Nat.le_of_ble_eq_true rfl)⟩ rfl rfl (Nat.le_of_ble_eq_true rfl) ⟨(Nat.le_of_ble_eq_true rfl), (Nat.le_of_ble_eq_true rfl)⟩ dX10_ifSet_10 (toI (fun r11 S12 h13 => ?_))
    obtain ⟨er11, rfl⟩ := h13
    refine g_if_ne (t := 20) F dX10_ifSet_13 (by decide) (fun c14 => ?_) (fun c14 => ?_)
    · have hs8 := if01_1 er11 c14
      refine g_iload_n (k := 3) F 3 rfl dX10_ifSet_20 ?_
      refine g_iload F 4 rfl dX10_ifSet_21 ?_
      refine g_callS F (kX10_isValue Γ.1 _ _ _) okX10_isValue mw200 ⟨(Nat.le_of_ble_eq_true rfl), (Nat.le_of_ble_eq_true rfl)⟩ rfl rfl (Nat.le_of_ble_eq_true rfl) ⟨(Nat.le_of_ble_eq_true rfl), (Nat.le_of_ble_eq_true rfl)⟩ dX10_ifSet_23 (toI (fun r15 S16 h17 => ?_))
      obtain ⟨er15, rfl⟩ := h17
      refine g_if_eq (t := 33) F dX10_ifSet_26 (by decide) (fun c18 => ?_) (fun c18 => ?_)
      · have hv8 := if01_0 er15 c18
        refine g_iconst (v := 2) F (by decide) dX10_ifSet_33 ?_
        exact jn5 (2) (by unfold tIfs; rw [if_neg (fun h => h.elim (fun h => h hk8) (fun h => h hs8)), if_neg hv8])
      · have hv8 := if01_1 er15 c18
        refine g_iconst (v := 0) F (by decide) dX10_ifSet_29 ?_
        refine g_goto (t := 34) F dX10_ifSet_30 (by decide) ?_
        exact jn5 (0) (by unfold tIfs; rw [if_neg (fun h => h.elim (fun h => h hk8) (fun h => h hs8)), if_pos hv8])
    · have hs8 := if01_0 er11 c14
      refine g_iconst (v := 1) F (by decide) dX10_ifSet_16 ?_
      refine g_goto (t := 34) F dX10_ifSet_17 (by decide) ?_
      exact jn5 (1) (by unfold tIfs; rw [if_pos (.inr hs8)])
set_option maxHeartbeats 4000000 in
set_option maxRecDepth 100000 in
theorem kX10_leastNow (g : Glo) (S : PS) (q : Nat → Nat) (hq : Shp S.1 S.2.1 q) (z : ZZ) (hz : pJ S (q 95) = z) (hB : Bz z) : Ct g mX10_leastNow 0 0 [.ref (q 94)] S (pI9 (fun r S' => r = zLe z ∧ Fr S S' q [95] ∧ pJ S' (q 95) = z)) := by
  refine Ct.of (by decide) (Nat.le_of_ble_eq_true rfl) (fun Γ hg F T => ?_)
  subst hg
  show G Γ S 0 0 0 [(0, .ref (q 94))] []
  refine g_aload_n (k := 0) F 0 rfl dX10_leastNow_0 ?_
  refine g_iconst (v := 1) F (by decide) dX10_leastNow_1 ?_
  refine g_callV F (kX10_of Γ.1 _ q hq z hz hB 1 (by decide)) okX10_of (qi94 hq) mw496 ⟨(Nat.le_of_ble_eq_true rfl), (Nat.le_of_ble_eq_true rfl)⟩ rfl rfl (Nat.le_of_ble_eq_true rfl) ⟨(Nat.le_of_ble_eq_true rfl), (Nat.le_of_ble_eq_true rfl)⟩ dX10_leastNow_2 (toJ (fun r1 S2 h3 => ?_))
  obtain ⟨er1, rfl⟩ := h3
  refine g_lstore_n (k := 1) (L' := [(1, .long r1), (0, .ref (q 94))]) F dX10_leastNow_5 (Nat.le_of_ble_eq_true rfl) rfl ?_
  refine g_iconst (v := (-1)) F (by decide) dX10_leastNow_6 ?_
  refine g_istore_n (k := 3) (L' := [(3, .int (-1)), (1, .long r1), (0, .ref (q 94))]) F dX10_leastNow_7 (Nat.le_of_ble_eq_true rfl) rfl ?_
  refine g_sipush (v := 3000) F (by decide) dX10_leastNow_8 ?_
  refine g_istore (L' := [(4, .int 3000), (3, .int (-1)), (1, .long r1), (0, .ref (q 94))]) F dX10_leastNow_11 (Nat.le_of_ble_eq_true rfl) rfl ?_
  have lp4 : ∀ (n9 : Nat) (a : Nat) (j : Nat) (l9 : Int32) (zr : ZZ) (S1 : PS), 29 < j + n9 → (a + 100 * j = 3000) → (j ≤ 29) → (l9 = zLeF z j) → (0 < j → 0 < nc z) → (Fr S S1 q [95]) → (pJ S1 (q 95) = zr) → (zr = z ∨ ∃ x, zr = vp_updL z 3 x) → G Γ S1 0 0 13 [(4, .int (nI a)), (3, .int l9), (1, .long r1), (0, .ref (q 94))] [] := by
    intro n9
    induction n9 with
    | zero =>
      intro a j l9 zr S1 hm9 ha hj hl9 hnj hf hz1 hzr
      exact absurd hm9 (by omega)
    | succ n9 ihlp4 =>
      intro a j l9 zr S1 hm9 ha hj hl9 hnj hf hz1 hzr
      have hq5 : Shp S1.1 S1.2.1 q := Fr.q hf hq
      refine g_iload F 0 rfl dX10_leastNow_13 ?_
      refine g_sipush (v := 200) F (by decide) dX10_leastNow_15 ?_
      refine g_icmp_lt (t := 57) F dX10_leastNow_18 (by decide) (fun c6 => ?_) (fun c6 => ?_)
      · have hj9 : j = 29 := by
          rw [show (200 : Int32) = nI 200 from rfl, nI_ltI (by omega) (by omega)] at c6
          omega
        refine g_aload_n (k := 0) F 3 rfl dX10_leastNow_57 ?_
        refine gfX10_7 F (qi94 hq5) (qr94_1 hq5) dX10_leastNow_58 ?_
        refine g_iconst (v := 3) F (by decide) dX10_leastNow_61 ?_
        refine g_lload_n (k := 1) F 2 rfl dX10_leastNow_62 ?_
        refine g_last (j := 3) F (qi95 hq5) rfl (by rw [(qn95 hq5)]; omega) (by rw [(qn95 hq5)]; decide) dX10_leastNow_63 ?_
        refine g_iload_n (k := 3) F 1 rfl dX10_leastNow_64 ?_
        refine g_iret F T ⟨_, rfl, ?_⟩ (Nat.le_of_ble_eq_true rfl) (Nat.le_of_ble_eq_true rfl) dX10_leastNow_65
        exact ⟨le_29 hnj hj9 hl9, (Fr.wJ hq hf (by decide) (by decide)), (up2_updL.trans (congrArg (fun f9 => vp_updL f9 (3) r1) hz1)).trans (by rw [er1]; exact am_b hzr)⟩
      · have hj9 : j < 29 := by
          rw [show (200 : Int32) = nI 200 from rfl, nI_ltI (by omega) (by omega)] at c6
          omega
        refine g_aload_n (k := 0) F 3 rfl dX10_leastNow_21 ?_
        refine g_callV F (kX10_corners0 Γ.1 S1 q hq5 _ hz1 (nc z) (am_8I hB hzr)) okX10_corners (qi94 hq5) mw247 ⟨(Nat.le_of_ble_eq_true rfl), (Nat.le_of_ble_eq_true rfl)⟩ rfl rfl (Nat.le_of_ble_eq_true rfl) ⟨(Nat.le_of_ble_eq_true rfl), (Nat.le_of_ble_eq_true rfl)⟩ dX10_leastNow_22 (toI (fun r7 S8 h9 => ?_))
        obtain ⟨rfl, rfl⟩ := h9
        refine g_if_le (t := 57) F dX10_leastNow_25 (by decide) (fun c10 => ?_) (fun c10 => ?_)
        · have h09 : nc z = 0 := by
            have := (nc_e hB).2
            rw [show (0 : Int32) = nI 0 from rfl, nI_leI (by omega) (by omega)] at c10
            omega
          refine g_aload_n (k := 0) F 3 rfl dX10_leastNow_57 ?_
          refine gfX10_7 F (qi94 hq5) (qr94_1 hq5) dX10_leastNow_58 ?_
          refine g_iconst (v := 3) F (by decide) dX10_leastNow_61 ?_
          refine g_lload_n (k := 1) F 2 rfl dX10_leastNow_62 ?_
          refine g_last (j := 3) F (qi95 hq5) rfl (by rw [(qn95 hq5)]; omega) (by rw [(qn95 hq5)]; decide) dX10_leastNow_63 ?_
          refine g_iload_n (k := 3) F 1 rfl dX10_leastNow_64 ?_
          refine g_iret F T ⟨_, rfl, ?_⟩ (Nat.le_of_ble_eq_true rfl) (Nat.le_of_ble_eq_true rfl) dX10_leastNow_65
          exact ⟨le_00 hnj h09 hl9, (Fr.wJ hq hf (by decide) (by decide)), (up2_updL.trans (congrArg (fun f9 => vp_updL f9 (3) r1) hz1)).trans (by rw [er1]; exact am_b hzr)⟩
        · have h09 : 0 < nc z := by
            have := (nc_e hB).2
            rw [show (0 : Int32) = nI 0 from rfl, nI_leI (by omega) (by omega)] at c10
            omega
          refine g_aload_n (k := 0) F 3 rfl dX10_leastNow_28 ?_
          refine gfX10_7 F (qi94 hq5) (qr94_1 hq5) dX10_leastNow_29 ?_
          refine g_iconst (v := 3) F (by decide) dX10_leastNow_32 ?_
          refine g_iload F 0 rfl dX10_leastNow_33 ?_
          refine g_i2l F dX10_leastNow_35 ?_
          refine g_last (j := 3) F (qi95 hq5) rfl (by rw [(qn95 hq5)]; omega) (by rw [(qn95 hq5)]; decide) dX10_leastNow_36 ?_
          refine g_aload_n (k := 0) F 3 rfl dX10_leastNow_37 ?_
          refine g_callV F (kX10_allReached Γ.1 (wJ S1 (q 95) (3) ((nI a)).toInt64) q hq5 (zAm z a) ((up2_updL.trans (congrArg (fun f9 => vp_updL f9 (3) ((nI a)).toInt64) hz1)).trans (am_s hzr)) (am_B hB (by omega)) (by rw [am_nc]; exact h09)) okX10_allReached (qi94 hq5) mw481 ⟨(Nat.le_of_ble_eq_true rfl), (Nat.le_of_ble_eq_true rfl)⟩ rfl rfl (Nat.le_of_ble_eq_true rfl) ⟨(Nat.le_of_ble_eq_true rfl), (Nat.le_of_ble_eq_true rfl)⟩ dX10_leastNow_38 (toI (fun r11 S12 h13 => ?_))
          obtain ⟨er11, rfl⟩ := h13
          have jn15 : ∀ (w50 : Int32), (w50 = nI a ∧ zRa (zAm z a)) ∨ (w50 = l9 ∧ ¬ zRa (zAm z a)) → G Γ (wJ S1 (q 95) (3) ((nI a)).toInt64) 0 0 50 [(4, .int (nI a)), (3, .int l9), (1, .long r1), (0, .ref (q 94))] [.int w50] := by
            intro w50 hjl
            refine g_istore_n (k := 3) (L' := [(3, .int w50), (4, .int (nI a)), (1, .long r1), (0, .ref (q 94))]) F dX10_leastNow_50 (Nat.le_of_ble_eq_true rfl) rfl ?_
            obtain ⟨x16, ex16⟩ : ∃ y9 : Int32, y9 = (nI a) + (-100) := ⟨_, rfl⟩
            refine g_iinc (k := 1) (v := x16) (L' := [(4, .int x16), (3, .int w50), (1, .long r1), (0, .ref (q 94))]) F dX10_leastNow_51 rfl (by rw [ex16]; rfl) (Nat.le_of_ble_eq_true rfl) rfl ?_
            refine g_goto (t := 13) F dX10_leastNow_54 (by decide) ?_
            obtain rfl : x16 = nI (a - 100) := (ex16.trans (nI_m100 (by omega)))
            refine g_sub (L' := [(4, .int (nI (a - 100))), (3, .int w50), (1, .long r1), (0, .ref (q 94))]) [0, 1, 2, 3] rfl ?_
            exact ihlp4 ((a - 100)) (j + 1) (w50) ((zAm z a)) ((wJ S1 (q 95) (3) ((nI a)).toInt64)) (by omega) (by omega) (by omega) (leF_s ha hl9 hjl) (fun _ => h09) (Fr.wJ hq hf (by decide) (by decide)) ((up2_updL.trans (congrArg (fun f9 => vp_updL f9 (3) ((nI a)).toInt64) hz1)).trans (am_s hzr)) (.inr ⟨_, rfl⟩)
          refine g_if_eq (t := 49) F dX10_leastNow_41 (by decide) (fun c14 => ?_) (fun c14 => ?_)
          · have hr9 := w0 er11 c14
            refine g_iload_n (k := 3) F 1 rfl dX10_leastNow_49 ?_
            exact jn15 (l9) (.inr ⟨rfl, hr9⟩)
          · have hr9 := w1 er11 c14
            refine g_iload F 0 rfl dX10_leastNow_44 ?_
            refine g_goto (t := 50) F dX10_leastNow_46 (by decide) ?_
            exact jn15 ((nI a)) (.inl ⟨rfl, hr9⟩)
  exact lp4 30 3000 0 (-1) z S (by omega) (by omega) (by omega) rfl (fun h => absurd h (by omega)) Fr.rf hz (.inl rfl)
