set_option maxHeartbeats 4000000 in
set_option maxRecDepth 100000 in
theorem kX10_undo (g : Glo) (S : PS) (q : Nat → Nat) (hq : Shp S.1 S.2.1 q) (z : ZZ) (hz : pJ S (q 95) = z) (hB : Bz z) (H : List ZZ) (l : Int32) (n : Nat) (tx : Nat → Int32) (hm : Mo S q z H l n tx) (hE : zE z) (hH : ∀ y ∈ H, zE y) : Ct g mX10_undo 0 0 [.ref (q 94)] S (pI9 (fun r S' => r = (oUnd (z, H, l, n, tx)).2.1 ∧ Fr S S' q [94, 95, 96] ∧ pI S' (q 94) 0 = (oUnd (z, H, l, n, tx)).1 ∧ Mw S' q (oUnd (z, H, l, n, tx)).2.2)) := by
  refine Ct.of (by decide) (Nat.le_of_ble_eq_true rfl) (fun Γ hg F T => ?_)
  subst hg
  show G Γ S 0 0 0 [(0, .ref (q 94))] []
  have g9 := hm.2.1.2.1
  refine g_aload_n (k := 0) F 0 rfl dX10_undo_0 ?_
  refine g_aload_n (k := 0) F 0 rfl dX10_undo_1 ?_
  refine gfX10_173e F (qi94 hq) hm.2.1.1 dX10_undo_2 ?_
  have jn2 : ∀ (w13 : Int32), w13 = tUnd H → G Γ S 0 0 13 [(0, .ref (q 94))] [.int w13, .ref (q 94)] := by
    intro w13 ht
    refine pfX10_35 F (qi94 hq) dX10_undo_13 ?_
    refine g_aload_n (k := 0) F 0 rfl dX10_undo_16 ?_
    refine gfX10_35e F (qi94 hq) up2_s dX10_undo_17 ?_
    refine g_if_le (t := 25) F dX10_undo_20 (by decide) (fun c3 => ?_) (fun c3 => ?_)
    · have h09 := tUnd_i (ht ▸ c3)
      refine g_aload_n (k := 0) F 0 rfl dX10_undo_25 ?_
      refine g_dup F dX10_undo_26 rfl ?_
      refine gfX10_173e F (qi94 hq) ((up2_k (by decide)).trans hm.2.1.1) dX10_undo_27 ?_
      refine g_iconst (v := 1) F (by decide) dX10_undo_30 ?_
      refine g_isub F dX10_undo_31 ?_
      refine g_rei (nI (H.length - 1)) (nsub rfl rfl (by omega)) ?_
      refine pfX10_173 F (qi94 hq) dX10_undo_32 ?_
      refine g_iconst (v := 0) F (by decide) dX10_undo_35 ?_
      refine g_istore_n (k := 1) (L' := [(1, .int 0), (0, .ref (q 94))]) F dX10_undo_36 (Nat.le_of_ble_eq_true rfl) rfl ?_
      have lp4 : ∀ (n9 : Nat) (k : Nat) (S1 : PS), 106 < k + n9 → (k ≤ 106) → (Fr (wI (wI S (q 94) 0 w13) (q 94) 2 (nI (H.length - 1))) S1 q [95]) → (pJ S1 (q 95) = cpR (zLast H) z k) → G Γ S1 0 0 37 [(1, .int (nI k)), (0, .ref (q 94))] [] := by
        intro n9
        induction n9 with
        | zero =>
          intro k S1 hm9 hk hf hz1
          exact absurd hm9 (by omega)
        | succ n9 ihlp4 =>
          intro k S1 hm9 hk hf hz1
          have hq5 : Shp S1.1 S1.2.1 q := Fr.q hf hq
          refine g_iload_n (k := 1) F 0 rfl dX10_undo_37 ?_
          refine g_bipush (v := 106) F (by decide) dX10_undo_38 ?_
          refine g_icmp_ge (t := 69) F dX10_undo_40 (by decide) (fun c6 => ?_) (fun c6 => ?_)
          · obtain rfl : k = 106 := by
              rw [show (106 : Int32) = nI 106 from rfl, nI_leI (by omega) (by omega)] at c6
              omega
            refine g_aload_n (k := 0) F 1 rfl dX10_undo_69 ?_
            refine gfX10_173e F (qi94 hq5) ((congrFun (hf.2.2 (94) (by decide) (by decide)).1 2).trans up2_s) dX10_undo_70 ?_
            refine g_iret F T ⟨_, rfl, ?_⟩ (Nat.le_of_ble_eq_true rfl) (Nat.le_of_ble_eq_true rfl) dX10_undo_73
            rw [show oUnd (z, H, l, n, tx) = (0, nI (H.length - 1), (zLast H, H.dropLast, l, n, tx)) from if_neg h09]
            exact ⟨rfl, (Fr.tr (l := [94, 95]) (Fr.wI hq (Fr.wI hq Fr.rf (by decide) (by decide)) (by decide) (by decide)) hf (by decide) (by decide)), ((congrFun (hf.2.2 (94) (by decide) (by decide)).1 0).trans ((up2_k (by decide)).trans up2_s)).trans (ht.trans (by unfold tUnd; rw [if_neg h09])), ⟨(hz1).trans (cp_e hE (hH _ (zLast_m h09))), Sv_pop hm.2.1 ((congrFun (hf.2.2 (94) (by decide) (by decide)).1 2).trans up2_s) ((hf.2.2 (96) (by decide) (by decide)).2.trans rfl), ((congrFun (hf.2.2 (94) (by decide) (by decide)).1 4).trans ((up2_k (by decide)).trans ((up2_k (by decide)).trans hm.2.2.1))), ((congrFun (hf.2.2 (94) (by decide) (by decide)).1 5).trans ((up2_k (by decide)).trans ((up2_k (by decide)).trans hm.2.2.2.1))), fun j9 hj9 => (congrFun ((hf.2.2 (97) (by decide) (by decide)).1.trans ((up2_r (qne hq (by decide) (by decide) (by decide))).trans ((up2_r (qne hq (by decide) (by decide) (by decide))).trans rfl))) j9).trans (hm.2.2.2.2 j9 hj9)⟩⟩
          · have hk9 : k < 106 := by
              rw [show (106 : Int32) = nI 106 from rfl, nI_leI (by omega) (by omega)] at c6
              omega
            refine g_aload_n (k := 0) F 1 rfl dX10_undo_43 ?_
            refine gfX10_7 F (qi94 hq5) (qr94_1 hq5) dX10_undo_44 ?_
            refine g_iload_n (k := 1) F 0 rfl dX10_undo_47 ?_
            refine g_aload_n (k := 0) F 1 rfl dX10_undo_48 ?_
            refine gfX10_13 F (qi94 hq5) (qr94_3 hq5) dX10_undo_49 ?_
            refine g_bipush (v := 106) F (by decide) dX10_undo_52 ?_
            refine g_aload_n (k := 0) F 1 rfl dX10_undo_54 ?_
            refine gfX10_173e F (qi94 hq5) ((congrFun (hf.2.2 (94) (by decide) (by decide)).1 2).trans up2_s) dX10_undo_55 ?_
            refine g_imul F dX10_undo_58 ?_
            refine g_rei (nI (106 * (H.length - 1))) (nmul rfl rfl) ?_
            refine g_iload_n (k := 1) F 0 rfl dX10_undo_59 ?_
            refine g_iadd F dX10_undo_60 ?_
            refine g_rei (nI ((106 * (H.length - 1)) + k)) (nadd rfl rfl) ?_
            refine g_lalde ((hf.2.2 (96) (by decide) (by decide)).2.trans rfl) (j := ((106 * (H.length - 1)) + k)) F (qi96 hq5) rfl (by rw [(qn96 hq5)]; omega) (by rw [(qn96 hq5)]; decide) dX10_undo_61 ?_
            refine g_last (j := k) F (qi95 hq5) rfl (by rw [(qn95 hq5)]; omega) (by rw [(qn95 hq5)]; decide) dX10_undo_62 ?_
            obtain ⟨x7, ex7⟩ : ∃ y9 : Int32, y9 = (nI k) + 1 := ⟨_, rfl⟩
            refine g_iinc (k := 0) (v := x7) (L' := [(1, .int x7), (0, .ref (q 94))]) F dX10_undo_63 rfl (by rw [ex7]; rfl) (Nat.le_of_ble_eq_true rfl) rfl ?_
            refine g_goto (t := 37) F dX10_undo_66 (by decide) ?_
            obtain rfl : x7 = nI (k + 1) := (ex7.trans (nI_1 _))
            refine g_sub (L' := [(1, .int (nI (k + 1))), (0, .ref (q 94))]) [0, 1] rfl ?_
            exact ihlp4 (k + 1) ((wJ S1 (q 95) (k) ((pJ S (q 96)) (((106 * (H.length - 1)) + k))))) (by omega) (by omega) (Fr.wJ hq hf (by decide) (by decide)) ((up2_updL.trans (congrArg (fun f9 => vp_updL f9 (k) ((pJ S (q 96)) (((106 * (H.length - 1)) + k)))) hz1)).trans (cp_s (hm.2.1.2.2 _ _ (zLast_e h09) k hk9)))
      exact lp4 107 0 (wI (wI S (q 94) 0 w13) (q 94) 2 (nI (H.length - 1))) (by omega) (by omega) Fr.rf (hz.trans cp_0)
    · have h09 := tUnd_n (ht ▸ c3)
      refine g_iconst (v := 0) F (by decide) dX10_undo_23 ?_
      refine g_iret F T ⟨_, rfl, ?_⟩ (Nat.le_of_ble_eq_true rfl) (Nat.le_of_ble_eq_true rfl) dX10_undo_24
      rw [show oUnd (z, H, l, n, tx) = (1, 0, (z, H, l, n, tx)) from if_pos h09]
      exact ⟨rfl, (Fr.wI hq Fr.rf (by decide) (by decide)), up2_s.trans (ht.trans (by unfold tUnd; rw [if_pos h09])), ⟨hz, Sv_of hm.2.1 (((up2_k (by decide)).trans hm.2.1.1).trans hm.2.1.1.symm) rfl, ((up2_k (by decide)).trans hm.2.2.1), ((up2_k (by decide)).trans hm.2.2.2.1), fun j9 hj9 => (congrFun ((up2_r (qne hq (by decide) (by decide) (by decide))).trans rfl) j9).trans (hm.2.2.2.2 j9 hj9)⟩⟩
  refine g_if_le (t := 12) F dX10_undo_5 (by decide) (fun c1 => ?_) (fun c1 => ?_)
  · have h09 : H.length = 0 := by
      rw [show (0 : Int32) = nI 0 from rfl, nI_leI (by omega) (by omega)] at c1
      omega
    refine g_iconst (v := 1) F (by decide) dX10_undo_12 ?_
    exact jn2 (1) (by unfold tUnd; rw [if_pos h09])
  · have h09 : ¬ H.length = 0 := by
      rw [show (0 : Int32) = nI 0 from rfl, nI_leI (by omega) (by omega)] at c1
      omega
    refine g_iconst (v := 0) F (by decide) dX10_undo_8 ?_
    refine g_goto (t := 13) F dX10_undo_9 (by decide) ?_
    exact jn2 (0) (by unfold tUnd; rw [if_neg h09])
set_option maxHeartbeats 4000000 in
set_option maxRecDepth 100000 in
theorem kX10_make (g : Glo) (S : PS) (q : Nat → Nat) (hq : Shp S.1 S.2.1 q) (z : ZZ) (hz : pJ S (q 95) = z) (hB : Bz z) (h0 : 0 < nc z) (c : Nat) (hc : c < nc z) (b : Bool) (hr : zRa z) (h12 : nr z < 12) : Ct g mX10_make 0 0 [.ref (q 94), .int (nI c), .int (bI b)] S (pV9 (fun S' => Fr S S' q [94, 95, 98] ∧ pI S' (q 94) = pI S (q 94) ∧ pJ S' (q 95) = zMk z c b)) := by
  refine Ct.of (by decide) (Nat.le_of_ble_eq_true rfl) (fun Γ hg F T => ?_)
  subst hg
  show G Γ S 0 0 0 [(0, .ref (q 94)), (1, .int (nI c)), (2, .int (bI b))] []
  refine g_bipush (v := 70) F (by decide) dX10_make_0 ?_
  refine g_iconst (v := 3) F (by decide) dX10_make_2 ?_
  refine g_aload_n (k := 0) F 0 rfl dX10_make_3 ?_
  refine gfX10_7 F (qi94 hq) (qr94_1 hq) dX10_make_4 ?_
  refine g_bipush (v := 69) F (by decide) dX10_make_7 ?_
  refine g_lalde hz (j := 69) F (qi95 hq) rfl (by rw [(qn95 hq)]; omega) (by rw [(qn95 hq)]; decide) dX10_make_9 ?_
  refine g_l2i F dX10_make_10 ?_
  refine g_rei (nI (nr z)) (nr_I hB) ?_
  refine g_imul F dX10_make_11 ?_
  refine g_rei (nI (3 * (nr z))) (nmul rfl rfl) ?_
  refine g_iadd F dX10_make_12 ?_
  refine g_rei (nI (70 + (3 * (nr z)))) (nadd rfl rfl) ?_
  refine g_istore_n (k := 3) (L' := [(3, .int (nI (70 + (3 * (nr z))))), (0, .ref (q 94)), (1, .int (nI c)), (2, .int (bI b))]) F dX10_make_13 (Nat.le_of_ble_eq_true rfl) rfl ?_
  refine g_aload_n (k := 0) F 1 rfl dX10_make_14 ?_
  refine gfX10_7 F (qi94 hq) (qr94_1 hq) dX10_make_15 ?_
  refine g_iload_n (k := 3) F 0 rfl dX10_make_18 ?_
  refine g_iload_n (k := 1) F 2 rfl dX10_make_19 ?_
  refine g_i2l F dX10_make_20 ?_
  refine g_last (j := (70 + (3 * (nr z)))) F (qi95 hq) rfl (by rw [(qn95 hq)]; omega) (by rw [(qn95 hq)]; decide) dX10_make_21 ?_
  refine g_aload_n (k := 0) F 1 rfl dX10_make_22 ?_
  refine gfX10_7 F (qi94 hq) (qr94_1 hq) dX10_make_23 ?_
  refine g_iload_n (k := 3) F 0 rfl dX10_make_26 ?_
  refine g_iconst (v := 1) F (by decide) dX10_make_27 ?_
  refine g_iadd F dX10_make_28 ?_
  refine g_rei (nI ((70 + (3 * (nr z))) + 1)) (nadd rfl rfl) ?_
  refine g_iload_n (k := 2) F 3 rfl dX10_make_29 ?_
  have jn2 : ∀ (w38 : Int64), w38 = bL b → G Γ (wJ S (q 95) ((70 + (3 * (nr z)))) ((nI c)).toInt64) 0 0 38 [(3, .int (nI (70 + (3 * (nr z))))), (0, .ref (q 94)), (1, .int (nI c)), (2, .int (bI b))] [.long w38, .int (nI ((70 + (3 * (nr z))) + 1)), .ref (q 95)] := by
    intro w38 hw
    refine g_last (j := ((70 + (3 * (nr z))) + 1)) F (qi95 hq) rfl (by rw [(qn95 hq)]; omega) (by rw [(qn95 hq)]; decide) dX10_make_38 ?_
    refine g_aload_n (k := 0) F 1 rfl dX10_make_39 ?_
    refine gfX10_7 F (qi94 hq) (qr94_1 hq) dX10_make_40 ?_
    refine g_iload_n (k := 3) F 0 rfl dX10_make_43 ?_
    refine g_iconst (v := 2) F (by decide) dX10_make_44 ?_
    refine g_iadd F dX10_make_45 ?_
    refine g_rei (nI ((70 + (3 * (nr z))) + 2)) (nadd rfl rfl) ?_
    refine g_aload_n (k := 0) F 1 rfl dX10_make_46 ?_
    refine g_iload_n (k := 1) F 2 rfl dX10_make_47 ?_
    refine g_iload_n (k := 2) F 3 rfl dX10_make_48 ?_
    refine g_callV F (kX10_sumOf Γ.1 (wJ (wJ S (q 95) ((70 + (3 * (nr z)))) ((nI c)).toInt64) (q 95) (((70 + (3 * (nr z))) + 1)) w38) q hq (zMk1 z c w38) (up2_updL.trans (congrArg (fun f9 => vp_updL f9 (((70 + (3 * (nr z))) + 1)) w38) (up2_updL.trans (congrArg (fun f9 => vp_updL f9 ((70 + (3 * (nr z)))) ((nI c)).toInt64) hz)))) (mk1_B hB) (by rw [mk1_lo.c8]; exact h0) c (by rw [mk1_lo.c8]; exact hc) b (by rw [mk1_lo.Ra hB h0]; exact hr)) okX10_sumOf (qi94 hq) mw522 ⟨(Nat.le_of_ble_eq_true rfl), (Nat.le_of_ble_eq_true rfl)⟩ rfl rfl (Nat.le_of_ble_eq_true rfl) ⟨(Nat.le_of_ble_eq_true rfl), (Nat.le_of_ble_eq_true rfl)⟩ dX10_make_49 (toJ (fun r3 S4 h5 => ?_))
    obtain ⟨er3, gr3⟩ := h5
    have hq6 : Shp S4.1 S4.2.1 q := Fr.q gr3.1 hq
    refine g_last (j := ((70 + (3 * (nr z))) + 2)) F (qi95 hq6) rfl (by rw [(qn95 hq6)]; omega) (by rw [(qn95 hq6)]; decide) dX10_make_52 ?_
    refine g_aload_n (k := 0) F 1 rfl dX10_make_53 ?_
    refine gfX10_7 F (qi94 hq6) (qr94_1 hq6) dX10_make_54 ?_
    refine g_bipush (v := 69) F (by decide) dX10_make_57 ?_
    refine g_dup2 F dX10_make_59 rfl rfl ?_
    refine g_lalde (up2_updL.trans (congrArg (fun f9 => vp_updL f9 (((70 + (3 * (nr z))) + 2)) r3) ((gr3.1.2.2 (95) (by decide) (by decide)).2.trans (up2_updL.trans (congrArg (fun f9 => vp_updL f9 (((70 + (3 * (nr z))) + 1)) w38) (up2_updL.trans (congrArg (fun f9 => vp_updL f9 ((70 + (3 * (nr z)))) ((nI c)).toInt64) hz))))))) (j := 69) F (qi95 hq6) rfl (by rw [(qn95 hq6)]; omega) (by rw [(qn95 hq6)]; decide) dX10_make_60 ?_
    refine g_lconst (v := 1) F (by decide) dX10_make_61 ?_
    refine g_ladd F dX10_make_62 ?_
    refine g_last (j := 69) F (qi95 hq6) rfl (by rw [(qn95 hq6)]; omega) (by rw [(qn95 hq6)]; decide) dX10_make_63 ?_
    refine g_vret F T ⟨rfl, ?_⟩ (Nat.le_of_ble_eq_true rfl) (Nat.le_of_ble_eq_true rfl) dX10_make_64
    exact ⟨(Fr.wJ hq (Fr.wJ hq (Fr.tr (l := [94, 95, 98]) (Fr.wJ hq (Fr.wJ hq Fr.rf (by decide) (by decide)) (by decide) (by decide)) gr3.1 (by decide) (by decide)) (by decide) (by decide)) (by decide) (by decide)), (gr3.2.1.trans rfl), (up2_updL.trans (congrArg (fun f9 => vp_updL f9 (69) (((vp_updL (vp_updL (vp_updL z ((70 + (3 * (nr z)))) ((nI c)).toInt64) (((70 + (3 * (nr z))) + 1)) w38) (((70 + (3 * (nr z))) + 2)) r3) 69) + 1)) (up2_updL.trans (congrArg (fun f9 => vp_updL f9 (((70 + (3 * (nr z))) + 2)) r3) ((gr3.1.2.2 (95) (by decide) (by decide)).2.trans (up2_updL.trans (congrArg (fun f9 => vp_updL f9 (((70 + (3 * (nr z))) + 1)) w38) (up2_updL.trans (congrArg (fun f9 => vp_updL f9 ((70 + (3 * (nr z)))) ((nI c)).toInt64) hz))))))))).trans (zMk_e hB h0 hw er3)⟩
  refine g_if_eq (t := 37) F dX10_make_30 (by decide) (fun c1 => ?_) (fun c1 => ?_)
  · have hb9 := bI_0 c1
    refine g_lconst (v := 0) F (by decide) dX10_make_37 ?_
    exact jn2 (0) (by rw [hb9]; rfl)
  · have hb9 := bI_1 c1
    refine g_lconst (v := 1) F (by decide) dX10_make_33 ?_
    refine g_goto (t := 38) F dX10_make_34 (by decide) ?_
    exact jn2 (1) (by rw [hb9]; rfl)
theorem kX10_make2 (g : Glo) (S : PS) (q : Nat → Nat) (hq : Shp S.1 S.2.1 q) (z : ZZ) (hz : pJ S (q 95) = z) (hB : Bz z) (h0 : 0 < nc z) (c : Nat) (hc : c < nc z) (b : Bool) (hr : zRa z) (h12 : nr z < 12) (cc bb : Int32) (hcc : cc = nI c) (hbb : bb = bI b) : Ct g mX10_make 0 0 [.ref (q 94), .int cc, .int bb] S (pV9 (fun S' => Fr S S' q [94, 95, 98] ∧ pI S' (q 94) = pI S (q 94) ∧ pJ S' (q 95) = zMk z c b)) := by
  subst hcc hbb
  exact kX10_make g S q hq z hz hB h0 c hc b hr h12
set_option maxHeartbeats 4000000 in
set_option maxRecDepth 100000 in
theorem kX10_run (g : Glo) (S : PS) (q : Nat → Nat) (hq : Shp S.1 S.2.1 q) (z : ZZ) (hz : pJ S (q 95) = z) (hB : Bz z) (H : List ZZ) (l : Int32) (n : Nat) (tx : Nat → Int32) (hm : Mo S q z H l n tx) (k : Int32) (b : Bool) : Ct g mX10_run 0 0 [.ref (q 94), .int k, .int (bI b)] S (pI9 (fun r S' => r = (oRun k b (z, H, l, n, tx)).2.1 ∧ Fr S S' q [94, 95, 96, 98] ∧ pI S' (q 94) 0 = (oRun k b (z, H, l, n, tx)).1 ∧ Mw S' q (oRun k b (z, H, l, n, tx)).2.2)) := by
  refine Ct.of (by decide) (Nat.le_of_ble_eq_true rfl) (fun Γ hg F T => ?_)
  subst hg
  show G Γ S 0 0 0 [(0, .ref (q 94)), (1, .int k), (2, .int (bI b))] []
  refine g_aload_n (k := 0) F 0 rfl dX10_run_0 ?_
  refine g_aload_n (k := 0) F 0 rfl dX10_run_1 ?_
  refine g_iload_n (k := 1) F 1 rfl dX10_run_2 ?_
  refine g_callV F (kX10_isCorner Γ.1 _ q hq z hz hB k) okX10_isCorner (qi94 hq) mw274 ⟨(Nat.le_of_ble_eq_true rfl), (Nat.le_of_ble_eq_true rfl)⟩ rfl rfl (Nat.le_of_ble_eq_true rfl) ⟨(Nat.le_of_ble_eq_true rfl), (Nat.le_of_ble_eq_true rfl)⟩ dX10_run_3 (toI (fun r1 S2 h3 => ?_))
  obtain ⟨er1, rfl⟩ := h3
  have jn5 : ∀ (w14 : Int32), w14 = tRem z k → G Γ S 0 0 14 [(0, .ref (q 94)), (1, .int k), (2, .int (bI b))] [.int w14, .ref (q 94)] := by
    intro w14 ht
    refine pfX10_35 F (qi94 hq) dX10_run_14 ?_
    refine g_aload_n (k := 0) F 0 rfl dX10_run_17 ?_
    refine gfX10_35e F (qi94 hq) up2_s dX10_run_18 ?_
    refine g_if_le (t := 26) F dX10_run_21 (by decide) (fun c6 => ?_) (fun c6 => ?_)
    · obtain ⟨ht0, hk9, hv9⟩ := tRem_i (ht ▸ c6)
      rcases hv9 with hv9
      have hnc9 := (nc_e hB).2
      refine g_aload_n (k := 0) F 0 rfl dX10_run_26 ?_
      refine g_aload_n (k := 0) F 0 rfl dX10_run_27 ?_
      refine g_callV F (kX10_refusal Γ.1 (wI S (q 94) 0 w14) q hq z hz hB ) okX10_refusal (qi94 hq) mw453 ⟨(Nat.le_of_ble_eq_true rfl), (Nat.le_of_ble_eq_true rfl)⟩ rfl rfl (Nat.le_of_ble_eq_true rfl) ⟨(Nat.le_of_ble_eq_true rfl), (Nat.le_of_ble_eq_true rfl)⟩ dX10_run_28 (toI (fun r7 S8 h9 => ?_))
      obtain ⟨rfl, rfl⟩ := h9
      refine pfX10_226 F (qi94 hq) dX10_run_31 ?_
      refine g_aload_n (k := 0) F 0 rfl dX10_run_34 ?_
      refine g_aload_n (k := 0) F 0 rfl dX10_run_35 ?_
      refine gfX10_226e F (qi94 hq) up2_s dX10_run_36 ?_
      have jn11 : ∀ (w47 : Int32), w47 = (if zRf z = 0 then 0 else 2) → G Γ (wI (wI S (q 94) 0 w14) (q 94) 4 (nI (zRf z))) 0 0 47 [(0, .ref (q 94)), (1, .int k), (2, .int (bI b))] [.int w47, .ref (q 94)] := by
        intro w47 hu
        refine pfX10_35 F (qi94 hq) dX10_run_47 ?_
        refine g_aload_n (k := 0) F 0 rfl dX10_run_50 ?_
        refine gfX10_35e F (qi94 hq) up2_s dX10_run_51 ?_
        refine g_if_le (t := 59) F dX10_run_54 (by decide) (fun c12 => ?_) (fun c12 => ?_)
        · have hf9 : zRf z = 0 := by
            rw [hu] at c12
            split at c12
            · assumption
            · exact absurd c12 (by decide)
          refine g_aload_n (k := 0) F 0 rfl dX10_run_59 ?_
          refine g_callV F (kX10_save Γ.1 (wI (wI (wI S (q 94) 0 w14) (q 94) 4 (nI (zRf z))) (q 94) 0 w47) q hq z hz hB H (Sv_of hm.2.1 ((up2_k (by decide)).trans ((up2_k (by decide)).trans ((up2_k (by decide)).trans rfl))) rfl)) okX10_save (qi94 hq) mw161 ⟨(Nat.le_of_ble_eq_true rfl), (Nat.le_of_ble_eq_true rfl)⟩ rfl rfl (Nat.le_of_ble_eq_true rfl) ⟨(Nat.le_of_ble_eq_true rfl), (Nat.le_of_ble_eq_true rfl)⟩ dX10_run_60 (toV (fun S14 h15 => ?_))
          obtain ⟨fr13, gr13, jr13, vr13⟩ := h15
          have hq16 : Shp S14.1 S14.2.1 q := Fr.q fr13 hq
          refine g_aload_n (k := 0) F 0 rfl dX10_run_63 ?_
          refine g_iload_n (k := 1) F 1 rfl dX10_run_64 ?_
          refine g_iload_n (k := 2) F 2 rfl dX10_run_65 ?_
          refine g_callV F (kX10_make2 Γ.1 S14 q hq16 z ((fr13.2.2 (95) (by decide) (by decide)).2.trans hz) hB (zRf_0 hB hf9).1 k.toInt.toNat (by omega) b (zRf_0 hB hf9).2.1 (zRf_0 hB hf9).2.2 _ _ (kN hk9.1) rfl) okX10_make (qi94 hq16) mw518 ⟨(Nat.le_of_ble_eq_true rfl), (Nat.le_of_ble_eq_true rfl)⟩ rfl rfl (Nat.le_of_ble_eq_true rfl) ⟨(Nat.le_of_ble_eq_true rfl), (Nat.le_of_ble_eq_true rfl)⟩ dX10_run_66 (toV (fun S18 h19 => ?_))
          obtain ⟨mr17, ir17, zr17⟩ := h19
          have hq20 : Shp S18.1 S18.2.1 q := Fr.q mr17 hq16
          refine g_aload_n (k := 0) F 0 rfl dX10_run_69 ?_
          refine gfX10_7 F (qi94 hq20) (qr94_1 hq20) dX10_run_70 ?_
          refine g_bipush (v := 69) F (by decide) dX10_run_73 ?_
          refine g_lalde zr17 (j := 69) F (qi95 hq20) rfl (by rw [(qn95 hq20)]; omega) (by rw [(qn95 hq20)]; decide) dX10_run_75 ?_
          refine g_l2i F dX10_run_76 ?_
          refine g_iconst (v := 1) F (by decide) dX10_run_77 ?_
          refine g_isub F dX10_run_78 ?_
          refine g_iret F T ⟨_, rfl, ?_⟩ (Nat.le_of_ble_eq_true rfl) (Nat.le_of_ble_eq_true rfl) dX10_run_79
          rw [show oRun k b (z, H, l, n, tx) = (0, nI (nr z), (zMk z k.toInt.toNat b, psh H z, 0, n, tx)) from (if_pos ht0).trans (if_pos hf9)]
          exact ⟨mk_ret hB (zRf_0 hB hf9).2.2, (Fr.tr (l := [94, 95, 96, 98]) (Fr.tr (l := [94, 95, 96, 98]) (Fr.wI hq (Fr.wI hq (Fr.wI hq Fr.rf (by decide) (by decide)) (by decide) (by decide)) (by decide) (by decide)) fr13 (by decide) (by decide)) mr17 (by decide) (by decide)), ((congrFun ir17 0).trans ((gr13 0 (by decide)).trans up2_s)).trans (hu.trans (if_pos hf9)), ⟨zr17, Sv_of vr13 ((congrFun ir17 2).trans rfl) ((mr17.2.2 (96) (by decide) (by decide)).2.trans rfl), (((congrFun ir17 4).trans ((gr13 4 (by decide)).trans ((up2_k (by decide)).trans up2_s)))).trans (congrArg nI hf9), ((congrFun ir17 5).trans ((gr13 5 (by decide)).trans ((up2_k (by decide)).trans ((up2_k (by decide)).trans ((up2_k (by decide)).trans hm.2.2.2.1))))), fun j9 hj9 => (congrFun ((mr17.2.2 (97) (by decide) (by decide)).1.trans ((fr13.2.2 (97) (by decide) (by decide)).1.trans ((up2_r (qne hq (by decide) (by decide) (by decide))).trans ((up2_r (qne hq (by decide) (by decide) (by decide))).trans ((up2_r (qne hq (by decide) (by decide) (by decide))).trans rfl))))) j9).trans (hm.2.2.2.2 j9 hj9)⟩⟩
        · have hf9 : ¬ zRf z = 0 := fun h => c12 (by rw [hu, if_pos h]; decide)
          refine g_iconst (v := 0) F (by decide) dX10_run_57 ?_
          refine g_iret F T ⟨_, rfl, ?_⟩ (Nat.le_of_ble_eq_true rfl) (Nat.le_of_ble_eq_true rfl) dX10_run_58
          rw [show oRun k b (z, H, l, n, tx) = (2, 0, (z, H, nI (zRf z), n, tx)) from (if_pos ht0).trans (if_neg hf9)]
          exact ⟨rfl, (Fr.wI hq (Fr.wI hq (Fr.wI hq Fr.rf (by decide) (by decide)) (by decide) (by decide)) (by decide) (by decide)), up2_s.trans (hu.trans (if_neg hf9)), ⟨hz, Sv_of hm.2.1 ((up2_k (by decide)).trans ((up2_k (by decide)).trans ((up2_k (by decide)).trans rfl))) rfl, ((up2_k (by decide)).trans up2_s), ((up2_k (by decide)).trans ((up2_k (by decide)).trans ((up2_k (by decide)).trans hm.2.2.2.1))), fun j9 hj9 => (congrFun ((up2_r (qne hq (by decide) (by decide) (by decide))).trans ((up2_r (qne hq (by decide) (by decide) (by decide))).trans ((up2_r (qne hq (by decide) (by decide) (by decide))).trans rfl))) j9).trans (hm.2.2.2.2 j9 hj9)⟩⟩
      refine g_if_ne (t := 46) F dX10_run_39 (by decide) (fun c10 => ?_) (fun c10 => ?_)
      · have hf9 : ¬ zRf z = 0 := fun h => c10 (by rw [h]; rfl)
        refine g_iconst (v := 2) F (by decide) dX10_run_46 ?_
        exact jn11 (2) (by rw [if_neg hf9])
      · have hf9 : zRf z = 0 := by
          have := zRf_le (z := z)
          rw [show (0 : Int32) = nI 0 from rfl, nI_eq (by omega) (by omega)] at c10
          exact c10
        refine g_iconst (v := 0) F (by decide) dX10_run_42 ?_
        refine g_goto (t := 47) F dX10_run_43 (by decide) ?_
        exact jn11 (0) (by rw [if_pos hf9])
    · have ht1 : ¬ tRem z k = 0 := fun h => c6 (by rw [ht, h]; decide)
      refine g_iconst (v := 0) F (by decide) dX10_run_24 ?_
      refine g_iret F T ⟨_, rfl, ?_⟩ (Nat.le_of_ble_eq_true rfl) (Nat.le_of_ble_eq_true rfl) dX10_run_25
      rw [show oRun k b (z, H, l, n, tx) = (tRem z k, 0, (z, H, l, n, tx)) from if_neg ht1]
      exact ⟨rfl, (Fr.wI hq Fr.rf (by decide) (by decide)), up2_s.trans ht, ⟨hz, Sv_of hm.2.1 ((up2_k (by decide)).trans rfl) rfl, ((up2_k (by decide)).trans hm.2.2.1), ((up2_k (by decide)).trans hm.2.2.2.1), fun j9 hj9 => (congrFun ((up2_r (qne hq (by decide) (by decide) (by decide))).trans rfl) j9).trans (hm.2.2.2.2 j9 hj9)⟩⟩
  refine g_if_eq (t := 13) F dX10_run_6 (by decide) (fun c4 => ?_) (fun c4 => ?_)
  · have hk8 := if01_0 er1 c4
    refine g_iconst (v := 1) F (by decide) dX10_run_13 ?_
    exact jn5 (1) (by unfold tRem; rw [if_neg hk8])
  · have hk8 := if01_1 er1 c4
    refine g_iconst (v := 0) F (by decide) dX10_run_9 ?_
    refine g_goto (t := 14) F dX10_run_10 (by decide) ?_
    exact jn5 (0) (by unfold tRem; rw [if_pos hk8])
set_option maxHeartbeats 4000000 in
set_option maxRecDepth 100000 in
theorem kX10_runAll (g : Glo) (S : PS) (q : Nat → Nat) (hq : Shp S.1 S.2.1 q) (z : ZZ) (hz : pJ S (q 95) = z) (hB : Bz z) (H : List ZZ) (l : Int32) (n : Nat) (tx : Nat → Int32) (hm : Mo S q z H l n tx) : Ct g mX10_runAll 0 0 [.ref (q 94)] S (pI9 (fun r S' => r = (oRal (z, H, l, n, tx)).2.1 ∧ Fr S S' q [94, 95, 96, 98] ∧ pI S' (q 94) 0 = (oRal (z, H, l, n, tx)).1 ∧ Mw S' q (oRal (z, H, l, n, tx)).2.2)) := by
  refine Ct.of (by decide) (Nat.le_of_ble_eq_true rfl) (fun Γ hg F T => ?_)
  subst hg
  show G Γ S 0 0 0 [(0, .ref (q 94))] []
  have hnc9 := (nc_e hB).2
  refine g_aload_n (k := 0) F 0 rfl dX10_runAll_0 ?_
  refine g_iconst (v := 0) F (by decide) dX10_runAll_1 ?_
  refine pfX10_35 F (qi94 hq) dX10_runAll_2 ?_
  refine g_aload_n (k := 0) F 0 rfl dX10_runAll_5 ?_
  refine g_callV F (kX10_save Γ.1 (wI S (q 94) 0 0) q hq z hz hB H (Sv_of hm.2.1 ((up2_k (by decide)).trans rfl) rfl)) okX10_save (qi94 hq) mw161 ⟨(Nat.le_of_ble_eq_true rfl), (Nat.le_of_ble_eq_true rfl)⟩ rfl rfl (Nat.le_of_ble_eq_true rfl) ⟨(Nat.le_of_ble_eq_true rfl), (Nat.le_of_ble_eq_true rfl)⟩ dX10_runAll_6 (toV (fun S2 h3 => ?_))
  obtain ⟨fr1, gr1, jr1, vr1⟩ := h3
  have hq4 : Shp S2.1 S2.2.1 q := Fr.q fr1 hq
  refine g_aload_n (k := 0) F 0 rfl dX10_runAll_9 ?_
  refine g_iconst (v := 0) F (by decide) dX10_runAll_10 ?_
  refine pfX10_226 F (qi94 hq4) dX10_runAll_11 ?_
  refine g_iconst (v := 0) F (by decide) dX10_runAll_14 ?_
  refine g_istore_n (k := 1) (L' := [(1, .int 0), (0, .ref (q 94))]) F dX10_runAll_15 (Nat.le_of_ble_eq_true rfl) rfl ?_
  refine g_iconst (v := 0) F (by decide) dX10_runAll_16 ?_
  refine g_istore_n (k := 2) (L' := [(2, .int 0), (1, .int 0), (0, .ref (q 94))]) F dX10_runAll_17 (Nat.le_of_ble_eq_true rfl) rfl ?_
  have lp5 : ∀ (n9 : Nat) (i : Nat) (m : Nat) (l1 : Int32) (y : ZZ) (S1 : PS), 2 * nc z < i + n9 → (i ≤ 2 * nc z) → (raF z i = (l1, m, y)) → (Fr S S1 q [94, 95, 96, 98]) → (Mo S1 q y (psh H z) l1 n tx) → (pI S1 (q 94) 0 = 0) → G Γ S1 0 0 18 [(2, .int (nI i)), (1, .int (nI m)), (0, .ref (q 94))] [] := by
    intro n9
    induction n9 with
    | zero =>
      intro i m l1 y S1 hm9 hi ha hf hm1 ht9
      exact absurd hm9 (by omega)
    | succ n9 ihlp5 =>
      intro i m l1 y S1 hm9 hi ha hf hm1 ht9
      have hq6 : Shp S1.1 S1.2.1 q := Fr.q hf hq
      have hR9 : Bz y ∧ Lo y z ∧ m ≤ i ∧ (zE z → zE y) := by
        have h9 := raF_B hB hi
        rw [ha] at h9
        exact h9
      obtain ⟨hBy, hLy, hmi, -⟩ := hR9
      have hny := hLy.c8
      refine g_iload_n (k := 2) F 0 rfl dX10_runAll_18 ?_
      refine g_iconst (v := 2) F (by decide) dX10_runAll_19 ?_
      refine g_aload_n (k := 0) F 2 rfl dX10_runAll_20 ?_
      refine g_callV F (kX10_corners Γ.1 S1 q hq6 y hm1.1 hBy ) okX10_corners (qi94 hq6) mw247 ⟨(Nat.le_of_ble_eq_true rfl), (Nat.le_of_ble_eq_true rfl)⟩ rfl rfl (Nat.le_of_ble_eq_true rfl) ⟨(Nat.le_of_ble_eq_true rfl), (Nat.le_of_ble_eq_true rfl)⟩ dX10_runAll_21 (toI (fun r7 S8 h9 => ?_))
      obtain ⟨rfl, rfl⟩ := h9
      refine g_imul F dX10_runAll_24 ?_
      refine g_rei (nI (2 * (nc y))) (nmul rfl rfl) ?_
      refine g_icmp_ge (t := 78) F dX10_runAll_25 (by decide) (fun c10 => ?_) (fun c10 => ?_)
      · have hi9 : i = 2 * nc z := by
          rw [nI_leI (by omega) (by omega)] at c10
          omega
        have he9 : raF z (2 * nc z) = (l1, m, y) := by rw [← hi9]; exact ha
        refine g_iload_n (k := 1) F 1 rfl dX10_runAll_78 ?_
        refine g_iret F T ⟨_, rfl, ?_⟩ (Nat.le_of_ble_eq_true rfl) (Nat.le_of_ble_eq_true rfl) dX10_runAll_79
        rw [oRal_e he9]
        exact ⟨rfl, hf, ht9, ⟨hm1.1, Sv_of hm1.2.1 rfl rfl, hm1.2.2.1, hm1.2.2.2.1, fun j9 hj9 => (congrFun rfl j9).trans (hm1.2.2.2.2 j9 hj9)⟩⟩
      · have hi9 : i < 2 * nc z := by
          rw [nI_leI (by omega) (by omega)] at c10
          omega
        refine g_aload_n (k := 0) F 2 rfl dX10_runAll_28 ?_
        refine gfX10_226e F (qi94 hq6) hm1.2.2.1 dX10_runAll_29 ?_
        refine g_if_ne (t := 78) F dX10_runAll_32 (by decide) (fun c11 => ?_) (fun c11 => ?_)
        · have he9 := raF_end ha c11 (show i ≤ 2 * nc z by omega)
          refine g_iload_n (k := 1) F 1 rfl dX10_runAll_78 ?_
          refine g_iret F T ⟨_, rfl, ?_⟩ (Nat.le_of_ble_eq_true rfl) (Nat.le_of_ble_eq_true rfl) dX10_runAll_79
          rw [oRal_e he9]
          exact ⟨rfl, hf, ht9, ⟨hm1.1, Sv_of hm1.2.1 rfl rfl, hm1.2.2.1, hm1.2.2.2.1, fun j9 hj9 => (congrFun rfl j9).trans (hm1.2.2.2.2 j9 hj9)⟩⟩
        · have hl0 : l1 = 0 := c11
          refine g_aload_n (k := 0) F 2 rfl dX10_runAll_35 ?_
          refine g_aload_n (k := 0) F 2 rfl dX10_runAll_36 ?_
          refine g_callV F (kX10_refusal Γ.1 S1 q hq6 y hm1.1 hBy ) okX10_refusal (qi94 hq6) mw453 ⟨(Nat.le_of_ble_eq_true rfl), (Nat.le_of_ble_eq_true rfl)⟩ rfl rfl (Nat.le_of_ble_eq_true rfl) ⟨(Nat.le_of_ble_eq_true rfl), (Nat.le_of_ble_eq_true rfl)⟩ dX10_runAll_37 (toI (fun r12 S13 h14 => ?_))
          obtain ⟨rfl, rfl⟩ := h14
          refine pfX10_226 F (qi94 hq6) dX10_runAll_40 ?_
          refine g_aload_n (k := 0) F 2 rfl dX10_runAll_43 ?_
          refine gfX10_226e F (qi94 hq6) up2_s dX10_runAll_44 ?_
          refine g_if_ne (t := 72) F dX10_runAll_47 (by decide) (fun c15 => ?_) (fun c15 => ?_)
          · have hf9 : ¬ zRf y = 0 := fun h => c15 (by rw [h]; rfl)
            obtain ⟨x16, ex16⟩ : ∃ y9 : Int32, y9 = (nI i) + 1 := ⟨_, rfl⟩
            refine g_iinc (k := 0) (v := x16) (L' := [(2, .int x16), (1, .int (nI m)), (0, .ref (q 94))]) F dX10_runAll_72 rfl (by rw [ex16]; rfl) (Nat.le_of_ble_eq_true rfl) rfl ?_
            refine g_goto (t := 18) F dX10_runAll_75 (by decide) ?_
            obtain rfl : x16 = nI (i + 1) := (ex16.trans (nI_1 _))
            refine g_sub (L' := [(2, .int (nI (i + 1))), (1, .int (nI m)), (0, .ref (q 94))]) [0, 1, 2] rfl ?_
            exact ihlp5 (i + 1) (m) ((nI (zRf y))) (y) ((wI S1 (q 94) 4 (nI (zRf y)))) (by omega) (by omega) (raF_no (by rw [ha, hl0]) hf9) (Fr.wI hq hf (by decide) (by decide)) ⟨hm1.1, Sv_of hm1.2.1 ((up2_k (by decide)).trans rfl) rfl, up2_s, ((up2_k (by decide)).trans hm1.2.2.2.1), fun j9 hj9 => (congrFun ((up2_r (qne hq6 (by decide) (by decide) (by decide))).trans rfl) j9).trans (hm1.2.2.2.2 j9 hj9)⟩ ((up2_k (by decide)).trans ht9)
          · have hf9 : zRf y = 0 := by
              have := zRf_le (z := y)
              rw [show (0 : Int32) = nI 0 from rfl, nI_eq (by omega) (by omega)] at c15
              exact c15
            refine g_aload_n (k := 0) F 2 rfl dX10_runAll_50 ?_
            refine g_iload_n (k := 2) F 0 rfl dX10_runAll_51 ?_
            refine g_iconst (v := 2) F (by decide) dX10_runAll_52 ?_
            refine g_idiv F dX10_runAll_53 (by decide) ?_
            refine g_rei (nI (i / 2)) (ndiv rfl rfl (by omega) (by omega) (by omega)) ?_
            refine g_iload_n (k := 2) F 0 rfl dX10_runAll_54 ?_
            refine g_iconst (v := 2) F (by decide) dX10_runAll_55 ?_
            refine g_irem F dX10_runAll_56 (by decide) ?_
            refine g_rei (nI (i % 2)) (nrem rfl rfl (by omega) (by omega) (by omega)) ?_
            refine g_iconst (v := 1) F (by decide) dX10_runAll_57 ?_
            have jn18 : ∀ (w66 : Int32), w66 = bI (decide (i % 2 = 1)) → G Γ (wI S1 (q 94) 4 (nI (zRf y))) 0 0 66 [(2, .int (nI i)), (1, .int (nI m)), (0, .ref (q 94))] [.int w66, .int (nI (i / 2)), .ref (q 94)] := by
              intro w66 hbb
              refine g_callV F (kX10_make2 Γ.1 (wI S1 (q 94) 4 (nI (zRf y))) q hq6 y hm1.1 hBy (zRf_0 hBy hf9).1 (i / 2) (by omega) (decide (i % 2 = 1)) (zRf_0 hBy hf9).2.1 (zRf_0 hBy hf9).2.2 _ _ rfl hbb) okX10_make (qi94 hq6) mw518 ⟨(Nat.le_of_ble_eq_true rfl), (Nat.le_of_ble_eq_true rfl)⟩ rfl rfl (Nat.le_of_ble_eq_true rfl) ⟨(Nat.le_of_ble_eq_true rfl), (Nat.le_of_ble_eq_true rfl)⟩ dX10_runAll_66 (toV (fun S20 h21 => ?_))
              obtain ⟨mr19, ir19, zr19⟩ := h21
              have hq22 : Shp S20.1 S20.2.1 q := Fr.q mr19 hq6
              obtain ⟨x23, ex23⟩ : ∃ y9 : Int32, y9 = (nI m) + 1 := ⟨_, rfl⟩
              refine g_iinc (k := 1) (v := x23) (L' := [(1, .int x23), (2, .int (nI i)), (0, .ref (q 94))]) F dX10_runAll_69 rfl (by rw [ex23]; rfl) (Nat.le_of_ble_eq_true rfl) rfl ?_
              obtain ⟨x24, ex24⟩ : ∃ y9 : Int32, y9 = (nI i) + 1 := ⟨_, rfl⟩
              refine g_iinc (k := 1) (v := x24) (L' := [(2, .int x24), (1, .int x23), (0, .ref (q 94))]) F dX10_runAll_72 rfl (by rw [ex24]; rfl) (Nat.le_of_ble_eq_true rfl) rfl ?_
              refine g_goto (t := 18) F dX10_runAll_75 (by decide) ?_
              obtain rfl : x23 = nI (m + 1) := (ex23.trans (nI_1 _))
              obtain rfl : x24 = nI (i + 1) := (ex24.trans (nI_1 _))
              refine g_sub (L' := [(2, .int (nI (i + 1))), (1, .int (nI (m + 1))), (0, .ref (q 94))]) [0, 1, 2] rfl ?_
              exact ihlp5 (i + 1) ((m + 1)) ((nI (zRf y))) ((zMk y (i / 2) (decide (i % 2 = 1)))) (S20) (by omega) (by omega) (by rw [hf9]; exact raF_go (by rw [ha, hl0]) hf9 rfl) (Fr.tr (l := [94, 95, 96, 98]) (Fr.wI hq hf (by decide) (by decide)) mr19 (by decide) (by decide)) ⟨zr19, Sv_of hm1.2.1 ((congrFun ir19 2).trans ((up2_k (by decide)).trans rfl)) ((mr19.2.2 (96) (by decide) (by decide)).2.trans rfl), ((congrFun ir19 4).trans up2_s), ((congrFun ir19 5).trans ((up2_k (by decide)).trans hm1.2.2.2.1)), fun j9 hj9 => (congrFun ((mr19.2.2 (97) (by decide) (by decide)).1.trans ((up2_r (qne hq6 (by decide) (by decide) (by decide))).trans rfl)) j9).trans (hm1.2.2.2.2 j9 hj9)⟩ ((congrFun ir19 0).trans ((up2_k (by decide)).trans ht9))
            refine g_icmp_ne (t := 65) F dX10_runAll_58 (by decide) (fun c17 => ?_) (fun c17 => ?_)
            · have hp9 : ¬ i % 2 = 1 := fun h => c17 (by rw [h]; rfl)
              refine g_iconst (v := 0) F (by decide) dX10_runAll_65 ?_
              exact jn18 (0) (by rw [decide_eq_false hp9]; rfl)
            · have hp9 : i % 2 = 1 := by
                rw [show (1 : Int32) = nI 1 from rfl, nI_eq (by omega) (by omega)] at c17
                exact c17
              refine g_iconst (v := 1) F (by decide) dX10_runAll_61 ?_
              refine g_goto (t := 66) F dX10_runAll_62 (by decide) ?_
              exact jn18 (1) (by rw [decide_eq_true hp9]; rfl)
  exact lp5 (2 * nc z + 1) 0 0 0 z (wI S2 (q 94) 4 0) (by omega) (by omega) rfl (Fr.wI hq (Fr.tr (l := [94, 95, 96, 98]) (Fr.wI hq Fr.rf (by decide) (by decide)) fr1 (by decide) (by decide)) (by decide) (by decide)) ⟨((fr1.2.2 (95) (by decide) (by decide)).2.trans hz), Sv_of vr1 ((up2_k (by decide)).trans rfl) rfl, up2_s, ((up2_k (by decide)).trans ((gr1 5 (by decide)).trans ((up2_k (by decide)).trans hm.2.2.2.1))), fun j9 hj9 => (congrFun ((up2_r (qne hq4 (by decide) (by decide) (by decide))).trans ((fr1.2.2 (97) (by decide) (by decide)).1.trans ((up2_r (qne hq (by decide) (by decide) (by decide))).trans rfl))) j9).trans (hm.2.2.2.2 j9 hj9)⟩ ((up2_k (by decide)).trans ((gr1 0 (by decide)).trans up2_s))
set_option maxHeartbeats 4000000 in
set_option maxRecDepth 100000 in
theorem kX10_append (g : Glo) (S : PS) (q : Nat → Nat) (hq : Shp S.1 S.2.1 q) (z : ZZ) (hz : pJ S (q 95) = z) (hB : Bz z) (H : List ZZ) (l : Int32) (n : Nat) (tx : Nat → Int32) (hm : Mo S q z H l n tx) (hn60 : n ≤ 60) (c : Int32) : Ct g mX10_append 0 0 [.ref (q 94), .int c] S (pI9 (fun r S' => r = (oApp c (z, H, l, n, tx)).2.1 ∧ Fr S S' q [94, 97] ∧ pI S' (q 94) 0 = (oApp c (z, H, l, n, tx)).1 ∧ Mw S' q (oApp c (z, H, l, n, tx)).2.2)) := by
  refine Ct.of (by decide) (Nat.le_of_ble_eq_true rfl) (fun Γ hg F T => ?_)
  subst hg
  show G Γ S 0 0 0 [(0, .ref (q 94)), (1, .int c)] []
  refine g_aload_n (k := 0) F 0 rfl dX10_append_0 ?_
  refine g_iload_n (k := 1) F 1 rfl dX10_append_1 ?_
  refine g_i2l F dX10_append_2 ?_
  refine g_ldc2 F mw583 dX10_append_3 ?_
  refine g_ldc2 F mw584 dX10_append_6 ?_
  refine g_callS F (kX10_within Γ.1 _ _ _ _) okX10_within mw158 ⟨(Nat.le_of_ble_eq_true rfl), (Nat.le_of_ble_eq_true rfl)⟩ rfl rfl (Nat.le_of_ble_eq_true rfl) ⟨(Nat.le_of_ble_eq_true rfl), (Nat.le_of_ble_eq_true rfl)⟩ dX10_append_9 (toI (fun r1 S2 h3 => ?_))
  obtain ⟨er1, rfl⟩ := h3
  have jn5 : ∀ (w33 : Int32), w33 = tApp n c → G Γ S 0 0 33 [(0, .ref (q 94)), (1, .int c)] [.int w33, .ref (q 94)] := by
    intro w33 ht
    refine pfX10_35 F (qi94 hq) dX10_append_33 ?_
    refine g_aload_n (k := 0) F 0 rfl dX10_append_36 ?_
    refine gfX10_35e F (qi94 hq) up2_s dX10_append_37 ?_
    refine g_if_le (t := 45) F dX10_append_40 (by decide) (fun c6 => ?_) (fun c6 => ?_)
    · obtain ⟨ht0, hv9, h609⟩ := tApp_i (ht ▸ c6)
      refine g_aload_n (k := 0) F 0 rfl dX10_append_45 ?_
      refine gfX10_16 F (qi94 hq) (qr94_6 hq) dX10_append_46 ?_
      refine g_aload_n (k := 0) F 0 rfl dX10_append_49 ?_
      refine gfX10_236e F (qi94 hq) ((up2_k (by decide)).trans hm.2.2.2.1) dX10_append_50 ?_
      refine g_iload_n (k := 1) F 1 rfl dX10_append_53 ?_
      refine g_iast (j := n) F (qi97 hq) rfl (by rw [(qn97 hq)]; omega) (by rw [(qn97 hq)]; decide) dX10_append_54 ?_
      refine g_aload_n (k := 0) F 0 rfl dX10_append_55 ?_
      refine g_dup F dX10_append_56 rfl ?_
      refine gfX10_236e F (qi94 hq) ((up2_a (qne hq (by decide) (by decide) (by decide))).trans ((up2_k (by decide)).trans hm.2.2.2.1)) dX10_append_57 ?_
      refine g_iconst (v := 1) F (by decide) dX10_append_60 ?_
      refine g_iadd F dX10_append_61 ?_
      refine g_rei (nI (n + 1)) (nadd rfl rfl) ?_
      refine pfX10_236 F (qi94 hq) dX10_append_62 ?_
      refine g_aload_n (k := 0) F 0 rfl dX10_append_65 ?_
      refine gfX10_236e F (qi94 hq) up2_s dX10_append_66 ?_
      refine g_iret F T ⟨_, rfl, ?_⟩ (Nat.le_of_ble_eq_true rfl) (Nat.le_of_ble_eq_true rfl) dX10_append_69
      rw [show oApp c (z, H, l, n, tx) = (0, nI (n + 1), (z, H, l, n + 1, upd tx n c)) from if_pos ht0]
      exact ⟨rfl, (Fr.wI hq (Fr.wI hq (Fr.wI hq Fr.rf (by decide) (by decide)) (by decide) (by decide)) (by decide) (by decide)), ((up2_k (by decide)).trans ((up2_a (qne hq (by decide) (by decide) (by decide))).trans up2_s)).trans (ht.trans ht0), ⟨hz, Sv_of hm.2.1 ((up2_k (by decide)).trans ((up2_a (qne hq (by decide) (by decide) (by decide))).trans ((up2_k (by decide)).trans rfl))) rfl, ((up2_k (by decide)).trans ((up2_a (qne hq (by decide) (by decide) (by decide))).trans ((up2_k (by decide)).trans hm.2.2.1))), up2_s, fun j9 hj9 => (congrFun ((up2_r (qne hq (by decide) (by decide) (by decide))).trans (up2_upd.trans (congrArg (fun f9 => upd f9 (n) c) ((up2_r (qne hq (by decide) (by decide) (by decide))).trans rfl)))) j9).trans (app_tx hm.2.2.2.2 hj9)⟩⟩
    · have ht1 : ¬ tApp n c = 0 := fun h => c6 (by rw [ht, h]; decide)
      refine g_iconst (v := 0) F (by decide) dX10_append_43 ?_
      refine g_iret F T ⟨_, rfl, ?_⟩ (Nat.le_of_ble_eq_true rfl) (Nat.le_of_ble_eq_true rfl) dX10_append_44
      rw [show oApp c (z, H, l, n, tx) = (tApp n c, 0, (z, H, l, n, tx)) from if_neg ht1]
      exact ⟨rfl, (Fr.wI hq Fr.rf (by decide) (by decide)), up2_s.trans ht, ⟨hz, Sv_of hm.2.1 ((up2_k (by decide)).trans rfl) rfl, ((up2_k (by decide)).trans hm.2.2.1), ((up2_k (by decide)).trans hm.2.2.2.1), fun j9 hj9 => (congrFun ((up2_r (qne hq (by decide) (by decide) (by decide))).trans rfl) j9).trans (hm.2.2.2.2 j9 hj9)⟩⟩
  refine g_if_ne (t := 19) F dX10_append_12 (by decide) (fun c4 => ?_) (fun c4 => ?_)
  · have hv8 := wI_t (lo := 33) (hi := 126) er1 c4 (by decide) (by decide)
    refine g_aload_n (k := 0) F 0 rfl dX10_append_19 ?_
    refine gfX10_236e F (qi94 hq) hm.2.2.2.1 dX10_append_20 ?_
    refine g_bipush (v := 60) F (by decide) dX10_append_23 ?_
    refine g_icmp_ne (t := 32) F dX10_append_25 (by decide) (fun c7 => ?_) (fun c7 => ?_)
    · have h609 : ¬ n = 60 := fun h => c7 (by rw [h]; rfl)
      refine g_iconst (v := 0) F (by decide) dX10_append_32 ?_
      exact jn5 (0) (by unfold tApp; rw [if_neg (fun h => h hv8), if_neg h609])
    · have h609 : n = 60 := by
        rw [show (60 : Int32) = nI 60 from rfl, nI_eq (by omega) (by omega)] at c7
        exact c7
      refine g_iconst (v := 2) F (by decide) dX10_append_28 ?_
      refine g_goto (t := 33) F dX10_append_29 (by decide) ?_
      exact jn5 (2) (by unfold tApp; rw [if_neg (fun h => h hv8), if_pos h609])
  · have hv8 := wI_f (lo := 33) (hi := 126) er1 c4 (by decide) (by decide)
    refine g_iconst (v := 1) F (by decide) dX10_append_15 ?_
    refine g_goto (t := 33) F dX10_append_16 (by decide) ?_
    exact jn5 (1) (by unfold tApp; rw [if_pos hv8])
set_option maxHeartbeats 4000000 in
set_option maxRecDepth 100000 in
theorem kX10_clearBuffer (g : Glo) (S : PS) (q : Nat → Nat) (hq : Shp S.1 S.2.1 q) (z : ZZ) (hz : pJ S (q 95) = z) (hB : Bz z) (H : List ZZ) (l : Int32) (n : Nat) (tx : Nat → Int32) (hm : Mo S q z H l n tx) : Ct g mX10_clearBuffer 0 0 [.ref (q 94)] S (pI9 (fun r S' => r = (oClr (z, H, l, n, tx)).2.1 ∧ Fr S S' q [94] ∧ pI S' (q 94) 0 = (oClr (z, H, l, n, tx)).1 ∧ Mw S' q (oClr (z, H, l, n, tx)).2.2)) := by
  refine Ct.of (by decide) (Nat.le_of_ble_eq_true rfl) (fun Γ hg F T => ?_)
  subst hg
  show G Γ S 0 0 0 [(0, .ref (q 94))] []
  refine g_aload_n (k := 0) F 0 rfl dX10_clearBuffer_0 ?_
  refine g_iconst (v := 0) F (by decide) dX10_clearBuffer_1 ?_
  refine pfX10_35 F (qi94 hq) dX10_clearBuffer_2 ?_
  refine g_aload_n (k := 0) F 0 rfl dX10_clearBuffer_5 ?_
  refine gfX10_236e F (qi94 hq) ((up2_k (by decide)).trans hm.2.2.2.1) dX10_clearBuffer_6 ?_
  refine g_istore_n (k := 1) (L' := [(1, .int (nI n)), (0, .ref (q 94))]) F dX10_clearBuffer_9 (Nat.le_of_ble_eq_true rfl) rfl ?_
  refine g_aload_n (k := 0) F 1 rfl dX10_clearBuffer_10 ?_
  refine g_iconst (v := 0) F (by decide) dX10_clearBuffer_11 ?_
  refine pfX10_236 F (qi94 hq) dX10_clearBuffer_12 ?_
  refine g_iload_n (k := 1) F 0 rfl dX10_clearBuffer_15 ?_
  refine g_iret F T ⟨_, rfl, ?_⟩ (Nat.le_of_ble_eq_true rfl) (Nat.le_of_ble_eq_true rfl) dX10_clearBuffer_16
  exact ⟨rfl, (Fr.wI hq (Fr.wI hq Fr.rf (by decide) (by decide)) (by decide) (by decide)), ((up2_k (by decide)).trans up2_s), ⟨hz, Sv_of hm.2.1 ((up2_k (by decide)).trans ((up2_k (by decide)).trans rfl)) rfl, ((up2_k (by decide)).trans ((up2_k (by decide)).trans hm.2.2.1)), up2_s, fun j9 hj9 => absurd hj9 (Nat.not_lt_zero j9)⟩⟩
set_option maxHeartbeats 4000000 in
set_option maxRecDepth 100000 in
theorem kX10_reason (g : Glo) (S : PS) (q : Nat → Nat) (hq : Shp S.1 S.2.1 q) (z : ZZ) (hz : pJ S (q 95) = z) (hB : Bz z) (H : List ZZ) (l : Int32) (n : Nat) (tx : Nat → Int32) (hm : Mo S q z H l n tx) : Ct g mX10_reason 0 0 [.ref (q 94)] S (pI9 (fun r S' => r = (oRea (z, H, l, n, tx)).2.1 ∧ Fr S S' q [94] ∧ pI S' (q 94) 0 = (oRea (z, H, l, n, tx)).1 ∧ Mw S' q (oRea (z, H, l, n, tx)).2.2)) := by
  refine Ct.of (by decide) (Nat.le_of_ble_eq_true rfl) (fun Γ hg F T => ?_)
  subst hg
  show G Γ S 0 0 0 [(0, .ref (q 94))] []
  refine g_aload_n (k := 0) F 0 rfl dX10_reason_0 ?_
  refine g_iconst (v := 0) F (by decide) dX10_reason_1 ?_
  refine pfX10_35 F (qi94 hq) dX10_reason_2 ?_
  refine g_aload_n (k := 0) F 0 rfl dX10_reason_5 ?_
  refine gfX10_226e F (qi94 hq) ((up2_k (by decide)).trans hm.2.2.1) dX10_reason_6 ?_
  refine g_iret F T ⟨_, rfl, ?_⟩ (Nat.le_of_ble_eq_true rfl) (Nat.le_of_ble_eq_true rfl) dX10_reason_9
  exact ⟨rfl, (Fr.wI hq Fr.rf (by decide) (by decide)), up2_s, ⟨hz, Sv_of hm.2.1 ((up2_k (by decide)).trans rfl) rfl, ((up2_k (by decide)).trans hm.2.2.1), ((up2_k (by decide)).trans hm.2.2.2.1), fun j9 hj9 => (congrFun ((up2_r (qne hq (by decide) (by decide) (by decide))).trans rfl) j9).trans (hm.2.2.2.2 j9 hj9)⟩⟩
set_option maxHeartbeats 4000000 in
set_option maxRecDepth 100000 in
theorem kX10_thrown (g : Glo) (S : PS) (q : Nat → Nat) (hq : Shp S.1 S.2.1 q) : Ct g mX10_thrown 0 0 [.ref (q 94)] S (pI9 (fun r S' => r = pI S (q 94) 0 ∧ S = S')) := by
  refine Ct.of (by decide) (Nat.le_of_ble_eq_true rfl) (fun Γ hg F T => ?_)
  subst hg
  show G Γ S 0 0 0 [(0, .ref (q 94))] []
  refine g_aload_n (k := 0) F 0 rfl dX10_thrown_0 ?_
  refine gfX10_35 F (qi94 hq) dX10_thrown_1 ?_
  refine g_iret F T ⟨_, rfl, ?_⟩ (Nat.le_of_ble_eq_true rfl) (Nat.le_of_ble_eq_true rfl) dX10_thrown_4
  exact ⟨rfl, rfl⟩
