set_option maxHeartbeats 4000000 in
set_option maxRecDepth 100000 in
theorem kX10_isOn (g : Glo) (S : PS) (q : Nat → Nat) (hq : Shp S.1 S.2.1 q) (z : ZZ) (hz : pJ S (q 95) = z) (hB : Bz z) (h0 : 0 < nc z) (k : Nat) (hk : k < 1000) : Ct g mX10_isOn 0 0 [.ref (q 94), .int (nI k)] S (pI9 (fun r S' => (r = 1 ∧ zOn z k ∨ r = 0 ∧ ¬ zOn z k) ∧ S = S')) := by
  refine Ct.of (by decide) (Nat.le_of_ble_eq_true rfl) (fun Γ hg F T => ?_)
  subst hg
  show G Γ S 0 0 0 [(0, .ref (q 94)), (1, .int (nI k))] []
  have hnc := (nc_e hB).2
  have hmd := Nat.mod_lt k h0
  refine g_aload_n (k := 0) F 0 rfl dX10_isOn_0 ?_
  refine g_iload_n (k := 1) F 1 rfl dX10_isOn_1 ?_
  refine g_callV F (kX10_x Γ.1 _ q hq z hz hB h0 k (by omega)) okX10_x (qi94 hq) mw470 ⟨(Nat.le_of_ble_eq_true rfl), (Nat.le_of_ble_eq_true rfl)⟩ rfl rfl (Nat.le_of_ble_eq_true rfl) ⟨(Nat.le_of_ble_eq_true rfl), (Nat.le_of_ble_eq_true rfl)⟩ dX10_isOn_2 (toJ (fun r1 S2 h3 => ?_))
  obtain ⟨er1, rfl⟩ := h3
  refine g_aload_n (k := 0) F 0 rfl dX10_isOn_5 ?_
  refine g_iload_n (k := 1) F 1 rfl dX10_isOn_6 ?_
  refine g_callV F (kX10_y Γ.1 _ q hq z hz hB h0 k (by omega)) okX10_y (qi94 hq) mw474 ⟨(Nat.le_of_ble_eq_true rfl), (Nat.le_of_ble_eq_true rfl)⟩ rfl rfl (Nat.le_of_ble_eq_true rfl) ⟨(Nat.le_of_ble_eq_true rfl), (Nat.le_of_ble_eq_true rfl)⟩ dX10_isOn_7 (toJ (fun r4 S5 h6 => ?_))
  obtain ⟨er4, rfl⟩ := h6
  refine g_aload_n (k := 0) F 0 rfl dX10_isOn_10 ?_
  refine g_iload_n (k := 1) F 1 rfl dX10_isOn_11 ?_
  refine g_iconst (v := 1) F (by decide) dX10_isOn_12 ?_
  refine g_iadd F dX10_isOn_13 ?_
  refine g_rei (nI (k + 1)) (nadd rfl rfl) ?_
  refine g_callV F (kX10_x Γ.1 _ q hq z hz hB h0 ((k + 1)) (by omega)) okX10_x (qi94 hq) mw470 ⟨(Nat.le_of_ble_eq_true rfl), (Nat.le_of_ble_eq_true rfl)⟩ rfl rfl (Nat.le_of_ble_eq_true rfl) ⟨(Nat.le_of_ble_eq_true rfl), (Nat.le_of_ble_eq_true rfl)⟩ dX10_isOn_14 (toJ (fun r7 S8 h9 => ?_))
  obtain ⟨er7, rfl⟩ := h9
  refine g_aload_n (k := 0) F 0 rfl dX10_isOn_17 ?_
  refine g_iload_n (k := 1) F 1 rfl dX10_isOn_18 ?_
  refine g_iconst (v := 1) F (by decide) dX10_isOn_19 ?_
  refine g_iadd F dX10_isOn_20 ?_
  refine g_rei (nI (k + 1)) (nadd rfl rfl) ?_
  refine g_callV F (kX10_y Γ.1 _ q hq z hz hB h0 ((k + 1)) (by omega)) okX10_y (qi94 hq) mw474 ⟨(Nat.le_of_ble_eq_true rfl), (Nat.le_of_ble_eq_true rfl)⟩ rfl rfl (Nat.le_of_ble_eq_true rfl) ⟨(Nat.le_of_ble_eq_true rfl), (Nat.le_of_ble_eq_true rfl)⟩ dX10_isOn_21 (toJ (fun r10 S11 h12 => ?_))
  obtain ⟨er10, rfl⟩ := h12
  refine g_aload_n (k := 0) F 0 rfl dX10_isOn_24 ?_
  refine gfX10_7 F (qi94 hq) (qr94_1 hq) dX10_isOn_25 ?_
  refine g_iconst (v := 0) F (by decide) dX10_isOn_28 ?_
  refine g_lalde hz (j := 0) F (qi95 hq) rfl (by rw [(qn95 hq)]; omega) (by rw [(qn95 hq)]; decide) dX10_isOn_29 ?_
  refine g_aload_n (k := 0) F 0 rfl dX10_isOn_30 ?_
  refine gfX10_7 F (qi94 hq) (qr94_1 hq) dX10_isOn_31 ?_
  refine g_iconst (v := 1) F (by decide) dX10_isOn_34 ?_
  refine g_lalde hz (j := 1) F (qi95 hq) rfl (by rw [(qn95 hq)]; omega) (by rw [(qn95 hq)]; decide) dX10_isOn_35 ?_
  refine g_callS F (kX10_turn Γ.1 _ _ _ _ _ _ _) okX10_turn mw478 ⟨(Nat.le_of_ble_eq_true rfl), (Nat.le_of_ble_eq_true rfl)⟩ rfl rfl (Nat.le_of_ble_eq_true rfl) ⟨(Nat.le_of_ble_eq_true rfl), (Nat.le_of_ble_eq_true rfl)⟩ dX10_isOn_36 (toJ (fun r13 S14 h15 => ?_))
  obtain ⟨er13, rfl⟩ := h15
  have hsd : r13 = zSd z k := by rw [er13, er1, er4, er7, er10]; rfl
  refine g_lconst (v := 0) F (by decide) dX10_isOn_39 ?_
  refine g_lcmp F dX10_isOn_40 ?_
  have jn17 : ∀ (w49 : Int32), (w49 = 1 ∧ zSd z k = 0) ∨ (w49 = 0 ∧ ¬ zSd z k = 0) → G Γ S 0 0 49 [(0, .ref (q 94)), (1, .int (nI k))] [.int w49] := by
    intro w49 h49
    refine g_istore_n (k := 2) (L' := [(2, .int w49), (0, .ref (q 94)), (1, .int (nI k))]) F dX10_isOn_49 (Nat.le_of_ble_eq_true rfl) rfl ?_
    refine g_aload_n (k := 0) F 1 rfl dX10_isOn_50 ?_
    refine g_iload_n (k := 1) F 2 rfl dX10_isOn_51 ?_
    refine g_callV F (kX10_x Γ.1 _ q hq z hz hB h0 k (by omega)) okX10_x (qi94 hq) mw470 ⟨(Nat.le_of_ble_eq_true rfl), (Nat.le_of_ble_eq_true rfl)⟩ rfl rfl (Nat.le_of_ble_eq_true rfl) ⟨(Nat.le_of_ble_eq_true rfl), (Nat.le_of_ble_eq_true rfl)⟩ dX10_isOn_52 (toJ (fun r18 S19 h20 => ?_))
    obtain ⟨er18, rfl⟩ := h20
    refine g_aload_n (k := 0) F 1 rfl dX10_isOn_55 ?_
    refine g_iload_n (k := 1) F 2 rfl dX10_isOn_56 ?_
    refine g_iconst (v := 1) F (by decide) dX10_isOn_57 ?_
    refine g_iadd F dX10_isOn_58 ?_
    refine g_rei (nI (k + 1)) (nadd rfl rfl) ?_
    refine g_callV F (kX10_x Γ.1 _ q hq z hz hB h0 ((k + 1)) (by omega)) okX10_x (qi94 hq) mw470 ⟨(Nat.le_of_ble_eq_true rfl), (Nat.le_of_ble_eq_true rfl)⟩ rfl rfl (Nat.le_of_ble_eq_true rfl) ⟨(Nat.le_of_ble_eq_true rfl), (Nat.le_of_ble_eq_true rfl)⟩ dX10_isOn_59 (toJ (fun r21 S22 h23 => ?_))
    obtain ⟨er21, rfl⟩ := h23
    refine g_lcmp F dX10_isOn_62 ?_
    have jn25 : ∀ (w81 : Int64), w81 = (if zX z k < zX z (k + 1) then zX z k else zX z (k + 1)) → G Γ S 0 0 81 [(2, .int w49), (0, .ref (q 94)), (1, .int (nI k))] [.long w81] := by
      intro w81 h81
      refine g_lstore_n (k := 3) (L' := [(3, .long w81), (2, .int w49), (0, .ref (q 94)), (1, .int (nI k))]) F dX10_isOn_81 (Nat.le_of_ble_eq_true rfl) rfl ?_
      refine g_aload_n (k := 0) F 2 rfl dX10_isOn_82 ?_
      refine g_iload_n (k := 1) F 3 rfl dX10_isOn_83 ?_
      refine g_callV F (kX10_y Γ.1 _ q hq z hz hB h0 k (by omega)) okX10_y (qi94 hq) mw474 ⟨(Nat.le_of_ble_eq_true rfl), (Nat.le_of_ble_eq_true rfl)⟩ rfl rfl (Nat.le_of_ble_eq_true rfl) ⟨(Nat.le_of_ble_eq_true rfl), (Nat.le_of_ble_eq_true rfl)⟩ dX10_isOn_84 (toJ (fun r26 S27 h28 => ?_))
      obtain ⟨er26, rfl⟩ := h28
      refine g_aload_n (k := 0) F 2 rfl dX10_isOn_87 ?_
      refine g_iload_n (k := 1) F 3 rfl dX10_isOn_88 ?_
      refine g_iconst (v := 1) F (by decide) dX10_isOn_89 ?_
      refine g_iadd F dX10_isOn_90 ?_
      refine g_rei (nI (k + 1)) (nadd rfl rfl) ?_
      refine g_callV F (kX10_y Γ.1 _ q hq z hz hB h0 ((k + 1)) (by omega)) okX10_y (qi94 hq) mw474 ⟨(Nat.le_of_ble_eq_true rfl), (Nat.le_of_ble_eq_true rfl)⟩ rfl rfl (Nat.le_of_ble_eq_true rfl) ⟨(Nat.le_of_ble_eq_true rfl), (Nat.le_of_ble_eq_true rfl)⟩ dX10_isOn_91 (toJ (fun r29 S30 h31 => ?_))
      obtain ⟨er29, rfl⟩ := h31
      refine g_lcmp F dX10_isOn_94 ?_
      have jn33 : ∀ (w113 : Int64), w113 = (if zY z k < zY z (k + 1) then zY z k else zY z (k + 1)) → G Γ S 0 0 113 [(3, .long w81), (2, .int w49), (0, .ref (q 94)), (1, .int (nI k))] [.long w113] := by
        intro w113 h113
        refine g_lstore (L' := [(5, .long w113), (3, .long w81), (2, .int w49), (0, .ref (q 94)), (1, .int (nI k))]) F dX10_isOn_113 (Nat.le_of_ble_eq_true rfl) rfl ?_
        refine g_iload_n (k := 2) F 2 rfl dX10_isOn_115 ?_
        refine g_if_eq (t := 181) F dX10_isOn_116 (by decide) (fun c34 => ?_) (fun c34 => ?_)
        · refine g_iconst (v := 0) F (by decide) dX10_isOn_181 ?_
          refine g_zret F T rfl ⟨_, rfl, ?_⟩ (Nat.le_of_ble_eq_true rfl) (Nat.le_of_ble_eq_true rfl) dX10_isOn_182
          refine ⟨Or.inr ⟨rfl, fun h => ?_⟩, rfl⟩
          rcases h49 with ⟨e, _⟩ | ⟨_, e⟩
          · rw [e] at c34; exact absurd c34 (by decide)
          · exact e h.1
        · refine g_aload_n (k := 0) F 3 rfl dX10_isOn_119 ?_
          refine gfX10_7 F (qi94 hq) (qr94_1 hq) dX10_isOn_120 ?_
          refine g_iconst (v := 0) F (by decide) dX10_isOn_123 ?_
          refine g_lalde hz (j := 0) F (qi95 hq) rfl (by rw [(qn95 hq)]; omega) (by rw [(qn95 hq)]; decide) dX10_isOn_124 ?_
          refine g_lload_n (k := 3) F 1 rfl dX10_isOn_125 ?_
          refine g_aload_n (k := 0) F 3 rfl dX10_isOn_126 ?_
          refine g_iload_n (k := 1) F 4 rfl dX10_isOn_127 ?_
          refine g_callV F (kX10_x Γ.1 _ q hq z hz hB h0 k (by omega)) okX10_x (qi94 hq) mw470 ⟨(Nat.le_of_ble_eq_true rfl), (Nat.le_of_ble_eq_true rfl)⟩ rfl rfl (Nat.le_of_ble_eq_true rfl) ⟨(Nat.le_of_ble_eq_true rfl), (Nat.le_of_ble_eq_true rfl)⟩ dX10_isOn_128 (toJ (fun r35 S36 h37 => ?_))
          obtain ⟨er35, rfl⟩ := h37
          refine g_aload_n (k := 0) F 3 rfl dX10_isOn_131 ?_
          refine g_iload_n (k := 1) F 4 rfl dX10_isOn_132 ?_
          refine g_iconst (v := 1) F (by decide) dX10_isOn_133 ?_
          refine g_iadd F dX10_isOn_134 ?_
          refine g_rei (nI (k + 1)) (nadd rfl rfl) ?_
          refine g_callV F (kX10_x Γ.1 _ q hq z hz hB h0 ((k + 1)) (by omega)) okX10_x (qi94 hq) mw470 ⟨(Nat.le_of_ble_eq_true rfl), (Nat.le_of_ble_eq_true rfl)⟩ rfl rfl (Nat.le_of_ble_eq_true rfl) ⟨(Nat.le_of_ble_eq_true rfl), (Nat.le_of_ble_eq_true rfl)⟩ dX10_isOn_135 (toJ (fun r38 S39 h40 => ?_))
          obtain ⟨er38, rfl⟩ := h40
          refine g_ladd F dX10_isOn_138 ?_
          refine g_lload_n (k := 3) F 1 rfl dX10_isOn_139 ?_
          refine g_lsub F dX10_isOn_140 ?_
          refine g_callS F (kX10_within Γ.1 _ _ _ _) okX10_within mw158 ⟨(Nat.le_of_ble_eq_true rfl), (Nat.le_of_ble_eq_true rfl)⟩ rfl rfl (Nat.le_of_ble_eq_true rfl) ⟨(Nat.le_of_ble_eq_true rfl), (Nat.le_of_ble_eq_true rfl)⟩ dX10_isOn_141 (toI (fun r41 S42 h43 => ?_))
          obtain ⟨er41, rfl⟩ := h43
          refine g_if_eq (t := 181) F dX10_isOn_144 (by decide) (fun c44 => ?_) (fun c44 => ?_)
          · refine g_iconst (v := 0) F (by decide) dX10_isOn_181 ?_
            refine g_zret F T rfl ⟨_, rfl, ?_⟩ (Nat.le_of_ble_eq_true rfl) (Nat.le_of_ble_eq_true rfl) dX10_isOn_182
            exact ⟨Or.inr ⟨rfl, fun h => btw_0 h81 (by rw [er35, er38]) er41 c44 h.2.1⟩, rfl⟩
          · refine g_aload_n (k := 0) F 3 rfl dX10_isOn_147 ?_
            refine gfX10_7 F (qi94 hq) (qr94_1 hq) dX10_isOn_148 ?_
            refine g_iconst (v := 1) F (by decide) dX10_isOn_151 ?_
            refine g_lalde hz (j := 1) F (qi95 hq) rfl (by rw [(qn95 hq)]; omega) (by rw [(qn95 hq)]; decide) dX10_isOn_152 ?_
            refine g_lload F 0 rfl dX10_isOn_153 ?_
            refine g_aload_n (k := 0) F 3 rfl dX10_isOn_155 ?_
            refine g_iload_n (k := 1) F 4 rfl dX10_isOn_156 ?_
            refine g_callV F (kX10_y Γ.1 _ q hq z hz hB h0 k (by omega)) okX10_y (qi94 hq) mw474 ⟨(Nat.le_of_ble_eq_true rfl), (Nat.le_of_ble_eq_true rfl)⟩ rfl rfl (Nat.le_of_ble_eq_true rfl) ⟨(Nat.le_of_ble_eq_true rfl), (Nat.le_of_ble_eq_true rfl)⟩ dX10_isOn_157 (toJ (fun r45 S46 h47 => ?_))
            obtain ⟨er45, rfl⟩ := h47
            refine g_aload_n (k := 0) F 3 rfl dX10_isOn_160 ?_
            refine g_iload_n (k := 1) F 4 rfl dX10_isOn_161 ?_
            refine g_iconst (v := 1) F (by decide) dX10_isOn_162 ?_
            refine g_iadd F dX10_isOn_163 ?_
            refine g_rei (nI (k + 1)) (nadd rfl rfl) ?_
            refine g_callV F (kX10_y Γ.1 _ q hq z hz hB h0 ((k + 1)) (by omega)) okX10_y (qi94 hq) mw474 ⟨(Nat.le_of_ble_eq_true rfl), (Nat.le_of_ble_eq_true rfl)⟩ rfl rfl (Nat.le_of_ble_eq_true rfl) ⟨(Nat.le_of_ble_eq_true rfl), (Nat.le_of_ble_eq_true rfl)⟩ dX10_isOn_164 (toJ (fun r48 S49 h50 => ?_))
            obtain ⟨er48, rfl⟩ := h50
            refine g_ladd F dX10_isOn_167 ?_
            refine g_lload F 0 rfl dX10_isOn_168 ?_
            refine g_lsub F dX10_isOn_170 ?_
            refine g_callS F (kX10_within Γ.1 _ _ _ _) okX10_within mw158 ⟨(Nat.le_of_ble_eq_true rfl), (Nat.le_of_ble_eq_true rfl)⟩ rfl rfl (Nat.le_of_ble_eq_true rfl) ⟨(Nat.le_of_ble_eq_true rfl), (Nat.le_of_ble_eq_true rfl)⟩ dX10_isOn_171 (toI (fun r51 S52 h53 => ?_))
            obtain ⟨er51, rfl⟩ := h53
            refine g_if_eq (t := 181) F dX10_isOn_174 (by decide) (fun c54 => ?_) (fun c54 => ?_)
            · refine g_iconst (v := 0) F (by decide) dX10_isOn_181 ?_
              refine g_zret F T rfl ⟨_, rfl, ?_⟩ (Nat.le_of_ble_eq_true rfl) (Nat.le_of_ble_eq_true rfl) dX10_isOn_182
              exact ⟨Or.inr ⟨rfl, fun h => btw_0 h113 (by rw [er45, er48]) er51 c54 h.2.2⟩, rfl⟩
            · refine g_iconst (v := 1) F (by decide) dX10_isOn_177 ?_
              refine g_goto (t := 182) F dX10_isOn_178 (by decide) ?_
              refine g_zret F T rfl ⟨_, rfl, ?_⟩ (Nat.le_of_ble_eq_true rfl) (Nat.le_of_ble_eq_true rfl) dX10_isOn_182
              exact ⟨Or.inl ⟨rfl, by rcases h49 with ⟨_, e⟩ | ⟨e, _⟩; exact e; exact absurd e c34, btw_1 h81 (by rw [er35, er38]) er41 c44, btw_1 h113 (by rw [er45, er48]) er51 c54⟩, rfl⟩
      refine g_if_ge (t := 106) F dX10_isOn_95 (by decide) (fun c32 => ?_) (fun c32 => ?_)
      · rw [lc_ge] at c32
        refine g_aload_n (k := 0) F 2 rfl dX10_isOn_106 ?_
        refine g_iload_n (k := 1) F 3 rfl dX10_isOn_107 ?_
        refine g_iconst (v := 1) F (by decide) dX10_isOn_108 ?_
        refine g_iadd F dX10_isOn_109 ?_
        refine g_rei (nI (k + 1)) (nadd rfl rfl) ?_
        refine g_callV F (kX10_y Γ.1 _ q hq z hz hB h0 ((k + 1)) (by omega)) okX10_y (qi94 hq) mw474 ⟨(Nat.le_of_ble_eq_true rfl), (Nat.le_of_ble_eq_true rfl)⟩ rfl rfl (Nat.le_of_ble_eq_true rfl) ⟨(Nat.le_of_ble_eq_true rfl), (Nat.le_of_ble_eq_true rfl)⟩ dX10_isOn_110 (toJ (fun r55 S56 h57 => ?_))
        obtain ⟨er55, rfl⟩ := h57
        exact jn33 (r55) (by rw [er26, er29] at c32; rw [er55, if_neg (L_nlt.mpr c32)])
      · rw [lc_ge] at c32
        refine g_aload_n (k := 0) F 2 rfl dX10_isOn_98 ?_
        refine g_iload_n (k := 1) F 3 rfl dX10_isOn_99 ?_
        refine g_callV F (kX10_y Γ.1 _ q hq z hz hB h0 k (by omega)) okX10_y (qi94 hq) mw474 ⟨(Nat.le_of_ble_eq_true rfl), (Nat.le_of_ble_eq_true rfl)⟩ rfl rfl (Nat.le_of_ble_eq_true rfl) ⟨(Nat.le_of_ble_eq_true rfl), (Nat.le_of_ble_eq_true rfl)⟩ dX10_isOn_100 (toJ (fun r58 S59 h60 => ?_))
        obtain ⟨er58, rfl⟩ := h60
        refine g_goto (t := 113) F dX10_isOn_103 (by decide) ?_
        exact jn33 (r58) (by rw [er26, er29] at c32; rw [er58, if_pos (L_nle.mp c32)])
    refine g_if_ge (t := 74) F dX10_isOn_63 (by decide) (fun c24 => ?_) (fun c24 => ?_)
    · rw [lc_ge] at c24
      refine g_aload_n (k := 0) F 1 rfl dX10_isOn_74 ?_
      refine g_iload_n (k := 1) F 2 rfl dX10_isOn_75 ?_
      refine g_iconst (v := 1) F (by decide) dX10_isOn_76 ?_
      refine g_iadd F dX10_isOn_77 ?_
      refine g_rei (nI (k + 1)) (nadd rfl rfl) ?_
      refine g_callV F (kX10_x Γ.1 _ q hq z hz hB h0 ((k + 1)) (by omega)) okX10_x (qi94 hq) mw470 ⟨(Nat.le_of_ble_eq_true rfl), (Nat.le_of_ble_eq_true rfl)⟩ rfl rfl (Nat.le_of_ble_eq_true rfl) ⟨(Nat.le_of_ble_eq_true rfl), (Nat.le_of_ble_eq_true rfl)⟩ dX10_isOn_78 (toJ (fun r61 S62 h63 => ?_))
      obtain ⟨er61, rfl⟩ := h63
      exact jn25 (r61) (by rw [er18, er21] at c24; rw [er61, if_neg (L_nlt.mpr c24)])
    · rw [lc_ge] at c24
      refine g_aload_n (k := 0) F 1 rfl dX10_isOn_66 ?_
      refine g_iload_n (k := 1) F 2 rfl dX10_isOn_67 ?_
      refine g_callV F (kX10_x Γ.1 _ q hq z hz hB h0 k (by omega)) okX10_x (qi94 hq) mw470 ⟨(Nat.le_of_ble_eq_true rfl), (Nat.le_of_ble_eq_true rfl)⟩ rfl rfl (Nat.le_of_ble_eq_true rfl) ⟨(Nat.le_of_ble_eq_true rfl), (Nat.le_of_ble_eq_true rfl)⟩ dX10_isOn_68 (toJ (fun r64 S65 h66 => ?_))
      obtain ⟨er64, rfl⟩ := h66
      refine g_goto (t := 81) F dX10_isOn_71 (by decide) ?_
      exact jn25 (r64) (by rw [er18, er21] at c24; rw [er64, if_pos (L_nle.mp c24)])
  refine g_if_ne (t := 48) F dX10_isOn_41 (by decide) (fun c16 => ?_) (fun c16 => ?_)
  · rw [lc_eq] at c16
    refine g_iconst (v := 0) F (by decide) dX10_isOn_48 ?_
    exact jn17 (0) (Or.inr ⟨rfl, by rw [← hsd]; exact c16⟩)
  · rw [lc_eq] at c16
    refine g_iconst (v := 1) F (by decide) dX10_isOn_44 ?_
    refine g_goto (t := 49) F dX10_isOn_45 (by decide) ?_
    exact jn17 (1) (Or.inl ⟨rfl, by rw [← hsd]; exact c16⟩)
set_option maxHeartbeats 4000000 in
set_option maxRecDepth 100000 in
theorem kX10_isOnOutline (g : Glo) (S : PS) (q : Nat → Nat) (hq : Shp S.1 S.2.1 q) (z : ZZ) (hz : pJ S (q 95) = z) (hB : Bz z) : Ct g mX10_isOnOutline 0 0 [.ref (q 94)] S (pI9 (fun r S' => (r = 1 ∧ zOO z ∨ r = 0 ∧ ¬ zOO z) ∧ S = S')) := by
  refine Ct.of (by decide) (Nat.le_of_ble_eq_true rfl) (fun Γ hg F T => ?_)
  subst hg
  show G Γ S 0 0 0 [(0, .ref (q 94))] []
  have hnc := (nc_e hB).2
  refine g_iconst (v := 0) F (by decide) dX10_isOnOutline_0 ?_
  refine g_istore_n (k := 1) (L' := [(1, .int 0), (0, .ref (q 94))]) F dX10_isOnOutline_1 (Nat.le_of_ble_eq_true rfl) rfl ?_
  refine g_iconst (v := 0) F (by decide) dX10_isOnOutline_2 ?_
  refine g_istore_n (k := 2) (L' := [(2, .int 0), (1, .int 0), (0, .ref (q 94))]) F dX10_isOnOutline_3 (Nat.le_of_ble_eq_true rfl) rfl ?_
  have lp1 : ∀ (n9 : Nat) (i : Nat) (b : Int32), nc z < i + n9 → (i ≤ nc z) → ((b = 1 ∧ zOO z) ∨ (b = 0 ∧ ∀ j, j < i → ¬ zOn z j)) → G Γ S 0 0 4 [(2, .int (nI i)), (1, .int b), (0, .ref (q 94))] [] := by
    intro n9
    induction n9 with
    | zero =>
      intro i b hm9 hi hb
      exact absurd hm9 (by omega)
    | succ n9 ihlp1 =>
      intro i b hm9 hi hb
      refine g_iload_n (k := 2) F 0 rfl dX10_isOnOutline_4 ?_
      refine g_aload_n (k := 0) F 2 rfl dX10_isOnOutline_5 ?_
      refine g_callV F (kX10_corners Γ.1 _ q hq z hz hB ) okX10_corners (qi94 hq) mw247 ⟨(Nat.le_of_ble_eq_true rfl), (Nat.le_of_ble_eq_true rfl)⟩ rfl rfl (Nat.le_of_ble_eq_true rfl) ⟨(Nat.le_of_ble_eq_true rfl), (Nat.le_of_ble_eq_true rfl)⟩ dX10_isOnOutline_6 (toI (fun r2 S3 h4 => ?_))
      obtain ⟨rfl, rfl⟩ := h4
      refine g_icmp_ge (t := 36) F dX10_isOnOutline_9 (by decide) (fun c5 => ?_) (fun c5 => ?_)
      · obtain rfl : i = nc z := by rw [nI_leI (by omega) (by omega)] at c5; omega
        refine g_iload_n (k := 1) F 1 rfl dX10_isOnOutline_36 ?_
        refine g_zret F T (by rcases hb with ⟨rfl, _⟩ | ⟨rfl, _⟩ <;> rfl) ⟨_, rfl, ?_⟩ (Nat.le_of_ble_eq_true rfl) (Nat.le_of_ble_eq_true rfl) dX10_isOnOutline_37
        exact ⟨on_end hb (by omega), rfl⟩
      · have hi9 : i < nc z := by rw [nI_leI (by omega) (by omega)] at c5; omega
        have h0 : 0 < nc z := by omega
        refine g_iload_n (k := 1) F 1 rfl dX10_isOnOutline_12 ?_
        have jn7 : ∀ (w29 : Int32), ¬ b = 0 ∧ w29 = 1 ∨ b = 0 ∧ (w29 = 1 ∧ zOn z i ∨ w29 = 0 ∧ ¬ zOn z i) → G Γ S 0 0 29 [(2, .int (nI i)), (1, .int b), (0, .ref (q 94))] [.int w29] := by
          intro w29 h29
          refine g_istore_n (k := 1) (L' := [(1, .int w29), (2, .int (nI i)), (0, .ref (q 94))]) F dX10_isOnOutline_29 (Nat.le_of_ble_eq_true rfl) rfl ?_
          obtain ⟨x8, ex8⟩ : ∃ y9 : Int32, y9 = (nI i) + 1 := ⟨_, rfl⟩
          refine g_iinc (k := 1) (v := x8) (L' := [(2, .int x8), (1, .int w29), (0, .ref (q 94))]) F dX10_isOnOutline_30 rfl (by rw [ex8]; rfl) (Nat.le_of_ble_eq_true rfl) rfl ?_
          refine g_goto (t := 4) F dX10_isOnOutline_33 (by decide) ?_
          obtain rfl : x8 = nI (i + 1) := (ex8.trans (nI_1 _))
          refine g_sub (L' := [(2, .int (nI (i + 1))), (1, .int w29), (0, .ref (q 94))]) [0, 1, 2] rfl ?_
          exact ihlp1 (i + 1) (w29) (by omega) (by omega) (on_step hb hi9 h29)
        refine g_if_ne (t := 24) F dX10_isOnOutline_13 (by decide) (fun c6 => ?_) (fun c6 => ?_)
        · refine g_iconst (v := 1) F (by decide) dX10_isOnOutline_24 ?_
          refine g_goto (t := 29) F dX10_isOnOutline_25 (by decide) ?_
          exact jn7 (1) (Or.inl ⟨c6, rfl⟩)
        · refine g_aload_n (k := 0) F 2 rfl dX10_isOnOutline_16 ?_
          refine g_iload_n (k := 2) F 0 rfl dX10_isOnOutline_17 ?_
          refine g_callV F (kX10_isOn Γ.1 _ q hq z hz hB h0 i (by omega)) okX10_isOn (qi94 hq) mw466 ⟨(Nat.le_of_ble_eq_true rfl), (Nat.le_of_ble_eq_true rfl)⟩ rfl rfl (Nat.le_of_ble_eq_true rfl) ⟨(Nat.le_of_ble_eq_true rfl), (Nat.le_of_ble_eq_true rfl)⟩ dX10_isOnOutline_18 (toI (fun r9 S10 h11 => ?_))
          obtain ⟨er9, rfl⟩ := h11
          refine g_if_eq (t := 28) F dX10_isOnOutline_21 (by decide) (fun c12 => ?_) (fun c12 => ?_)
          · refine g_iconst (v := 0) F (by decide) dX10_isOnOutline_28 ?_
            exact jn7 (0) (Or.inr ⟨c6, Or.inr ⟨rfl, by rcases er9 with e | e; rw [e.1] at c12; exact absurd c12 (by decide); exact e.2⟩⟩)
          · refine g_iconst (v := 1) F (by decide) dX10_isOnOutline_24 ?_
            refine g_goto (t := 29) F dX10_isOnOutline_25 (by decide) ?_
            exact jn7 (1) (Or.inr ⟨c6, Or.inl ⟨rfl, by rcases er9 with e | e; exact e.2; exact absurd e.1 c12⟩⟩)
  exact lp1 (nc z + 1) 0 0 (by omega) (by omega) (Or.inr ⟨rfl, fun j hj => absurd hj (Nat.not_lt_zero j)⟩)
set_option maxHeartbeats 4000000 in
set_option maxRecDepth 100000 in
theorem kX10_twiceArea (g : Glo) (S : PS) (q : Nat → Nat) (hq : Shp S.1 S.2.1 q) (z : ZZ) (hz : pJ S (q 95) = z) (hB : Bz z) : Ct g mX10_twiceArea 0 0 [.ref (q 94)] S (pJ9 (fun r S' => r = zTw z ∧ S = S')) := by
  refine Ct.of (by decide) (Nat.le_of_ble_eq_true rfl) (fun Γ hg F T => ?_)
  subst hg
  show G Γ S 0 0 0 [(0, .ref (q 94))] []
  have hnc := (nc_e hB).2
  refine g_lconst (v := 0) F (by decide) dX10_twiceArea_0 ?_
  refine g_lstore_n (k := 1) (L' := [(1, .long 0), (0, .ref (q 94))]) F dX10_twiceArea_1 (Nat.le_of_ble_eq_true rfl) rfl ?_
  refine g_iconst (v := 0) F (by decide) dX10_twiceArea_2 ?_
  refine g_istore_n (k := 3) (L' := [(3, .int 0), (1, .long 0), (0, .ref (q 94))]) F dX10_twiceArea_3 (Nat.le_of_ble_eq_true rfl) rfl ?_
  have lp1 : ∀ (n9 : Nat) (i : Nat) (a : Int64), nc z < i + n9 → (i ≤ nc z) → (a = sumF (fun k => zX z k * zY z (k + 1) - zX z (k + 1) * zY z k) i) → G Γ S 0 0 4 [(3, .int (nI i)), (1, .long a), (0, .ref (q 94))] [] := by
    intro n9
    induction n9 with
    | zero =>
      intro i a hm9 hi ha
      exact absurd hm9 (by omega)
    | succ n9 ihlp1 =>
      intro i a hm9 hi ha
      refine g_iload_n (k := 3) F 0 rfl dX10_twiceArea_4 ?_
      refine g_aload_n (k := 0) F 2 rfl dX10_twiceArea_5 ?_
      refine g_callV F (kX10_corners Γ.1 _ q hq z hz hB ) okX10_corners (qi94 hq) mw247 ⟨(Nat.le_of_ble_eq_true rfl), (Nat.le_of_ble_eq_true rfl)⟩ rfl rfl (Nat.le_of_ble_eq_true rfl) ⟨(Nat.le_of_ble_eq_true rfl), (Nat.le_of_ble_eq_true rfl)⟩ dX10_twiceArea_6 (toI (fun r2 S3 h4 => ?_))
      obtain ⟨rfl, rfl⟩ := h4
      refine g_icmp_ge (t := 48) F dX10_twiceArea_9 (by decide) (fun c5 => ?_) (fun c5 => ?_)
      · obtain rfl : i = nc z := by rw [nI_leI (by omega) (by omega)] at c5; omega
        refine g_lload_n (k := 1) F 1 rfl dX10_twiceArea_48 ?_
        refine g_lret F T ⟨_, rfl, ?_⟩ (Nat.le_of_ble_eq_true rfl) (Nat.le_of_ble_eq_true rfl) dX10_twiceArea_49
        exact ⟨ha, rfl⟩
      · have hi9 : i < nc z := by rw [nI_leI (by omega) (by omega)] at c5; omega
        have h0 : 0 < nc z := by omega
        refine g_lload_n (k := 1) F 1 rfl dX10_twiceArea_12 ?_
        refine g_aload_n (k := 0) F 2 rfl dX10_twiceArea_13 ?_
        refine g_iload_n (k := 3) F 0 rfl dX10_twiceArea_14 ?_
        refine g_callV F (kX10_x Γ.1 _ q hq z hz hB h0 i (by omega)) okX10_x (qi94 hq) mw470 ⟨(Nat.le_of_ble_eq_true rfl), (Nat.le_of_ble_eq_true rfl)⟩ rfl rfl (Nat.le_of_ble_eq_true rfl) ⟨(Nat.le_of_ble_eq_true rfl), (Nat.le_of_ble_eq_true rfl)⟩ dX10_twiceArea_15 (toJ (fun r6 S7 h8 => ?_))
        obtain ⟨er6, rfl⟩ := h8
        refine g_aload_n (k := 0) F 2 rfl dX10_twiceArea_18 ?_
        refine g_iload_n (k := 3) F 0 rfl dX10_twiceArea_19 ?_
        refine g_iconst (v := 1) F (by decide) dX10_twiceArea_20 ?_
        refine g_iadd F dX10_twiceArea_21 ?_
        refine g_rei (nI (i + 1)) (nadd rfl rfl) ?_
        refine g_callV F (kX10_y Γ.1 _ q hq z hz hB h0 ((i + 1)) (by omega)) okX10_y (qi94 hq) mw474 ⟨(Nat.le_of_ble_eq_true rfl), (Nat.le_of_ble_eq_true rfl)⟩ rfl rfl (Nat.le_of_ble_eq_true rfl) ⟨(Nat.le_of_ble_eq_true rfl), (Nat.le_of_ble_eq_true rfl)⟩ dX10_twiceArea_22 (toJ (fun r9 S10 h11 => ?_))
        obtain ⟨er9, rfl⟩ := h11
        refine g_lmul F dX10_twiceArea_25 ?_
        refine g_aload_n (k := 0) F 2 rfl dX10_twiceArea_26 ?_
        refine g_iload_n (k := 3) F 0 rfl dX10_twiceArea_27 ?_
        refine g_iconst (v := 1) F (by decide) dX10_twiceArea_28 ?_
        refine g_iadd F dX10_twiceArea_29 ?_
        refine g_rei (nI (i + 1)) (nadd rfl rfl) ?_
        refine g_callV F (kX10_x Γ.1 _ q hq z hz hB h0 ((i + 1)) (by omega)) okX10_x (qi94 hq) mw470 ⟨(Nat.le_of_ble_eq_true rfl), (Nat.le_of_ble_eq_true rfl)⟩ rfl rfl (Nat.le_of_ble_eq_true rfl) ⟨(Nat.le_of_ble_eq_true rfl), (Nat.le_of_ble_eq_true rfl)⟩ dX10_twiceArea_30 (toJ (fun r12 S13 h14 => ?_))
        obtain ⟨er12, rfl⟩ := h14
        refine g_aload_n (k := 0) F 2 rfl dX10_twiceArea_33 ?_
        refine g_iload_n (k := 3) F 0 rfl dX10_twiceArea_34 ?_
        refine g_callV F (kX10_y Γ.1 _ q hq z hz hB h0 i (by omega)) okX10_y (qi94 hq) mw474 ⟨(Nat.le_of_ble_eq_true rfl), (Nat.le_of_ble_eq_true rfl)⟩ rfl rfl (Nat.le_of_ble_eq_true rfl) ⟨(Nat.le_of_ble_eq_true rfl), (Nat.le_of_ble_eq_true rfl)⟩ dX10_twiceArea_35 (toJ (fun r15 S16 h17 => ?_))
        obtain ⟨er15, rfl⟩ := h17
        refine g_lmul F dX10_twiceArea_38 ?_
        refine g_lsub F dX10_twiceArea_39 ?_
        refine g_ladd F dX10_twiceArea_40 ?_
        refine g_topl (fun x18 ex18 => ?_)
        refine g_lstore_n (k := 1) (L' := [(1, .long x18), (3, .int (nI i)), (0, .ref (q 94))]) F dX10_twiceArea_41 (Nat.le_of_ble_eq_true rfl) rfl ?_
        obtain ⟨x19, ex19⟩ : ∃ y9 : Int32, y9 = (nI i) + 1 := ⟨_, rfl⟩
        refine g_iinc (k := 1) (v := x19) (L' := [(3, .int x19), (1, .long x18), (0, .ref (q 94))]) F dX10_twiceArea_42 rfl (by rw [ex19]; rfl) (Nat.le_of_ble_eq_true rfl) rfl ?_
        refine g_goto (t := 4) F dX10_twiceArea_45 (by decide) ?_
        obtain rfl : x19 = nI (i + 1) := (ex19.trans (nI_1 _))
        refine g_sub (L' := [(3, .int (nI (i + 1))), (1, .long x18), (0, .ref (q 94))]) [0, 1, 2] rfl ?_
        exact ihlp1 (i + 1) (x18) (by omega) (by omega) (by rw [ex18, ha, er6, er9, er12, er15]; rfl)
  exact lp1 (nc z + 1) 0 0 (by omega) (by omega) rfl
set_option maxHeartbeats 4000000 in
set_option maxRecDepth 100000 in
theorem kX10_allSteps (g : Glo) (S : PS) (q : Nat → Nat) (hq : Shp S.1 S.2.1 q) (z : ZZ) (hz : pJ S (q 95) = z) (hB : Bz z) : Ct g mX10_allSteps 0 0 [.ref (q 94)] S (pJ9 (fun r S' => r = zAs z ∧ S = S')) := by
  refine Ct.of (by decide) (Nat.le_of_ble_eq_true rfl) (fun Γ hg F T => ?_)
  subst hg
  show G Γ S 0 0 0 [(0, .ref (q 94))] []
  have hnc := (nc_e hB).2
  refine g_lconst (v := 0) F (by decide) dX10_allSteps_0 ?_
  refine g_lstore_n (k := 1) (L' := [(1, .long 0), (0, .ref (q 94))]) F dX10_allSteps_1 (Nat.le_of_ble_eq_true rfl) rfl ?_
  refine g_iconst (v := 0) F (by decide) dX10_allSteps_2 ?_
  refine g_istore_n (k := 3) (L' := [(3, .int 0), (1, .long 0), (0, .ref (q 94))]) F dX10_allSteps_3 (Nat.le_of_ble_eq_true rfl) rfl ?_
  have lp1 : ∀ (n9 : Nat) (i : Nat) (a : Int64), nc z < i + n9 → (i ≤ nc z) → (a = sumF (fun k => lN (zN z k)) i) → G Γ S 0 0 4 [(3, .int (nI i)), (1, .long a), (0, .ref (q 94))] [] := by
    intro n9
    induction n9 with
    | zero =>
      intro i a hm9 hi ha
      exact absurd hm9 (by omega)
    | succ n9 ihlp1 =>
      intro i a hm9 hi ha
      refine g_iload_n (k := 3) F 0 rfl dX10_allSteps_4 ?_
      refine g_aload_n (k := 0) F 2 rfl dX10_allSteps_5 ?_
      refine g_callV F (kX10_corners Γ.1 _ q hq z hz hB ) okX10_corners (qi94 hq) mw247 ⟨(Nat.le_of_ble_eq_true rfl), (Nat.le_of_ble_eq_true rfl)⟩ rfl rfl (Nat.le_of_ble_eq_true rfl) ⟨(Nat.le_of_ble_eq_true rfl), (Nat.le_of_ble_eq_true rfl)⟩ dX10_allSteps_6 (toI (fun r2 S3 h4 => ?_))
      obtain ⟨rfl, rfl⟩ := h4
      refine g_icmp_ge (t := 27) F dX10_allSteps_9 (by decide) (fun c5 => ?_) (fun c5 => ?_)
      · obtain rfl : i = nc z := by rw [nI_leI (by omega) (by omega)] at c5; omega
        refine g_lload_n (k := 1) F 1 rfl dX10_allSteps_27 ?_
        refine g_lret F T ⟨_, rfl, ?_⟩ (Nat.le_of_ble_eq_true rfl) (Nat.le_of_ble_eq_true rfl) dX10_allSteps_28
        exact ⟨ha, rfl⟩
      · have hi9 : i < nc z := by rw [nI_leI (by omega) (by omega)] at c5; omega
        have h0 : 0 < nc z := by omega
        refine g_lload_n (k := 1) F 1 rfl dX10_allSteps_12 ?_
        refine g_aload_n (k := 0) F 2 rfl dX10_allSteps_13 ?_
        refine g_iload_n (k := 3) F 0 rfl dX10_allSteps_14 ?_
        refine g_callV F (kX10_steps Γ.1 _ q hq z hz hB h0 i (by omega)) okX10_steps (qi94 hq) mw489 ⟨(Nat.le_of_ble_eq_true rfl), (Nat.le_of_ble_eq_true rfl)⟩ rfl rfl (Nat.le_of_ble_eq_true rfl) ⟨(Nat.le_of_ble_eq_true rfl), (Nat.le_of_ble_eq_true rfl)⟩ dX10_allSteps_15 (toI (fun r6 S7 h8 => ?_))
        obtain ⟨rfl, rfl⟩ := h8
        refine g_i2l F dX10_allSteps_18 ?_
        refine g_ladd F dX10_allSteps_19 ?_
        refine g_topl (fun x9 ex9 => ?_)
        refine g_lstore_n (k := 1) (L' := [(1, .long x9), (3, .int (nI i)), (0, .ref (q 94))]) F dX10_allSteps_20 (Nat.le_of_ble_eq_true rfl) rfl ?_
        obtain ⟨x10, ex10⟩ : ∃ y9 : Int32, y9 = (nI i) + 1 := ⟨_, rfl⟩
        refine g_iinc (k := 1) (v := x10) (L' := [(3, .int x10), (1, .long x9), (0, .ref (q 94))]) F dX10_allSteps_21 rfl (by rw [ex10]; rfl) (Nat.le_of_ble_eq_true rfl) rfl ?_
        refine g_goto (t := 4) F dX10_allSteps_24 (by decide) ?_
        obtain rfl : x10 = nI (i + 1) := (ex10.trans (nI_1 _))
        refine g_sub (L' := [(3, .int (nI (i + 1))), (1, .long x9), (0, .ref (q 94))]) [0, 1, 2] rfl ?_
        exact ihlp1 (i + 1) (x9) (by omega) (by omega) (by rw [ex9, ha, nI_L (by have := zN_b hB h0 i; omega)]; rfl)
  exact lp1 (nc z + 1) 0 0 (by omega) (by omega) rfl
set_option maxHeartbeats 4000000 in
set_option maxRecDepth 100000 in
theorem kX10_winding (g : Glo) (S : PS) (q : Nat → Nat) (hq : Shp S.1 S.2.1 q) (z : ZZ) (hz : pJ S (q 95) = z) (hB : Bz z) : Ct g mX10_winding 0 0 [.ref (q 94)] S (pJ9 (fun r S' => r = zWi z ∧ S = S')) := by
  refine Ct.of (by decide) (Nat.le_of_ble_eq_true rfl) (fun Γ hg F T => ?_)
  subst hg
  show G Γ S 0 0 0 [(0, .ref (q 94))] []
  have hnc := (nc_e hB).2
  refine g_lconst (v := 0) F (by decide) dX10_winding_0 ?_
  refine g_lstore_n (k := 1) (L' := [(1, .long 0), (0, .ref (q 94))]) F dX10_winding_1 (Nat.le_of_ble_eq_true rfl) rfl ?_
  refine g_iconst (v := 0) F (by decide) dX10_winding_2 ?_
  refine g_istore_n (k := 3) (L' := [(3, .int 0), (1, .long 0), (0, .ref (q 94))]) F dX10_winding_3 (Nat.le_of_ble_eq_true rfl) rfl ?_
  have lp1 : ∀ (n9 : Nat) (i : Nat) (a : Int64), nc z < i + n9 → (i ≤ nc z) → (a = sumF (zCr z) i) → G Γ S 0 0 4 [(3, .int (nI i)), (1, .long a), (0, .ref (q 94))] [] := by
    intro n9
    induction n9 with
    | zero =>
      intro i a hm9 hi ha
      exact absurd hm9 (by omega)
    | succ n9 ihlp1 =>
      intro i a hm9 hi ha
      refine g_iload_n (k := 3) F 0 rfl dX10_winding_4 ?_
      refine g_aload_n (k := 0) F 2 rfl dX10_winding_5 ?_
      refine g_callV F (kX10_corners Γ.1 _ q hq z hz hB ) okX10_corners (qi94 hq) mw247 ⟨(Nat.le_of_ble_eq_true rfl), (Nat.le_of_ble_eq_true rfl)⟩ rfl rfl (Nat.le_of_ble_eq_true rfl) ⟨(Nat.le_of_ble_eq_true rfl), (Nat.le_of_ble_eq_true rfl)⟩ dX10_winding_6 (toI (fun r2 S3 h4 => ?_))
      obtain ⟨rfl, rfl⟩ := h4
      refine g_icmp_ge (t := 175) F dX10_winding_9 (by decide) (fun c5 => ?_) (fun c5 => ?_)
      · obtain rfl : i = nc z := by rw [nI_leI (by omega) (by omega)] at c5; omega
        refine g_lload_n (k := 1) F 1 rfl dX10_winding_175 ?_
        refine g_lret F T ⟨_, rfl, ?_⟩ (Nat.le_of_ble_eq_true rfl) (Nat.le_of_ble_eq_true rfl) dX10_winding_176
        exact ⟨ha, rfl⟩
      · have hi9 : i < nc z := by rw [nI_leI (by omega) (by omega)] at c5; omega
        have h0 : 0 < nc z := by omega
        refine g_aload_n (k := 0) F 2 rfl dX10_winding_12 ?_
        refine g_iload_n (k := 3) F 0 rfl dX10_winding_13 ?_
        refine g_callV F (kX10_x Γ.1 _ q hq z hz hB h0 i (by omega)) okX10_x (qi94 hq) mw470 ⟨(Nat.le_of_ble_eq_true rfl), (Nat.le_of_ble_eq_true rfl)⟩ rfl rfl (Nat.le_of_ble_eq_true rfl) ⟨(Nat.le_of_ble_eq_true rfl), (Nat.le_of_ble_eq_true rfl)⟩ dX10_winding_14 (toJ (fun r6 S7 h8 => ?_))
        obtain ⟨er6, rfl⟩ := h8
        refine g_aload_n (k := 0) F 2 rfl dX10_winding_17 ?_
        refine g_iload_n (k := 3) F 0 rfl dX10_winding_18 ?_
        refine g_callV F (kX10_y Γ.1 _ q hq z hz hB h0 i (by omega)) okX10_y (qi94 hq) mw474 ⟨(Nat.le_of_ble_eq_true rfl), (Nat.le_of_ble_eq_true rfl)⟩ rfl rfl (Nat.le_of_ble_eq_true rfl) ⟨(Nat.le_of_ble_eq_true rfl), (Nat.le_of_ble_eq_true rfl)⟩ dX10_winding_19 (toJ (fun r9 S10 h11 => ?_))
        obtain ⟨er9, rfl⟩ := h11
        refine g_aload_n (k := 0) F 2 rfl dX10_winding_22 ?_
        refine g_iload_n (k := 3) F 0 rfl dX10_winding_23 ?_
        refine g_iconst (v := 1) F (by decide) dX10_winding_24 ?_
        refine g_iadd F dX10_winding_25 ?_
        refine g_rei (nI (i + 1)) (nadd rfl rfl) ?_
        refine g_callV F (kX10_x Γ.1 _ q hq z hz hB h0 ((i + 1)) (by omega)) okX10_x (qi94 hq) mw470 ⟨(Nat.le_of_ble_eq_true rfl), (Nat.le_of_ble_eq_true rfl)⟩ rfl rfl (Nat.le_of_ble_eq_true rfl) ⟨(Nat.le_of_ble_eq_true rfl), (Nat.le_of_ble_eq_true rfl)⟩ dX10_winding_26 (toJ (fun r12 S13 h14 => ?_))
        obtain ⟨er12, rfl⟩ := h14
        refine g_aload_n (k := 0) F 2 rfl dX10_winding_29 ?_
        refine g_iload_n (k := 3) F 0 rfl dX10_winding_30 ?_
        refine g_iconst (v := 1) F (by decide) dX10_winding_31 ?_
        refine g_iadd F dX10_winding_32 ?_
        refine g_rei (nI (i + 1)) (nadd rfl rfl) ?_
        refine g_callV F (kX10_y Γ.1 _ q hq z hz hB h0 ((i + 1)) (by omega)) okX10_y (qi94 hq) mw474 ⟨(Nat.le_of_ble_eq_true rfl), (Nat.le_of_ble_eq_true rfl)⟩ rfl rfl (Nat.le_of_ble_eq_true rfl) ⟨(Nat.le_of_ble_eq_true rfl), (Nat.le_of_ble_eq_true rfl)⟩ dX10_winding_33 (toJ (fun r15 S16 h17 => ?_))
        obtain ⟨er15, rfl⟩ := h17
        refine g_aload_n (k := 0) F 2 rfl dX10_winding_36 ?_
        refine gfX10_7 F (qi94 hq) (qr94_1 hq) dX10_winding_37 ?_
        refine g_iconst (v := 0) F (by decide) dX10_winding_40 ?_
        refine g_lalde hz (j := 0) F (qi95 hq) rfl (by rw [(qn95 hq)]; omega) (by rw [(qn95 hq)]; decide) dX10_winding_41 ?_
        refine g_aload_n (k := 0) F 2 rfl dX10_winding_42 ?_
        refine gfX10_7 F (qi94 hq) (qr94_1 hq) dX10_winding_43 ?_
        refine g_iconst (v := 1) F (by decide) dX10_winding_46 ?_
        refine g_lalde hz (j := 1) F (qi95 hq) rfl (by rw [(qn95 hq)]; omega) (by rw [(qn95 hq)]; decide) dX10_winding_47 ?_
        refine g_callS F (kX10_turn Γ.1 _ _ _ _ _ _ _) okX10_turn mw478 ⟨(Nat.le_of_ble_eq_true rfl), (Nat.le_of_ble_eq_true rfl)⟩ rfl rfl (Nat.le_of_ble_eq_true rfl) ⟨(Nat.le_of_ble_eq_true rfl), (Nat.le_of_ble_eq_true rfl)⟩ dX10_winding_48 (toJ (fun r18 S19 h20 => ?_))
        obtain ⟨er18, rfl⟩ := h20
        refine g_lstore (L' := [(4, .long r18), (3, .int (nI i)), (1, .long a), (0, .ref (q 94))]) F dX10_winding_51 (Nat.le_of_ble_eq_true rfl) rfl ?_
        have hsd : r18 = zSd z i := by rw [er18, er6, er9, er12, er15]; rfl
        refine g_aload_n (k := 0) F 3 rfl dX10_winding_53 ?_
        refine g_iload_n (k := 3) F 1 rfl dX10_winding_54 ?_
        refine g_callV F (kX10_y Γ.1 _ q hq z hz hB h0 i (by omega)) okX10_y (qi94 hq) mw474 ⟨(Nat.le_of_ble_eq_true rfl), (Nat.le_of_ble_eq_true rfl)⟩ rfl rfl (Nat.le_of_ble_eq_true rfl) ⟨(Nat.le_of_ble_eq_true rfl), (Nat.le_of_ble_eq_true rfl)⟩ dX10_winding_55 (toJ (fun r21 S22 h23 => ?_))
        obtain ⟨er21, rfl⟩ := h23
        refine g_aload_n (k := 0) F 3 rfl dX10_winding_58 ?_
        refine gfX10_7 F (qi94 hq) (qr94_1 hq) dX10_winding_59 ?_
        refine g_iconst (v := 1) F (by decide) dX10_winding_62 ?_
        refine g_lalde hz (j := 1) F (qi95 hq) rfl (by rw [(qn95 hq)]; omega) (by rw [(qn95 hq)]; decide) dX10_winding_63 ?_
        refine g_lcmp F dX10_winding_64 ?_
        have jn25 : ∀ (w90 : Int32), (w90 = 1 ∧ (zY z i ≤ z 1 ∧ z 1 < zY z (i + 1))) ∨ (w90 = 0 ∧ ¬ (zY z i ≤ z 1 ∧ z 1 < zY z (i + 1))) → G Γ S 0 0 90 [(4, .long r18), (3, .int (nI i)), (1, .long a), (0, .ref (q 94))] [.int w90] := by
          intro w90 h90
          refine g_istore (L' := [(6, .int w90), (4, .long r18), (3, .int (nI i)), (1, .long a), (0, .ref (q 94))]) F dX10_winding_90 (Nat.le_of_ble_eq_true rfl) rfl ?_
          refine g_aload_n (k := 0) F 4 rfl dX10_winding_92 ?_
          refine g_iload_n (k := 3) F 2 rfl dX10_winding_93 ?_
          refine g_callV F (kX10_y Γ.1 _ q hq z hz hB h0 i (by omega)) okX10_y (qi94 hq) mw474 ⟨(Nat.le_of_ble_eq_true rfl), (Nat.le_of_ble_eq_true rfl)⟩ rfl rfl (Nat.le_of_ble_eq_true rfl) ⟨(Nat.le_of_ble_eq_true rfl), (Nat.le_of_ble_eq_true rfl)⟩ dX10_winding_94 (toJ (fun r26 S27 h28 => ?_))
          obtain ⟨er26, rfl⟩ := h28
          refine g_aload_n (k := 0) F 4 rfl dX10_winding_97 ?_
          refine gfX10_7 F (qi94 hq) (qr94_1 hq) dX10_winding_98 ?_
          refine g_iconst (v := 1) F (by decide) dX10_winding_101 ?_
          refine g_lalde hz (j := 1) F (qi95 hq) rfl (by rw [(qn95 hq)]; omega) (by rw [(qn95 hq)]; decide) dX10_winding_102 ?_
          refine g_lcmp F dX10_winding_103 ?_
          have jn30 : ∀ (w129 : Int32), (w129 = 1 ∧ (z 1 < zY z i ∧ zY z (i + 1) ≤ z 1)) ∨ (w129 = 0 ∧ ¬ (z 1 < zY z i ∧ zY z (i + 1) ≤ z 1)) → G Γ S 0 0 129 [(6, .int w90), (4, .long r18), (3, .int (nI i)), (1, .long a), (0, .ref (q 94))] [.int w129] := by
            intro w129 h129
            refine g_istore (L' := [(7, .int w129), (6, .int w90), (4, .long r18), (3, .int (nI i)), (1, .long a), (0, .ref (q 94))]) F dX10_winding_129 (Nat.le_of_ble_eq_true rfl) rfl ?_
            refine g_lload_n (k := 1) F 4 rfl dX10_winding_131 ?_
            refine g_iload F 1 rfl dX10_winding_132 ?_
            have jn32 : ∀ (w167 : Int64), w167 = zCr z i → G Γ S 0 0 167 [(3, .int (nI i)), (1, .long a), (0, .ref (q 94))] [.long w167, .long a] := by
              intro w167 h167
              refine g_ladd F dX10_winding_167 ?_
              refine g_topl (fun x33 ex33 => ?_)
              refine g_lstore_n (k := 1) (L' := [(1, .long x33), (3, .int (nI i)), (0, .ref (q 94))]) F dX10_winding_168 (Nat.le_of_ble_eq_true rfl) rfl ?_
              obtain ⟨x34, ex34⟩ : ∃ y9 : Int32, y9 = (nI i) + 1 := ⟨_, rfl⟩
              refine g_iinc (k := 1) (v := x34) (L' := [(3, .int x34), (1, .long x33), (0, .ref (q 94))]) F dX10_winding_169 rfl (by rw [ex34]; rfl) (Nat.le_of_ble_eq_true rfl) rfl ?_
              refine g_goto (t := 4) F dX10_winding_172 (by decide) ?_
              obtain rfl : x34 = nI (i + 1) := (ex34.trans (nI_1 _))
              refine g_sub (L' := [(3, .int (nI (i + 1))), (1, .long x33), (0, .ref (q 94))]) [0, 1, 2] rfl ?_
              exact ihlp1 (i + 1) (x33) (by omega) (by omega) (by rw [ex33, ha, h167]; rfl)
            refine g_if_eq (t := 148) F dX10_winding_134 (by decide) (fun c31 => ?_) (fun c31 => ?_)
            · refine g_iload F 0 rfl dX10_winding_148 ?_
              refine g_if_eq (t := 166) F dX10_winding_150 (by decide) (fun c35 => ?_) (fun c35 => ?_)
              · refine g_lconst (v := 0) F (by decide) dX10_winding_166 ?_
                refine g_sub (L' := [(3, .int (nI i)), (1, .long a), (0, .ref (q 94))]) [3, 4, 5] rfl ?_
                exact jn32 (0) (zcr_0 (fun h => w0 h90 c31 h.1) (fun h => w0 h129 c35 h.1))
              · refine g_lload F 2 rfl dX10_winding_153 ?_
                refine g_lconst (v := 0) F (by decide) dX10_winding_155 ?_
                refine g_lcmp F dX10_winding_156 ?_
                refine g_if_ge (t := 166) F dX10_winding_157 (by decide) (fun c36 => ?_) (fun c36 => ?_)
                · rw [lc_ge] at c36
                  refine g_lconst (v := 0) F (by decide) dX10_winding_166 ?_
                  refine g_sub (L' := [(3, .int (nI i)), (1, .long a), (0, .ref (q 94))]) [3, 4, 5] rfl ?_
                  exact jn32 (0) (zcr_0 (fun h => w0 h90 c31 h.1) (fun h => absurd c36 (L_nle.mpr (by rw [hsd]; exact h.2))))
                · rw [lc_ge] at c36
                  refine g_ldc2 F mw813 dX10_winding_160 ?_
                  refine g_goto (t := 167) F dX10_winding_163 (by decide) ?_
                  refine g_sub (L' := [(3, .int (nI i)), (1, .long a), (0, .ref (q 94))]) [3, 4, 5] rfl ?_
                  exact jn32 ((-1)) (zcr_m (fun h => w0 h90 c31 h.1) (w1 h129 c35) (by rw [← hsd]; exact L_nle.mp c36))
            · refine g_lload F 2 rfl dX10_winding_137 ?_
              refine g_lconst (v := 0) F (by decide) dX10_winding_139 ?_
              refine g_lcmp F dX10_winding_140 ?_
              refine g_if_le (t := 148) F dX10_winding_141 (by decide) (fun c37 => ?_) (fun c37 => ?_)
              · rw [lc_le] at c37
                refine g_iload F 0 rfl dX10_winding_148 ?_
                refine g_if_eq (t := 166) F dX10_winding_150 (by decide) (fun c38 => ?_) (fun c38 => ?_)
                · refine g_lconst (v := 0) F (by decide) dX10_winding_166 ?_
                  refine g_sub (L' := [(3, .int (nI i)), (1, .long a), (0, .ref (q 94))]) [3, 4, 5] rfl ?_
                  exact jn32 (0) (zcr_0 (fun h => absurd c37 (L_nle.mpr (by rw [hsd]; exact h.2))) (fun h => w0 h129 c38 h.1))
                · refine g_lload F 2 rfl dX10_winding_153 ?_
                  refine g_lconst (v := 0) F (by decide) dX10_winding_155 ?_
                  refine g_lcmp F dX10_winding_156 ?_
                  refine g_if_ge (t := 166) F dX10_winding_157 (by decide) (fun c39 => ?_) (fun c39 => ?_)
                  · rw [lc_ge] at c39
                    refine g_lconst (v := 0) F (by decide) dX10_winding_166 ?_
                    refine g_sub (L' := [(3, .int (nI i)), (1, .long a), (0, .ref (q 94))]) [3, 4, 5] rfl ?_
                    exact jn32 (0) (zcr_0 (fun h => absurd c37 (L_nle.mpr (by rw [hsd]; exact h.2))) (fun h => absurd c39 (L_nle.mpr (by rw [hsd]; exact h.2))))
                  · rw [lc_ge] at c39
                    refine g_ldc2 F mw813 dX10_winding_160 ?_
                    refine g_goto (t := 167) F dX10_winding_163 (by decide) ?_
                    refine g_sub (L' := [(3, .int (nI i)), (1, .long a), (0, .ref (q 94))]) [3, 4, 5] rfl ?_
                    exact jn32 ((-1)) (zcr_m (fun h => absurd c37 (L_nle.mpr (by rw [hsd]; exact h.2))) (w1 h129 c38) (by rw [← hsd]; exact L_nle.mp c39))
              · rw [lc_le] at c37
                refine g_lconst (v := 1) F (by decide) dX10_winding_144 ?_
                refine g_goto (t := 167) F dX10_winding_145 (by decide) ?_
                refine g_sub (L' := [(3, .int (nI i)), (1, .long a), (0, .ref (q 94))]) [3, 4, 5] rfl ?_
                exact jn32 (1) (zcr_1 (w1 h90 c31) (by rw [← hsd]; exact L_nle.mp c37))
          refine g_if_le (t := 128) F dX10_winding_104 (by decide) (fun c29 => ?_) (fun c29 => ?_)
          · rw [lc_le] at c29
            refine g_iconst (v := 0) F (by decide) dX10_winding_128 ?_
            exact jn30 (0) (Or.inr ⟨rfl, fun h => absurd c29 (L_nle.mpr (by rw [er26]; exact h.1))⟩)
          · rw [lc_le] at c29
            refine g_aload_n (k := 0) F 4 rfl dX10_winding_107 ?_
            refine g_iload_n (k := 3) F 2 rfl dX10_winding_108 ?_
            refine g_iconst (v := 1) F (by decide) dX10_winding_109 ?_
            refine g_iadd F dX10_winding_110 ?_
            refine g_rei (nI (i + 1)) (nadd rfl rfl) ?_
            refine g_callV F (kX10_y Γ.1 _ q hq z hz hB h0 ((i + 1)) (by omega)) okX10_y (qi94 hq) mw474 ⟨(Nat.le_of_ble_eq_true rfl), (Nat.le_of_ble_eq_true rfl)⟩ rfl rfl (Nat.le_of_ble_eq_true rfl) ⟨(Nat.le_of_ble_eq_true rfl), (Nat.le_of_ble_eq_true rfl)⟩ dX10_winding_111 (toJ (fun r40 S41 h42 => ?_))
            obtain ⟨er40, rfl⟩ := h42
            refine g_aload_n (k := 0) F 4 rfl dX10_winding_114 ?_
            refine gfX10_7 F (qi94 hq) (qr94_1 hq) dX10_winding_115 ?_
            refine g_iconst (v := 1) F (by decide) dX10_winding_118 ?_
            refine g_lalde hz (j := 1) F (qi95 hq) rfl (by rw [(qn95 hq)]; omega) (by rw [(qn95 hq)]; decide) dX10_winding_119 ?_
            refine g_lcmp F dX10_winding_120 ?_
            refine g_if_gt (t := 128) F dX10_winding_121 (by decide) (fun c43 => ?_) (fun c43 => ?_)
            · rw [lc_gt] at c43
              refine g_iconst (v := 0) F (by decide) dX10_winding_128 ?_
              exact jn30 (0) (Or.inr ⟨rfl, fun h => absurd c43 (L_nlt.mpr (by rw [er40]; exact h.2))⟩)
            · rw [lc_gt] at c43
              refine g_iconst (v := 1) F (by decide) dX10_winding_124 ?_
              refine g_goto (t := 129) F dX10_winding_125 (by decide) ?_
              exact jn30 (1) (Or.inl ⟨rfl, by rw [← er26]; exact L_nle.mp c29, by rw [← er40]; exact L_nlt.mp c43⟩)
        refine g_if_gt (t := 89) F dX10_winding_65 (by decide) (fun c24 => ?_) (fun c24 => ?_)
        · rw [lc_gt] at c24
          refine g_iconst (v := 0) F (by decide) dX10_winding_89 ?_
          exact jn25 (0) (Or.inr ⟨rfl, fun h => absurd c24 (L_nlt.mpr (by rw [er21]; exact h.1))⟩)
        · rw [lc_gt] at c24
          refine g_aload_n (k := 0) F 3 rfl dX10_winding_68 ?_
          refine g_iload_n (k := 3) F 1 rfl dX10_winding_69 ?_
          refine g_iconst (v := 1) F (by decide) dX10_winding_70 ?_
          refine g_iadd F dX10_winding_71 ?_
          refine g_rei (nI (i + 1)) (nadd rfl rfl) ?_
          refine g_callV F (kX10_y Γ.1 _ q hq z hz hB h0 ((i + 1)) (by omega)) okX10_y (qi94 hq) mw474 ⟨(Nat.le_of_ble_eq_true rfl), (Nat.le_of_ble_eq_true rfl)⟩ rfl rfl (Nat.le_of_ble_eq_true rfl) ⟨(Nat.le_of_ble_eq_true rfl), (Nat.le_of_ble_eq_true rfl)⟩ dX10_winding_72 (toJ (fun r44 S45 h46 => ?_))
          obtain ⟨er44, rfl⟩ := h46
          refine g_aload_n (k := 0) F 3 rfl dX10_winding_75 ?_
          refine gfX10_7 F (qi94 hq) (qr94_1 hq) dX10_winding_76 ?_
          refine g_iconst (v := 1) F (by decide) dX10_winding_79 ?_
          refine g_lalde hz (j := 1) F (qi95 hq) rfl (by rw [(qn95 hq)]; omega) (by rw [(qn95 hq)]; decide) dX10_winding_80 ?_
          refine g_lcmp F dX10_winding_81 ?_
          refine g_if_le (t := 89) F dX10_winding_82 (by decide) (fun c47 => ?_) (fun c47 => ?_)
          · rw [lc_le] at c47
            refine g_iconst (v := 0) F (by decide) dX10_winding_89 ?_
            exact jn25 (0) (Or.inr ⟨rfl, fun h => absurd c47 (L_nle.mpr (by rw [er44]; exact h.2))⟩)
          · rw [lc_le] at c47
            refine g_iconst (v := 1) F (by decide) dX10_winding_85 ?_
            refine g_goto (t := 90) F dX10_winding_86 (by decide) ?_
            exact jn25 (1) (Or.inl ⟨rfl, by rw [← er21]; exact L_nlt.mp c24, by rw [← er44]; exact L_nle.mp c47⟩)
  exact lp1 (nc z + 1) 0 0 (by omega) (by omega) rfl
set_option maxHeartbeats 4000000 in
set_option maxRecDepth 100000 in
theorem kX10_constant (g : Glo) (S : PS) (q : Nat → Nat) (hq : Shp S.1 S.2.1 q) (z : ZZ) (hz : pJ S (q 95) = z) (hB : Bz z) : Ct g mX10_constant 0 0 [.ref (q 94)] S (pJ9 (fun r S' => r = zCo z ∧ S = S')) := by
  refine Ct.of (by decide) (Nat.le_of_ble_eq_true rfl) (fun Γ hg F T => ?_)
  subst hg
  show G Γ S 0 0 0 [(0, .ref (q 94))] []
  have hnc := (nc_e hB).2
  refine g_aload_n (k := 0) F 0 rfl dX10_constant_0 ?_
  refine g_callV F (kX10_winding Γ.1 _ q hq z hz hB ) okX10_winding (qi94 hq) mw809 ⟨(Nat.le_of_ble_eq_true rfl), (Nat.le_of_ble_eq_true rfl)⟩ rfl rfl (Nat.le_of_ble_eq_true rfl) ⟨(Nat.le_of_ble_eq_true rfl), (Nat.le_of_ble_eq_true rfl)⟩ dX10_constant_1 (toJ (fun r1 S2 h3 => ?_))
  obtain ⟨er1, rfl⟩ := h3
  refine g_ldc2 F mw807 dX10_constant_4 ?_
  refine g_aload_n (k := 0) F 0 rfl dX10_constant_7 ?_
  refine g_iconst (v := 0) F (by decide) dX10_constant_8 ?_
  refine g_callV F (kX10_of Γ.1 _ q hq z hz hB 0 (by decide)) okX10_of (qi94 hq) mw496 ⟨(Nat.le_of_ble_eq_true rfl), (Nat.le_of_ble_eq_true rfl)⟩ rfl rfl (Nat.le_of_ble_eq_true rfl) ⟨(Nat.le_of_ble_eq_true rfl), (Nat.le_of_ble_eq_true rfl)⟩ dX10_constant_9 (toJ (fun r4 S5 h6 => ?_))
  obtain ⟨er4, rfl⟩ := h6
  refine g_lmul F dX10_constant_12 ?_
  refine g_aload_n (k := 0) F 0 rfl dX10_constant_13 ?_
  refine g_iconst (v := 0) F (by decide) dX10_constant_14 ?_
  refine g_callV F (kX10_of Γ.1 _ q hq z hz hB 0 (by decide)) okX10_of (qi94 hq) mw496 ⟨(Nat.le_of_ble_eq_true rfl), (Nat.le_of_ble_eq_true rfl)⟩ rfl rfl (Nat.le_of_ble_eq_true rfl) ⟨(Nat.le_of_ble_eq_true rfl), (Nat.le_of_ble_eq_true rfl)⟩ dX10_constant_15 (toJ (fun r7 S8 h9 => ?_))
  obtain ⟨er7, rfl⟩ := h9
  refine g_lmul F dX10_constant_18 ?_
  refine g_ldc2 F mw808 dX10_constant_19 ?_
  refine g_ldiv F dX10_constant_22 (by decide) ?_
  refine g_lmul F dX10_constant_23 ?_
  refine g_lret F T ⟨_, rfl, ?_⟩ (Nat.le_of_ble_eq_true rfl) (Nat.le_of_ble_eq_true rfl) dX10_constant_24
  exact ⟨by rw [er1, er4, er7]; rfl, rfl⟩
set_option maxHeartbeats 4000000 in
set_option maxRecDepth 100000 in
theorem kX10_shut (g : Glo) (S : PS) (q : Nat → Nat) (hq : Shp S.1 S.2.1 q) (z : ZZ) (hz : pJ S (q 95) = z) (hB : Bz z) : Ct g mX10_shut 0 0 [.ref (q 94)] S (pI9 (fun r S' => r = nI (zSh z) ∧ S = S')) := by
  refine Ct.of (by decide) (Nat.le_of_ble_eq_true rfl) (fun Γ hg F T => ?_)
  subst hg
  show G Γ S 0 0 0 [(0, .ref (q 94))] []
  have hnc := (nc_e hB).2
  refine g_aload_n (k := 0) F 0 rfl dX10_shut_0 ?_
  refine g_callV F (kX10_corners Γ.1 _ q hq z hz hB ) okX10_corners (qi94 hq) mw247 ⟨(Nat.le_of_ble_eq_true rfl), (Nat.le_of_ble_eq_true rfl)⟩ rfl rfl (Nat.le_of_ble_eq_true rfl) ⟨(Nat.le_of_ble_eq_true rfl), (Nat.le_of_ble_eq_true rfl)⟩ dX10_shut_1 (toI (fun r1 S2 h3 => ?_))
  obtain ⟨rfl, rfl⟩ := h3
  refine g_iconst (v := 3) F (by decide) dX10_shut_4 ?_
  refine g_icmp_ge (t := 12) F dX10_shut_5 (by decide) (fun c4 => ?_) (fun c4 => ?_)
  · have h3 : 3 ≤ nc z := by rw [show (3 : Int32) = nI 3 from rfl, nI_leI (by omega) (by omega)] at c4; exact c4
    have h0 : 0 < nc z := by omega
    refine g_aload_n (k := 0) F 0 rfl dX10_shut_12 ?_
    refine g_callV F (kX10_isOnOutline Γ.1 _ q hq z hz hB ) okX10_isOnOutline (qi94 hq) mw462 ⟨(Nat.le_of_ble_eq_true rfl), (Nat.le_of_ble_eq_true rfl)⟩ rfl rfl (Nat.le_of_ble_eq_true rfl) ⟨(Nat.le_of_ble_eq_true rfl), (Nat.le_of_ble_eq_true rfl)⟩ dX10_shut_13 (toI (fun r5 S6 h7 => ?_))
    obtain ⟨er5, rfl⟩ := h7
    refine g_if_eq (t := 23) F dX10_shut_16 (by decide) (fun c8 => ?_) (fun c8 => ?_)
    · refine g_aload_n (k := 0) F 0 rfl dX10_shut_23 ?_
      refine g_callV F (kX10_allReached Γ.1 _ q hq z hz hB h0) okX10_allReached (qi94 hq) mw481 ⟨(Nat.le_of_ble_eq_true rfl), (Nat.le_of_ble_eq_true rfl)⟩ rfl rfl (Nat.le_of_ble_eq_true rfl) ⟨(Nat.le_of_ble_eq_true rfl), (Nat.le_of_ble_eq_true rfl)⟩ dX10_shut_24 (toI (fun r9 S10 h11 => ?_))
      obtain ⟨er9, rfl⟩ := h11
      refine g_if_eq (t := 34) F dX10_shut_27 (by decide) (fun c12 => ?_) (fun c12 => ?_)
      · refine g_iconst (v := 3) F (by decide) dX10_shut_34 ?_
        refine g_iret F T ⟨_, rfl, ?_⟩ (Nat.le_of_ble_eq_true rfl) (Nat.le_of_ble_eq_true rfl) dX10_shut_35
        exact ⟨by unfold zSh; rw [if_neg (by omega), ifP_f (w0 er5 c8), ifP_f (w0 er9 c12)]; rfl, rfl⟩
      · refine g_iconst (v := 0) F (by decide) dX10_shut_30 ?_
        refine g_goto (t := 35) F dX10_shut_31 (by decide) ?_
        refine g_iret F T ⟨_, rfl, ?_⟩ (Nat.le_of_ble_eq_true rfl) (Nat.le_of_ble_eq_true rfl) dX10_shut_35
        exact ⟨by unfold zSh; rw [if_neg (by omega), ifP_f (w0 er5 c8), ifP_t (w1 er9 c12)]; rfl, rfl⟩
    · refine g_iconst (v := 2) F (by decide) dX10_shut_19 ?_
      refine g_goto (t := 35) F dX10_shut_20 (by decide) ?_
      refine g_iret F T ⟨_, rfl, ?_⟩ (Nat.le_of_ble_eq_true rfl) (Nat.le_of_ble_eq_true rfl) dX10_shut_35
      exact ⟨by unfold zSh; rw [if_neg (by omega), ifP_t (w1 er5 c8)]; rfl, rfl⟩
  · have h3 : nc z < 3 := by rw [show (3 : Int32) = nI 3 from rfl, nI_leI (by omega) (by omega)] at c4; omega
    refine g_iconst (v := 1) F (by decide) dX10_shut_8 ?_
    refine g_goto (t := 35) F dX10_shut_9 (by decide) ?_
    refine g_iret F T ⟨_, rfl, ?_⟩ (Nat.le_of_ble_eq_true rfl) (Nat.le_of_ble_eq_true rfl) dX10_shut_35
    exact ⟨by unfold zSh; rw [if_pos h3]; rfl, rfl⟩
set_option maxHeartbeats 4000000 in
set_option maxRecDepth 100000 in
theorem kX10_refusal (g : Glo) (S : PS) (q : Nat → Nat) (hq : Shp S.1 S.2.1 q) (z : ZZ) (hz : pJ S (q 95) = z) (hB : Bz z) : Ct g mX10_refusal 0 0 [.ref (q 94)] S (pI9 (fun r S' => r = nI (zRf z) ∧ S = S')) := by
  refine Ct.of (by decide) (Nat.le_of_ble_eq_true rfl) (fun Γ hg F T => ?_)
  subst hg
  show G Γ S 0 0 0 [(0, .ref (q 94))] []
  have hnc := (nc_e hB).2
  refine g_aload_n (k := 0) F 0 rfl dX10_refusal_0 ?_
  refine g_callV F (kX10_shut Γ.1 _ q hq z hz hB ) okX10_shut (qi94 hq) mw458 ⟨(Nat.le_of_ble_eq_true rfl), (Nat.le_of_ble_eq_true rfl)⟩ rfl rfl (Nat.le_of_ble_eq_true rfl) ⟨(Nat.le_of_ble_eq_true rfl), (Nat.le_of_ble_eq_true rfl)⟩ dX10_refusal_1 (toI (fun r1 S2 h3 => ?_))
  obtain ⟨rfl, rfl⟩ := h3
  refine g_istore_n (k := 1) (L' := [(1, .int (nI (zSh z))), (0, .ref (q 94))]) F dX10_refusal_4 (Nat.le_of_ble_eq_true rfl) rfl ?_
  refine g_iload_n (k := 1) F 0 rfl dX10_refusal_5 ?_
  refine g_if_ne (t := 27) F dX10_refusal_6 (by decide) (fun c4 => ?_) (fun c4 => ?_)
  · refine g_iload_n (k := 1) F 0 rfl dX10_refusal_27 ?_
    refine g_iret F T ⟨_, rfl, ?_⟩ (Nat.le_of_ble_eq_true rfl) (Nat.le_of_ble_eq_true rfl) dX10_refusal_28
    exact ⟨by unfold zRf; rw [if_neg (fun h => c4 (by rw [h.1]; rfl))], rfl⟩
  · refine g_aload_n (k := 0) F 1 rfl dX10_refusal_9 ?_
    refine gfX10_7 F (qi94 hq) (qr94_1 hq) dX10_refusal_10 ?_
    refine g_bipush (v := 69) F (by decide) dX10_refusal_13 ?_
    refine g_lalde hz (j := 69) F (qi95 hq) rfl (by rw [(qn95 hq)]; omega) (by rw [(qn95 hq)]; decide) dX10_refusal_15 ?_
    refine g_ldc2 F mw457 dX10_refusal_16 ?_
    refine g_lcmp F dX10_refusal_19 ?_
    refine g_if_ne (t := 27) F dX10_refusal_20 (by decide) (fun c5 => ?_) (fun c5 => ?_)
    · rw [lc_eq] at c5
      refine g_iload_n (k := 1) F 0 rfl dX10_refusal_27 ?_
      refine g_iret F T ⟨_, rfl, ?_⟩ (Nat.le_of_ble_eq_true rfl) (Nat.le_of_ble_eq_true rfl) dX10_refusal_28
      exact ⟨by unfold zRf; rw [if_neg (fun h => c5 h.2)], rfl⟩
    · rw [lc_eq] at c5
      refine g_iconst (v := 4) F (by decide) dX10_refusal_23 ?_
      refine g_goto (t := 28) F dX10_refusal_24 (by decide) ?_
      refine g_iret F T ⟨_, rfl, ?_⟩ (Nat.le_of_ble_eq_true rfl) (Nat.le_of_ble_eq_true rfl) dX10_refusal_28
      exact ⟨by unfold zRf; rw [if_pos ⟨zSh_0 c4, c5⟩]; rfl, rfl⟩
