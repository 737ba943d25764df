theorem x_eql {dA : Nat → ClassId} {ad : Nat → Nat} {k : z_K} {pc : Nat} {lv : List (Option Value)} {st : List Value} {M : z_M} {x y : Int64} (h : x = y) (kk : z_X dA ad k pc lv (.long y :: st) M) : z_X dA ad k pc lv (.long x :: st) M := by rw [h]; exact kk
def g_cp (j : Nat) : Nat → Nat → z_M → z_M
  | 0, _, M => M
  | n + 1, i, M => g_cp j n (i + 1) (z_sv M 60 (8 * j + i) (M 59 i))
theorem g_cp_row (j : Nat) : ∀ (n i : Nat) (M : z_M) {a : Nat}, a ≠ 60 → g_cp j n i M a = M a := by
  intro n
  induction n with
  | zero => intro i M a _; rfl
  | succ n ih => intro i M a ha; exact (ih (i + 1) _ ha).trans (z_sv_row M _ _ ha)
def g_ce0 (M : z_M) (j sz : Nat) : z_M := g_cp j sz 0 (z_sv M 53 6 0)
def g_ce1 (M : z_M) (j sz : Nat) (de ab fi : Int32) : z_M := z_sv (z_sv (z_sv (z_sv (g_ce0 M j sz) 61 j (nI sz)) 63 j de) 64 j ab) 65 j fi
def g_cel (M : z_M) (j sz : Nat) (de ab fi : Int32) : z_M := z_sv (g_ce1 M j sz de ab fi) 62 j 1
theorem g_ce1_62 (M : z_M) (j sz : Nat) (de ab fi : Int32) : g_ce1 M j sz de ab fi 62 = M 62 := by
  unfold g_ce1 g_ce0
  rw [z_sv_row _ _ _ (by decide), z_sv_row _ _ _ (by decide), z_sv_row _ _ _ (by decide), z_sv_row _ _ _ (by decide), g_cp_row _ _ _ _ (by decide), z_sv_row _ _ _ (by decide)]
theorem c_Model_cellN {dA : Nat → ClassId} {ad : Nat → Nat} {M : z_M} {nm de ab fi : Int32} (hn : ¬ (p_btw nm 0 5 ∧ p_btw de 0 1000 ∧ p_shr ab fi)) : z_CI y_Model_cell b_Model_cell 8 .int 1 dA ad [.ref (ad 53), .int nm, .int de, .int ab, .int fi] M (-1) (M) := by
  refine z_ofI [some (.ref (ad 53)), some (.int nm), some (.int de), some (.int ab), some (.int fi), none, none, none] (by decide) (Nat.le_of_ble_eq_true rfl) rfl (fun k C E => ?_)
  have C : z_C dA ad k b_Model_cell "CellTransportModel" 1 8 := C
  refine x_iload_n C d_Model_cell_0 (i := 1) rfl rfl ?_
  refine x_iconst C (0) d_Model_cell_1 rfl ?_
  refine x_iconst C (5) d_Model_cell_2 rfl ?_
  refine x_callSi C (c_Model_out _ _ _) mt_Model_out rfl rfl (Nat.le_of_ble_eq_true rfl) (Nat.le_of_ble_eq_true rfl) lk_Model_66 d_Model_cell_3 ?_
  refine x_if_ne C 45 d_Model_cell_6 rfl (fun h_6 => ?_) (fun h_6 => ?_)
  · refine x_iconst C (-1) d_Model_cell_45 rfl ?_
    exact x_iret C E rfl rfl d_Model_cell_46
  · refine x_iload_n C d_Model_cell_9 (i := 2) rfl rfl ?_
    refine x_iconst C (0) d_Model_cell_10 rfl ?_
    refine x_sipush C (1000) d_Model_cell_11 rfl ?_
    refine x_callSi C (c_Model_out _ _ _) mt_Model_out rfl rfl (Nat.le_of_ble_eq_true rfl) (Nat.le_of_ble_eq_true rfl) lk_Model_66 d_Model_cell_14 ?_
    refine x_if_ne C 45 d_Model_cell_17 rfl (fun h_17 => ?_) (fun h_17 => ?_)
    · refine x_iconst C (-1) d_Model_cell_45 rfl ?_
      exact x_iret C E rfl rfl d_Model_cell_46
    · refine x_iload_n C d_Model_cell_20 (i := 3) rfl rfl ?_
      refine x_iconst C (0) d_Model_cell_21 rfl ?_
      refine x_sipush C (1000) d_Model_cell_22 rfl ?_
      refine x_callSi C (c_Model_out _ _ _) mt_Model_out rfl rfl (Nat.le_of_ble_eq_true rfl) (Nat.le_of_ble_eq_true rfl) lk_Model_66 d_Model_cell_25 ?_
      refine x_if_ne C 45 d_Model_cell_28 rfl (fun h_28 => ?_) (fun h_28 => ?_)
      · refine x_iconst C (-1) d_Model_cell_45 rfl ?_
        exact x_iret C E rfl rfl d_Model_cell_46
      · refine x_iload C d_Model_cell_31 rfl ?_
        refine x_iconst C (0) d_Model_cell_33 rfl ?_
        refine x_sipush C (1000) d_Model_cell_34 rfl ?_
        refine x_iload_n C d_Model_cell_37 (i := 3) rfl rfl ?_
        refine x_isub C d_Model_cell_38 ?_
        refine x_callSi C (c_Model_out _ _ _) mt_Model_out rfl rfl (Nat.le_of_ble_eq_true rfl) (Nat.le_of_ble_eq_true rfl) lk_Model_66 d_Model_cell_39 ?_
        refine x_if_eq C 47 d_Model_cell_42 rfl (fun h_42 => ?_) (fun h_42 => ?_)
        · exact absurd ⟨z_out0 h_6, z_out0 h_17, z_out0 h_28, z_out0 h_42⟩ hn
        · refine x_iconst C (-1) d_Model_cell_45 rfl ?_
          exact x_iret C E rfl rfl d_Model_cell_46
theorem c_Model_cellW {dA : Nat → ClassId} {ad : Nat → Nat} {M : z_M} {nm de ab fi : Int32} {sz : Nat} (hs : M 53 6 = nI sz) (hz : sz ≤ 8) (ht : ∀ t, t < sz → ∃ v, v ≤ 10 ∧ M 59 t = nI v) (hb : p_btw nm 0 5 ∧ p_btw de 0 1000 ∧ p_shr ab fi) (hw : f_wh (M 59) sz 0 0 = 0) : z_CI y_Model_cell b_Model_cell 8 .int 1 dA ad [.ref (ad 53), .int nm, .int de, .int ab, .int fi] M (-1) (z_sv M 53 6 0) := by
  refine z_ofI [some (.ref (ad 53)), some (.int nm), some (.int de), some (.int ab), some (.int fi), none, none, none] (by decide) (Nat.le_of_ble_eq_true rfl) rfl (fun k C E => ?_)
  have C : z_C dA ad k b_Model_cell "CellTransportModel" 1 8 := C
  refine x_iload_n C d_Model_cell_0 (i := 1) rfl rfl ?_
  refine x_iconst C (0) d_Model_cell_1 rfl ?_
  refine x_iconst C (5) d_Model_cell_2 rfl ?_
  refine x_callSi C (c_Model_out _ _ _) mt_Model_out rfl rfl (Nat.le_of_ble_eq_true rfl) (Nat.le_of_ble_eq_true rfl) lk_Model_66 d_Model_cell_3 ?_
  refine x_if_ne C 45 d_Model_cell_6 rfl (fun h_6 => absurd hb.1 (z_b_n0.mp h_6)) (fun h_6 => ?_)
  refine x_iload_n C d_Model_cell_9 (i := 2) rfl rfl ?_
  refine x_iconst C (0) d_Model_cell_10 rfl ?_
  refine x_sipush C (1000) d_Model_cell_11 rfl ?_
  refine x_callSi C (c_Model_out _ _ _) mt_Model_out rfl rfl (Nat.le_of_ble_eq_true rfl) (Nat.le_of_ble_eq_true rfl) lk_Model_66 d_Model_cell_14 ?_
  refine x_if_ne C 45 d_Model_cell_17 rfl (fun h_17 => absurd hb.2.1 (z_b_n0.mp h_17)) (fun h_17 => ?_)
  refine x_iload_n C d_Model_cell_20 (i := 3) rfl rfl ?_
  refine x_iconst C (0) d_Model_cell_21 rfl ?_
  refine x_sipush C (1000) d_Model_cell_22 rfl ?_
  refine x_callSi C (c_Model_out _ _ _) mt_Model_out rfl rfl (Nat.le_of_ble_eq_true rfl) (Nat.le_of_ble_eq_true rfl) lk_Model_66 d_Model_cell_25 ?_
  refine x_if_ne C 45 d_Model_cell_28 rfl (fun h_28 => absurd hb.2.2.1 (z_b_n0.mp h_28)) (fun h_28 => ?_)
  refine x_iload C d_Model_cell_31 rfl ?_
  refine x_iconst C (0) d_Model_cell_33 rfl ?_
  refine x_sipush C (1000) d_Model_cell_34 rfl ?_
  refine x_iload_n C d_Model_cell_37 (i := 3) rfl rfl ?_
  refine x_isub C d_Model_cell_38 ?_
  refine x_callSi C (c_Model_out _ _ _) mt_Model_out rfl rfl (Nat.le_of_ble_eq_true rfl) (Nat.le_of_ble_eq_true rfl) lk_Model_66 d_Model_cell_39 ?_
  refine x_if_eq C 47 d_Model_cell_42 rfl (fun h_42 => ?_) (fun h_42 => absurd hb.2.2.2 (z_b_n0.mp h_42))
  refine x_aload_n C d_Model_cell_47 (i := 0) rfl rfl ?_
  refine x_callVi C (c_Model_told hz hs ht) mt_Model_told zl_Model (zc_Model _) rfl rfl rfl (Nat.le_of_ble_eq_true rfl) (Nat.le_of_ble_eq_true rfl) lk_Model_74 d_Model_cell_48 ?_
  refine x_istore C d_Model_cell_51 rfl ?_
  refine x_aload_n C d_Model_cell_53 (i := 0) rfl rfl ?_
  refine g_Model_held C lk_Model_70 d_Model_cell_54 ?_
  refine x_istore C d_Model_cell_57 rfl ?_
  refine x_aload_n C d_Model_cell_59 (i := 0) rfl rfl ?_
  refine x_iconst C (0) d_Model_cell_60 rfl ?_
  refine u_Model_held C lk_Model_70 d_Model_cell_61 ?_
  refine x_iload C d_Model_cell_64 rfl ?_
  refine x_if_ne C 71 d_Model_cell_66 rfl (fun h_66 => absurd hw h_66) (fun h_66 => ?_)
  refine x_iconst C (-1) d_Model_cell_69 rfl ?_
  exact x_iret C E rfl rfl d_Model_cell_70
theorem lp_Model_cell {dA : Nat → ClassId} {ad : Nat → Nat} {M0 : z_M} {k : z_K} {j : Nat} (hj : j < 6) {sz : Nat} (hz : sz ≤ 8) {de ab fi r5 r0 : Int32} (C : z_C dA ad k b_Model_cell "CellTransportModel" 1 8) (h0 : z_b (¬ M0 62 j = 0) = r0) (E : z_RI dA ad k .int r0 (g_cel M0 j sz de ab fi)) :
    ∀ (n i : Nat) (M : z_M), i + n = sz → g_cp j n i M = g_ce0 M0 j sz → z_X dA ad k 74 [some (.ref (ad 53)), some (.int (nI j)), some (.int de), some (.int ab), some (.int fi), some (.int r5), some (.int (nI sz)), some (.int (nI i))] [] M := by
  intro n
  induction n with
  | zero =>
    intro i M hi hr
    refine x_eqM hr ?_
    refine x_iload C d_Model_cell_74 rfl ?_
    refine x_iload C d_Model_cell_76 rfl ?_
    refine x_icmp_ge C 106 d_Model_cell_78 rfl (fun h_78 => ?_) (fun h_78 => absurd (nI_le (by omega) (by omega)) h_78)
    refine x_aload_n C d_Model_cell_106 (i := 0) rfl rfl ?_
    refine g_Model_tokens C lk_Model_32 d_Model_cell_107 ?_
    refine x_iload_n C d_Model_cell_110 (i := 1) rfl rfl ?_
    refine x_iload C d_Model_cell_111 rfl ?_
    refine rn_st_m_tokens C  hj d_Model_cell_113 ?_
    refine x_aload_n C d_Model_cell_114 (i := 0) rfl rfl ?_
    refine g_Model_density C lk_Model_38 d_Model_cell_115 ?_
    refine x_iload_n C d_Model_cell_118 (i := 1) rfl rfl ?_
    refine x_iload_n C d_Model_cell_119 (i := 2) rfl rfl ?_
    refine rn_st_m_density C  hj d_Model_cell_120 ?_
    refine x_aload_n C d_Model_cell_121 (i := 0) rfl rfl ?_
    refine g_Model_absorbs C lk_Model_41 d_Model_cell_122 ?_
    refine x_iload_n C d_Model_cell_125 (i := 1) rfl rfl ?_
    refine x_iload_n C d_Model_cell_126 (i := 3) rfl rfl ?_
    refine rn_st_m_absorbs C  hj d_Model_cell_127 ?_
    refine x_aload_n C d_Model_cell_128 (i := 0) rfl rfl ?_
    refine g_Model_splits C lk_Model_44 d_Model_cell_129 ?_
    refine x_iload_n C d_Model_cell_132 (i := 1) rfl rfl ?_
    refine x_iload C d_Model_cell_133 rfl ?_
    refine rn_st_m_splits C  hj d_Model_cell_135 ?_
    refine x_eqM (M2 := g_ce1 M0 j sz de ab fi) rfl ?_
    refine x_aload_n C d_Model_cell_136 (i := 0) rfl rfl ?_
    refine g_Model_defined C lk_Model_35 d_Model_cell_137 ?_
    refine x_iload_n C d_Model_cell_140 (i := 1) rfl rfl ?_
    refine rn_ld_m_defined C  hj d_Model_cell_141 ?_
    refine x_eqi (congrFun (g_ce1_62 M0 j sz de ab fi) j) ?_
    refine x_if_eq C 149 d_Model_cell_142 rfl (fun h_142 => ?_) (fun h_142 => ?_)
    · refine x_iconst C (0) d_Model_cell_149 rfl ?_
      refine x_istore C d_Model_cell_150 rfl ?_
      refine x_aload_n C d_Model_cell_152 (i := 0) rfl rfl ?_
      refine g_Model_defined C lk_Model_35 d_Model_cell_153 ?_
      refine x_iload_n C d_Model_cell_156 (i := 1) rfl rfl ?_
      refine x_iconst C (1) d_Model_cell_157 rfl ?_
      refine rn_st_m_defined C  hj rfl d_Model_cell_158 ?_
      refine x_iload C d_Model_cell_159 rfl ?_
      exact x_iret C E (h0 ▸ (z_b_f (fun q => q h_142)).symm) rfl d_Model_cell_161
    · refine x_iconst C (1) d_Model_cell_145 rfl ?_
      refine x_goto C 150 d_Model_cell_146 rfl ?_
      refine x_istore C d_Model_cell_150 rfl ?_
      refine x_aload_n C d_Model_cell_152 (i := 0) rfl rfl ?_
      refine g_Model_defined C lk_Model_35 d_Model_cell_153 ?_
      refine x_iload_n C d_Model_cell_156 (i := 1) rfl rfl ?_
      refine x_iconst C (1) d_Model_cell_157 rfl ?_
      refine rn_st_m_defined C  hj rfl d_Model_cell_158 ?_
      refine x_iload C d_Model_cell_159 rfl ?_
      exact x_iret C E (h0 ▸ (z_b_t h_142).symm) rfl d_Model_cell_161
  | succ n ih =>
    intro i M hi hr
    have hi8 : i < 8 := by omega
    refine x_iload C d_Model_cell_74 rfl ?_
    refine x_iload C d_Model_cell_76 rfl ?_
    refine x_icmp_ge C 106 d_Model_cell_78 rfl (fun h_78 => absurd h_78 (nI_ge (by omega) (by omega))) (fun h_78 => ?_)
    refine x_aload_n C d_Model_cell_81 (i := 0) rfl rfl ?_
    refine g_Model_region C lk_Model_29 d_Model_cell_82 ?_
    refine x_bipush C (nI 8) d_Model_cell_85 rfl ?_
    refine x_iload_n C d_Model_cell_87 (i := 1) rfl rfl ?_
    refine x_imul C d_Model_cell_88 ?_
    refine x_iload C d_Model_cell_89 rfl ?_
    refine x_iadd C d_Model_cell_91 ?_
    refine x_eqi (z_ix 8 j i) ?_
    refine x_aload_n C d_Model_cell_92 (i := 0) rfl rfl ?_
    refine g_Model_buffer C lk_Model_26 d_Model_cell_93 ?_
    refine x_iload C d_Model_cell_96 rfl ?_
    refine rn_ld_m_buffer C  hi8 d_Model_cell_98 ?_
    refine rn_st_m_region C  (show 8 * j + i < 48 by omega) d_Model_cell_99 ?_
    refine x_iinc C (nI (i + 1)) d_Model_cell_100 rfl (z_inc i) rfl ?_
    refine x_goto C 74 d_Model_cell_103 rfl ?_
    exact ih (i + 1) _ (by omega) hr
theorem c_Model_cellY {dA : Nat → ClassId} {ad : Nat → Nat} {M : z_M} {j : Nat} (hj : j < 6) {de ab fi : Int32} {sz : Nat} (hs : M 53 6 = nI sz) (hz : sz ≤ 8) (ht : ∀ t, t < sz → ∃ v, v ≤ 10 ∧ M 59 t = nI v) (hb2 : p_btw de 0 1000 ∧ p_shr ab fi) (hw : ¬ f_wh (M 59) sz 0 0 = 0) : z_CI y_Model_cell b_Model_cell 8 .int 1 dA ad [.ref (ad 53), .int (nI j), .int de, .int ab, .int fi] M (z_b (¬ M 62 j = 0)) (g_cel M j sz de ab fi) := by
  refine z_ofI [some (.ref (ad 53)), some (.int (nI j)), some (.int de), some (.int ab), some (.int fi), none, none, none] (by decide) (Nat.le_of_ble_eq_true rfl) rfl (fun k C E => ?_)
  have C : z_C dA ad k b_Model_cell "CellTransportModel" 1 8 := C
  have hb : p_btw (nI j) 0 5 ∧ p_btw de 0 1000 ∧ p_shr ab fi := ⟨z_in (n := 5) (by omega) (by decide), hb2⟩
  refine x_iload_n C d_Model_cell_0 (i := 1) rfl rfl ?_
  refine x_iconst C (0) d_Model_cell_1 rfl ?_
  refine x_iconst C (5) d_Model_cell_2 rfl ?_
  refine x_callSi C (c_Model_out _ _ _) mt_Model_out rfl rfl (Nat.le_of_ble_eq_true rfl) (Nat.le_of_ble_eq_true rfl) lk_Model_66 d_Model_cell_3 ?_
  refine x_if_ne C 45 d_Model_cell_6 rfl (fun h_6 => absurd hb.1 (z_b_n0.mp h_6)) (fun h_6 => ?_)
  refine x_iload_n C d_Model_cell_9 (i := 2) rfl rfl ?_
  refine x_iconst C (0) d_Model_cell_10 rfl ?_
  refine x_sipush C (1000) d_Model_cell_11 rfl ?_
  refine x_callSi C (c_Model_out _ _ _) mt_Model_out rfl rfl (Nat.le_of_ble_eq_true rfl) (Nat.le_of_ble_eq_true rfl) lk_Model_66 d_Model_cell_14 ?_
  refine x_if_ne C 45 d_Model_cell_17 rfl (fun h_17 => absurd hb.2.1 (z_b_n0.mp h_17)) (fun h_17 => ?_)
  refine x_iload_n C d_Model_cell_20 (i := 3) rfl rfl ?_
  refine x_iconst C (0) d_Model_cell_21 rfl ?_
  refine x_sipush C (1000) d_Model_cell_22 rfl ?_
  refine x_callSi C (c_Model_out _ _ _) mt_Model_out rfl rfl (Nat.le_of_ble_eq_true rfl) (Nat.le_of_ble_eq_true rfl) lk_Model_66 d_Model_cell_25 ?_
  refine x_if_ne C 45 d_Model_cell_28 rfl (fun h_28 => absurd hb.2.2.1 (z_b_n0.mp h_28)) (fun h_28 => ?_)
  refine x_iload C d_Model_cell_31 rfl ?_
  refine x_iconst C (0) d_Model_cell_33 rfl ?_
  refine x_sipush C (1000) d_Model_cell_34 rfl ?_
  refine x_iload_n C d_Model_cell_37 (i := 3) rfl rfl ?_
  refine x_isub C d_Model_cell_38 ?_
  refine x_callSi C (c_Model_out _ _ _) mt_Model_out rfl rfl (Nat.le_of_ble_eq_true rfl) (Nat.le_of_ble_eq_true rfl) lk_Model_66 d_Model_cell_39 ?_
  refine x_if_eq C 47 d_Model_cell_42 rfl (fun h_42 => ?_) (fun h_42 => absurd hb.2.2.2 (z_b_n0.mp h_42))
  refine x_aload_n C d_Model_cell_47 (i := 0) rfl rfl ?_
  refine x_callVi C (c_Model_told hz hs ht) mt_Model_told zl_Model (zc_Model _) rfl rfl rfl (Nat.le_of_ble_eq_true rfl) (Nat.le_of_ble_eq_true rfl) lk_Model_74 d_Model_cell_48 ?_
  refine x_istore C d_Model_cell_51 rfl ?_
  refine x_aload_n C d_Model_cell_53 (i := 0) rfl rfl ?_
  refine g_Model_held C lk_Model_70 d_Model_cell_54 ?_
  refine x_eqi hs ?_
  refine x_istore C d_Model_cell_57 rfl ?_
  refine x_aload_n C d_Model_cell_59 (i := 0) rfl rfl ?_
  refine x_iconst C (0) d_Model_cell_60 rfl ?_
  refine u_Model_held C lk_Model_70 d_Model_cell_61 ?_
  refine x_iload C d_Model_cell_64 rfl ?_
  refine x_if_ne C 71 d_Model_cell_66 rfl (fun h_66 => ?_) (fun h_66 => absurd h_66 hw)
  refine x_iconst C (0) d_Model_cell_71 rfl ?_
  refine x_istore C d_Model_cell_72 rfl ?_
  exact lp_Model_cell hj hz C rfl E sz 0 _ (by omega) rfl
theorem c_Model_undefineN {dA : Nat → ClassId} {ad : Nat → Nat} {M : z_M} {nm : Int32} (hn : ¬ p_btw nm 0 5) : z_CI y_Model_undefine b_Model_undefine 3 .int 1 dA ad [.ref (ad 53), .int nm] M (-1) (M) := by
  refine z_ofI [some (.ref (ad 53)), some (.int nm), none] (by decide) (Nat.le_of_ble_eq_true rfl) rfl (fun k C E => ?_)
  have C : z_C dA ad k b_Model_undefine "CellTransportModel" 1 3 := C
  refine x_iload_n C d_Model_undefine_0 (i := 1) rfl rfl ?_
  refine x_iconst C (0) d_Model_undefine_1 rfl ?_
  refine x_iconst C (5) d_Model_undefine_2 rfl ?_
  refine x_callSi C (c_Model_out _ _ _) mt_Model_out rfl rfl (Nat.le_of_ble_eq_true rfl) (Nat.le_of_ble_eq_true rfl) lk_Model_66 d_Model_undefine_3 ?_
  refine x_if_eq C 11 d_Model_undefine_6 rfl (fun h_6 => ?_) (fun h_6 => ?_)
  · exact absurd (z_out0 h_6) hn
  · refine x_iconst C (-1) d_Model_undefine_9 rfl ?_
    exact x_iret C E rfl rfl d_Model_undefine_10
theorem c_Model_undefineY {dA : Nat → ClassId} {ad : Nat → Nat} {M : z_M} {j : Nat} (hj : j < 6) : z_CI y_Model_undefine b_Model_undefine 3 .int 1 dA ad [.ref (ad 53), .int (nI j)] M (z_b (¬ M 62 j = 0)) (z_sv M 62 j 0) := by
  refine z_ofI [some (.ref (ad 53)), some (.int (nI j)), none] (by decide) (Nat.le_of_ble_eq_true rfl) rfl (fun k C E => ?_)
  have C : z_C dA ad k b_Model_undefine "CellTransportModel" 1 3 := C
  refine x_iload_n C d_Model_undefine_0 (i := 1) rfl rfl ?_
  refine x_iconst C (0) d_Model_undefine_1 rfl ?_
  refine x_iconst C (5) d_Model_undefine_2 rfl ?_
  refine x_callSi C (c_Model_out _ _ _) mt_Model_out rfl rfl (Nat.le_of_ble_eq_true rfl) (Nat.le_of_ble_eq_true rfl) lk_Model_66 d_Model_undefine_3 ?_
  refine x_if_eq C 11 d_Model_undefine_6 rfl (fun h_6 => ?_) (fun h_6 => absurd (z_in (n := 5) (by omega) (by decide)) (z_b_n0.mp h_6))
  refine x_aload_n C d_Model_undefine_11 (i := 0) rfl rfl ?_
  refine g_Model_defined C lk_Model_35 d_Model_undefine_12 ?_
  refine x_iload_n C d_Model_undefine_15 (i := 1) rfl rfl ?_
  refine rn_ld_m_defined C  hj d_Model_undefine_16 ?_
  refine x_if_eq C 24 d_Model_undefine_17 rfl (fun h_17 => ?_) (fun h_17 => ?_)
  · refine x_iconst C (0) d_Model_undefine_24 rfl ?_
    refine x_istore_n C d_Model_undefine_25 (i := 2) rfl rfl ?_
    refine x_aload_n C d_Model_undefine_26 (i := 0) rfl rfl ?_
    refine g_Model_defined C lk_Model_35 d_Model_undefine_27 ?_
    refine x_iload_n C d_Model_undefine_30 (i := 1) rfl rfl ?_
    refine x_iconst C (0) d_Model_undefine_31 rfl ?_
    refine rn_st_m_defined C  hj rfl d_Model_undefine_32 ?_
    refine x_iload_n C d_Model_undefine_33 (i := 2) rfl rfl ?_
    exact x_iret C E (z_b_f (fun q => q h_17)).symm rfl d_Model_undefine_34
  · refine x_iconst C (1) d_Model_undefine_20 rfl ?_
    refine x_goto C 25 d_Model_undefine_21 rfl ?_
    refine x_istore_n C d_Model_undefine_25 (i := 2) rfl rfl ?_
    refine x_aload_n C d_Model_undefine_26 (i := 0) rfl rfl ?_
    refine g_Model_defined C lk_Model_35 d_Model_undefine_27 ?_
    refine x_iload_n C d_Model_undefine_30 (i := 1) rfl rfl ?_
    refine x_iconst C (0) d_Model_undefine_31 rfl ?_
    refine rn_st_m_defined C  hj rfl d_Model_undefine_32 ?_
    refine x_iload_n C d_Model_undefine_33 (i := 2) rfl rfl ?_
    exact x_iret C E (z_b_t h_17).symm rfl d_Model_undefine_34
theorem c_Model_sourceN {dA : Nat → ClassId} {ad : Nat → Nat} {M : z_M} {x y : Int32} (hn : ¬ p_wth x y 300) : z_CI y_Model_source b_Model_source 3 .int 1 dA ad [.ref (ad 53), .int x, .int y] M (-1) (M) := by
  refine z_ofI [some (.ref (ad 53)), some (.int x), some (.int y)] (by decide) (Nat.le_of_ble_eq_true rfl) rfl (fun k C E => ?_)
  have C : z_C dA ad k b_Model_source "CellTransportModel" 1 3 := C
  refine x_iload_n C d_Model_source_0 (i := 1) rfl rfl ?_
  refine x_sipush C (-300) d_Model_source_1 rfl ?_
  refine x_sipush C (300) d_Model_source_4 rfl ?_
  refine x_callSi C (c_Model_out _ _ _) mt_Model_out rfl rfl (Nat.le_of_ble_eq_true rfl) (Nat.le_of_ble_eq_true rfl) lk_Model_66 d_Model_source_7 ?_
  refine x_if_ne C 26 d_Model_source_10 rfl (fun h_10 => ?_) (fun h_10 => ?_)
  · refine x_iconst C (-1) d_Model_source_26 rfl ?_
    exact x_iret C E rfl rfl d_Model_source_27
  · refine x_iload_n C d_Model_source_13 (i := 2) rfl rfl ?_
    refine x_sipush C (-300) d_Model_source_14 rfl ?_
    refine x_sipush C (300) d_Model_source_17 rfl ?_
    refine x_callSi C (c_Model_out _ _ _) mt_Model_out rfl rfl (Nat.le_of_ble_eq_true rfl) (Nat.le_of_ble_eq_true rfl) lk_Model_66 d_Model_source_20 ?_
    refine x_if_eq C 28 d_Model_source_23 rfl (fun h_23 => ?_) (fun h_23 => ?_)
    · exact absurd ⟨z_out0 h_10, z_out0 h_23⟩ hn
    · refine x_iconst C (-1) d_Model_source_26 rfl ?_
      exact x_iret C E rfl rfl d_Model_source_27
theorem c_Model_sourceY {dA : Nat → ClassId} {ad : Nat → Nat} {M : z_M} {x y : Int32} (hp : p_wth x y 300) : z_CI y_Model_source b_Model_source 3 .int 1 dA ad [.ref (ad 53), .int x, .int y] M (0) (z_sv (z_sv M 53 13 x) 53 14 y) := by
  refine z_ofI [some (.ref (ad 53)), some (.int x), some (.int y)] (by decide) (Nat.le_of_ble_eq_true rfl) rfl (fun k C E => ?_)
  have C : z_C dA ad k b_Model_source "CellTransportModel" 1 3 := C
  refine x_iload_n C d_Model_source_0 (i := 1) rfl rfl ?_
  refine x_sipush C (-300) d_Model_source_1 rfl ?_
  refine x_sipush C (300) d_Model_source_4 rfl ?_
  refine x_callSi C (c_Model_out _ _ _) mt_Model_out rfl rfl (Nat.le_of_ble_eq_true rfl) (Nat.le_of_ble_eq_true rfl) lk_Model_66 d_Model_source_7 ?_
  refine x_if_ne C 26 d_Model_source_10 rfl (fun h_10 => absurd hp.1 (z_b_n0.mp h_10)) (fun h_10 => ?_)
  refine x_iload_n C d_Model_source_13 (i := 2) rfl rfl ?_
  refine x_sipush C (-300) d_Model_source_14 rfl ?_
  refine x_sipush C (300) d_Model_source_17 rfl ?_
  refine x_callSi C (c_Model_out _ _ _) mt_Model_out rfl rfl (Nat.le_of_ble_eq_true rfl) (Nat.le_of_ble_eq_true rfl) lk_Model_66 d_Model_source_20 ?_
  refine x_if_eq C 28 d_Model_source_23 rfl (fun h_23 => ?_) (fun h_23 => absurd hp.2 (z_b_n0.mp h_23))
  refine x_aload_n C d_Model_source_28 (i := 0) rfl rfl ?_
  refine x_iload_n C d_Model_source_29 (i := 1) rfl rfl ?_
  refine u_Model_sourceX C lk_Model_78 d_Model_source_30 ?_
  refine x_aload_n C d_Model_source_33 (i := 0) rfl rfl ?_
  refine x_iload_n C d_Model_source_34 (i := 2) rfl rfl ?_
  refine u_Model_sourceY C lk_Model_81 d_Model_source_35 ?_
  refine x_iconst C (0) d_Model_source_38 rfl ?_
  exact x_iret C E rfl rfl d_Model_source_39
theorem c_Model_tallyN {dA : Nat → ClassId} {ad : Nat → Nat} {M : z_M} {a b : Int32} (hn : ¬ (p_btw a 0 5 ∧ p_btw b 0 3)) : z_CI y_Model_tally b_Model_tally 3 .int 1 dA ad [.ref (ad 53), .int a, .int b] M (-1) (M) := by
  refine z_ofI [some (.ref (ad 53)), some (.int a), some (.int b)] (by decide) (Nat.le_of_ble_eq_true rfl) rfl (fun k C E => ?_)
  have C : z_C dA ad k b_Model_tally "CellTransportModel" 1 3 := C
  refine x_iload_n C d_Model_tally_0 (i := 1) rfl rfl ?_
  refine x_iconst C (0) d_Model_tally_1 rfl ?_
  refine x_iconst C (5) d_Model_tally_2 rfl ?_
  refine x_callSi C (c_Model_out _ _ _) mt_Model_out rfl rfl (Nat.le_of_ble_eq_true rfl) (Nat.le_of_ble_eq_true rfl) lk_Model_66 d_Model_tally_3 ?_
  refine x_if_ne C 18 d_Model_tally_6 rfl (fun h_6 => ?_) (fun h_6 => ?_)
  · refine x_iconst C (-1) d_Model_tally_18 rfl ?_
    refine x_goto C 32 d_Model_tally_19 rfl ?_
    exact x_iret C E rfl rfl d_Model_tally_32
  · refine x_iload_n C d_Model_tally_9 (i := 2) rfl rfl ?_
    refine x_iconst C (0) d_Model_tally_10 rfl ?_
    refine x_iconst C (3) d_Model_tally_11 rfl ?_
    refine x_callSi C (c_Model_out _ _ _) mt_Model_out rfl rfl (Nat.le_of_ble_eq_true rfl) (Nat.le_of_ble_eq_true rfl) lk_Model_66 d_Model_tally_12 ?_
    refine x_if_eq C 22 d_Model_tally_15 rfl (fun h_15 => ?_) (fun h_15 => ?_)
    · exact absurd ⟨z_out0 h_6, z_out0 h_15⟩ hn
    · refine x_iconst C (-1) d_Model_tally_18 rfl ?_
      refine x_goto C 32 d_Model_tally_19 rfl ?_
      exact x_iret C E rfl rfl d_Model_tally_32
theorem c_Model_tallyY {dA : Nat → ClassId} {ad : Nat → Nat} {M : z_M} {i q : Nat} (hi : i < 6) (hq : q < 4) : z_CI y_Model_tally b_Model_tally 3 .int 1 dA ad [.ref (ad 53), .int (nI i), .int (nI q)] M (M 66 (4 * i + q)) (M) := by
  refine z_ofI [some (.ref (ad 53)), some (.int (nI i)), some (.int (nI q))] (by decide) (Nat.le_of_ble_eq_true rfl) rfl (fun k C E => ?_)
  have C : z_C dA ad k b_Model_tally "CellTransportModel" 1 3 := C
  refine x_iload_n C d_Model_tally_0 (i := 1) rfl rfl ?_
  refine x_iconst C (0) d_Model_tally_1 rfl ?_
  refine x_iconst C (5) d_Model_tally_2 rfl ?_
  refine x_callSi C (c_Model_out _ _ _) mt_Model_out rfl rfl (Nat.le_of_ble_eq_true rfl) (Nat.le_of_ble_eq_true rfl) lk_Model_66 d_Model_tally_3 ?_
  refine x_if_ne C 18 d_Model_tally_6 rfl (fun h_6 => absurd (z_in (n := 5) (by omega) (by decide)) (z_b_n0.mp h_6)) (fun h_6 => ?_)
  refine x_iload_n C d_Model_tally_9 (i := 2) rfl rfl ?_
  refine x_iconst C (0) d_Model_tally_10 rfl ?_
  refine x_iconst C (3) d_Model_tally_11 rfl ?_
  refine x_callSi C (c_Model_out _ _ _) mt_Model_out rfl rfl (Nat.le_of_ble_eq_true rfl) (Nat.le_of_ble_eq_true rfl) lk_Model_66 d_Model_tally_12 ?_
  refine x_if_eq C 22 d_Model_tally_15 rfl (fun h_15 => ?_) (fun h_15 => absurd (z_in (n := 3) (by omega) (by decide)) (z_b_n0.mp h_15))
  refine x_aload_n C d_Model_tally_22 (i := 0) rfl rfl ?_
  refine g_Model_tallies C lk_Model_51 d_Model_tally_23 ?_
  refine x_iconst C (nI 4) d_Model_tally_26 rfl ?_
  refine x_iload_n C d_Model_tally_27 (i := 1) rfl rfl ?_
  refine x_imul C d_Model_tally_28 ?_
  refine x_iload_n C d_Model_tally_29 (i := 2) rfl rfl ?_
  refine x_iadd C d_Model_tally_30 ?_
  refine x_eqi (z_ix 4 i q) ?_
  refine rn_ld_m_tallies C  (show 4 * i + q < 24 by omega) d_Model_tally_31 ?_
  exact x_iret C E rfl rfl d_Model_tally_32
theorem c_Model_crossedN {dA : Nat → ClassId} {ad : Nat → Nat} {M : z_M} {a b : Int32} (hn : ¬ (p_btw a 0 5 ∧ p_btw b 0 5)) : z_CI y_Model_crossed b_Model_crossed 3 .int 1 dA ad [.ref (ad 53), .int a, .int b] M (-1) (M) := by
  refine z_ofI [some (.ref (ad 53)), some (.int a), some (.int b)] (by decide) (Nat.le_of_ble_eq_true rfl) rfl (fun k C E => ?_)
  have C : z_C dA ad k b_Model_crossed "CellTransportModel" 1 3 := C
  refine x_iload_n C d_Model_crossed_0 (i := 1) rfl rfl ?_
  refine x_iconst C (0) d_Model_crossed_1 rfl ?_
  refine x_iconst C (5) d_Model_crossed_2 rfl ?_
  refine x_callSi C (c_Model_out _ _ _) mt_Model_out rfl rfl (Nat.le_of_ble_eq_true rfl) (Nat.le_of_ble_eq_true rfl) lk_Model_66 d_Model_crossed_3 ?_
  refine x_if_ne C 18 d_Model_crossed_6 rfl (fun h_6 => ?_) (fun h_6 => ?_)
  · refine x_iconst C (-1) d_Model_crossed_18 rfl ?_
    refine x_goto C 33 d_Model_crossed_19 rfl ?_
    exact x_iret C E rfl rfl d_Model_crossed_33
  · refine x_iload_n C d_Model_crossed_9 (i := 2) rfl rfl ?_
    refine x_iconst C (0) d_Model_crossed_10 rfl ?_
    refine x_iconst C (5) d_Model_crossed_11 rfl ?_
    refine x_callSi C (c_Model_out _ _ _) mt_Model_out rfl rfl (Nat.le_of_ble_eq_true rfl) (Nat.le_of_ble_eq_true rfl) lk_Model_66 d_Model_crossed_12 ?_
    refine x_if_eq C 22 d_Model_crossed_15 rfl (fun h_15 => ?_) (fun h_15 => ?_)
    · exact absurd ⟨z_out0 h_6, z_out0 h_15⟩ hn
    · refine x_iconst C (-1) d_Model_crossed_18 rfl ?_
      refine x_goto C 33 d_Model_crossed_19 rfl ?_
      exact x_iret C E rfl rfl d_Model_crossed_33
theorem c_Model_crossedY {dA : Nat → ClassId} {ad : Nat → Nat} {M : z_M} {i q : Nat} (hi : i < 6) (hq : q < 6) : z_CI y_Model_crossed b_Model_crossed 3 .int 1 dA ad [.ref (ad 53), .int (nI i), .int (nI q)] M (M 67 (6 * i + q)) (M) := by
  refine z_ofI [some (.ref (ad 53)), some (.int (nI i)), some (.int (nI q))] (by decide) (Nat.le_of_ble_eq_true rfl) rfl (fun k C E => ?_)
  have C : z_C dA ad k b_Model_crossed "CellTransportModel" 1 3 := C
  refine x_iload_n C d_Model_crossed_0 (i := 1) rfl rfl ?_
  refine x_iconst C (0) d_Model_crossed_1 rfl ?_
  refine x_iconst C (5) d_Model_crossed_2 rfl ?_
  refine x_callSi C (c_Model_out _ _ _) mt_Model_out rfl rfl (Nat.le_of_ble_eq_true rfl) (Nat.le_of_ble_eq_true rfl) lk_Model_66 d_Model_crossed_3 ?_
  refine x_if_ne C 18 d_Model_crossed_6 rfl (fun h_6 => absurd (z_in (n := 5) (by omega) (by decide)) (z_b_n0.mp h_6)) (fun h_6 => ?_)
  refine x_iload_n C d_Model_crossed_9 (i := 2) rfl rfl ?_
  refine x_iconst C (0) d_Model_crossed_10 rfl ?_
  refine x_iconst C (5) d_Model_crossed_11 rfl ?_
  refine x_callSi C (c_Model_out _ _ _) mt_Model_out rfl rfl (Nat.le_of_ble_eq_true rfl) (Nat.le_of_ble_eq_true rfl) lk_Model_66 d_Model_crossed_12 ?_
  refine x_if_eq C 22 d_Model_crossed_15 rfl (fun h_15 => ?_) (fun h_15 => absurd (z_in (n := 5) (by omega) (by decide)) (z_b_n0.mp h_15))
  refine x_aload_n C d_Model_crossed_22 (i := 0) rfl rfl ?_
  refine g_Model_crossings C lk_Model_54 d_Model_crossed_23 ?_
  refine x_bipush C (nI 6) d_Model_crossed_26 rfl ?_
  refine x_iload_n C d_Model_crossed_28 (i := 1) rfl rfl ?_
  refine x_imul C d_Model_crossed_29 ?_
  refine x_iload_n C d_Model_crossed_30 (i := 2) rfl rfl ?_
  refine x_iadd C d_Model_crossed_31 ?_
  refine x_eqi (z_ix 6 i q) ?_
  refine rn_ld_m_crossings C  (show 6 * i + q < 36 by omega) d_Model_crossed_32 ?_
  exact x_iret C E rfl rfl d_Model_crossed_33
theorem c_Model_countN {dA : Nat → ClassId} {ad : Nat → Nat} {M : z_M} {a : Int32} (hn : ¬ p_btw a 0 6) : z_CI y_Model_count b_Model_count 4 .int 1 dA ad [.ref (ad 53), .int a] M (-1) (M) := by
  refine z_ofI [some (.ref (ad 53)), some (.int a), none, none] (by decide) (Nat.le_of_ble_eq_true rfl) rfl (fun k C E => ?_)
  have C : z_C dA ad k b_Model_count "CellTransportModel" 1 4 := C
  refine x_iload_n C d_Model_count_0 (i := 1) rfl rfl ?_
  refine x_iconst C (0) d_Model_count_1 rfl ?_
  refine x_bipush C (6) d_Model_count_2 rfl ?_
  refine x_callSi C (c_Model_out _ _ _) mt_Model_out rfl rfl (Nat.le_of_ble_eq_true rfl) (Nat.le_of_ble_eq_true rfl) lk_Model_66 d_Model_count_4 ?_
  refine x_if_eq C 12 d_Model_count_7 rfl (fun h_7 => ?_) (fun h_7 => ?_)
  · exact absurd (z_out0 h_7) hn
  · refine x_iconst C (-1) d_Model_count_10 rfl ?_
    exact x_iret C E rfl rfl d_Model_count_11
theorem c_Model_countT {dA : Nat → ClassId} {ad : Nat → Nat} {M : z_M} {q : Nat} (hq : q < 5) : z_CI y_Model_count b_Model_count 4 .int 1 dA ad [.ref (ad 53), .int (nI q)] M (M 68 q) (M) := by
  refine z_ofI [some (.ref (ad 53)), some (.int (nI q)), none, none] (by decide) (Nat.le_of_ble_eq_true rfl) rfl (fun k C E => ?_)
  have C : z_C dA ad k b_Model_count "CellTransportModel" 1 4 := C
  refine x_iload_n C d_Model_count_0 (i := 1) rfl rfl ?_
  refine x_iconst C (0) d_Model_count_1 rfl ?_
  refine x_bipush C (6) d_Model_count_2 rfl ?_
  refine x_callSi C (c_Model_out _ _ _) mt_Model_out rfl rfl (Nat.le_of_ble_eq_true rfl) (Nat.le_of_ble_eq_true rfl) lk_Model_66 d_Model_count_4 ?_
  refine x_if_eq C 12 d_Model_count_7 rfl (fun h_7 => ?_) (fun h_7 => absurd (z_in (n := 6) (by omega) (by decide)) (z_b_n0.mp h_7))
  refine x_iload_n C d_Model_count_12 (i := 1) rfl rfl ?_
  refine x_iconst C (5) d_Model_count_13 rfl ?_
  refine x_icmp_ge C 24 d_Model_count_14 rfl (fun h_14 => absurd (show nI 5 ≤ nI q from h_14) (nI_ge hq (by decide))) (fun h_14 => ?_)
  refine x_aload_n C d_Model_count_17 (i := 0) rfl rfl ?_
  refine g_Model_counts C lk_Model_57 d_Model_count_18 ?_
  refine x_iload_n C d_Model_count_21 (i := 1) rfl rfl ?_
  refine rn_ld_m_counts C  hq d_Model_count_22 ?_
  exact x_iret C E rfl rfl d_Model_count_23
theorem c_Model_count5 {dA : Nat → ClassId} {ad : Nat → Nat} {M : z_M}  : z_CI y_Model_count b_Model_count 4 .int 1 dA ad [.ref (ad 53), .int 5] M (M 53 6) (M) := by
  refine z_ofI [some (.ref (ad 53)), some (.int 5), none, none] (by decide) (Nat.le_of_ble_eq_true rfl) rfl (fun k C E => ?_)
  have C : z_C dA ad k b_Model_count "CellTransportModel" 1 4 := C
  refine x_iload_n C d_Model_count_0 (i := 1) rfl rfl ?_
  refine x_iconst C (0) d_Model_count_1 rfl ?_
  refine x_bipush C (6) d_Model_count_2 rfl ?_
  refine x_callSi C (c_Model_out _ _ _) mt_Model_out rfl rfl (Nat.le_of_ble_eq_true rfl) (Nat.le_of_ble_eq_true rfl) lk_Model_66 d_Model_count_4 ?_
  refine x_if_eq C 12 d_Model_count_7 rfl (fun h_7 => ?_) (fun h_7 => absurd (by decide : p_btw 5 0 6) (z_b_n0.mp h_7))
  refine x_iload_n C d_Model_count_12 (i := 1) rfl rfl ?_
  refine x_iconst C (5) d_Model_count_13 rfl ?_
  refine x_icmp_ge C 24 d_Model_count_14 rfl (fun h_14 => ?_) (fun h_14 => absurd (by decide : (5 : Int32) ≤ 5) h_14)
  refine x_iload_n C d_Model_count_24 (i := 1) rfl rfl ?_
  refine x_iconst C (5) d_Model_count_25 rfl ?_
  refine x_icmp_ne C 34 d_Model_count_26 rfl (fun h_26 => absurd rfl h_26) (fun h_26 => ?_)
  refine x_aload_n C d_Model_count_29 (i := 0) rfl rfl ?_
  refine g_Model_held C lk_Model_70 d_Model_count_30 ?_
  exact x_iret C E rfl rfl d_Model_count_33
theorem lp_Model_count {dA : Nat → ClassId} {ad : Nat → Nat} {M : z_M} {k : z_K} {r0 : Int32} (C : z_C dA ad k b_Model_count "CellTransportModel" 1 4) (E : z_RI dA ad k .int r0 M) :
    ∀ (n i : Nat) (a : Int32), i + n = 6 → f_dc (z_V M) n i a = r0 → z_X dA ad k 38 [some (.ref (ad 53)), some (.int 6), some (.int a), some (.int (nI i))] [] M := by
  intro n
  induction n with
  | zero =>
    intro i a hi hr
    refine x_iload_n C d_Model_count_38 (i := 3) rfl rfl ?_
    refine x_bipush C (6) d_Model_count_39 rfl ?_
    refine x_icmp_ge C 62 d_Model_count_41 rfl (fun h_41 => ?_) (fun h_41 => absurd (show (6 : Int32) ≤ nI i from nI_le (a := 6) (by omega) (by omega)) h_41)
    refine x_iload_n C d_Model_count_62 (i := 2) rfl rfl ?_
    exact x_iret C E hr rfl d_Model_count_63
  | succ n ih =>
    intro i a hi hr
    have hi6 : i < 6 := by omega
    have ev : z_V M (i_cell i) 1 = M 62 i := z_V_at (z_m_cell hi6).1
    refine x_iload_n C d_Model_count_38 (i := 3) rfl rfl ?_
    refine x_bipush C (6) d_Model_count_39 rfl ?_
    refine x_icmp_ge C 62 d_Model_count_41 rfl (fun h_41 => absurd (show nI 6 ≤ nI i from h_41) (nI_ge (by omega) (by decide))) (fun h_41 => ?_)
    refine x_aload_n C d_Model_count_44 (i := 0) rfl rfl ?_
    refine g_Model_defined C lk_Model_35 d_Model_count_45 ?_
    refine x_iload_n C d_Model_count_48 (i := 3) rfl rfl ?_
    refine rn_ld_m_defined C  hi6 d_Model_count_49 ?_
    refine x_if_eq C 56 d_Model_count_50 rfl (fun h_50 => ?_) (fun h_50 => ?_)
    · refine x_iinc C (nI (i + 1)) d_Model_count_56 rfl (z_inc i) rfl ?_
      refine x_goto C 38 d_Model_count_59 rfl ?_
      exact ih (i + 1) a (by omega) (by rw [← hr]; show _ = f_dc (z_V M) n (i + 1) (a + z_b (¬ z_V M (i_cell i) 1 = 0)); rw [show a + z_b (¬ z_V M (i_cell i) 1 = 0) = a from (by rw [ev, z_b_f (fun q => q h_50)]; exact Int32.add_zero a)])
    · refine x_iinc C _ d_Model_count_53 rfl rfl rfl ?_
      refine x_iinc C (nI (i + 1)) d_Model_count_56 rfl (z_inc i) rfl ?_
      refine x_goto C 38 d_Model_count_59 rfl ?_
      exact ih (i + 1) _ (by omega) (by rw [← hr]; show _ = f_dc (z_V M) n (i + 1) (a + z_b (¬ z_V M (i_cell i) 1 = 0)); rw [show a + z_b (¬ z_V M (i_cell i) 1 = 0) = a + Int32.ofInt 1 from (by rw [ev, z_b_t h_50]; rfl)])
theorem c_Model_count6 {dA : Nat → ClassId} {ad : Nat → Nat} {M : z_M}  : z_CI y_Model_count b_Model_count 4 .int 1 dA ad [.ref (ad 53), .int 6] M (f_dc (z_V M) 6 0 0) (M) := by
  refine z_ofI [some (.ref (ad 53)), some (.int 6), none, none] (by decide) (Nat.le_of_ble_eq_true rfl) rfl (fun k C E => ?_)
  have C : z_C dA ad k b_Model_count "CellTransportModel" 1 4 := C
  refine x_iload_n C d_Model_count_0 (i := 1) rfl rfl ?_
  refine x_iconst C (0) d_Model_count_1 rfl ?_
  refine x_bipush C (6) d_Model_count_2 rfl ?_
  refine x_callSi C (c_Model_out _ _ _) mt_Model_out rfl rfl (Nat.le_of_ble_eq_true rfl) (Nat.le_of_ble_eq_true rfl) lk_Model_66 d_Model_count_4 ?_
  refine x_if_eq C 12 d_Model_count_7 rfl (fun h_7 => ?_) (fun h_7 => absurd (by decide : p_btw 6 0 6) (z_b_n0.mp h_7))
  refine x_iload_n C d_Model_count_12 (i := 1) rfl rfl ?_
  refine x_iconst C (5) d_Model_count_13 rfl ?_
  refine x_icmp_ge C 24 d_Model_count_14 rfl (fun h_14 => ?_) (fun h_14 => absurd (by decide : (5 : Int32) ≤ 6) h_14)
  refine x_iload_n C d_Model_count_24 (i := 1) rfl rfl ?_
  refine x_iconst C (5) d_Model_count_25 rfl ?_
  refine x_icmp_ne C 34 d_Model_count_26 rfl (fun h_26 => ?_) (fun h_26 => absurd h_26 (by decide))
  refine x_iconst C (0) d_Model_count_34 rfl ?_
  refine x_istore_n C d_Model_count_35 (i := 2) rfl rfl ?_
  refine x_iconst C (0) d_Model_count_36 rfl ?_
  refine x_istore_n C d_Model_count_37 (i := 3) rfl rfl ?_
  exact lp_Model_count C E 6 0 0 (by omega) rfl
theorem lp_Model_clear2 {dA : Nat → ClassId} {ad : Nat → Nat} {M : z_M} {k : z_K} (C : z_C dA ad k b_Model_clear "CellTransportModel" 0 2)
    (kk : ∀ x : Int32, z_X dA ad k 21 [some (.ref (ad 53)), some (.int x)] [] (f_fl M 66 24 0)) :
    ∀ (n i : Nat), i + n = 24 → z_X dA ad k 2 [some (.ref (ad 53)), some (.int (nI i))] [] (f_fl M 66 i 0) := by
  intro n
  induction n with
  | zero =>
    intro i hi
    refine x_iload_n C d_Model_clear_2 (i := 1) rfl rfl ?_
    refine x_bipush C (24) d_Model_clear_3 rfl ?_
    refine x_icmp_ge C 21 d_Model_clear_5 rfl (fun h_5 => ?_) (fun h_5 => absurd (show (24 : Int32) ≤ nI i from nI_le (a := 24) (by omega) (by omega)) h_5)
    rw [show i = 24 by omega]
    exact kk _
  | succ n ih =>
    intro i hi
    refine x_iload_n C d_Model_clear_2 (i := 1) rfl rfl ?_
    refine x_bipush C (24) d_Model_clear_3 rfl ?_
    refine x_icmp_ge C 21 d_Model_clear_5 rfl (fun h_5 => absurd (show nI 24 ≤ nI i from h_5) (nI_ge (by omega) (by decide))) (fun h_5 => ?_)
    refine x_aload_n C d_Model_clear_8 (i := 0) rfl rfl ?_
    refine g_Model_tallies C lk_Model_51 d_Model_clear_9 ?_
    refine x_iload_n C d_Model_clear_12 (i := 1) rfl rfl ?_
    refine x_iconst C (0) d_Model_clear_13 rfl ?_
    refine rn_st_m_tallies C  (show i < 24 by omega) d_Model_clear_14 ?_
    refine x_eqM (f_fl_step M 66 i 0) ?_
    refine x_iinc C (nI (i + 1)) d_Model_clear_15 rfl (z_inc i) rfl ?_
    refine x_goto C 2 d_Model_clear_18 rfl ?_
    exact ih (i + 1) (by omega)
theorem lp_Model_clear23 {dA : Nat → ClassId} {ad : Nat → Nat} {M : z_M} {k : z_K} (C : z_C dA ad k b_Model_clear "CellTransportModel" 0 2)
    (kk : ∀ x : Int32, z_X dA ad k 42 [some (.ref (ad 53)), some (.int x)] [] (f_fl M 67 36 0)) :
    ∀ (n i : Nat), i + n = 36 → z_X dA ad k 23 [some (.ref (ad 53)), some (.int (nI i))] [] (f_fl M 67 i 0) := by
  intro n
  induction n with
  | zero =>
    intro i hi
    refine x_iload_n C d_Model_clear_23 (i := 1) rfl rfl ?_
    refine x_bipush C (36) d_Model_clear_24 rfl ?_
    refine x_icmp_ge C 42 d_Model_clear_26 rfl (fun h_26 => ?_) (fun h_26 => absurd (show (36 : Int32) ≤ nI i from nI_le (a := 36) (by omega) (by omega)) h_26)
    rw [show i = 36 by omega]
    exact kk _
  | succ n ih =>
    intro i hi
    refine x_iload_n C d_Model_clear_23 (i := 1) rfl rfl ?_
    refine x_bipush C (36) d_Model_clear_24 rfl ?_
    refine x_icmp_ge C 42 d_Model_clear_26 rfl (fun h_26 => absurd (show nI 36 ≤ nI i from h_26) (nI_ge (by omega) (by decide))) (fun h_26 => ?_)
    refine x_aload_n C d_Model_clear_29 (i := 0) rfl rfl ?_
    refine g_Model_crossings C lk_Model_54 d_Model_clear_30 ?_
    refine x_iload_n C d_Model_clear_33 (i := 1) rfl rfl ?_
    refine x_iconst C (0) d_Model_clear_34 rfl ?_
    refine rn_st_m_crossings C  (show i < 36 by omega) d_Model_clear_35 ?_
    refine x_eqM (f_fl_step M 67 i 0) ?_
    refine x_iinc C (nI (i + 1)) d_Model_clear_36 rfl (z_inc i) rfl ?_
    refine x_goto C 23 d_Model_clear_39 rfl ?_
    exact ih (i + 1) (by omega)
theorem lp_Model_clear44 {dA : Nat → ClassId} {ad : Nat → Nat} {M : z_M} {k : z_K} (C : z_C dA ad k b_Model_clear "CellTransportModel" 0 2)
    (kk : ∀ x : Int32, z_X dA ad k 62 [some (.ref (ad 53)), some (.int x)] [] (f_fl M 68 5 0)) :
    ∀ (n i : Nat), i + n = 5 → z_X dA ad k 44 [some (.ref (ad 53)), some (.int (nI i))] [] (f_fl M 68 i 0) := by
  intro n
  induction n with
  | zero =>
    intro i hi
    refine x_iload_n C d_Model_clear_44 (i := 1) rfl rfl ?_
    refine x_iconst C (5) d_Model_clear_45 rfl ?_
    refine x_icmp_ge C 62 d_Model_clear_46 rfl (fun h_46 => ?_) (fun h_46 => absurd (show (5 : Int32) ≤ nI i from nI_le (a := 5) (by omega) (by omega)) h_46)
    rw [show i = 5 by omega]
    exact kk _
  | succ n ih =>
    intro i hi
    refine x_iload_n C d_Model_clear_44 (i := 1) rfl rfl ?_
    refine x_iconst C (5) d_Model_clear_45 rfl ?_
    refine x_icmp_ge C 62 d_Model_clear_46 rfl (fun h_46 => absurd (show nI 5 ≤ nI i from h_46) (nI_ge (by omega) (by decide))) (fun h_46 => ?_)
    refine x_aload_n C d_Model_clear_49 (i := 0) rfl rfl ?_
    refine g_Model_counts C lk_Model_57 d_Model_clear_50 ?_
    refine x_iload_n C d_Model_clear_53 (i := 1) rfl rfl ?_
    refine x_iconst C (0) d_Model_clear_54 rfl ?_
    refine rn_st_m_counts C  (show i < 5 by omega) d_Model_clear_55 ?_
    refine x_eqM (f_fl_step M 68 i 0) ?_
    refine x_iinc C (nI (i + 1)) d_Model_clear_56 rfl (z_inc i) rfl ?_
    refine x_goto C 44 d_Model_clear_59 rfl ?_
    exact ih (i + 1) (by omega)
theorem c_Model_clear {dA : Nat → ClassId} {ad : Nat → Nat} {M : z_M}  : z_CV y_Model_clear b_Model_clear 2 0 dA ad [.ref (ad 53)] M (f_fl (f_fl (f_fl M 66 24 0) 67 36 0) 68 5 0) := by
  refine z_ofV [some (.ref (ad 53)), none] (by decide) (Nat.le_of_ble_eq_true rfl) rfl (fun k C E => ?_)
  have C : z_C dA ad k b_Model_clear "CellTransportModel" 0 2 := C
  refine x_iconst C (0) d_Model_clear_0 rfl ?_
  refine x_istore_n C d_Model_clear_1 (i := 1) rfl rfl ?_
  refine x_eqM (f_fl_0 M 66 0).symm ?_
  refine lp_Model_clear2 C (fun x => ?_) 24 0 (by omega)
  refine x_iconst C (0) d_Model_clear_21 rfl ?_
  refine x_istore_n C d_Model_clear_22 (i := 1) rfl rfl ?_
  refine x_eqM (f_fl_0 (f_fl M 66 24 0) 67 0).symm ?_
  refine lp_Model_clear23 C (fun x => ?_) 36 0 (by omega)
  refine x_iconst C (0) d_Model_clear_42 rfl ?_
  refine x_istore_n C d_Model_clear_43 (i := 1) rfl rfl ?_
  refine x_eqM (f_fl_0 (f_fl (f_fl M 66 24 0) 67 36 0) 68 0).symm ?_
  refine lp_Model_clear44 C (fun x => ?_) 5 0 (by omega)
  exact x_vret C E rfl d_Model_clear_62
