theorem z_1ne : ¬ (1 : Int32) = 0 := by decide
def z_GJ (M : z_M) (d : Nat) : Prop := (∀ r, r < 6 → z_okR (z_V M) r) ∧ z_GN M ∧ z_LD M d
theorem z_GJ.sv {M : z_M} {d : Nat} (h : z_GJ M d) {k j : Nat} (hk : (k = 53 ∧ j ≠ 15 ∧ j ≠ 21 ∧ j ≠ 22) ∨ 66 ≤ k) (v : Int32) : z_GJ (z_sv M k j v) d := by
  refine ⟨z_okV_kq (z_kq.rf.sv (by omega) j v) h.1, ?_, ?_⟩
  · obtain ⟨g, h1, h2⟩ := h.2.1
    exact ⟨g, h1, (z_sv_get _ _ _ _ _ _ (by omega)).trans h2⟩
  · exact h.2.2.eq (z_sv_get _ _ _ _ _ _ (by omega)) (z_sv_get _ _ _ _ _ _ (by omega))
theorem z_GJ.dr {M : z_M} {d : Nat} (h : z_GJ M d) : z_GJ (g_dr M) d := ⟨z_okV_kq (g_dr_kq z_kq.rf) h.1, g_dr_GN M, h.2.2.eq (z_sv_get _ _ _ _ _ _ (Or.inr (by decide))) (z_sv_get _ _ _ _ _ _ (Or.inr (by decide)))⟩
theorem z_GJ.turn {M : z_M} {d : Nat} (h : z_GJ M d) : z_GJ (g_turn M) d := ((h.dr.sv (Or.inl ⟨rfl, by decide, by decide, by decide⟩) _).dr).sv (Or.inl ⟨rfl, by decide, by decide, by decide⟩) _
theorem z_GJ.j1 {M : z_M} {d : Nat} (h : z_GJ M d) : z_GJ (g_j1 M) d := by
  refine ⟨z_okV_kq (g_j1_kq z_kq.rf) h.1, ?_, g_j1_LD h.2.2⟩
  obtain ⟨g, h1, h2⟩ := h.2.1
  exact ⟨g, h1, (g_j1_at M (by decide) (by decide)).trans h2⟩
theorem z_GJx {M2 M3 : z_M} {d : Nat} (e : M3 = M2) (h : z_GJ M2 d) : z_GJ M3 d := by rw [e]; exact h
theorem z_kqx {M0 M2 M3 : z_M} (e : M3 = M2) (h : z_kq M0 M2) : z_kq M0 M3 := by rw [e]; exact h
def g_ca1 (M : z_M) (c : Nat) : z_M := z_sv M 66 (4 * c + 1) (M 66 (4 * c + 1) + 1)
def g_cb (M : z_M) (c : Nat) : z_M := g_dr (g_ca1 M c)
def g_cr (M : z_M) (c : Nat) : Int32 := z_rm (f_nx (g_ca1 M c 53 15) / 256) (nI 1000)
def g_spl (M : z_M) : z_M := g_j1 (g_j1 M)
def g_c3 (M : z_M) (c : Nat) : z_M := z_sv (g_cb M c) 66 (4 * c + 3) (g_cb M c 66 (4 * c + 3) + 1)
def g_c2 (M : z_M) (c : Nat) : z_M := z_sv (g_cb M c) 66 (4 * c + 2) (g_cb M c 66 (4 * c + 2) + 1)
def g_col (M : z_M) (c : Nat) : Int32 × z_M := if g_cb M c 64 c ≤ g_cr M c then (if g_cb M c 64 c + g_cb M c 65 c ≤ g_cr M c then (1, g_turn (g_cb M c)) else (0, g_spl (g_c3 M c))) else (0, g_c2 M c)
theorem g_col_cases (M : z_M) (c : Nat) : g_col M c = (1, g_turn (g_cb M c)) ∨ g_col M c = (0, g_spl (g_c3 M c)) ∨ g_col M c = (0, g_c2 M c) := by
  by_cases h1 : g_cb M c 64 c ≤ g_cr M c
  · by_cases h2 : g_cb M c 64 c + g_cb M c 65 c ≤ g_cr M c
    · exact Or.inl (by rw [g_col, if_pos h1, if_pos h2])
    · exact Or.inr (Or.inl (by rw [g_col, if_pos h1, if_neg h2]))
  · exact Or.inr (Or.inr (by rw [g_col, if_neg h1]))
theorem g_cb_GJ {M : z_M} {d : Nat} (h : z_GJ M d) (c : Nat) : z_GJ (g_cb M c) d := (h.sv (Or.inr (by decide)) _).dr
theorem g_col_GJ {M : z_M} {d : Nat} (h : z_GJ M d) (c : Nat) : z_GJ (g_col M c).2 d := by
  have hb := g_cb_GJ h c
  rcases g_col_cases M c with e | e | e
  · exact z_GJx (congrArg Prod.snd e) hb.turn
  · exact z_GJx (congrArg Prod.snd e) (hb.sv (k := 66) (Or.inr (by decide)) _).j1.j1
  · exact z_GJx (congrArg Prod.snd e) (hb.sv (k := 66) (Or.inr (by decide)) _)
theorem g_cb_kq {M0 M : z_M} (h : z_kq M0 M) (c : Nat) : z_kq M0 (g_cb M c) := g_dr_kq (h.sv (Or.inr (by decide)) _ _)
theorem g_col_kq {M0 M : z_M} (h : z_kq M0 M) (c : Nat) : z_kq M0 (g_col M c).2 := by
  have hb := g_cb_kq h c
  rcases g_col_cases M c with e | e | e
  · exact z_kqx (congrArg Prod.snd e) (g_turn_kq hb)
  · exact z_kqx (congrArg Prod.snd e) (g_j1_kq (g_j1_kq (hb.sv (k := 66) (Or.inr (by decide)) _ _)))
  · exact z_kqx (congrArg Prod.snd e) (hb.sv (k := 66) (Or.inr (by decide)) _ _)
theorem g_turn_dir (M : z_M) : ∃ dd : Nat, dd < 8 ∧ g_turn M 53 25 = nI dd := by
  obtain ⟨n, hn, e⟩ := f_nx_rm (M 53 15) (k := 8) (by decide) (by decide)
  refine ⟨n, hn, ?_⟩
  unfold g_turn g_t1 g_dr
  rw [z_sv_get _ _ _ _ _ _ (Or.inr (by decide)), z_sv_get _ _ _ _ _ _ (Or.inr (by decide)), z_sv_self]
  exact e
theorem g_col_on {M : z_M} {c : Nat} (h : ¬ (g_col M c).1 = 0) : ∃ dd : Nat, dd < 8 ∧ (g_col M c).2 53 25 = nI dd := by
  rcases g_col_cases M c with e | e | e
  · have e2 : (g_col M c).2 = g_turn (g_cb M c) := congrArg Prod.snd e
    rw [e2]
    exact g_turn_dir _
  · exact absurd (congrArg Prod.fst e) h
  · exact absurd (congrArg Prod.fst e) h
theorem c_Model_collide {dA : Nat → ClassId} {ad : Nat → Nat} {M : z_M} {c d : Nat} (hc : c < 6) (h : z_GJ M d) : z_CI y_Model_collide b_Model_collide 3 .boolean 2 dA ad [.ref (ad 53), .int (nI c)] M (z_b ((g_col M c).1 = 0)) ((g_col M c).2) := by
  refine z_ofI [some (.ref (ad 53)), some (.int (nI c)), none] (by decide) (Nat.le_of_ble_eq_true rfl) rfl (fun k C E => ?_)
  have C : z_C dA ad k b_Model_collide "CellTransportModel" 2 3 := C
  obtain ⟨g, hg1, hg2⟩ := (h.sv (k := 66) (j := 4 * c + 1) (Or.inr (by decide)) (M 66 (4 * c + 1) + 1)).2.1
  have hb := g_cb_GJ h c
  refine x_aload_n C d_Model_collide_0 (i := 0) rfl rfl ?_
  refine g_Model_tallies C lk_Model_51 d_Model_collide_1 ?_
  refine x_iconst C (nI 4) d_Model_collide_4 rfl ?_
  refine x_iload_n C d_Model_collide_5 (i := 1) rfl rfl ?_
  refine x_imul C d_Model_collide_6 ?_
  refine x_iconst C (nI 1) d_Model_collide_7 rfl ?_
  refine x_iadd C d_Model_collide_8 ?_
  refine x_eqi (z_ix 4 c 1) ?_
  refine x_dup2 C d_Model_collide_9 rfl rfl ?_
  refine rn_ld_m_tallies C  (show 4 * c + 1 < 24 by omega) d_Model_collide_10 ?_
  refine x_iconst C (1) d_Model_collide_11 rfl ?_
  refine x_iadd C d_Model_collide_12 ?_
  refine rn_st_m_tallies C  (show 4 * c + 1 < 24 by omega) d_Model_collide_13 ?_
  refine x_eqM (M2 := g_ca1 M c) rfl ?_
  refine x_aload_n C d_Model_collide_14 (i := 0) rfl rfl ?_
  refine x_sipush C (nI 1000) d_Model_collide_15 rfl ?_
  refine x_callVi C (c_Model_draw (M := g_ca1 M c) (kk := 1000) hg1 hg2 (by decide) (by decide)) mt_Model_draw zl_Model (zc_Model _) rfl rfl rfl (Nat.le_of_ble_eq_true rfl) (Nat.le_of_ble_eq_true rfl) lk_Model_93 d_Model_collide_18 ?_
  refine x_istore_n C d_Model_collide_21 (i := 2) rfl rfl ?_
  refine x_eqM (M2 := g_cb M c) rfl ?_
  refine x_iload_n C d_Model_collide_22 (i := 2) rfl rfl ?_
  refine x_aload_n C d_Model_collide_23 (i := 0) rfl rfl ?_
  refine g_Model_absorbs C lk_Model_41 d_Model_collide_24 ?_
  refine x_iload_n C d_Model_collide_27 (i := 1) rfl rfl ?_
  refine rn_ld_m_absorbs C  hc d_Model_collide_28 ?_
  refine x_icmp_ge C 48 d_Model_collide_29 rfl (fun h_29 => ?_) (fun h_29 => ?_)
  · refine x_iload_n C d_Model_collide_48 (i := 2) rfl rfl ?_
    refine x_aload_n C d_Model_collide_49 (i := 0) rfl rfl ?_
    refine g_Model_absorbs C lk_Model_41 d_Model_collide_50 ?_
    refine x_iload_n C d_Model_collide_53 (i := 1) rfl rfl ?_
    refine rn_ld_m_absorbs C  hc d_Model_collide_54 ?_
    refine x_aload_n C d_Model_collide_55 (i := 0) rfl rfl ?_
    refine g_Model_splits C lk_Model_44 d_Model_collide_56 ?_
    refine x_iload_n C d_Model_collide_59 (i := 1) rfl rfl ?_
    refine rn_ld_m_splits C  hc d_Model_collide_60 ?_
    refine x_iadd C d_Model_collide_61 ?_
    refine x_icmp_ge C 89 d_Model_collide_62 rfl (fun h_62 => ?_) (fun h_62 => ?_)
    · refine x_aload_n C d_Model_collide_89 (i := 0) rfl rfl ?_
      refine x_callVv C (c_Model_turn (M := g_cb M c) hb.2.1) mt_Model_turn zl_Model (zc_Model _) rfl rfl rfl (Nat.le_of_ble_eq_true rfl) (Nat.le_of_ble_eq_true rfl) lk_Model_134 d_Model_collide_90 ?_
      refine x_iconst C (0) d_Model_collide_93 rfl ?_
      exact x_zret C E (z_b_f (fun q => absurd (show (1 : Int32) = 0 from (congrArg Prod.fst (show g_col M c = (1, g_turn (g_cb M c)) by rw [g_col, if_pos (show g_cb M c 64 c ≤ g_cr M c from h_29), if_pos (show g_cb M c 64 c + g_cb M c 65 c ≤ g_cr M c from h_62)])).symm.trans q) (by decide))).symm (congrArg Prod.snd (show g_col M c = (1, g_turn (g_cb M c)) by rw [g_col, if_pos (show g_cb M c 64 c ≤ g_cr M c from h_29), if_pos (show g_cb M c 64 c + g_cb M c 65 c ≤ g_cr M c from h_62)])).symm rfl d_Model_collide_94
    · refine x_aload_n C d_Model_collide_65 (i := 0) rfl rfl ?_
      refine g_Model_tallies C lk_Model_51 d_Model_collide_66 ?_
      refine x_iconst C (nI 4) d_Model_collide_69 rfl ?_
      refine x_iload_n C d_Model_collide_70 (i := 1) rfl rfl ?_
      refine x_imul C d_Model_collide_71 ?_
      refine x_iconst C (nI 3) d_Model_collide_72 rfl ?_
      refine x_iadd C d_Model_collide_73 ?_
      refine x_eqi (z_ix 4 c 3) ?_
      refine x_dup2 C d_Model_collide_74 rfl rfl ?_
      refine rn_ld_m_tallies C  (show 4 * c + 3 < 24 by omega) d_Model_collide_75 ?_
      refine x_iconst C (1) d_Model_collide_76 rfl ?_
      refine x_iadd C d_Model_collide_77 ?_
      refine rn_st_m_tallies C  (show 4 * c + 3 < 24 by omega) d_Model_collide_78 ?_
      refine x_eqM (M2 := g_c3 M c) rfl ?_
      refine x_aload_n C d_Model_collide_79 (i := 0) rfl rfl ?_
      refine x_callVv C (c_Model_join (M := g_c3 M c) (hb.sv (k := 66) (Or.inr (by decide)) _).2.2) mt_Model_join zl_Model (zc_Model _) rfl rfl rfl (Nat.le_of_ble_eq_true rfl) (Nat.le_of_ble_eq_true rfl) lk_Model_131 d_Model_collide_80 ?_
      refine x_aload_n C d_Model_collide_83 (i := 0) rfl rfl ?_
      refine x_callVv C (c_Model_join (M := g_j1 (g_c3 M c)) (hb.sv (k := 66) (Or.inr (by decide)) _).j1.2.2) mt_Model_join zl_Model (zc_Model _) rfl rfl rfl (Nat.le_of_ble_eq_true rfl) (Nat.le_of_ble_eq_true rfl) lk_Model_131 d_Model_collide_84 ?_
      refine x_iconst C (1) d_Model_collide_87 rfl ?_
      exact x_zret C E (z_b_t (show (g_col M c).1 = 0 from congrArg Prod.fst (show g_col M c = (0, g_spl (g_c3 M c)) by rw [g_col, if_pos (show g_cb M c 64 c ≤ g_cr M c from h_29), if_neg (show ¬ g_cb M c 64 c + g_cb M c 65 c ≤ g_cr M c from h_62)]))).symm (congrArg Prod.snd (show g_col M c = (0, g_spl (g_c3 M c)) by rw [g_col, if_pos (show g_cb M c 64 c ≤ g_cr M c from h_29), if_neg (show ¬ g_cb M c 64 c + g_cb M c 65 c ≤ g_cr M c from h_62)])).symm rfl d_Model_collide_88
  · refine x_aload_n C d_Model_collide_32 (i := 0) rfl rfl ?_
    refine g_Model_tallies C lk_Model_51 d_Model_collide_33 ?_
    refine x_iconst C (nI 4) d_Model_collide_36 rfl ?_
    refine x_iload_n C d_Model_collide_37 (i := 1) rfl rfl ?_
    refine x_imul C d_Model_collide_38 ?_
    refine x_iconst C (nI 2) d_Model_collide_39 rfl ?_
    refine x_iadd C d_Model_collide_40 ?_
    refine x_eqi (z_ix 4 c 2) ?_
    refine x_dup2 C d_Model_collide_41 rfl rfl ?_
    refine rn_ld_m_tallies C  (show 4 * c + 2 < 24 by omega) d_Model_collide_42 ?_
    refine x_iconst C (1) d_Model_collide_43 rfl ?_
    refine x_iadd C d_Model_collide_44 ?_
    refine rn_st_m_tallies C  (show 4 * c + 2 < 24 by omega) d_Model_collide_45 ?_
    refine x_iconst C (1) d_Model_collide_46 rfl ?_
    exact x_zret C E (z_b_t (show (g_col M c).1 = 0 from congrArg Prod.fst (show g_col M c = (0, g_c2 M c) by rw [g_col, if_neg (show ¬ g_cb M c 64 c ≤ g_cr M c from h_29)]))).symm (congrArg Prod.snd (show g_col M c = (0, g_c2 M c) by rw [g_col, if_neg (show ¬ g_cb M c 64 c ≤ g_cr M c from h_29)])).symm rfl d_Model_collide_47
def g_mv (M : z_M) (dd : Nat) : z_M := z_sv (z_sv M 53 23 (M 53 23 + z_sX dd)) 53 24 (M 53 24 + z_sY dd)
def g_tk (M : z_M) (c : Nat) : z_M := z_sv M 66 (4 * c) (M 66 (4 * c) + 1)
def g_at (M : z_M) (b c : Nat) : z_M := if b = c ∨ b = 6 then g_tk M c else z_sv (g_tk M c) 67 (6 * b + c) (g_tk M c 67 (6 * b + c) + 1)
def g_lk (M : z_M) (dd : Nat) : z_M := z_sv (g_mv M dd) 68 1 (g_mv M dd 68 1 + 1)
def g_s2 (M : z_M) (dd b c : Nat) : z_M := g_at (g_mv M dd) b c
def g_s3 (M : z_M) (dd b c : Nat) : z_M := z_sv (g_s2 M dd b c) 53 26 (g_s2 M dd b c 53 26 - g_s2 M dd b c 63 c)
def g_st0 (M : z_M) (dd b c : Nat) : Int32 × z_M := if c = 6 then (0, g_lk M dd) else if 0 < g_s2 M dd b c 53 26 - g_s2 M dd b c 63 c then (1, g_s3 M dd b c) else g_col (g_s3 M dd b c) c
theorem g_st0_cases (M : z_M) (dd b c : Nat) : (c = 6 ∧ g_st0 M dd b c = (0, g_lk M dd)) ∨ (¬ c = 6 ∧ g_st0 M dd b c = (1, g_s3 M dd b c)) ∨ (¬ c = 6 ∧ g_st0 M dd b c = g_col (g_s3 M dd b c) c) := by
  by_cases h1 : c = 6
  · exact Or.inl ⟨h1, by rw [g_st0, if_pos h1]⟩
  · by_cases h2 : 0 < g_s2 M dd b c 53 26 - g_s2 M dd b c 63 c
    · exact Or.inr (Or.inl ⟨h1, by rw [g_st0, if_neg h1, if_pos h2]⟩)
    · exact Or.inr (Or.inr ⟨h1, by rw [g_st0, if_neg h1, if_neg h2]⟩)
def g_dd (M : z_M) : Nat := (M 53 25).toNatClampNeg
def g_bb (M : z_M) : Nat := (f_ca (z_V M) (M 53 23) (M 53 24) 6 0).toNatClampNeg
def g_cc (M : z_M) : Nat := (f_ca (z_V (g_mv M (g_dd M))) (g_mv M (g_dd M) 53 23) (g_mv M (g_dd M) 53 24) 6 0).toNatClampNeg
def g_stp (M : z_M) : Int32 × z_M := g_st0 M (g_dd M) (g_bb M) (g_cc M)
theorem g_cc_n (M : z_M) : g_cc M ≤ 6 ∧ f_ca (z_V (g_mv M (g_dd M))) (g_mv M (g_dd M) 53 23) (g_mv M (g_dd M) 53 24) 6 0 = nI (g_cc M) := by
  obtain ⟨c, h1, h2⟩ := f_ca_n (z_V (g_mv M (g_dd M))) (g_mv M (g_dd M) 53 23) (g_mv M (g_dd M) 53 24) 6 0 (by omega)
  have e : g_cc M = c := by unfold g_cc; rw [h2]; exact nI_clamp (by omega)
  rw [e]
  exact ⟨h1, h2⟩
theorem g_bb_n (M : z_M) : g_bb M ≤ 6 ∧ f_ca (z_V M) (M 53 23) (M 53 24) 6 0 = nI (g_bb M) := by
  obtain ⟨c, h1, h2⟩ := f_ca_n (z_V M) (M 53 23) (M 53 24) 6 0 (by omega)
  have e : g_bb M = c := by unfold g_bb; rw [h2]; exact nI_clamp (by omega)
  rw [e]
  exact ⟨h1, h2⟩
theorem g_dd_n {M : z_M} (h : ∃ dd : Nat, dd < 8 ∧ M 53 25 = nI dd) : g_dd M < 8 ∧ M 53 25 = nI (g_dd M) := by
  obtain ⟨d, h1, h2⟩ := h
  have e : g_dd M = d := by unfold g_dd; rw [h2]; exact nI_clamp (by omega)
  rw [e]
  exact ⟨h1, h2⟩
theorem g_mv_GJ {M : z_M} {d : Nat} (h : z_GJ M d) (dd : Nat) : z_GJ (g_mv M dd) d := (h.sv (Or.inl ⟨rfl, by decide, by decide, by decide⟩) _).sv (Or.inl ⟨rfl, by decide, by decide, by decide⟩) _
theorem g_at_GJ {M : z_M} {d : Nat} (h : z_GJ M d) (b c : Nat) : z_GJ (g_at M b c) d := by
  by_cases q : b = c ∨ b = 6
  · rw [g_at, if_pos q]; exact h.sv (k := 66) (Or.inr (by decide)) _
  · rw [g_at, if_neg q]; exact (h.sv (k := 66) (Or.inr (by decide)) _).sv (k := 67) (Or.inr (by decide)) _
theorem g_s3_GJ {M : z_M} {d : Nat} (h : z_GJ M d) (dd b c : Nat) : z_GJ (g_s3 M dd b c) d := (g_at_GJ (g_mv_GJ h dd) b c).sv (Or.inl ⟨rfl, by decide, by decide, by decide⟩) _
theorem g_stp_GJ {M : z_M} {d : Nat} (h : z_GJ M d) : z_GJ (g_stp M).2 d := by
  rcases g_st0_cases M (g_dd M) (g_bb M) (g_cc M) with ⟨-, e⟩ | ⟨n, e⟩ | ⟨n, e⟩
  · exact z_GJx (congrArg Prod.snd e) ((g_mv_GJ h _).sv (k := 68) (Or.inr (by decide)) _)
  · exact z_GJx (congrArg Prod.snd e) (g_s3_GJ h _ _ _)
  · exact z_GJx (congrArg Prod.snd e) (g_col_GJ (g_s3_GJ h _ _ _) _)
theorem g_mv_kq {M0 M : z_M} (h : z_kq M0 M) (dd : Nat) : z_kq M0 (g_mv M dd) := (h.sv (Or.inl rfl) _ _).sv (Or.inl rfl) _ _
theorem g_at_kq {M0 M : z_M} (h : z_kq M0 M) (b c : Nat) : z_kq M0 (g_at M b c) := by
  by_cases q : b = c ∨ b = 6
  · rw [g_at, if_pos q]; exact h.sv (k := 66) (Or.inr (by decide)) _ _
  · rw [g_at, if_neg q]; exact (h.sv (k := 66) (Or.inr (by decide)) _ _).sv (k := 67) (Or.inr (by decide)) _ _
theorem g_s3_kq {M0 M : z_M} (h : z_kq M0 M) (dd b c : Nat) : z_kq M0 (g_s3 M dd b c) := (g_at_kq (g_mv_kq h dd) b c).sv (Or.inl rfl) _ _
theorem g_stp_kq (M : z_M) : z_kq M (g_stp M).2 := by
  rcases g_st0_cases M (g_dd M) (g_bb M) (g_cc M) with ⟨-, e⟩ | ⟨n, e⟩ | ⟨n, e⟩
  · exact z_kqx (congrArg Prod.snd e) ((g_mv_kq z_kq.rf _).sv (k := 68) (Or.inr (by decide)) _ _)
  · exact z_kqx (congrArg Prod.snd e) (g_s3_kq z_kq.rf _ _ _)
  · exact z_kqx (congrArg Prod.snd e) (g_col_kq (g_s3_kq z_kq.rf _ _ _) _)
theorem g_s3_25 (M : z_M) (dd b c : Nat) : g_s3 M dd b c 53 25 = M 53 25 := by
  have e1 : g_s2 M dd b c 53 = g_mv M dd 53 := by
    unfold g_s2
    by_cases q : b = c ∨ b = 6
    · rw [g_at, if_pos q, g_tk, z_sv_row _ _ _ (by decide)]
    · rw [g_at, if_neg q, z_sv_row _ _ _ (by decide), g_tk, z_sv_row _ _ _ (by decide)]
  unfold g_s3
  rw [z_sv_get _ _ _ _ _ _ (Or.inr (by decide)), e1]
  unfold g_mv
  rw [z_sv_get _ _ _ _ _ _ (Or.inr (by decide)), z_sv_get _ _ _ _ _ _ (Or.inr (by decide))]
theorem g_stp_on {M : z_M} (hd : ∃ dd : Nat, dd < 8 ∧ M 53 25 = nI dd) (h : ¬ (g_stp M).1 = 0) : ∃ dd : Nat, dd < 8 ∧ (g_stp M).2 53 25 = nI dd := by
  rcases g_st0_cases M (g_dd M) (g_bb M) (g_cc M) with ⟨-, e⟩ | ⟨n, e⟩ | ⟨n, e⟩
  · exact absurd (congrArg Prod.fst e) h
  · have e2 : (g_stp M).2 = g_s3 M (g_dd M) (g_bb M) (g_cc M) := congrArg Prod.snd e
    rw [e2]
    obtain ⟨q, h1, h2⟩ := hd
    exact ⟨q, h1, (g_s3_25 M _ _ _).trans h2⟩
  · have e1 : (g_stp M).1 = (g_col (g_s3 M (g_dd M) (g_bb M) (g_cc M)) (g_cc M)).1 := congrArg Prod.fst e
    have e2 : (g_stp M).2 = (g_col (g_s3 M (g_dd M) (g_bb M) (g_cc M)) (g_cc M)).2 := congrArg Prod.snd e
    rw [e2]
    exact g_col_on (by rw [← e1]; exact h)
def g_flp : Nat → z_M → z_M
  | 0, M => z_sv M 68 2 (M 68 2 + 1)
  | n + 1, M => if (g_stp M).1 = 0 then (g_stp M).2 else g_flp n (g_stp M).2
def g_fly (M : z_M) : z_M := g_flp 200 (g_turn M)
theorem lp_Model_fly {dA : Nat → ClassId} {ad : Nat → Nat} {M1 : z_M} {k : z_K} {d : Nat} (C : z_C dA ad k b_Model_fly "CellTransportModel" 3 4) (E : z_RV dA ad k M1) :
    ∀ (n i : Nat) (M : z_M) (a2 a3 : Option Value), i + n = 201 → z_GJ M d → (∃ dd : Nat, dd < 8 ∧ M 53 25 = nI dd) → g_flp n M = M1 → z_X dA ad k 6 [some (.ref (ad 53)), some (.int (nI i)), a2, a3] [] M := by
  intro n
  induction n with
  | zero =>
    intro i M a2 a3 hi hJ hD hr
    refine x_iload_n C d_Model_fly_6 (i := 1) rfl rfl ?_
    refine x_sipush C (200) d_Model_fly_7 rfl ?_
    refine x_icmp_gt C 163 d_Model_fly_10 rfl (fun h_10 => ?_) (fun h_10 => absurd (show (200 : Int32) < nI i from nI_lt (a := 200) (by omega) (by omega)) h_10)
    refine x_aload_n C d_Model_fly_163 (i := 0) rfl rfl ?_
    refine g_Model_counts C lk_Model_57 d_Model_fly_164 ?_
    refine x_iconst C (nI 2) d_Model_fly_167 rfl ?_
    refine x_dup2 C d_Model_fly_168 rfl rfl ?_
    refine rn_ld_m_counts C  (show 2 < 5 by decide) d_Model_fly_169 ?_
    refine x_iconst C (1) d_Model_fly_170 rfl ?_
    refine x_iadd C d_Model_fly_171 ?_
    refine rn_st_m_counts C  (show 2 < 5 by decide) d_Model_fly_172 ?_
    exact x_vret C E hr d_Model_fly_173
  | succ n ih =>
    intro i M a2 a3 hi hJ hD hr
    obtain ⟨hd, edd⟩ := g_dd_n hD
    obtain ⟨hb, eb⟩ := g_bb_n M
    obtain ⟨hc, ec⟩ := g_cc_n M
    have hJ1 := g_mv_GJ hJ (g_dd M)
    have hJ3 := g_s3_GJ hJ (g_dd M) (g_bb M) (g_cc M)
    generalize hdd0 : g_dd M = dd at hd edd ec hJ1 hJ3
    generalize hbb0 : g_bb M = b at hb eb hJ3
    generalize hcc0 : g_cc M = c at hc ec hJ3
    have hst : g_stp M = g_st0 M dd b c := by rw [g_stp, hdd0, hbb0, hcc0]
    refine x_iload_n C d_Model_fly_6 (i := 1) rfl rfl ?_
    refine x_sipush C (200) d_Model_fly_7 rfl ?_
    refine x_icmp_gt C 163 d_Model_fly_10 rfl (fun h_10 => absurd (show nI 200 < nI i from h_10) (nI_nlt (by omega) (by decide))) (fun h_10 => ?_)
    refine x_aload_n C d_Model_fly_13 (i := 0) rfl rfl ?_
    refine x_aload_n C d_Model_fly_14 (i := 0) rfl rfl ?_
    refine g_Model_x C lk_Model_125 d_Model_fly_15 ?_
    refine x_aload_n C d_Model_fly_18 (i := 0) rfl rfl ?_
    refine g_Model_y C lk_Model_128 d_Model_fly_19 ?_
    refine x_callVi C (c_Model_at hJ.1 _ _) mt_Model_at zl_Model (zc_Model _) rfl rfl rfl (Nat.le_of_ble_eq_true rfl) (Nat.le_of_ble_eq_true rfl) lk_Model_103 d_Model_fly_22 ?_
    refine x_eqi eb ?_
    refine x_istore_n C d_Model_fly_25 (i := 2) rfl rfl ?_
    refine x_aload_n C d_Model_fly_26 (i := 0) rfl rfl ?_
    refine x_dup C d_Model_fly_27 rfl ?_
    refine g_Model_x C lk_Model_125 d_Model_fly_28 ?_
    refine x_aload_n C d_Model_fly_31 (i := 0) rfl rfl ?_
    refine g_Model_direction C lk_Model_113 d_Model_fly_32 ?_
    refine x_eqi edd ?_
    refine x_callSi C (c_Model_stepX hd) mt_Model_stepX rfl rfl (Nat.le_of_ble_eq_true rfl) (Nat.le_of_ble_eq_true rfl) lk_Model_107 d_Model_fly_35 ?_
    refine x_iadd C d_Model_fly_38 ?_
    refine u_Model_x C lk_Model_125 d_Model_fly_39 ?_
    refine x_aload_n C d_Model_fly_42 (i := 0) rfl rfl ?_
    refine x_dup C d_Model_fly_43 rfl ?_
    refine g_Model_y C lk_Model_128 d_Model_fly_44 ?_
    refine x_eqi (z_sv_get M _ _ _ _ _ (Or.inr (by decide))) ?_
    refine x_aload_n C d_Model_fly_47 (i := 0) rfl rfl ?_
    refine g_Model_direction C lk_Model_113 d_Model_fly_48 ?_
    refine x_eqi ((z_sv_get M _ _ _ _ _ (Or.inr (by decide))).trans edd) ?_
    refine x_callSi C (c_Model_stepY hd) mt_Model_stepY rfl rfl (Nat.le_of_ble_eq_true rfl) (Nat.le_of_ble_eq_true rfl) lk_Model_110 d_Model_fly_51 ?_
    refine x_iadd C d_Model_fly_54 ?_
    refine u_Model_y C lk_Model_128 d_Model_fly_55 ?_
    refine x_eqM (M2 := g_mv M dd) rfl ?_
    refine x_aload_n C d_Model_fly_58 (i := 0) rfl rfl ?_
    refine x_aload_n C d_Model_fly_59 (i := 0) rfl rfl ?_
    refine g_Model_x C lk_Model_125 d_Model_fly_60 ?_
    refine x_aload_n C d_Model_fly_63 (i := 0) rfl rfl ?_
    refine g_Model_y C lk_Model_128 d_Model_fly_64 ?_
    refine x_callVi C (c_Model_at hJ1.1 _ _) mt_Model_at zl_Model (zc_Model _) rfl rfl rfl (Nat.le_of_ble_eq_true rfl) (Nat.le_of_ble_eq_true rfl) lk_Model_103 d_Model_fly_67 ?_
    refine x_eqi ec ?_
    refine x_istore_n C d_Model_fly_70 (i := 3) rfl rfl ?_
    refine x_iload_n C d_Model_fly_71 (i := 3) rfl rfl ?_
    refine x_bipush C (6) d_Model_fly_72 rfl ?_
    refine x_icmp_ne C 88 d_Model_fly_74 rfl (fun h_74 => ?_) (fun h_74 => ?_)
    · have hc6 : c < 6 := z_b6 hc h_74
      refine x_aload_n C d_Model_fly_88 (i := 0) rfl rfl ?_
      refine g_Model_tallies C lk_Model_51 d_Model_fly_89 ?_
      refine x_iconst C (nI 4) d_Model_fly_92 rfl ?_
      refine x_iload_n C d_Model_fly_93 (i := 3) rfl rfl ?_
      refine x_imul C d_Model_fly_94 ?_
      refine x_eqi (pk_mul 4 c) ?_
      refine x_dup2 C d_Model_fly_95 rfl rfl ?_
      refine rn_ld_m_tallies C  (show 4 * c < 24 by omega) d_Model_fly_96 ?_
      refine x_iconst C (1) d_Model_fly_97 rfl ?_
      refine x_iadd C d_Model_fly_98 ?_
      refine rn_st_m_tallies C  (show 4 * c < 24 by omega) d_Model_fly_99 ?_
      refine x_eqM (M2 := g_tk (g_mv M dd) c) rfl ?_
      refine x_iload_n C d_Model_fly_100 (i := 2) rfl rfl ?_
      refine x_bipush C (6) d_Model_fly_101 rfl ?_
      refine x_icmp_eq C 126 d_Model_fly_103 rfl (fun h_103 => ?_) (fun h_103 => ?_)
      · refine x_eqM (M2 := g_s2 M dd b c) (show _ = g_at (g_mv M dd) b c from (if_pos (Or.inr ((nI_eq (a := b) (b := 6) (by omega) (by decide)).mp h_103))).symm) ?_
        refine x_aload_n C d_Model_fly_126 (i := 0) rfl rfl ?_
        refine x_dup C d_Model_fly_127 rfl ?_
        refine g_Model_budget C lk_Model_116 d_Model_fly_128 ?_
        refine x_aload_n C d_Model_fly_131 (i := 0) rfl rfl ?_
        refine g_Model_density C lk_Model_38 d_Model_fly_132 ?_
        refine x_iload_n C d_Model_fly_135 (i := 3) rfl rfl ?_
        refine rn_ld_m_density C  hc6 d_Model_fly_136 ?_
        refine x_isub C d_Model_fly_137 ?_
        refine u_Model_budget C lk_Model_116 d_Model_fly_138 ?_
        refine x_eqM (M2 := g_s3 M dd b c) rfl ?_
        refine x_aload_n C d_Model_fly_141 (i := 0) rfl rfl ?_
        refine g_Model_budget C lk_Model_116 d_Model_fly_142 ?_
        refine x_eqi (z_sv_self _ _ _ _) ?_
        refine x_if_gt C 157 d_Model_fly_145 rfl (fun h_145 => ?_) (fun h_145 => ?_)
        · refine x_iinc C (nI (i + 1)) d_Model_fly_157 rfl (z_inc i) rfl ?_
          refine x_goto C 6 d_Model_fly_160 rfl ?_
          exact ih (i + 1) _ _ _ (by omega) hJ3 (by have q := g_stp_on hD (by rw [hst, (show g_st0 M dd b c = (1, g_s3 M dd b c) by rw [g_st0, if_neg (Nat.ne_of_lt hc6), if_pos (show 0 < g_s2 M dd b c 53 26 - g_s2 M dd b c 63 c from h_145)])]; exact z_1ne); rw [hst, (show g_st0 M dd b c = (1, g_s3 M dd b c) by rw [g_st0, if_neg (Nat.ne_of_lt hc6), if_pos (show 0 < g_s2 M dd b c 53 26 - g_s2 M dd b c 63 c from h_145)])] at q; exact q) (by rw [← hr, g_flp, if_neg (show ¬ (g_stp M).1 = 0 by rw [hst, (show g_st0 M dd b c = (1, g_s3 M dd b c) by rw [g_st0, if_neg (Nat.ne_of_lt hc6), if_pos (show 0 < g_s2 M dd b c 53 26 - g_s2 M dd b c 63 c from h_145)])]; exact z_1ne), hst, (show g_st0 M dd b c = (1, g_s3 M dd b c) by rw [g_st0, if_neg (Nat.ne_of_lt hc6), if_pos (show 0 < g_s2 M dd b c 53 26 - g_s2 M dd b c 63 c from h_145)])])
        · refine x_aload_n C d_Model_fly_148 (i := 0) rfl rfl ?_
          refine x_iload_n C d_Model_fly_149 (i := 3) rfl rfl ?_
          refine x_callVi C (c_Model_collide hc6 hJ3) mt_Model_collide zl_Model (zc_Model _) rfl rfl rfl (Nat.le_of_ble_eq_true rfl) (Nat.le_of_ble_eq_true rfl) lk_Model_137 d_Model_fly_150 ?_
          refine x_if_eq C 157 d_Model_fly_153 rfl (fun h_153 => ?_) (fun h_153 => ?_)
          · refine x_iinc C (nI (i + 1)) d_Model_fly_157 rfl (z_inc i) rfl ?_
            refine x_goto C 6 d_Model_fly_160 rfl ?_
            exact ih (i + 1) _ _ _ (by omega) (g_col_GJ hJ3 c) (g_col_on (z_b_0.mp h_153)) (by rw [← hr, g_flp, if_neg (show ¬ (g_stp M).1 = 0 by rw [hst, (show g_st0 M dd b c = g_col (g_s3 M dd b c) c by rw [g_st0, if_neg (Nat.ne_of_lt hc6), if_neg (show ¬ 0 < g_s2 M dd b c 53 26 - g_s2 M dd b c 63 c from h_145)])]; exact z_b_0.mp h_153), hst, (show g_st0 M dd b c = g_col (g_s3 M dd b c) c by rw [g_st0, if_neg (Nat.ne_of_lt hc6), if_neg (show ¬ 0 < g_s2 M dd b c 53 26 - g_s2 M dd b c 63 c from h_145)])])
          · exact x_vret C E (by rw [← hr, g_flp, if_pos (show (g_stp M).1 = 0 by rw [hst, (show g_st0 M dd b c = g_col (g_s3 M dd b c) c by rw [g_st0, if_neg (Nat.ne_of_lt hc6), if_neg (show ¬ 0 < g_s2 M dd b c 53 26 - g_s2 M dd b c 63 c from h_145)])]; exact z_b_n0.mp h_153), hst, (show g_st0 M dd b c = g_col (g_s3 M dd b c) c by rw [g_st0, if_neg (Nat.ne_of_lt hc6), if_neg (show ¬ 0 < g_s2 M dd b c 53 26 - g_s2 M dd b c 63 c from h_145)])]) d_Model_fly_156
      · refine x_iload_n C d_Model_fly_106 (i := 2) rfl rfl ?_
        refine x_iload_n C d_Model_fly_107 (i := 3) rfl rfl ?_
        refine x_icmp_eq C 126 d_Model_fly_108 rfl (fun h_108 => ?_) (fun h_108 => ?_)
        · refine x_eqM (M2 := g_s2 M dd b c) (show _ = g_at (g_mv M dd) b c from (if_pos (Or.inl ((nI_eq (by omega) (by omega)).mp h_108))).symm) ?_
          refine x_aload_n C d_Model_fly_126 (i := 0) rfl rfl ?_
          refine x_dup C d_Model_fly_127 rfl ?_
          refine g_Model_budget C lk_Model_116 d_Model_fly_128 ?_
          refine x_aload_n C d_Model_fly_131 (i := 0) rfl rfl ?_
          refine g_Model_density C lk_Model_38 d_Model_fly_132 ?_
          refine x_iload_n C d_Model_fly_135 (i := 3) rfl rfl ?_
          refine rn_ld_m_density C  hc6 d_Model_fly_136 ?_
          refine x_isub C d_Model_fly_137 ?_
          refine u_Model_budget C lk_Model_116 d_Model_fly_138 ?_
          refine x_eqM (M2 := g_s3 M dd b c) rfl ?_
          refine x_aload_n C d_Model_fly_141 (i := 0) rfl rfl ?_
          refine g_Model_budget C lk_Model_116 d_Model_fly_142 ?_
          refine x_eqi (z_sv_self _ _ _ _) ?_
          refine x_if_gt C 157 d_Model_fly_145 rfl (fun h_145 => ?_) (fun h_145 => ?_)
          · refine x_iinc C (nI (i + 1)) d_Model_fly_157 rfl (z_inc i) rfl ?_
            refine x_goto C 6 d_Model_fly_160 rfl ?_
            exact ih (i + 1) _ _ _ (by omega) hJ3 (by have q := g_stp_on hD (by rw [hst, (show g_st0 M dd b c = (1, g_s3 M dd b c) by rw [g_st0, if_neg (Nat.ne_of_lt hc6), if_pos (show 0 < g_s2 M dd b c 53 26 - g_s2 M dd b c 63 c from h_145)])]; exact z_1ne); rw [hst, (show g_st0 M dd b c = (1, g_s3 M dd b c) by rw [g_st0, if_neg (Nat.ne_of_lt hc6), if_pos (show 0 < g_s2 M dd b c 53 26 - g_s2 M dd b c 63 c from h_145)])] at q; exact q) (by rw [← hr, g_flp, if_neg (show ¬ (g_stp M).1 = 0 by rw [hst, (show g_st0 M dd b c = (1, g_s3 M dd b c) by rw [g_st0, if_neg (Nat.ne_of_lt hc6), if_pos (show 0 < g_s2 M dd b c 53 26 - g_s2 M dd b c 63 c from h_145)])]; exact z_1ne), hst, (show g_st0 M dd b c = (1, g_s3 M dd b c) by rw [g_st0, if_neg (Nat.ne_of_lt hc6), if_pos (show 0 < g_s2 M dd b c 53 26 - g_s2 M dd b c 63 c from h_145)])])
          · refine x_aload_n C d_Model_fly_148 (i := 0) rfl rfl ?_
            refine x_iload_n C d_Model_fly_149 (i := 3) rfl rfl ?_
            refine x_callVi C (c_Model_collide hc6 hJ3) mt_Model_collide zl_Model (zc_Model _) rfl rfl rfl (Nat.le_of_ble_eq_true rfl) (Nat.le_of_ble_eq_true rfl) lk_Model_137 d_Model_fly_150 ?_
            refine x_if_eq C 157 d_Model_fly_153 rfl (fun h_153 => ?_) (fun h_153 => ?_)
            · refine x_iinc C (nI (i + 1)) d_Model_fly_157 rfl (z_inc i) rfl ?_
              refine x_goto C 6 d_Model_fly_160 rfl ?_
              exact ih (i + 1) _ _ _ (by omega) (g_col_GJ hJ3 c) (g_col_on (z_b_0.mp h_153)) (by rw [← hr, g_flp, if_neg (show ¬ (g_stp M).1 = 0 by rw [hst, (show g_st0 M dd b c = g_col (g_s3 M dd b c) c by rw [g_st0, if_neg (Nat.ne_of_lt hc6), if_neg (show ¬ 0 < g_s2 M dd b c 53 26 - g_s2 M dd b c 63 c from h_145)])]; exact z_b_0.mp h_153), hst, (show g_st0 M dd b c = g_col (g_s3 M dd b c) c by rw [g_st0, if_neg (Nat.ne_of_lt hc6), if_neg (show ¬ 0 < g_s2 M dd b c 53 26 - g_s2 M dd b c 63 c from h_145)])])
            · exact x_vret C E (by rw [← hr, g_flp, if_pos (show (g_stp M).1 = 0 by rw [hst, (show g_st0 M dd b c = g_col (g_s3 M dd b c) c by rw [g_st0, if_neg (Nat.ne_of_lt hc6), if_neg (show ¬ 0 < g_s2 M dd b c 53 26 - g_s2 M dd b c 63 c from h_145)])]; exact z_b_n0.mp h_153), hst, (show g_st0 M dd b c = g_col (g_s3 M dd b c) c by rw [g_st0, if_neg (Nat.ne_of_lt hc6), if_neg (show ¬ 0 < g_s2 M dd b c 53 26 - g_s2 M dd b c 63 c from h_145)])]) d_Model_fly_156
        · refine x_aload_n C d_Model_fly_111 (i := 0) rfl rfl ?_
          refine g_Model_crossings C lk_Model_54 d_Model_fly_112 ?_
          refine x_bipush C (nI 6) d_Model_fly_115 rfl ?_
          refine x_iload_n C d_Model_fly_117 (i := 2) rfl rfl ?_
          refine x_imul C d_Model_fly_118 ?_
          refine x_iload_n C d_Model_fly_119 (i := 3) rfl rfl ?_
          refine x_iadd C d_Model_fly_120 ?_
          refine x_eqi (z_ix 6 b c) ?_
          refine x_dup2 C d_Model_fly_121 rfl rfl ?_
          refine rn_ld_m_crossings C  (show 6 * b + c < 36 by have := z_b6 hb h_103; omega) d_Model_fly_122 ?_
          refine x_iconst C (1) d_Model_fly_123 rfl ?_
          refine x_iadd C d_Model_fly_124 ?_
          refine rn_st_m_crossings C  (show 6 * b + c < 36 by have := z_b6 hb h_103; omega) d_Model_fly_125 ?_
          refine x_eqM (M2 := g_s2 M dd b c) (show _ = g_at (g_mv M dd) b c from (if_neg (fun q => q.elim (fun q => h_108 (by rw [q])) (fun q => h_103 (by rw [q]; rfl)))).symm) ?_
          refine x_aload_n C d_Model_fly_126 (i := 0) rfl rfl ?_
          refine x_dup C d_Model_fly_127 rfl ?_
          refine g_Model_budget C lk_Model_116 d_Model_fly_128 ?_
          refine x_aload_n C d_Model_fly_131 (i := 0) rfl rfl ?_
          refine g_Model_density C lk_Model_38 d_Model_fly_132 ?_
          refine x_iload_n C d_Model_fly_135 (i := 3) rfl rfl ?_
          refine rn_ld_m_density C  hc6 d_Model_fly_136 ?_
          refine x_isub C d_Model_fly_137 ?_
          refine u_Model_budget C lk_Model_116 d_Model_fly_138 ?_
          refine x_eqM (M2 := g_s3 M dd b c) rfl ?_
          refine x_aload_n C d_Model_fly_141 (i := 0) rfl rfl ?_
          refine g_Model_budget C lk_Model_116 d_Model_fly_142 ?_
          refine x_eqi (z_sv_self _ _ _ _) ?_
          refine x_if_gt C 157 d_Model_fly_145 rfl (fun h_145 => ?_) (fun h_145 => ?_)
          · refine x_iinc C (nI (i + 1)) d_Model_fly_157 rfl (z_inc i) rfl ?_
            refine x_goto C 6 d_Model_fly_160 rfl ?_
            exact ih (i + 1) _ _ _ (by omega) hJ3 (by have q := g_stp_on hD (by rw [hst, (show g_st0 M dd b c = (1, g_s3 M dd b c) by rw [g_st0, if_neg (Nat.ne_of_lt hc6), if_pos (show 0 < g_s2 M dd b c 53 26 - g_s2 M dd b c 63 c from h_145)])]; exact z_1ne); rw [hst, (show g_st0 M dd b c = (1, g_s3 M dd b c) by rw [g_st0, if_neg (Nat.ne_of_lt hc6), if_pos (show 0 < g_s2 M dd b c 53 26 - g_s2 M dd b c 63 c from h_145)])] at q; exact q) (by rw [← hr, g_flp, if_neg (show ¬ (g_stp M).1 = 0 by rw [hst, (show g_st0 M dd b c = (1, g_s3 M dd b c) by rw [g_st0, if_neg (Nat.ne_of_lt hc6), if_pos (show 0 < g_s2 M dd b c 53 26 - g_s2 M dd b c 63 c from h_145)])]; exact z_1ne), hst, (show g_st0 M dd b c = (1, g_s3 M dd b c) by rw [g_st0, if_neg (Nat.ne_of_lt hc6), if_pos (show 0 < g_s2 M dd b c 53 26 - g_s2 M dd b c 63 c from h_145)])])
          · refine x_aload_n C d_Model_fly_148 (i := 0) rfl rfl ?_
            refine x_iload_n C d_Model_fly_149 (i := 3) rfl rfl ?_
            refine x_callVi C (c_Model_collide hc6 hJ3) mt_Model_collide zl_Model (zc_Model _) rfl rfl rfl (Nat.le_of_ble_eq_true rfl) (Nat.le_of_ble_eq_true rfl) lk_Model_137 d_Model_fly_150 ?_
            refine x_if_eq C 157 d_Model_fly_153 rfl (fun h_153 => ?_) (fun h_153 => ?_)
            · refine x_iinc C (nI (i + 1)) d_Model_fly_157 rfl (z_inc i) rfl ?_
              refine x_goto C 6 d_Model_fly_160 rfl ?_
              exact ih (i + 1) _ _ _ (by omega) (g_col_GJ hJ3 c) (g_col_on (z_b_0.mp h_153)) (by rw [← hr, g_flp, if_neg (show ¬ (g_stp M).1 = 0 by rw [hst, (show g_st0 M dd b c = g_col (g_s3 M dd b c) c by rw [g_st0, if_neg (Nat.ne_of_lt hc6), if_neg (show ¬ 0 < g_s2 M dd b c 53 26 - g_s2 M dd b c 63 c from h_145)])]; exact z_b_0.mp h_153), hst, (show g_st0 M dd b c = g_col (g_s3 M dd b c) c by rw [g_st0, if_neg (Nat.ne_of_lt hc6), if_neg (show ¬ 0 < g_s2 M dd b c 53 26 - g_s2 M dd b c 63 c from h_145)])])
            · exact x_vret C E (by rw [← hr, g_flp, if_pos (show (g_stp M).1 = 0 by rw [hst, (show g_st0 M dd b c = g_col (g_s3 M dd b c) c by rw [g_st0, if_neg (Nat.ne_of_lt hc6), if_neg (show ¬ 0 < g_s2 M dd b c 53 26 - g_s2 M dd b c 63 c from h_145)])]; exact z_b_n0.mp h_153), hst, (show g_st0 M dd b c = g_col (g_s3 M dd b c) c by rw [g_st0, if_neg (Nat.ne_of_lt hc6), if_neg (show ¬ 0 < g_s2 M dd b c 53 26 - g_s2 M dd b c 63 c from h_145)])]) d_Model_fly_156
    · refine x_aload_n C d_Model_fly_77 (i := 0) rfl rfl ?_
      refine g_Model_counts C lk_Model_57 d_Model_fly_78 ?_
      refine x_iconst C (nI 1) d_Model_fly_81 rfl ?_
      refine x_dup2 C d_Model_fly_82 rfl rfl ?_
      refine rn_ld_m_counts C  (show 1 < 5 by decide) d_Model_fly_83 ?_
      refine x_iconst C (1) d_Model_fly_84 rfl ?_
      refine x_iadd C d_Model_fly_85 ?_
      refine rn_st_m_counts C  (show 1 < 5 by decide) d_Model_fly_86 ?_
      exact x_vret C E (by rw [← hr, g_flp, if_pos (show (g_stp M).1 = 0 by rw [hst, (show g_st0 M dd b c = (0, g_lk M dd) by rw [g_st0, if_pos ((nI_eq (a := c) (b := 6) (by omega) (by decide)).mp h_74)])]), hst, (show g_st0 M dd b c = (0, g_lk M dd) by rw [g_st0, if_pos ((nI_eq (a := c) (b := 6) (by omega) (by decide)).mp h_74)])]; rfl) d_Model_fly_87
theorem c_Model_fly {dA : Nat → ClassId} {ad : Nat → Nat} {M : z_M} {d : Nat} (h : z_GJ M d) : z_CV y_Model_fly b_Model_fly 4 3 dA ad [.ref (ad 53)] M (g_fly M) := by
  refine z_ofV [some (.ref (ad 53)), none, none, none] (by decide) (Nat.le_of_ble_eq_true rfl) rfl (fun k C E => ?_)
  have C : z_C dA ad k b_Model_fly "CellTransportModel" 3 4 := C
  refine x_aload_n C d_Model_fly_0 (i := 0) rfl rfl ?_
  refine x_callVv C (c_Model_turn h.2.1) mt_Model_turn zl_Model (zc_Model _) rfl rfl rfl (Nat.le_of_ble_eq_true rfl) (Nat.le_of_ble_eq_true rfl) lk_Model_134 d_Model_fly_1 ?_
  refine x_iconst C (1) d_Model_fly_4 rfl ?_
  refine x_istore_n C d_Model_fly_5 (i := 1) rfl rfl ?_
  exact lp_Model_fly C E 200 1 (g_turn M) none none (by omega) h.turn (g_turn_dir M) rfl
