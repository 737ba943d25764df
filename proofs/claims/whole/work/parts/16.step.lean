theorem f_ca_n (M : z_M) (x y : Int32) : ∀ n i : Nat, i + n = 6 → ∃ c : Nat, c ≤ 6 ∧ f_ca M x y n i = nI c := by
  intro n
  induction n with
  | zero => intro i _; exact ⟨6, Nat.le_refl 6, rfl⟩
  | succ n ih =>
    intro i hi
    by_cases h : ¬ M (i_cell i) 1 = 0 ∧ p_in M x y i
    · exact ⟨i, by omega, if_pos h⟩
    · obtain ⟨c, h1, h2⟩ := ih (i + 1) (by omega)
      exact ⟨c, h1, (if_neg h).trans h2⟩
theorem f_at_row (M : z_M) {b c a : Nat} (h1 : a ≠ i_talr c) (h2 : b ≠ 6 → a ≠ i_cror b) : f_at M b c a = M a := by
  by_cases h : b = c ∨ b = 6
  · rw [f_at, if_pos h, f_tk, z_sv_row _ _ _ h1]
  · rw [f_at, if_neg h, z_sv_row _ _ _ (h2 (fun q => h (Or.inr q))), f_tk, z_sv_row _ _ _ h1]
theorem f_at_kp {M0 M : z_M} (h : z_kp M0 M) {b c : Nat} (hb : b ≤ 6) (hc : c < 6) : z_kp M0 (f_at M b c) := by
  have t : 32 ≤ i_talr c ∧ i_talr c < 53 := by unfold i_talr; omega
  by_cases g : b = c ∨ b = 6
  · rw [f_at, if_pos g]; exact h.sv t.1 t.2 _ _
  · have u : 32 ≤ i_cror b ∧ i_cror b < 53 := by unfold i_cror; omega
    rw [f_at, if_neg g]; exact (h.sv t.1 t.2 _ _).sv u.1 u.2 _ _
theorem f_mv_kp {M0 M : z_M} (h : z_kp M0 M) (dd : Nat) : z_kp M0 (f_mv M dd) := (h.sv (by decide) (by decide) _ _).sv (by decide) (by decide) _ _
theorem f_mv_row (M : z_M) (dd : Nat) {a : Nat} (h : a ≠ 52) : f_mv M dd a = M a := by
  unfold f_mv
  rw [z_sv_row _ _ _ h, z_sv_row _ _ _ h]
def f_s1 (M : z_M) (dd c : Nat) : z_M := z_sv (f_mv M dd) 52 2 (nI c)
def f_s2 (M : z_M) (dd b c : Nat) : z_M := f_at (f_s1 M dd c) b c
def f_s3 (M : z_M) (dd b c : Nat) : z_M := z_sv (f_s2 M dd b c) 52 4 (f_s2 M dd b c 52 4 - f_s2 M dd b c (i_cell c) 2)
def f_lk (M : z_M) (dd c : Nat) : z_M := z_sv (f_s1 M dd c) 34 1 (f_s1 M dd c 34 1 + 1)
def f_st0 (M : z_M) (dd b c : Nat) : Int32 × z_M := if c = 6 then (0, f_lk M dd c) else if 0 < f_s2 M dd b c 52 4 - f_s2 M dd b c (i_cell c) 2 then (1, f_s3 M dd b c) else f_col (f_s3 M dd b c) c
theorem f_st0_cases (M : z_M) (dd b c : Nat) : (c = 6 ∧ f_st0 M dd b c = (0, f_lk M dd c)) ∨ (¬ c = 6 ∧ f_st0 M dd b c = (1, f_s3 M dd b c)) ∨ (¬ c = 6 ∧ f_st0 M dd b c = f_col (f_s3 M dd b c) c) := by
  by_cases h1 : c = 6
  · exact Or.inl ⟨h1, by rw [f_st0, if_pos h1]⟩
  · by_cases h2 : 0 < f_s2 M dd b c 52 4 - f_s2 M dd b c (i_cell c) 2
    · exact Or.inr (Or.inl ⟨h1, by rw [f_st0, if_neg h1, if_pos h2]⟩)
    · exact Or.inr (Or.inr ⟨h1, by rw [f_st0, if_neg h1, if_neg h2]⟩)
theorem f_s1_kp {M0 M : z_M} (h : z_kp M0 M) (dd c : Nat) : z_kp M0 (f_s1 M dd c) := (f_mv_kp h dd).sv (by decide) (by decide) _ _
theorem f_s3_kp {M0 M : z_M} (h : z_kp M0 M) {dd b c : Nat} (hb : b ≤ 6) (hc : c < 6) : z_kp M0 (f_s3 M dd b c) := (f_at_kp (f_s1_kp h dd c) hb hc).sv (by decide) (by decide) _ _
theorem f_s1_49 (M : z_M) (dd c : Nat) : f_s1 M dd c 49 = M 49 := by
  unfold f_s1
  rw [z_sv_row _ _ _ (by decide), f_mv_row _ _ (by decide)]
theorem f_s3_49 (M : z_M) {dd b c : Nat} (hb : b ≤ 6) (hc : c < 6) : f_s3 M dd b c 49 = M 49 := by
  unfold f_s3 f_s2
  rw [z_sv_row _ _ _ (by decide), f_at_row _ (by unfold i_talr; omega) (fun _ => by unfold i_cror; omega), f_s1_49]
theorem f_s2_52 (M : z_M) {dd b c : Nat} (hb : b ≤ 6) (hc : c < 6) : f_s2 M dd b c 52 = f_s1 M dd c 52 := by
  unfold f_s2
  rw [f_at_row _ (by unfold i_talr; omega) (fun _ => by unfold i_cror; omega)]
theorem f_s3_2 (M : z_M) {dd b c : Nat} (hb : b ≤ 6) (hc : c < 6) : f_s3 M dd b c 52 2 = nI c := by
  unfold f_s3
  rw [z_sv_get _ _ _ _ _ _ (Or.inr (by decide)), f_s2_52 M hb hc]
  exact z_sv_self _ _ _ _
theorem f_s3_3 (M : z_M) {dd b c : Nat} (hb : b ≤ 6) (hc : c < 6) : f_s3 M dd b c 52 3 = M 52 3 := by
  unfold f_s3
  rw [z_sv_get _ _ _ _ _ _ (Or.inr (by decide)), f_s2_52 M hb hc]
  unfold f_s1 f_mv
  rw [z_sv_get _ _ _ _ _ _ (Or.inr (by decide)), z_sv_get _ _ _ _ _ _ (Or.inr (by decide)), z_sv_get _ _ _ _ _ _ (Or.inr (by decide))]
theorem c_CellTransport_survivesStep {dA : Nat → ClassId} {ad : Nat → Nat} {M : z_M} (hR : ∀ r, r < 6 → z_okR M r) (hL : ∃ w jn, z_LI M w jn) {dd b c : Nat} (hd : dd < 8) (hdd : M 52 3 = nI dd) (hb : b ≤ 6) (eb : M 52 2 = nI b) (hc : c ≤ 6) (ec : f_ca (f_mv M dd) (f_mv M dd 52 0) (f_mv M dd 52 1) 6 0 = nI c) : z_CI y_CellTransport_survivesStep b_CellTransport_survivesStep 3 .boolean 3 dA ad [.ref (ad 0)] M ((f_st0 M dd b c).1) ((f_st0 M dd b c).2) := by
  refine z_ofI [some (.ref (ad 0)), none, none] (by decide) (Nat.le_of_ble_eq_true rfl) rfl (fun k C E => ?_)
  have C : z_C dA ad k b_CellTransport_survivesStep "CellTransport" 3 3 := C
  have hR1 := z_okR_kp (f_mv_kp z_kp.rf dd) hR
  refine x_aload_n C d_CellTransport_survivesStep_0 (i := 0) rfl rfl ?_
  refine g_CellTransport_particle C lk_CellTransport_47 d_CellTransport_survivesStep_1 ?_
  refine g_Particle_cellN C lk_CellTransport_178 d_CellTransport_survivesStep_4 ?_
  refine x_eqi eb ?_
  refine x_istore_n C d_CellTransport_survivesStep_7 (i := 1) rfl rfl ?_
  refine x_aload_n C d_CellTransport_survivesStep_8 (i := 0) rfl rfl ?_
  refine g_CellTransport_particle C lk_CellTransport_47 d_CellTransport_survivesStep_9 ?_
  refine x_callVNv C (c_Particle_move hd hdd) mt_Particle_move zl_Particle (zc_Particle _) rfl rfl rfl (Nat.le_of_ble_eq_true rfl) (Nat.le_of_ble_eq_true rfl) lk_CellTransport_196 d_CellTransport_survivesStep_12 ?_
  refine x_aload_n C d_CellTransport_survivesStep_15 (i := 0) rfl rfl ?_
  refine g_CellTransport_particle C lk_CellTransport_47 d_CellTransport_survivesStep_16 ?_
  refine x_aload_n C d_CellTransport_survivesStep_19 (i := 0) rfl rfl ?_
  refine g_CellTransport_geometry C lk_CellTransport_10 d_CellTransport_survivesStep_20 ?_
  refine x_aload_n C d_CellTransport_survivesStep_23 (i := 0) rfl rfl ?_
  refine g_CellTransport_particle C lk_CellTransport_47 d_CellTransport_survivesStep_24 ?_
  refine g_Particle_xN C lk_CellTransport_172 d_CellTransport_survivesStep_27 ?_
  refine x_aload_n C d_CellTransport_survivesStep_30 (i := 0) rfl rfl ?_
  refine g_CellTransport_particle C lk_CellTransport_47 d_CellTransport_survivesStep_31 ?_
  refine g_Particle_yN C lk_CellTransport_175 d_CellTransport_survivesStep_34 ?_
  refine x_callVNi C (c_Geometry_cellAt hR1 _ _) mt_Geometry_cellAt zl_Geometry (zc_Geometry _) rfl rfl rfl (Nat.le_of_ble_eq_true rfl) (Nat.le_of_ble_eq_true rfl) lk_CellTransport_129 d_CellTransport_survivesStep_37 ?_
  refine x_eqi ec ?_
  refine u_Particle_cellN C lk_CellTransport_178 d_CellTransport_survivesStep_40 ?_
  refine x_eqM (M2 := f_s1 M dd c) rfl ?_
  refine x_aload_n C d_CellTransport_survivesStep_43 (i := 0) rfl rfl ?_
  refine g_CellTransport_particle C lk_CellTransport_47 d_CellTransport_survivesStep_44 ?_
  refine g_Particle_cellN C lk_CellTransport_178 d_CellTransport_survivesStep_47 ?_
  refine x_eqi (z_sv_self _ _ _ _) ?_
  refine x_bipush C (6) d_CellTransport_survivesStep_50 rfl ?_
  refine x_icmp_ne C 70 d_CellTransport_survivesStep_52 rfl (fun h_52 => ?_) (fun h_52 => ?_)
  · have hc6 : c < 6 := z_b6 hc h_52
    refine x_aload_n C d_CellTransport_survivesStep_70 (i := 0) rfl rfl ?_
    refine g_CellTransport_counts C lk_CellTransport_33 d_CellTransport_survivesStep_71 ?_
    refine x_iload_n C d_CellTransport_survivesStep_74 (i := 1) rfl rfl ?_
    refine x_aload_n C d_CellTransport_survivesStep_75 (i := 0) rfl rfl ?_
    refine g_CellTransport_particle C lk_CellTransport_47 d_CellTransport_survivesStep_76 ?_
    refine g_Particle_cellN C lk_CellTransport_178 d_CellTransport_survivesStep_79 ?_
    refine x_eqi (z_sv_self _ _ _ _) ?_
    refine x_callVNv C (c_Counts_addTrack hb hc6) mt_Counts_addTrack zl_Counts (zc_Counts _) rfl rfl rfl (Nat.le_of_ble_eq_true rfl) (Nat.le_of_ble_eq_true rfl) lk_CellTransport_199 d_CellTransport_survivesStep_82 ?_
    refine x_eqM (M2 := f_s2 M dd b c) rfl ?_
    refine x_aload_n C d_CellTransport_survivesStep_85 (i := 0) rfl rfl ?_
    refine g_CellTransport_geometry C lk_CellTransport_10 d_CellTransport_survivesStep_86 ?_
    refine g_Geometry_cellsN C lk_CellTransport_93 d_CellTransport_survivesStep_89 ?_
    refine x_aload_n C d_CellTransport_survivesStep_92 (i := 0) rfl rfl ?_
    refine g_CellTransport_particle C lk_CellTransport_47 d_CellTransport_survivesStep_93 ?_
    refine g_Particle_cellN C lk_CellTransport_178 d_CellTransport_survivesStep_96 ?_
    refine x_eqi ((congrFun (f_s2_52 M hb hc6) 2).trans (z_sv_self _ _ _ _)) ?_
    refine rn_al_cells C hc6 d_CellTransport_survivesStep_99 ?_
    refine x_astore_n C d_CellTransport_survivesStep_100 (i := 2) rfl rfl ?_
    refine x_aload_n C d_CellTransport_survivesStep_101 (i := 0) rfl rfl ?_
    refine g_CellTransport_particle C lk_CellTransport_47 d_CellTransport_survivesStep_102 ?_
    refine x_dup C d_CellTransport_survivesStep_105 rfl ?_
    refine g_Particle_budgetN C lk_CellTransport_193 d_CellTransport_survivesStep_106 ?_
    refine x_aload_n C d_CellTransport_survivesStep_109 (i := 2) rfl rfl ?_
    refine g_Cell_densityN C hc6 lk_CellTransport_203 d_CellTransport_survivesStep_110 ?_
    refine x_isub C d_CellTransport_survivesStep_113 ?_
    refine u_Particle_budgetN C lk_CellTransport_193 d_CellTransport_survivesStep_114 ?_
    refine x_eqM (M2 := f_s3 M dd b c) rfl ?_
    refine x_aload_n C d_CellTransport_survivesStep_117 (i := 0) rfl rfl ?_
    refine g_CellTransport_particle C lk_CellTransport_47 d_CellTransport_survivesStep_118 ?_
    refine g_Particle_budgetN C lk_CellTransport_193 d_CellTransport_survivesStep_121 ?_
    refine x_eqi (z_sv_self _ _ _ _) ?_
    refine x_if_gt C 135 d_CellTransport_survivesStep_124 rfl (fun h_124 => ?_) (fun h_124 => ?_)
    · refine x_iconst C (1) d_CellTransport_survivesStep_135 rfl ?_
      refine x_goto C 140 d_CellTransport_survivesStep_136 rfl ?_
      exact x_zret C E (congrArg Prod.fst (show f_st0 M dd b c = (1, f_s3 M dd b c) by rw [f_st0, if_neg (Nat.ne_of_lt hc6), if_pos (show 0 < f_s2 M dd b c 52 4 - f_s2 M dd b c (i_cell c) 2 from h_124)])).symm (congrArg Prod.snd (show f_st0 M dd b c = (1, f_s3 M dd b c) by rw [f_st0, if_neg (Nat.ne_of_lt hc6), if_pos (show 0 < f_s2 M dd b c 52 4 - f_s2 M dd b c (i_cell c) 2 from h_124)])).symm rfl d_CellTransport_survivesStep_140
    · refine x_aload_n C d_CellTransport_survivesStep_127 (i := 0) rfl rfl ?_
      refine x_aload_n C d_CellTransport_survivesStep_128 (i := 2) rfl rfl ?_
      refine x_callVi C (c_CellTransport_survivesCollision hc6 (f_s3_2 M hb hc6) (hL.elim (fun w q => q.elim (fun jn hLI => ⟨w, jn, hLI.row (f_s3_49 M hb hc6)⟩)))) mt_CellTransport_survivesCollision zl_CellTransport (zc_CellTransport _) rfl rfl rfl (Nat.le_of_ble_eq_true rfl) (Nat.le_of_ble_eq_true rfl) lk_CellTransport_206 d_CellTransport_survivesStep_129 ?_
      refine x_if_eq C 139 d_CellTransport_survivesStep_132 rfl (fun h_132 => ?_) (fun h_132 => ?_)
      · refine x_iconst C (0) d_CellTransport_survivesStep_139 rfl ?_
        exact x_zret C E (((congrArg Prod.fst (show f_st0 M dd b c = f_col (f_s3 M dd b c) c by rw [f_st0, if_neg (Nat.ne_of_lt hc6), if_neg (show ¬ 0 < f_s2 M dd b c 52 4 - f_s2 M dd b c (i_cell c) 2 from h_124)])).trans h_132).symm) (congrArg Prod.snd (show f_st0 M dd b c = f_col (f_s3 M dd b c) c by rw [f_st0, if_neg (Nat.ne_of_lt hc6), if_neg (show ¬ 0 < f_s2 M dd b c 52 4 - f_s2 M dd b c (i_cell c) 2 from h_124)])).symm rfl d_CellTransport_survivesStep_140
      · refine x_iconst C (1) d_CellTransport_survivesStep_135 rfl ?_
        refine x_goto C 140 d_CellTransport_survivesStep_136 rfl ?_
        exact x_zret C E (((congrArg Prod.fst (show f_st0 M dd b c = f_col (f_s3 M dd b c) c by rw [f_st0, if_neg (Nat.ne_of_lt hc6), if_neg (show ¬ 0 < f_s2 M dd b c 52 4 - f_s2 M dd b c (i_cell c) 2 from h_124)])).trans ((f_col_01 _ _).resolve_left h_132)).symm) (congrArg Prod.snd (show f_st0 M dd b c = f_col (f_s3 M dd b c) c by rw [f_st0, if_neg (Nat.ne_of_lt hc6), if_neg (show ¬ 0 < f_s2 M dd b c 52 4 - f_s2 M dd b c (i_cell c) 2 from h_124)])).symm rfl d_CellTransport_survivesStep_140
  · refine x_aload_n C d_CellTransport_survivesStep_55 (i := 0) rfl rfl ?_
    refine g_CellTransport_counts C lk_CellTransport_33 d_CellTransport_survivesStep_56 ?_
    refine g_Counts_totalsN C lk_CellTransport_147 d_CellTransport_survivesStep_59 ?_
    refine x_iconst C (nI 1) d_CellTransport_survivesStep_62 rfl ?_
    refine x_dup2 C d_CellTransport_survivesStep_63 rfl rfl ?_
    refine rn_ld_totals C  (show 1 < 5 by decide) d_CellTransport_survivesStep_64 ?_
    refine x_iconst C (1) d_CellTransport_survivesStep_65 rfl ?_
    refine x_iadd C d_CellTransport_survivesStep_66 ?_
    refine rn_st_totals C  (show 1 < 5 by decide) d_CellTransport_survivesStep_67 ?_
    refine x_iconst C (0) d_CellTransport_survivesStep_68 rfl ?_
    exact x_zret C E (congrArg Prod.fst (show f_st0 M dd b c = (0, f_lk M dd c) by rw [f_st0, if_pos ((nI_eq (a := c) (b := 6) (by omega) (by decide)).mp h_52)])).symm (congrArg Prod.snd (show f_st0 M dd b c = (0, f_lk M dd c) by rw [f_st0, if_pos ((nI_eq (a := c) (b := 6) (by omega) (by decide)).mp h_52)])).symm rfl d_CellTransport_survivesStep_69
