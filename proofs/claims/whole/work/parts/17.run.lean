def f_dd (M : z_M) : Nat := (M 52 3).toNatClampNeg
def f_bb (M : z_M) : Nat := (M 52 2).toNatClampNeg
def f_cc (M : z_M) : Nat := (f_ca (f_mv M (f_dd M)) (f_mv M (f_dd M) 52 0) (f_mv M (f_dd M) 52 1) 6 0).toNatClampNeg
def f_stp (M : z_M) : Int32 × z_M := f_st0 M (f_dd M) (f_bb M) (f_cc M)
def z_FI (M : z_M) : Prop := (∀ r, r < 6 → z_okR M r) ∧ (∃ w jn, z_LI M w jn) ∧ (∃ dd : Nat, dd < 8 ∧ M 52 3 = nI dd) ∧ (∃ b : Nat, b ≤ 6 ∧ M 52 2 = nI b)
theorem f_cc_n (M : z_M) : f_cc M ≤ 6 ∧ f_ca (f_mv M (f_dd M)) (f_mv M (f_dd M) 52 0) (f_mv M (f_dd M) 52 1) 6 0 = nI (f_cc M) := by
  obtain ⟨c, h1, h2⟩ := f_ca_n (f_mv M (f_dd M)) (f_mv M (f_dd M) 52 0) (f_mv M (f_dd M) 52 1) 6 0 (by omega)
  have e : f_cc M = c := by unfold f_cc; rw [h2]; exact nI_clamp (by omega)
  rw [e]
  exact ⟨h1, h2⟩
theorem f_dd_n {M : z_M} (h : ∃ dd : Nat, dd < 8 ∧ M 52 3 = nI dd) : f_dd M < 8 ∧ M 52 3 = nI (f_dd M) := by
  obtain ⟨d, h1, h2⟩ := h
  have e : f_dd M = d := by unfold f_dd; rw [h2]; exact nI_clamp (by omega)
  rw [e]
  exact ⟨h1, h2⟩
theorem f_bb_n {M : z_M} (h : ∃ b : Nat, b ≤ 6 ∧ M 52 2 = nI b) : f_bb M ≤ 6 ∧ M 52 2 = nI (f_bb M) := by
  obtain ⟨d, h1, h2⟩ := h
  have e : f_bb M = d := by unfold f_bb; rw [h2]; exact nI_clamp (by omega)
  rw [e]
  exact ⟨h1, h2⟩
theorem f_lk_kp {M0 M : z_M} (h : z_kp M0 M) (dd c : Nat) : z_kp M0 (f_lk M dd c) := (f_s1_kp h dd c).sv (by decide) (by decide) _ _
theorem z_kpx {M0 M2 M3 : z_M} (e : M3 = M2) (h : z_kp M0 M2) : z_kp M0 M3 := by rw [e]; exact h
theorem f_stp_kp {M : z_M} (hF : z_FI M) : z_kp M (f_stp M).2 := by
  have hb := (f_bb_n hF.2.2.2).1
  have hc := (f_cc_n M).1
  rcases f_st0_cases M (f_dd M) (f_bb M) (f_cc M) with ⟨-, e⟩ | ⟨n, e⟩ | ⟨n, e⟩
  · exact z_kpx (congrArg Prod.snd e) (f_lk_kp z_kp.rf _ _)
  · exact z_kpx (congrArg Prod.snd e) (f_s3_kp z_kp.rf hb (by omega))
  · exact z_kpx (congrArg Prod.snd e) (f_col_kp (f_s3_kp z_kp.rf hb (by omega)) (by omega))
theorem f_lk_49 (M : z_M) (dd c : Nat) : f_lk M dd c 49 = M 49 := by
  unfold f_lk
  rw [z_sv_row _ _ _ (by decide), f_s1_49]
theorem f_stp_LI {M : z_M} (hF : z_FI M) : ∃ w jn, z_LI (f_stp M).2 w jn := by
  have hb := (f_bb_n hF.2.2.2).1
  have hc := (f_cc_n M).1
  obtain ⟨w, jn, hL⟩ := hF.2.1
  rcases f_st0_cases M (f_dd M) (f_bb M) (f_cc M) with ⟨-, e⟩ | ⟨n, e⟩ | ⟨n, e⟩
  · exact z_LIx (congrArg Prod.snd e) ⟨w, jn, hL.row (f_lk_49 M (f_dd M) (f_cc M))⟩
  · exact z_LIx (congrArg Prod.snd e) ⟨w, jn, hL.row (f_s3_49 M hb (by omega))⟩
  · exact z_LIx (congrArg Prod.snd e) (f_col_LI (hL.row (f_s3_49 M hb (by omega))) (by omega))
theorem f_stp_on {M : z_M} (hF : z_FI M) (h : ¬ (f_stp M).1 = 0) : z_FI (f_stp M).2 := by
  have hb := (f_bb_n hF.2.2.2).1
  have hc := (f_cc_n M).1
  refine ⟨z_okR_kp (f_stp_kp hF) hF.1, f_stp_LI hF, ?_⟩
  rcases f_st0_cases M (f_dd M) (f_bb M) (f_cc M) with ⟨-, e⟩ | ⟨n, e⟩ | ⟨n, e⟩
  · exact absurd (congrArg Prod.fst e) h
  · have e2 : (f_stp M).2 = f_s3 M (f_dd M) (f_bb M) (f_cc M) := congrArg Prod.snd e
    rw [e2]
    exact ⟨⟨f_dd M, (f_dd_n hF.2.2.1).1, (f_s3_3 M hb (by omega)).trans (f_dd_n hF.2.2.1).2⟩, ⟨f_cc M, hc, f_s3_2 M hb (by omega)⟩⟩
  · have e1 : (f_stp M).1 = (f_col (f_s3 M (f_dd M) (f_bb M) (f_cc M)) (f_cc M)).1 := congrArg Prod.fst e
    have e2 : (f_stp M).2 = (f_col (f_s3 M (f_dd M) (f_bb M) (f_cc M)) (f_cc M)).2 := congrArg Prod.snd e
    obtain ⟨g1, g2⟩ := f_col_on (M := f_s3 M (f_dd M) (f_bb M) (f_cc M)) (c := f_cc M) (by omega) (by rw [← e1]; exact h)
    rw [e2]
    exact ⟨g1, f_cc M, hc, g2.trans (f_s3_2 M hb (by omega))⟩
def f_flp : Nat → z_M → z_M
  | 0, M => z_sv M 34 2 (M 34 2 + 1)
  | n + 1, M => if (f_stp M).1 = 0 then (f_stp M).2 else f_flp n (f_stp M).2
def f_fl0 (M : z_M) : z_M := f_aim (z_sv M 52 2 (f_ca M (M 52 0) (M 52 1) 6 0))
def f_fly (M : z_M) : z_M := f_flp 200 (f_fl0 M)
theorem f_fl0_kp (M : z_M) : z_kp M (f_fl0 M) := f_aim_kp (z_kp.rf.sv (by decide) (by decide) _ _)
theorem f_fl0_FI {M : z_M} (hR : ∀ r, r < 6 → z_okR M r) (hL : ∃ w jn, z_LI M w jn) : z_FI (f_fl0 M) := by
  obtain ⟨w, jn, hLI⟩ := hL
  obtain ⟨c, h1, h2⟩ := f_ca_n M (M 52 0) (M 52 1) 6 0 (by omega)
  refine ⟨z_okR_kp (f_fl0_kp M) hR, ⟨w, jn, hLI.row ?_⟩, f_aim_dir _, c, h1, ?_⟩
  · unfold f_fl0
    rw [f_aim_row _ (by decide) (by decide), z_sv_row _ _ _ (by decide)]
  · unfold f_fl0
    rw [f_aim_2, z_sv_self]
    exact h2
theorem f_flp_kp : ∀ (n : Nat) (M : z_M), z_FI M → z_kp M (f_flp n M) ∧ ∃ w jn, z_LI (f_flp n M) w jn := by
  intro n
  induction n with
  | zero =>
    intro M hF
    obtain ⟨w, jn, hL⟩ := hF.2.1
    exact ⟨z_kp.rf.sv (k := 34) (by decide) (by decide) _ _, w, jn, hL.row (z_sv_row M _ _ (by decide))⟩
  | succ n ih =>
    intro M hF
    by_cases h : (f_stp M).1 = 0
    · have e : f_flp (n + 1) M = (f_stp M).2 := if_pos h
      rw [e]
      exact ⟨f_stp_kp hF, f_stp_LI hF⟩
    · have e : f_flp (n + 1) M = f_flp n (f_stp M).2 := if_neg h
      rw [e]
      obtain ⟨g1, g2⟩ := ih _ (f_stp_on hF h)
      exact ⟨(f_stp_kp hF).tr g1, g2⟩
theorem f_fly_kp {M : z_M} (hR : ∀ r, r < 6 → z_okR M r) (hL : ∃ w jn, z_LI M w jn) : z_kp M (f_fly M) ∧ ∃ w jn, z_LI (f_fly M) w jn := by
  obtain ⟨g1, g2⟩ := f_flp_kp 200 _ (f_fl0_FI hR hL)
  exact ⟨(f_fl0_kp M).tr g1, g2⟩
theorem lp_CellTransport_fly {dA : Nat → ClassId} {ad : Nat → Nat} {M1 : z_M} {k : z_K} (C : z_C dA ad k b_CellTransport_fly "CellTransport" 4 2) (E : z_RV dA ad k M1) :
    ∀ (n i : Nat) (M : z_M), i + n = 200 → z_FI M → f_flp n M = M1 → z_X dA ad k 34 [some (.ref (ad 0)), some (.int (nI i))] [] M := by
  intro n
  induction n with
  | zero =>
    intro i M hi hF hr
    refine x_iload_n C d_CellTransport_fly_34 (i := 1) rfl rfl ?_
    refine x_sipush C (200) d_CellTransport_fly_35 rfl ?_
    refine x_icmp_ge C 55 d_CellTransport_fly_38 rfl (fun h_38 => ?_) (fun h_38 => absurd (show (200 : Int32) ≤ nI i from nI_le (a := 200) (by omega) (by omega)) h_38)
    refine x_aload_n C d_CellTransport_fly_55 (i := 0) rfl rfl ?_
    refine g_CellTransport_counts C lk_CellTransport_33 d_CellTransport_fly_56 ?_
    refine g_Counts_totalsN C lk_CellTransport_147 d_CellTransport_fly_59 ?_
    refine x_iconst C (nI 2) d_CellTransport_fly_62 rfl ?_
    refine x_dup2 C d_CellTransport_fly_63 rfl rfl ?_
    refine rn_ld_totals C  (show 2 < 5 by decide) d_CellTransport_fly_64 ?_
    refine x_iconst C (1) d_CellTransport_fly_65 rfl ?_
    refine x_iadd C d_CellTransport_fly_66 ?_
    refine rn_st_totals C  (show 2 < 5 by decide) d_CellTransport_fly_67 ?_
    exact x_vret C E hr d_CellTransport_fly_68
  | succ n ih =>
    intro i M hi hF hr
    obtain ⟨hd, hdd⟩ := f_dd_n hF.2.2.1
    obtain ⟨hb, eb⟩ := f_bb_n hF.2.2.2
    obtain ⟨hc, ec⟩ := f_cc_n M
    refine x_iload_n C d_CellTransport_fly_34 (i := 1) rfl rfl ?_
    refine x_sipush C (200) d_CellTransport_fly_35 rfl ?_
    refine x_icmp_ge C 55 d_CellTransport_fly_38 rfl (fun h_38 => absurd (show nI 200 ≤ nI i from h_38) (nI_ge (by omega) (by decide))) (fun h_38 => ?_)
    refine x_aload_n C d_CellTransport_fly_41 (i := 0) rfl rfl ?_
    refine x_callVi C (c_CellTransport_survivesStep hF.1 hF.2.1 hd hdd hb eb hc ec) mt_CellTransport_survivesStep zl_CellTransport (zc_CellTransport _) rfl rfl rfl (Nat.le_of_ble_eq_true rfl) (Nat.le_of_ble_eq_true rfl) lk_CellTransport_184 d_CellTransport_fly_42 ?_
    refine x_if_ne C 49 d_CellTransport_fly_45 rfl (fun h_45 => ?_) (fun h_45 => ?_)
    · refine x_iinc C (nI (i + 1)) d_CellTransport_fly_49 rfl (z_inc i) rfl ?_
      refine x_goto C 34 d_CellTransport_fly_52 rfl ?_
      exact ih (i + 1) _ (by omega) (f_stp_on hF h_45) (by rw [← hr]; exact (if_neg (show ¬ (f_stp M).1 = 0 from h_45)).symm)
    · exact x_vret C E (by rw [← hr]; exact (if_pos (show (f_stp M).1 = 0 from h_45)).symm) d_CellTransport_fly_48
theorem c_CellTransport_fly {dA : Nat → ClassId} {ad : Nat → Nat} {M : z_M} (hR : ∀ r, r < 6 → z_okR M r) (hL : ∃ w jn, z_LI M w jn) : z_CV y_CellTransport_fly b_CellTransport_fly 2 4 dA ad [.ref (ad 0)] M (f_fly M) := by
  refine z_ofV [some (.ref (ad 0)), none] (by decide) (Nat.le_of_ble_eq_true rfl) rfl (fun k C E => ?_)
  have C : z_C dA ad k b_CellTransport_fly "CellTransport" 4 2 := C
  refine x_aload_n C d_CellTransport_fly_0 (i := 0) rfl rfl ?_
  refine g_CellTransport_particle C lk_CellTransport_47 d_CellTransport_fly_1 ?_
  refine x_aload_n C d_CellTransport_fly_4 (i := 0) rfl rfl ?_
  refine g_CellTransport_geometry C lk_CellTransport_10 d_CellTransport_fly_5 ?_
  refine x_aload_n C d_CellTransport_fly_8 (i := 0) rfl rfl ?_
  refine g_CellTransport_particle C lk_CellTransport_47 d_CellTransport_fly_9 ?_
  refine g_Particle_xN C lk_CellTransport_172 d_CellTransport_fly_12 ?_
  refine x_aload_n C d_CellTransport_fly_15 (i := 0) rfl rfl ?_
  refine g_CellTransport_particle C lk_CellTransport_47 d_CellTransport_fly_16 ?_
  refine g_Particle_yN C lk_CellTransport_175 d_CellTransport_fly_19 ?_
  refine x_callVNi C (c_Geometry_cellAt hR _ _) mt_Geometry_cellAt zl_Geometry (zc_Geometry _) rfl rfl rfl (Nat.le_of_ble_eq_true rfl) (Nat.le_of_ble_eq_true rfl) lk_CellTransport_129 d_CellTransport_fly_22 ?_
  refine u_Particle_cellN C lk_CellTransport_178 d_CellTransport_fly_25 ?_
  refine x_aload_n C d_CellTransport_fly_28 (i := 0) rfl rfl ?_
  refine x_callVv C (c_CellTransport_aim ) mt_CellTransport_aim zl_CellTransport (zc_CellTransport _) rfl rfl rfl (Nat.le_of_ble_eq_true rfl) (Nat.le_of_ble_eq_true rfl) lk_CellTransport_181 d_CellTransport_fly_29 ?_
  refine x_iconst C (0) d_CellTransport_fly_32 rfl ?_
  refine x_istore_n C d_CellTransport_fly_33 (i := 1) rfl rfl ?_
  exact lp_CellTransport_fly C E 200 0 _ (by omega) (f_fl0_FI hR hL) rfl
def f_snd (M : z_M) (w : Nat) : z_M := z_sv (z_sv (z_sv M 49 2 (nI w)) 52 0 (M 50 w)) 52 1 (M 51 w)
def f_ww (M : z_M) : Nat := (M 49 2).toNatClampNeg
def f_hl : Nat → Nat → z_M → Nat × z_M
  | 0, fl, M => (fl, M)
  | n + 1, fl, M => if M 49 2 ≤ 0 then (fl, M) else f_hl n (fl + 1) (f_fly (f_snd M (f_ww M - 1)))
def f_h0 (M : z_M) : z_M := f_jn (z_sv (z_sv M 49 2 0) 49 3 0) 0 0 (M 0 6) (M 0 7)
def f_h1 (p : Nat × z_M) : z_M := z_sv p.2 34 0 (p.2 34 0 + nI p.1)
def f_h2 (p : Nat × z_M) : z_M := z_sv (f_h1 p) 34 4 (f_h1 p 34 4 + 1)
def z_HI (M : z_M) : Prop := (∀ r, r < 6 → z_okR M r) ∧ ∃ w jn, z_LI M w jn
theorem f_snd_kp (M : z_M) (w : Nat) : z_kp M (f_snd M w) := ((z_kp.rf.sv (k := 49) (by decide) (by decide) _ _).sv (k := 52) (by decide) (by decide) _ _).sv (k := 52) (by decide) (by decide) _ _
theorem f_snd_LI {M : z_M} {w jn : Nat} (h : z_LI M (w + 1) jn) : z_LI (f_snd M w) w jn := by
  refine ⟨by have := h.1; omega, h.2.1, ?_, ?_⟩
  · unfold f_snd
    rw [z_sv_get _ _ _ _ _ _ (Or.inl (by decide)), z_sv_get _ _ _ _ _ _ (Or.inl (by decide)), z_sv_self]
  · unfold f_snd
    rw [z_sv_get _ _ _ _ _ _ (Or.inl (by decide)), z_sv_get _ _ _ _ _ _ (Or.inl (by decide)), z_sv_get _ _ _ _ _ _ (Or.inr (by decide))]
    exact h.2.2.2
theorem f_h0_HI {M : z_M} (hR : ∀ r, r < 6 → z_okR M r) : z_kp M (f_h0 M) ∧ z_HI (f_h0 M) := by
  have k1 : z_kp M (f_h0 M) := f_jn_kp ((z_kp.rf.sv (by decide) (by decide) _ _).sv (by decide) (by decide) _ _) _ _ _ _
  exact ⟨k1, z_okR_kp k1 hR, 1, 1, f_jn_LI (Nat.le_refl 0) (by decide) _ _⟩
theorem f_hl_kp : ∀ (n fl : Nat) (M : z_M), z_HI M → z_kp M (f_hl n fl M).2 ∧ z_HI (f_hl n fl M).2 := by
  intro n
  induction n with
  | zero => intro fl M h; exact ⟨z_kp.rf, h⟩
  | succ n ih =>
    intro fl M h
    by_cases g : M 49 2 ≤ 0
    · have e : f_hl (n + 1) fl M = (fl, M) := if_pos g
      rw [e]
      exact ⟨z_kp.rf, h⟩
    · have e : f_hl (n + 1) fl M = f_hl n (fl + 1) (f_fly (f_snd M (f_ww M - 1))) := if_neg g
      rw [e]
      obtain ⟨hR, w, jn, hL⟩ := h
      have hw : 0 < w := by
        rcases Nat.eq_zero_or_pos w with q | q
        · exact absurd (by rw [hL.2.2.1, q]; decide) g
        · exact q
      have ew : f_ww M = w := by unfold f_ww; rw [hL.2.2.1]; exact nI_clamp (by have := hL.1; have := hL.2.1; omega)
      have hL2 : z_LI M ((f_ww M - 1) + 1) jn := by rw [ew, show w - 1 + 1 = w by omega]; exact hL
      have k1 := f_snd_kp M (f_ww M - 1)
      obtain ⟨g1, g2⟩ := f_fly_kp (z_okR_kp k1 hR) ⟨_, _, f_snd_LI hL2⟩
      obtain ⟨i1, i2⟩ := ih (fl + 1) _ ⟨z_okR_kp (k1.tr g1) hR, g2⟩
      exact ⟨(k1.tr g1).tr i1, i2⟩
theorem lp_CellTransport_playHistory {dA : Nat → ClassId} {ad : Nat → Nat} {r0 : Int32} {M1 : z_M} {k : z_K} (C : z_C dA ad k b_CellTransport_playHistory "CellTransport" 5 2) (E : z_RI dA ad k .int r0 M1) :
    ∀ (n fl : Nat) (M : z_M), fl + n = 12 → z_HI M → nI (f_hl n fl M).1 = r0 → f_h2 (f_hl n fl M) = M1 → z_X dA ad k 25 [some (.ref (ad 0)), some (.int (nI fl))] [] M := by
  have tail : ∀ (fl : Nat) (M : z_M), nI fl = r0 → f_h2 (fl, M) = M1 → z_X dA ad k 62 [some (.ref (ad 0)), some (.int (nI fl))] [] M := by
    intro fl M hr hM
    refine x_aload_n C d_CellTransport_playHistory_62 (i := 0) rfl rfl ?_
    refine g_CellTransport_counts C lk_CellTransport_33 d_CellTransport_playHistory_63 ?_
    refine g_Counts_totalsN C lk_CellTransport_147 d_CellTransport_playHistory_66 ?_
    refine x_iconst C (nI 0) d_CellTransport_playHistory_69 rfl ?_
    refine x_dup2 C d_CellTransport_playHistory_70 rfl rfl ?_
    refine rn_ld_totals C  (show 0 < 5 by decide) d_CellTransport_playHistory_71 ?_
    refine x_iload_n C d_CellTransport_playHistory_72 (i := 1) rfl rfl ?_
    refine x_iadd C d_CellTransport_playHistory_73 ?_
    refine rn_st_totals C  (show 0 < 5 by decide) d_CellTransport_playHistory_74 ?_
    refine x_aload_n C d_CellTransport_playHistory_75 (i := 0) rfl rfl ?_
    refine g_CellTransport_counts C lk_CellTransport_33 d_CellTransport_playHistory_76 ?_
    refine g_Counts_totalsN C lk_CellTransport_147 d_CellTransport_playHistory_79 ?_
    refine x_iconst C (nI 4) d_CellTransport_playHistory_82 rfl ?_
    refine x_dup2 C d_CellTransport_playHistory_83 rfl rfl ?_
    refine rn_ld_totals C  (show 4 < 5 by decide) d_CellTransport_playHistory_84 ?_
    refine x_iconst C (1) d_CellTransport_playHistory_85 rfl ?_
    refine x_iadd C d_CellTransport_playHistory_86 ?_
    refine rn_st_totals C  (show 4 < 5 by decide) d_CellTransport_playHistory_87 ?_
    refine x_iload_n C d_CellTransport_playHistory_88 (i := 1) rfl rfl ?_
    exact x_iret C E hr hM d_CellTransport_playHistory_89
  intro n
  induction n with
  | zero =>
    intro fl M hi hI hr hM
    refine x_aload_n C d_CellTransport_playHistory_25 (i := 0) rfl rfl ?_
    refine g_CellTransport_line C lk_CellTransport_40 d_CellTransport_playHistory_26 ?_
    refine g_Line_waitingN C lk_CellTransport_162 d_CellTransport_playHistory_29 ?_
    refine x_if_le C 62 d_CellTransport_playHistory_32 rfl (fun h_32 => ?_) (fun h_32 => ?_)
    · exact tail fl M hr hM
    · refine x_iload_n C d_CellTransport_playHistory_35 (i := 1) rfl rfl ?_
      refine x_bipush C (12) d_CellTransport_playHistory_36 rfl ?_
      refine x_icmp_ge C 62 d_CellTransport_playHistory_38 rfl (fun h_38 => ?_) (fun h_38 => absurd (show (12 : Int32) ≤ nI fl from nI_le (a := 12) (by omega) (by omega)) h_38)
      exact tail fl M hr hM
  | succ n ih =>
    intro fl M hi hI hr hM
    have hI0 := hI
    obtain ⟨hR, w, jn, hL⟩ := hI
    refine x_aload_n C d_CellTransport_playHistory_25 (i := 0) rfl rfl ?_
    refine g_CellTransport_line C lk_CellTransport_40 d_CellTransport_playHistory_26 ?_
    refine g_Line_waitingN C lk_CellTransport_162 d_CellTransport_playHistory_29 ?_
    refine x_if_le C 62 d_CellTransport_playHistory_32 rfl (fun h_32 => ?_) (fun h_32 => ?_)
    · exact tail fl M (by rw [← hr, show f_hl (n + 1) fl M = (fl, M) from if_pos h_32]) (by rw [← hM, show f_hl (n + 1) fl M = (fl, M) from if_pos h_32])
    · have e : f_hl (n + 1) fl M = f_hl n (fl + 1) (f_fly (f_snd M (f_ww M - 1))) := if_neg h_32
      have hw0 : 0 < w := by
        rcases Nat.eq_zero_or_pos w with q | q
        · exact absurd (by rw [hL.2.2.1, q]; decide) h_32
        · exact q
      have ew : f_ww M = w := by unfold f_ww; rw [hL.2.2.1]; exact nI_clamp (by have := hL.1; have := hL.2.1; omega)
      have hL2 : z_LI M ((f_ww M - 1) + 1) jn := by rw [ew, show w - 1 + 1 = w by omega]; exact hL
      have hw : f_ww M - 1 < 12 := by have := hL.1; have := hL.2.1; omega
      have hI2 : z_HI (f_fly (f_snd M (f_ww M - 1))) := by
        obtain ⟨g1, g2⟩ := f_fly_kp (z_okR_kp (f_snd_kp M (f_ww M - 1)) hR) ⟨_, _, f_snd_LI hL2⟩
        exact ⟨z_okR_kp ((f_snd_kp M (f_ww M - 1)).tr g1) hR, g2⟩
      refine x_iload_n C d_CellTransport_playHistory_35 (i := 1) rfl rfl ?_
      refine x_bipush C (12) d_CellTransport_playHistory_36 rfl ?_
      refine x_icmp_ge C 62 d_CellTransport_playHistory_38 rfl (fun h_38 => absurd (show nI 12 ≤ nI fl from h_38) (nI_ge (by omega) (by decide))) (fun h_38 => ?_)
      refine x_aload_n C d_CellTransport_playHistory_41 (i := 0) rfl rfl ?_
      refine g_CellTransport_line C lk_CellTransport_40 d_CellTransport_playHistory_42 ?_
      refine x_aload_n C d_CellTransport_playHistory_45 (i := 0) rfl rfl ?_
      refine g_CellTransport_particle C lk_CellTransport_47 d_CellTransport_playHistory_46 ?_
      refine x_callVNv C (c_Line_sendLast hw hL2.2.2.1) mt_Line_sendLast zl_Line (zc_Line _) rfl rfl rfl (Nat.le_of_ble_eq_true rfl) (Nat.le_of_ble_eq_true rfl) lk_CellTransport_165 d_CellTransport_playHistory_49 ?_
      refine x_eqM (M2 := f_snd M (f_ww M - 1)) rfl ?_
      refine x_iinc C (nI (fl + 1)) d_CellTransport_playHistory_52 rfl (z_inc fl) rfl ?_
      refine x_aload_n C d_CellTransport_playHistory_55 (i := 0) rfl rfl ?_
      refine x_callVv C (c_CellTransport_fly (z_okR_kp (f_snd_kp M _) hR) ⟨_, _, f_snd_LI hL2⟩) mt_CellTransport_fly zl_CellTransport (zc_CellTransport _) rfl rfl rfl (Nat.le_of_ble_eq_true rfl) (Nat.le_of_ble_eq_true rfl) lk_CellTransport_169 d_CellTransport_playHistory_56 ?_
      refine x_goto C 25 d_CellTransport_playHistory_59 rfl ?_
      exact ih (fl + 1) _ (by omega) hI2 (by rw [← hr, e]) (by rw [← hM, e])
theorem c_CellTransport_playHistory {dA : Nat → ClassId} {ad : Nat → Nat} {M : z_M} (hR : ∀ r, r < 6 → z_okR M r) : z_CI y_CellTransport_playHistory b_CellTransport_playHistory 2 .int 5 dA ad [.ref (ad 0)] M (nI (f_hl 12 0 (f_h0 M)).1) (f_h2 (f_hl 12 0 (f_h0 M))) := by
  refine z_ofI [some (.ref (ad 0)), none] (by decide) (Nat.le_of_ble_eq_true rfl) rfl (fun k C E => ?_)
  have C : z_C dA ad k b_CellTransport_playHistory "CellTransport" 5 2 := C
  refine x_aload_n C d_CellTransport_playHistory_0 (i := 0) rfl rfl ?_
  refine g_CellTransport_line C lk_CellTransport_40 d_CellTransport_playHistory_1 ?_
  refine x_callVNv C (c_Line_empty ) mt_Line_empty zl_Line (zc_Line _) rfl rfl rfl (Nat.le_of_ble_eq_true rfl) (Nat.le_of_ble_eq_true rfl) lk_CellTransport_156 d_CellTransport_playHistory_4 ?_
  refine x_aload_n C d_CellTransport_playHistory_7 (i := 0) rfl rfl ?_
  refine g_CellTransport_line C lk_CellTransport_40 d_CellTransport_playHistory_8 ?_
  refine x_aload_n C d_CellTransport_playHistory_11 (i := 0) rfl rfl ?_
  refine g_CellTransport_sourceX C lk_CellTransport_109 d_CellTransport_playHistory_12 ?_
  refine x_eqi ((z_sv_get _ _ _ _ _ _ (Or.inl (by decide))).trans (z_sv_get _ _ _ _ _ _ (Or.inl (by decide)))) ?_
  refine x_aload_n C d_CellTransport_playHistory_15 (i := 0) rfl rfl ?_
  refine g_CellTransport_sourceY C lk_CellTransport_112 d_CellTransport_playHistory_16 ?_
  refine x_eqi ((z_sv_get _ _ _ _ _ _ (Or.inl (by decide))).trans (z_sv_get _ _ _ _ _ _ (Or.inl (by decide)))) ?_
  refine x_callVNi C (c_Line_join (M := z_sv (z_sv M 49 2 0) 49 3 0) (w := 0) (jn := 0) (by decide) (by decide) ((z_sv_get _ _ _ _ _ _ (Or.inr (by decide))).trans (z_sv_self _ _ _ _)) (z_sv_self _ _ _ _) _ _) mt_Line_join zl_Line (zc_Line _) rfl rfl rfl (Nat.le_of_ble_eq_true rfl) (Nat.le_of_ble_eq_true rfl) lk_CellTransport_159 d_CellTransport_playHistory_19 ?_
  refine x_pop C d_CellTransport_playHistory_22 rfl ?_
  refine x_iconst C (0) d_CellTransport_playHistory_23 rfl ?_
  refine x_istore_n C d_CellTransport_playHistory_24 (i := 1) rfl rfl ?_
  exact lp_CellTransport_playHistory C E 12 0 (f_h0 M) (by omega) (f_h0_HI hR).2 rfl rfl
theorem f_h2_kp {M0 : z_M} {p : Nat × z_M} (h : z_kp M0 p.2) : z_kp M0 (f_h2 p) := (h.sv (k := 34) (by decide) (by decide) _ _).sv (k := 34) (by decide) (by decide) _ _
def f_his (M : z_M) : Int32 × z_M := (nI (f_hl 12 0 (f_h0 M)).1, f_h2 (f_hl 12 0 (f_h0 M)))
theorem f_his_kp {M : z_M} (hR : ∀ r, r < 6 → z_okR M r) : z_kp M (f_his M).2 := by
  obtain ⟨k1, h1⟩ := f_h0_HI hR
  exact f_h2_kp (k1.tr (f_hl_kp 12 0 _ h1).1)
def f_run : Nat → Int32 → z_M → Int32 × z_M
  | 0, a, M => (a, M)
  | n + 1, a, M => f_run n (a + (f_his M).1) (f_his M).2
theorem f_run_kp : ∀ (n : Nat) (a : Int32) (M : z_M), (∀ r, r < 6 → z_okR M r) → z_kp M (f_run n a M).2 := by
  intro n
  induction n with
  | zero => intro a M _; exact z_kp.rf
  | succ n ih => intro a M hR; exact (f_his_kp hR).tr (ih _ _ (z_okR_kp (f_his_kp hR) hR))
theorem lp_CellTransport_run {dA : Nat → ClassId} {ad : Nat → Nat} {r0 : Int32} {M1 : z_M} {k : z_K} {N : Nat} (hN : N ≤ 2) (C : z_C dA ad k b_CellTransport_run "CellTransport" 6 4) (E : z_RI dA ad k .int r0 M1) :
    ∀ (n i : Nat) (a : Int32) (M : z_M), i + n = N → (∀ r, r < 6 → z_okR M r) → (f_run n a M).1 = r0 → (f_run n a M).2 = M1 → z_X dA ad k 15 [some (.ref (ad 0)), some (.int (nI N)), some (.int a), some (.int (nI i))] [] M := by
  intro n
  induction n with
  | zero =>
    intro i a M hi hR hr hM
    refine x_iload_n C d_CellTransport_run_15 (i := 3) rfl rfl ?_
    refine x_iload_n C d_CellTransport_run_16 (i := 1) rfl rfl ?_
    refine x_icmp_ge C 33 d_CellTransport_run_17 rfl (fun h_17 => ?_) (fun h_17 => absurd (nI_le (by omega) (by omega)) h_17)
    refine x_iload_n C d_CellTransport_run_33 (i := 2) rfl rfl ?_
    exact x_iret C E hr hM d_CellTransport_run_34
  | succ n ih =>
    intro i a M hi hR hr hM
    refine x_iload_n C d_CellTransport_run_15 (i := 3) rfl rfl ?_
    refine x_iload_n C d_CellTransport_run_16 (i := 1) rfl rfl ?_
    refine x_icmp_ge C 33 d_CellTransport_run_17 rfl (fun h_17 => absurd h_17 (nI_ge (by omega) (by omega))) (fun h_17 => ?_)
    refine x_iload_n C d_CellTransport_run_20 (i := 2) rfl rfl ?_
    refine x_aload_n C d_CellTransport_run_21 (i := 0) rfl rfl ?_
    refine x_callVi C (c_CellTransport_playHistory hR) mt_CellTransport_playHistory zl_CellTransport (zc_CellTransport _) rfl rfl rfl (Nat.le_of_ble_eq_true rfl) (Nat.le_of_ble_eq_true rfl) lk_CellTransport_125 d_CellTransport_run_22 ?_
    refine x_iadd C d_CellTransport_run_25 ?_
    refine x_istore_n C d_CellTransport_run_26 (i := 2) rfl rfl ?_
    refine x_iinc C (nI (i + 1)) d_CellTransport_run_27 rfl (z_inc i) rfl ?_
    refine x_goto C 15 d_CellTransport_run_30 rfl ?_
    exact ih (i + 1) _ (f_his M).2 (by omega) (z_okR_kp (f_his_kp hR) hR) hr hM
theorem c_CellTransport_runN {dA : Nat → ClassId} {ad : Nat → Nat} {M : z_M} {a : Int32} (hn : ¬ p_btw a 1 2) : z_CI y_CellTransport_run b_CellTransport_run 4 .int 6 dA ad [.ref (ad 0), .int a] M (-1) (M) := by
  refine z_ofI [some (.ref (ad 0)), some (.int a), none, none] (by decide) (Nat.le_of_ble_eq_true rfl) rfl (fun k C E => ?_)
  have C : z_C dA ad k b_CellTransport_run "CellTransport" 6 4 := C
  refine x_iload_n C d_CellTransport_run_0 (i := 1) rfl rfl ?_
  refine x_iconst C (1) d_CellTransport_run_1 rfl ?_
  refine x_iconst C (2) d_CellTransport_run_2 rfl ?_
  refine x_callSi C (c_CellTransport_isBetween _ _ _) mt_CellTransport_isBetween rfl rfl (Nat.le_of_ble_eq_true rfl) (Nat.le_of_ble_eq_true rfl) lk_CellTransport_51 d_CellTransport_run_3 ?_
  refine x_if_ne C 11 d_CellTransport_run_6 rfl (fun h_6 => ?_) (fun h_6 => ?_)
  · exact absurd (z_b_n0.mp h_6) hn
  · refine x_iconst C (-1) d_CellTransport_run_9 rfl ?_
    exact x_iret C E rfl rfl d_CellTransport_run_10
theorem c_CellTransport_runY {dA : Nat → ClassId} {ad : Nat → Nat} {M : z_M} {N : Nat} (h1 : 1 ≤ N) (hN : N ≤ 2) (hR : ∀ r, r < 6 → z_okR M r) : z_CI y_CellTransport_run b_CellTransport_run 4 .int 6 dA ad [.ref (ad 0), .int (nI N)] M ((f_run N 0 M).1) ((f_run N 0 M).2) := by
  refine z_ofI [some (.ref (ad 0)), some (.int (nI N)), none, none] (by decide) (Nat.le_of_ble_eq_true rfl) rfl (fun k C E => ?_)
  have C : z_C dA ad k b_CellTransport_run "CellTransport" 6 4 := C
  refine x_iload_n C d_CellTransport_run_0 (i := 1) rfl rfl ?_
  refine x_iconst C (1) d_CellTransport_run_1 rfl ?_
  refine x_iconst C (2) d_CellTransport_run_2 rfl ?_
  refine x_callSi C (c_CellTransport_isBetween _ _ _) mt_CellTransport_isBetween rfl rfl (Nat.le_of_ble_eq_true rfl) (Nat.le_of_ble_eq_true rfl) lk_CellTransport_51 d_CellTransport_run_3 ?_
  refine x_if_ne C 11 d_CellTransport_run_6 rfl (fun h_6 => ?_) (fun h_6 => absurd (show p_btw (nI N) 1 2 from ⟨nI_le (a := 1) h1 (by omega), nI_le (b := 2) hN (by decide)⟩) (z_b_0.mp h_6))
  refine x_iconst C (0) d_CellTransport_run_11 rfl ?_
  refine x_istore_n C d_CellTransport_run_12 (i := 2) rfl rfl ?_
  refine x_iconst C (0) d_CellTransport_run_13 rfl ?_
  refine x_istore_n C d_CellTransport_run_14 (i := 3) rfl rfl ?_
  exact lp_CellTransport_run hN C E N 0 0 M (by omega) hR rfl rfl
