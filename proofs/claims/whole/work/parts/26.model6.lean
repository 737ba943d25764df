theorem g_flp_GJ : ∀ (n : Nat) (M : z_M) {d : Nat}, z_GJ M d → z_GJ (g_flp n M) d ∧ z_kq M (g_flp n M) := by
  intro n
  induction n with
  | zero => intro M d h; exact ⟨h.sv (k := 68) (Or.inr (by decide)) _, z_kq.rf.sv (k := 68) (Or.inr (by decide)) _ _⟩
  | succ n ih =>
    intro M d h
    by_cases q : (g_stp M).1 = 0
    · have e : g_flp (n + 1) M = (g_stp M).2 := by rw [g_flp, if_pos q]
      rw [e]
      exact ⟨g_stp_GJ h, g_stp_kq M⟩
    · have e : g_flp (n + 1) M = g_flp n (g_stp M).2 := by rw [g_flp, if_neg q]
      rw [e]
      obtain ⟨h1, h2⟩ := ih (g_stp M).2 (g_stp_GJ h)
      exact ⟨h1, (g_stp_kq M).tr h2⟩
theorem g_fly_GJ {M : z_M} {d : Nat} (h : z_GJ M d) : z_GJ (g_fly M) d ∧ z_kq M (g_fly M) := by
  obtain ⟨h1, h2⟩ := g_flp_GJ 200 (g_turn M) h.turn
  exact ⟨h1, (g_turn_kq z_kq.rf).tr h2⟩
def g_snd (M : z_M) (w : Nat) : z_M := z_sv (z_sv (z_sv M 53 21 (nI w)) 53 23 (M 69 w)) 53 24 (M 70 w)
def g_ww (M : z_M) : Nat := (M 53 21).toNatClampNeg
def g_hl : Nat → Nat → z_M → Nat × z_M
  | 0, fl, M => (fl, M)
  | n + 1, fl, M => if M 53 21 ≤ 0 then (fl, M) else g_hl n (fl + 1) (g_fly (g_snd M (g_ww M - 1)))
def g_h0 (M : z_M) : z_M := z_sv (z_sv (z_sv (z_sv M 69 0 (M 53 13)) 70 0 (M 53 14)) 53 21 (nI 1)) 53 22 (nI 1)
def g_h1 (p : Nat × z_M) : z_M := z_sv p.2 68 0 (p.2 68 0 + nI p.1)
def g_h2 (p : Nat × z_M) : z_M := z_sv (g_h1 p) 68 4 (g_h1 p 68 4 + 1)
theorem g_snd_GJ {M : z_M} {w d : Nat} (hR : ∀ r, r < 6 → z_okR (z_V M) r) (hg : z_GN M) (h1 : w + 1 + d ≤ 12) (h3 : M 53 22 = nI (w + 1 + d)) : z_GJ (g_snd M w) (d + 1) ∧ z_kq M (g_snd M w) := by
  have k1 : z_kq M (g_snd M w) := ((z_kq.rf.sv (Or.inl rfl) _ _).sv (Or.inl rfl) _ _).sv (Or.inl rfl) _ _
  refine ⟨⟨z_okV_kq k1 hR, ?_, w, by omega, ?_, ?_⟩, k1⟩
  · obtain ⟨g, g1, g2⟩ := hg
    refine ⟨g, g1, ?_⟩
    unfold g_snd
    rw [z_sv_get _ _ _ _ _ _ (Or.inr (by decide)), z_sv_get _ _ _ _ _ _ (Or.inr (by decide)), z_sv_get _ _ _ _ _ _ (Or.inr (by decide))]
    exact g2
  · unfold g_snd
    rw [z_sv_get _ _ _ _ _ _ (Or.inr (by decide)), z_sv_get _ _ _ _ _ _ (Or.inr (by decide)), z_sv_self]
  · unfold g_snd
    rw [z_sv_get _ _ _ _ _ _ (Or.inr (by decide)), z_sv_get _ _ _ _ _ _ (Or.inr (by decide)), z_sv_get _ _ _ _ _ _ (Or.inr (by decide)), h3, show w + 1 + d = w + (d + 1) by omega]
theorem g_h0_GJ {M : z_M} (hR : ∀ r, r < 6 → z_okR (z_V M) r) (hg : z_GN M) : z_GJ (g_h0 M) 0 ∧ z_kq M (g_h0 M) := by
  have k1 : z_kq M (g_h0 M) := (((z_kq.rf.sv (k := 69) (by omega) _ _).sv (k := 70) (by omega) _ _).sv (k := 53) (by omega) _ _).sv (k := 53) (by omega) _ _
  refine ⟨⟨z_okV_kq k1 hR, ?_, 1, by omega, ?_, ?_⟩, k1⟩
  · obtain ⟨g, g1, g2⟩ := hg
    refine ⟨g, g1, ?_⟩
    unfold g_h0
    rw [z_sv_get _ _ _ _ _ _ (Or.inr (by decide)), z_sv_get _ _ _ _ _ _ (Or.inr (by decide)), z_sv_get _ _ _ _ _ _ (Or.inl (by decide)), z_sv_get _ _ _ _ _ _ (Or.inl (by decide))]
    exact g2
  · unfold g_h0
    rw [z_sv_get _ _ _ _ _ _ (Or.inr (by decide)), z_sv_self]
  · unfold g_h0
    rw [z_sv_self]
/-- one turn of the history's loop -/
theorem g_hl_step {M : z_M} {fl : Nat} (h : z_GJ M fl) (g : ¬ M 53 21 ≤ 0) : (∃ w, g_ww M = w + 1 ∧ w < 12 ∧ M 53 21 = nI (w + 1)) ∧ z_GJ (g_snd M (g_ww M - 1)) (fl + 1) ∧ z_kq M (g_snd M (g_ww M - 1)) := by
  obtain ⟨hR, hg, w, h1, h2, h3⟩ := h
  have hw : 0 < w := by
    rcases Nat.eq_zero_or_pos w with q | q
    · exact absurd (by rw [h2, q]; decide) g
    · exact q
  have ew : g_ww M = w := by unfold g_ww; rw [h2]; exact nI_clamp (by omega)
  refine ⟨⟨w - 1, by omega, by omega, by rw [h2, show w - 1 + 1 = w by omega]⟩, ?_⟩
  rw [ew]
  exact g_snd_GJ hR hg (w := w - 1) (d := fl) (by omega) (by rw [h3, show w - 1 + 1 + fl = w + fl by omega])
theorem g_hl_GJ : ∀ (n fl : Nat) (M : z_M), z_GJ M fl → ((∀ r, r < 6 → z_okR (z_V (g_hl n fl M).2) r) ∧ z_GN (g_hl n fl M).2) ∧ z_kq M (g_hl n fl M).2 := by
  intro n
  induction n with
  | zero => intro fl M h; exact ⟨⟨h.1, h.2.1⟩, z_kq.rf⟩
  | succ n ih =>
    intro fl M h
    by_cases g : M 53 21 ≤ 0
    · have e : g_hl (n + 1) fl M = (fl, M) := by rw [g_hl, if_pos g]
      rw [e]
      exact ⟨⟨h.1, h.2.1⟩, z_kq.rf⟩
    · have e : g_hl (n + 1) fl M = g_hl n (fl + 1) (g_fly (g_snd M (g_ww M - 1))) := by rw [g_hl, if_neg g]
      rw [e]
      obtain ⟨-, h2, h3⟩ := g_hl_step h g
      obtain ⟨h4, h5⟩ := g_fly_GJ h2
      obtain ⟨h6, h7⟩ := ih (fl + 1) _ h4
      exact ⟨h6, (h3.tr h5).tr h7⟩
theorem lp_Model_history {dA : Nat → ClassId} {ad : Nat → Nat} {r0 : Int32} {M1 : z_M} {k : z_K} (C : z_C dA ad k b_Model_history "CellTransportModel" 4 2) (E : z_RI dA ad k .int r0 M1) :
    ∀ (n fl : Nat) (M : z_M), fl + n = 12 → z_GJ M fl → nI (g_hl n fl M).1 = r0 → g_h2 (g_hl n fl M) = M1 → z_X dA ad k 32 [some (.ref (ad 53)), some (.int (nI fl))] [] M := by
  have tail : ∀ (fl : Nat) (M : z_M), nI fl = r0 → g_h2 (fl, M) = M1 → z_X dA ad k 85 [some (.ref (ad 53)), some (.int (nI fl))] [] M := by
    intro fl M hr hM
    refine x_aload_n C d_Model_history_85 (i := 0) rfl rfl ?_
    refine g_Model_counts C lk_Model_57 d_Model_history_86 ?_
    refine x_iconst C (nI 0) d_Model_history_89 rfl ?_
    refine x_dup2 C d_Model_history_90 rfl rfl ?_
    refine rn_ld_m_counts C  (show 0 < 5 by decide) d_Model_history_91 ?_
    refine x_iload_n C d_Model_history_92 (i := 1) rfl rfl ?_
    refine x_iadd C d_Model_history_93 ?_
    refine rn_st_m_counts C  (show 0 < 5 by decide) d_Model_history_94 ?_
    refine x_aload_n C d_Model_history_95 (i := 0) rfl rfl ?_
    refine g_Model_counts C lk_Model_57 d_Model_history_96 ?_
    refine x_iconst C (nI 4) d_Model_history_99 rfl ?_
    refine x_dup2 C d_Model_history_100 rfl rfl ?_
    refine rn_ld_m_counts C  (show 4 < 5 by decide) d_Model_history_101 ?_
    refine x_iconst C (1) d_Model_history_102 rfl ?_
    refine x_iadd C d_Model_history_103 ?_
    refine rn_st_m_counts C  (show 4 < 5 by decide) d_Model_history_104 ?_
    refine x_iload_n C d_Model_history_105 (i := 1) rfl rfl ?_
    exact x_iret C E hr hM d_Model_history_106
  intro n
  induction n with
  | zero =>
    intro fl M hi hJ hr hM
    obtain ⟨w, h1, h2, h3⟩ := hJ.2.2
    have hw0 : M 53 21 ≤ 0 := by rw [h2, show w = 0 by omega]; decide
    refine x_aload_n C d_Model_history_32 (i := 0) rfl rfl ?_
    refine g_Model_waiting C lk_Model_122 d_Model_history_33 ?_
    refine x_if_le C 85 d_Model_history_36 rfl (fun h_36 => ?_) (fun h_36 => absurd hw0 h_36)
    exact tail fl M hr hM
  | succ n ih =>
    intro fl M hi hJ hr hM
    refine x_aload_n C d_Model_history_32 (i := 0) rfl rfl ?_
    refine g_Model_waiting C lk_Model_122 d_Model_history_33 ?_
    refine x_if_le C 85 d_Model_history_36 rfl (fun h_36 => ?_) (fun h_36 => ?_)
    · exact tail fl M (by rw [← hr, show g_hl (n + 1) fl M = (fl, M) by rw [g_hl, if_pos h_36]]) (by rw [← hM, show g_hl (n + 1) fl M = (fl, M) by rw [g_hl, if_pos h_36]])
    · have e : g_hl (n + 1) fl M = g_hl n (fl + 1) (g_fly (g_snd M (g_ww M - 1))) := by rw [g_hl, if_neg h_36]
      obtain ⟨⟨w, h11, h12, h13⟩, h2, h3⟩ := g_hl_step hJ h_36
      have ew : g_ww M - 1 = w := by omega
      rw [ew] at e h2 h3
      refine x_aload_n C d_Model_history_39 (i := 0) rfl rfl ?_
      refine x_dup C d_Model_history_40 rfl ?_
      refine g_Model_waiting C lk_Model_122 d_Model_history_41 ?_
      refine x_eqi h13 ?_
      refine x_iconst C (1) d_Model_history_44 rfl ?_
      refine x_isub C d_Model_history_45 ?_
      refine x_eqi (nI_pred w) ?_
      refine u_Model_waiting C lk_Model_122 d_Model_history_46 ?_
      refine x_aload_n C d_Model_history_49 (i := 0) rfl rfl ?_
      refine x_aload_n C d_Model_history_50 (i := 0) rfl rfl ?_
      refine g_Model_px C lk_Model_60 d_Model_history_51 ?_
      refine x_aload_n C d_Model_history_54 (i := 0) rfl rfl ?_
      refine g_Model_waiting C lk_Model_122 d_Model_history_55 ?_
      refine x_eqi (z_sv_self _ _ _ _) ?_
      refine rn_ld_m_px C  h12 d_Model_history_58 ?_
      refine x_eqi (z_sv_get _ _ _ _ _ _ (Or.inl (by decide))) ?_
      refine u_Model_x C lk_Model_125 d_Model_history_59 ?_
      refine x_aload_n C d_Model_history_62 (i := 0) rfl rfl ?_
      refine x_aload_n C d_Model_history_63 (i := 0) rfl rfl ?_
      refine g_Model_py C lk_Model_63 d_Model_history_64 ?_
      refine x_aload_n C d_Model_history_67 (i := 0) rfl rfl ?_
      refine g_Model_waiting C lk_Model_122 d_Model_history_68 ?_
      refine x_eqi ((z_sv_get _ _ _ _ _ _ (Or.inr (by decide))).trans (z_sv_self _ _ _ _)) ?_
      refine rn_ld_m_py C  h12 d_Model_history_71 ?_
      refine x_eqi ((z_sv_get _ _ _ _ _ _ (Or.inl (by decide))).trans (z_sv_get _ _ _ _ _ _ (Or.inl (by decide)))) ?_
      refine u_Model_y C lk_Model_128 d_Model_history_72 ?_
      refine x_eqM (M2 := g_snd M w) rfl ?_
      refine x_iinc C (nI (fl + 1)) d_Model_history_75 rfl (z_inc fl) rfl ?_
      refine x_aload_n C d_Model_history_78 (i := 0) rfl rfl ?_
      refine x_callVv C (c_Model_fly h2) mt_Model_fly zl_Model (zc_Model _) rfl rfl rfl (Nat.le_of_ble_eq_true rfl) (Nat.le_of_ble_eq_true rfl) lk_Model_141 d_Model_history_79 ?_
      refine x_goto C 32 d_Model_history_82 rfl ?_
      exact ih (fl + 1) _ (by omega) (g_fly_GJ h2).1 (by rw [← hr, e]) (by rw [← hM, e])
theorem c_Model_history {dA : Nat → ClassId} {ad : Nat → Nat} {M : z_M} (hR : ∀ r, r < 6 → z_okR (z_V M) r) (hg : z_GN M) : z_CI y_Model_history b_Model_history 2 .int 4 dA ad [.ref (ad 53)] M (nI (g_hl 12 0 (g_h0 M)).1) (g_h2 (g_hl 12 0 (g_h0 M))) := by
  refine z_ofI [some (.ref (ad 53)), none] (by decide) (Nat.le_of_ble_eq_true rfl) rfl (fun k C E => ?_)
  have C : z_C dA ad k b_Model_history "CellTransportModel" 4 2 := C
  refine x_aload_n C d_Model_history_0 (i := 0) rfl rfl ?_
  refine g_Model_px C lk_Model_60 d_Model_history_1 ?_
  refine x_iconst C (nI 0) d_Model_history_4 rfl ?_
  refine x_aload_n C d_Model_history_5 (i := 0) rfl rfl ?_
  refine g_Model_sourceX C lk_Model_78 d_Model_history_6 ?_
  refine rn_st_m_px C  (show 0 < 12 by decide) d_Model_history_9 ?_
  refine x_aload_n C d_Model_history_10 (i := 0) rfl rfl ?_
  refine g_Model_py C lk_Model_63 d_Model_history_11 ?_
  refine x_iconst C (nI 0) d_Model_history_14 rfl ?_
  refine x_aload_n C d_Model_history_15 (i := 0) rfl rfl ?_
  refine g_Model_sourceY C lk_Model_81 d_Model_history_16 ?_
  refine x_eqi (z_sv_get _ _ _ _ _ _ (Or.inl (by decide))) ?_
  refine rn_st_m_py C  (show 0 < 12 by decide) d_Model_history_19 ?_
  refine x_aload_n C d_Model_history_20 (i := 0) rfl rfl ?_
  refine x_iconst C (nI 1) d_Model_history_21 rfl ?_
  refine u_Model_waiting C lk_Model_122 d_Model_history_22 ?_
  refine x_aload_n C d_Model_history_25 (i := 0) rfl rfl ?_
  refine x_iconst C (nI 1) d_Model_history_26 rfl ?_
  refine u_Model_particles C lk_Model_119 d_Model_history_27 ?_
  refine x_iconst C (0) d_Model_history_30 rfl ?_
  refine x_istore_n C d_Model_history_31 (i := 1) rfl rfl ?_
  refine x_eqM (M2 := g_h0 M) rfl ?_
  exact lp_Model_history C E 12 0 (g_h0 M) (by omega) (g_h0_GJ hR hg).1 rfl rfl
theorem g_h2_kq {M0 : z_M} {p : Nat × z_M} (h : z_kq M0 p.2) : z_kq M0 (g_h2 p) := (h.sv (k := 68) (by omega) _ _).sv (k := 68) (by omega) _ _
theorem g_h2_GN {p : Nat × z_M} (h : z_GN p.2) : z_GN (g_h2 p) := by
  obtain ⟨g, g1, g2⟩ := h
  refine ⟨g, g1, ?_⟩
  unfold g_h2 g_h1
  rw [z_sv_get _ _ _ _ _ _ (Or.inl (by decide)), z_sv_get _ _ _ _ _ _ (Or.inl (by decide))]
  exact g2
def g_his (M : z_M) : Int32 × z_M := (nI (g_hl 12 0 (g_h0 M)).1, g_h2 (g_hl 12 0 (g_h0 M)))
theorem g_his_2 (M : z_M) : (g_his M).2 = g_h2 (g_hl 12 0 (g_h0 M)) := by rw [g_his]
theorem g_his_ok {M : z_M} (hR : ∀ r, r < 6 → z_okR (z_V M) r) (hg : z_GN M) : ((∀ r, r < 6 → z_okR (z_V (g_his M).2) r) ∧ z_GN (g_his M).2) ∧ z_kq M (g_his M).2 := by
  obtain ⟨j1, k1⟩ := g_h0_GJ hR hg
  obtain ⟨⟨-, h2⟩, k2⟩ := g_hl_GJ 12 0 (g_h0 M) j1
  rw [g_his_2]
  have k3 := g_h2_kq (k1.tr k2)
  exact ⟨⟨z_okV_kq k3 hR, g_h2_GN h2⟩, k3⟩
def g_run : Nat → Int32 → z_M → Int32 × z_M
  | 0, a, M => (a, M)
  | n + 1, a, M => g_run n (a + (g_his M).1) (g_his M).2
theorem lp_Model_run {dA : Nat → ClassId} {ad : Nat → Nat} {r0 : Int32} {M1 : z_M} {k : z_K} {N : Nat} (hN : N ≤ 2) (C : z_C dA ad k b_Model_run "CellTransportModel" 5 4) (E : z_RI dA ad k .int r0 M1) :
    ∀ (n i : Nat) (a : Int32) (M : z_M), i + n = N → (∀ r, r < 6 → z_okR (z_V M) r) → z_GN M → (g_run n a M).1 = r0 → (g_run n a M).2 = M1 → z_X dA ad k 15 [some (.ref (ad 53)), some (.int (nI N)), some (.int a), some (.int (nI i))] [] M := by
  intro n
  induction n with
  | zero =>
    intro i a M hi hR hg hr hM
    refine x_iload_n C d_Model_run_15 (i := 3) rfl rfl ?_
    refine x_iload_n C d_Model_run_16 (i := 1) rfl rfl ?_
    refine x_icmp_ge C 33 d_Model_run_17 rfl (fun h_17 => ?_) (fun h_17 => absurd (nI_le (by omega) (by omega)) h_17)
    refine x_iload_n C d_Model_run_33 (i := 2) rfl rfl ?_
    exact x_iret C E hr hM d_Model_run_34
  | succ n ih =>
    intro i a M hi hR hg hr hM
    refine x_iload_n C d_Model_run_15 (i := 3) rfl rfl ?_
    refine x_iload_n C d_Model_run_16 (i := 1) rfl rfl ?_
    refine x_icmp_ge C 33 d_Model_run_17 rfl (fun h_17 => absurd h_17 (nI_ge (by omega) (by omega))) (fun h_17 => ?_)
    refine x_iload_n C d_Model_run_20 (i := 2) rfl rfl ?_
    refine x_aload_n C d_Model_run_21 (i := 0) rfl rfl ?_
    refine x_callVi C (c_Model_history hR hg) mt_Model_history zl_Model (zc_Model _) rfl rfl rfl (Nat.le_of_ble_eq_true rfl) (Nat.le_of_ble_eq_true rfl) lk_Model_144 d_Model_run_22 ?_
    refine x_iadd C d_Model_run_25 ?_
    refine x_istore_n C d_Model_run_26 (i := 2) rfl rfl ?_
    refine x_iinc C (nI (i + 1)) d_Model_run_27 rfl (z_inc i) rfl ?_
    refine x_goto C 15 d_Model_run_30 rfl ?_
    exact ih (i + 1) _ (g_his M).2 (by omega) (g_his_ok hR hg).1.1 (g_his_ok hR hg).1.2 hr hM
theorem c_Model_runN {dA : Nat → ClassId} {ad : Nat → Nat} {M : z_M} {a : Int32} (hn : ¬ p_btw a 1 2) : z_CI y_Model_run b_Model_run 4 .int 5 dA ad [.ref (ad 53), .int a] M (-1) (M) := by
  refine z_ofI [some (.ref (ad 53)), some (.int a), none, none] (by decide) (Nat.le_of_ble_eq_true rfl) rfl (fun k C E => ?_)
  have C : z_C dA ad k b_Model_run "CellTransportModel" 5 4 := C
  refine x_iload_n C d_Model_run_0 (i := 1) rfl rfl ?_
  refine x_iconst C (1) d_Model_run_1 rfl ?_
  refine x_iconst C (2) d_Model_run_2 rfl ?_
  refine x_callSi C (c_Model_out _ _ _) mt_Model_out rfl rfl (Nat.le_of_ble_eq_true rfl) (Nat.le_of_ble_eq_true rfl) lk_Model_66 d_Model_run_3 ?_
  refine x_if_eq C 11 d_Model_run_6 rfl (fun h_6 => ?_) (fun h_6 => ?_)
  · exact absurd (z_out0 h_6) hn
  · refine x_iconst C (-1) d_Model_run_9 rfl ?_
    exact x_iret C E rfl rfl d_Model_run_10
theorem c_Model_runY {dA : Nat → ClassId} {ad : Nat → Nat} {M : z_M} {N : Nat} (h1 : 1 ≤ N) (hN : N ≤ 2) (hR : ∀ r, r < 6 → z_okR (z_V M) r) (hg : z_GN M) : z_CI y_Model_run b_Model_run 4 .int 5 dA ad [.ref (ad 53), .int (nI N)] M ((g_run N 0 M).1) ((g_run N 0 M).2) := by
  refine z_ofI [some (.ref (ad 53)), some (.int (nI N)), none, none] (by decide) (Nat.le_of_ble_eq_true rfl) rfl (fun k C E => ?_)
  have C : z_C dA ad k b_Model_run "CellTransportModel" 5 4 := C
  refine x_iload_n C d_Model_run_0 (i := 1) rfl rfl ?_
  refine x_iconst C (1) d_Model_run_1 rfl ?_
  refine x_iconst C (2) d_Model_run_2 rfl ?_
  refine x_callSi C (c_Model_out _ _ _) mt_Model_out rfl rfl (Nat.le_of_ble_eq_true rfl) (Nat.le_of_ble_eq_true rfl) lk_Model_66 d_Model_run_3 ?_
  refine x_if_eq C 11 d_Model_run_6 rfl (fun h_6 => ?_) (fun h_6 => absurd (show p_btw (nI N) 1 2 from ⟨nI_le (a := 1) h1 (by omega), nI_le (b := 2) hN (by decide)⟩) (z_b_n0.mp h_6))
  refine x_iconst C (0) d_Model_run_11 rfl ?_
  refine x_istore_n C d_Model_run_12 (i := 2) rfl rfl ?_
  refine x_iconst C (0) d_Model_run_13 rfl ?_
  refine x_istore_n C d_Model_run_14 (i := 3) rfl rfl ?_
  exact lp_Model_run hN C E N 0 0 M (by omega) hR hg rfl rfl
