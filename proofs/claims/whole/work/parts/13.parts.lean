def f_mv (M : z_M) (dd : Nat) : z_M := z_sv (z_sv M 52 0 (M 52 0 + z_sX dd)) 52 1 (M 52 1 + z_sY dd)
theorem c_Particle_move {dA : Nat → ClassId} {ad : Nat → Nat} {M : z_M} {dd : Nat} (hd : dd < 8) (hdd : M 52 3 = nI dd) : z_CV y_Particle_move b_Particle_move 1 0 dA ad [.ref (ad 52)] M (f_mv M dd) := by
  refine z_ofV [some (.ref (ad 52))] (by decide) (Nat.le_of_ble_eq_true rfl) rfl (fun k C E => ?_)
  have C : z_C dA ad k b_Particle_move "CellTransport$Particle" 0 1 := C
  refine x_aload_n C d_Particle_move_0 (i := 0) rfl rfl ?_
  refine x_dup C d_Particle_move_1 rfl ?_
  refine g_Particle_x C lk_Particle_7 d_Particle_move_2 ?_
  refine s_STEP_XN C lk_Particle_13 d_Particle_move_5 (fun t_5 hT_5 => ?_)
  refine x_aload_n C d_Particle_move_8 (i := 0) rfl rfl ?_
  refine g_Particle_direction C lk_Particle_19 d_Particle_move_9 ?_
  refine x_eqi hdd ?_
  refine rn_ld_tab C hT_5  hd d_Particle_move_12 ?_
  refine x_iadd C d_Particle_move_13 ?_
  refine u_Particle_x C lk_Particle_7 d_Particle_move_14 ?_
  refine x_aload_n C d_Particle_move_17 (i := 0) rfl rfl ?_
  refine x_dup C d_Particle_move_18 rfl ?_
  refine g_Particle_y C lk_Particle_22 d_Particle_move_19 ?_
  refine x_eqi (z_sv_get M _ _ _ _ _ (Or.inr (by decide))) ?_
  refine s_STEP_YN C lk_Particle_25 d_Particle_move_22 (fun t_22 hT_22 => ?_)
  refine x_aload_n C d_Particle_move_25 (i := 0) rfl rfl ?_
  refine g_Particle_direction C lk_Particle_19 d_Particle_move_26 ?_
  refine x_eqi ((z_sv_get M _ _ _ _ _ (Or.inr (by decide))).trans hdd) ?_
  refine rn_ld_tab C hT_22  hd d_Particle_move_29 ?_
  refine x_iadd C d_Particle_move_30 ?_
  refine u_Particle_y C lk_Particle_22 d_Particle_move_31 ?_
  exact x_vret C E rfl d_Particle_move_34
theorem c_Line_empty {dA : Nat → ClassId} {ad : Nat → Nat} {M : z_M}  : z_CV y_Line_empty b_Line_empty 1 0 dA ad [.ref (ad 49)] M (z_sv (z_sv M 49 2 0) 49 3 0) := by
  refine z_ofV [some (.ref (ad 49))] (by decide) (Nat.le_of_ble_eq_true rfl) rfl (fun k C E => ?_)
  have C : z_C dA ad k b_Line_empty "CellTransport$Line" 0 1 := C
  refine x_aload_n C d_Line_empty_0 (i := 0) rfl rfl ?_
  refine x_iconst C (0) d_Line_empty_1 rfl ?_
  refine u_Line_waiting C lk_Line_18 d_Line_empty_2 ?_
  refine x_aload_n C d_Line_empty_5 (i := 0) rfl rfl ?_
  refine x_iconst C (0) d_Line_empty_6 rfl ?_
  refine u_Line_joined C lk_Line_22 d_Line_empty_7 ?_
  exact x_vret C E rfl d_Line_empty_10
def f_jn (M : z_M) (w jn : Nat) (x y : Int32) : z_M := z_sv (z_sv (z_sv (z_sv M 50 w x) 51 w y) 49 2 (nI (w + 1))) 49 3 (nI (jn + 1))
theorem c_Line_join {dA : Nat → ClassId} {ad : Nat → Nat} {M : z_M} {w jn : Nat} (hw : w < 12) (hj : jn < 12) (ew : M 49 2 = nI w) (ej : M 49 3 = nI jn) (x y : Int32) : z_CI y_Line_join b_Line_join 3 .boolean 0 dA ad [.ref (ad 49), .int x, .int y] M (1) (f_jn M w jn x y) := by
  refine z_ofI [some (.ref (ad 49)), some (.int x), some (.int y)] (by decide) (Nat.le_of_ble_eq_true rfl) rfl (fun k C E => ?_)
  have C : z_C dA ad k b_Line_join "CellTransport$Line" 0 3 := C
  refine x_aload_n C d_Line_join_0 (i := 0) rfl rfl ?_
  refine g_Line_joined C lk_Line_22 d_Line_join_1 ?_
  refine x_eqi ej ?_
  refine x_bipush C (12) d_Line_join_4 rfl ?_
  refine x_icmp_lt C 11 d_Line_join_6 rfl (fun h_6 => ?_) (fun h_6 => ?_)
  · refine x_aload_n C d_Line_join_11 (i := 0) rfl rfl ?_
    refine g_Line_placesX C lk_Line_9 d_Line_join_12 ?_
    refine x_aload_n C d_Line_join_15 (i := 0) rfl rfl ?_
    refine g_Line_waiting C lk_Line_18 d_Line_join_16 ?_
    refine x_eqi ew ?_
    refine x_iload_n C d_Line_join_19 (i := 1) rfl rfl ?_
    refine rn_st_placesX C  hw d_Line_join_20 ?_
    refine x_aload_n C d_Line_join_21 (i := 0) rfl rfl ?_
    refine g_Line_placesY C lk_Line_15 d_Line_join_22 ?_
    refine x_aload_n C d_Line_join_25 (i := 0) rfl rfl ?_
    refine g_Line_waiting C lk_Line_18 d_Line_join_26 ?_
    refine x_eqi ((z_sv_get M _ _ _ _ _ (Or.inl (by decide))).trans ew) ?_
    refine x_iload_n C d_Line_join_29 (i := 2) rfl rfl ?_
    refine rn_st_placesY C  hw d_Line_join_30 ?_
    refine x_aload_n C d_Line_join_31 (i := 0) rfl rfl ?_
    refine x_dup C d_Line_join_32 rfl ?_
    refine g_Line_waiting C lk_Line_18 d_Line_join_33 ?_
    refine x_eqi (((z_sv_get _ _ _ _ _ _ (Or.inl (by decide))).trans (z_sv_get M _ _ _ _ _ (Or.inl (by decide)))).trans ew) ?_
    refine x_iconst C (1) d_Line_join_36 rfl ?_
    refine x_iadd C d_Line_join_37 ?_
    refine x_eqi (nI_1 w) ?_
    refine u_Line_waiting C lk_Line_18 d_Line_join_38 ?_
    refine x_aload_n C d_Line_join_41 (i := 0) rfl rfl ?_
    refine x_dup C d_Line_join_42 rfl ?_
    refine g_Line_joined C lk_Line_22 d_Line_join_43 ?_
    refine x_eqi ((((z_sv_get _ _ _ _ _ _ (Or.inr (by decide))).trans (z_sv_get _ _ _ _ _ _ (Or.inl (by decide)))).trans (z_sv_get M _ _ _ _ _ (Or.inl (by decide)))).trans ej) ?_
    refine x_iconst C (1) d_Line_join_46 rfl ?_
    refine x_iadd C d_Line_join_47 ?_
    refine x_eqi (nI_1 jn) ?_
    refine u_Line_joined C lk_Line_22 d_Line_join_48 ?_
    refine x_iconst C (1) d_Line_join_51 rfl ?_
    exact x_zret C E rfl rfl rfl d_Line_join_52
  · exact absurd (show nI jn < 12 from nI_lt (b := 12) hj (by decide)) h_6
theorem c_Line_joinF {dA : Nat → ClassId} {ad : Nat → Nat} {M : z_M} (ej : M 49 3 = nI 12) (x y : Int32) : z_CI y_Line_join b_Line_join 3 .boolean 0 dA ad [.ref (ad 49), .int x, .int y] M (0) (M) := by
  refine z_ofI [some (.ref (ad 49)), some (.int x), some (.int y)] (by decide) (Nat.le_of_ble_eq_true rfl) rfl (fun k C E => ?_)
  have C : z_C dA ad k b_Line_join "CellTransport$Line" 0 3 := C
  refine x_aload_n C d_Line_join_0 (i := 0) rfl rfl ?_
  refine g_Line_joined C lk_Line_22 d_Line_join_1 ?_
  refine x_eqi ej ?_
  refine x_bipush C (12) d_Line_join_4 rfl ?_
  refine x_icmp_lt C 11 d_Line_join_6 rfl (fun h_6 => ?_) (fun h_6 => ?_)
  · exact absurd h_6 (show ¬ nI 12 < 12 from nI_nlt (b := 12) (Nat.le_refl 12) (by decide))
  · refine x_iconst C (0) d_Line_join_9 rfl ?_
    exact x_zret C E rfl rfl rfl d_Line_join_10
theorem c_Line_sendLast {dA : Nat → ClassId} {ad : Nat → Nat} {M : z_M} {w : Nat} (hw : w < 12) (ew : M 49 2 = nI (w + 1)) : z_CV y_Line_sendLast b_Line_sendLast 2 0 dA ad [.ref (ad 49), .ref (ad 52)] M (z_sv (z_sv (z_sv M 49 2 (nI w)) 52 0 (M 50 w)) 52 1 (M 51 w)) := by
  refine z_ofV [some (.ref (ad 49)), some (.ref (ad 52))] (by decide) (Nat.le_of_ble_eq_true rfl) rfl (fun k C E => ?_)
  have C : z_C dA ad k b_Line_sendLast "CellTransport$Line" 0 2 := C
  refine x_aload_n C d_Line_sendLast_0 (i := 0) rfl rfl ?_
  refine g_Line_waiting C lk_Line_18 d_Line_sendLast_1 ?_
  refine x_eqi ew ?_
  refine x_if_le C 43 d_Line_sendLast_4 rfl (fun h_4 => ?_) (fun h_4 => ?_)
  · exact x_vret C E (absurd h_4 (nI_nle (Nat.succ_pos w) (by omega))) d_Line_sendLast_43
  · refine x_aload_n C d_Line_sendLast_7 (i := 0) rfl rfl ?_
    refine x_dup C d_Line_sendLast_8 rfl ?_
    refine g_Line_waiting C lk_Line_18 d_Line_sendLast_9 ?_
    refine x_eqi ew ?_
    refine x_iconst C (1) d_Line_sendLast_12 rfl ?_
    refine x_isub C d_Line_sendLast_13 ?_
    refine x_eqi (nI_pred w) ?_
    refine u_Line_waiting C lk_Line_18 d_Line_sendLast_14 ?_
    refine x_aload_n C d_Line_sendLast_17 (i := 1) rfl rfl ?_
    refine x_aload_n C d_Line_sendLast_18 (i := 0) rfl rfl ?_
    refine g_Line_placesX C lk_Line_9 d_Line_sendLast_19 ?_
    refine x_aload_n C d_Line_sendLast_22 (i := 0) rfl rfl ?_
    refine g_Line_waiting C lk_Line_18 d_Line_sendLast_23 ?_
    refine x_eqi (z_sv_self _ _ _ _) ?_
    refine rn_ld_placesX C  hw d_Line_sendLast_26 ?_
    refine x_eqi (z_sv_get M _ _ _ _ _ (Or.inl (by decide))) ?_
    refine u_Particle_xN C lk_Line_25 d_Line_sendLast_27 ?_
    refine x_aload_n C d_Line_sendLast_30 (i := 1) rfl rfl ?_
    refine x_aload_n C d_Line_sendLast_31 (i := 0) rfl rfl ?_
    refine g_Line_placesY C lk_Line_15 d_Line_sendLast_32 ?_
    refine x_aload_n C d_Line_sendLast_35 (i := 0) rfl rfl ?_
    refine g_Line_waiting C lk_Line_18 d_Line_sendLast_36 ?_
    refine x_eqi ((z_sv_get _ _ _ _ _ _ (Or.inl (by decide))).trans (z_sv_self _ _ _ _)) ?_
    refine rn_ld_placesY C  hw d_Line_sendLast_39 ?_
    refine x_eqi ((z_sv_get _ _ _ _ _ _ (Or.inl (by decide))).trans (z_sv_get M _ _ _ _ _ (Or.inl (by decide)))) ?_
    refine u_Particle_yN C lk_Line_30 d_Line_sendLast_40 ?_
    exact x_vret C E rfl d_Line_sendLast_43
def f_tk (M : z_M) (c : Nat) : z_M := z_sv M (i_talr c) 0 (M (i_talr c) 0 + 1)
def f_at (M : z_M) (b c : Nat) : z_M := if b = c ∨ b = 6 then f_tk M c else z_sv (f_tk M c) (i_cror b) c (f_tk M c (i_cror b) c + 1)
theorem z_b6 {b : Nat} (hb : b ≤ 6) (h : ¬ nI b = 6) : b < 6 := by
  have a : b ≠ 6 := fun q => h (by rw [q]; rfl)
  omega
theorem c_Counts_addTrack {dA : Nat → ClassId} {ad : Nat → Nat} {M : z_M} {b c : Nat} (hb : b ≤ 6) (hc : c < 6) : z_CV y_Counts_addTrack b_Counts_addTrack 3 0 dA ad [.ref (ad 33), .int (nI b), .int (nI c)] M (f_at M b c) := by
  refine z_ofV [some (.ref (ad 33)), some (.int (nI b)), some (.int (nI c))] (by decide) (Nat.le_of_ble_eq_true rfl) rfl (fun k C E => ?_)
  have C : z_C dA ad k b_Counts_addTrack "CellTransport$Counts" 0 3 := C
  refine x_aload_n C d_Counts_addTrack_0 (i := 0) rfl rfl ?_
  refine g_Counts_tallies C lk_Counts_17 d_Counts_addTrack_1 ?_
  refine x_iload_n C d_Counts_addTrack_4 (i := 2) rfl rfl ?_
  refine rn_al_tallies C hc d_Counts_addTrack_5 ?_
  refine x_iconst C (nI 0) d_Counts_addTrack_6 rfl ?_
  refine x_dup2 C d_Counts_addTrack_7 rfl rfl ?_
  refine rn_ld_talrow C hc  (show 0 < 4 by decide) d_Counts_addTrack_8 ?_
  refine x_iconst C (1) d_Counts_addTrack_9 rfl ?_
  refine x_iadd C d_Counts_addTrack_10 ?_
  refine rn_st_talrow C hc  (show 0 < 4 by decide) d_Counts_addTrack_11 ?_
  refine x_iload_n C d_Counts_addTrack_12 (i := 1) rfl rfl ?_
  refine x_iload_n C d_Counts_addTrack_13 (i := 2) rfl rfl ?_
  refine x_icmp_eq C 35 d_Counts_addTrack_14 rfl (fun h_14 => ?_) (fun h_14 => ?_)
  · exact x_vret C E (if_pos (Or.inl ((nI_eq (by omega) (by omega)).mp h_14))).symm d_Counts_addTrack_35
  · refine x_iload_n C d_Counts_addTrack_17 (i := 1) rfl rfl ?_
    refine x_bipush C (6) d_Counts_addTrack_18 rfl ?_
    refine x_icmp_eq C 35 d_Counts_addTrack_20 rfl (fun h_20 => ?_) (fun h_20 => ?_)
    · exact x_vret C E (if_pos (Or.inr ((nI_eq (a := b) (b := 6) (by omega) (by omega)).mp h_20))).symm d_Counts_addTrack_35
    · refine x_aload_n C d_Counts_addTrack_23 (i := 0) rfl rfl ?_
      refine g_Counts_crossings C lk_Counts_20 d_Counts_addTrack_24 ?_
      refine x_iload_n C d_Counts_addTrack_27 (i := 1) rfl rfl ?_
      refine rn_al_crossings C (z_b6 hb h_20) d_Counts_addTrack_28 ?_
      refine x_iload_n C d_Counts_addTrack_29 (i := 2) rfl rfl ?_
      refine x_dup2 C d_Counts_addTrack_30 rfl rfl ?_
      refine rn_ld_crorow C (z_b6 hb h_20)  hc d_Counts_addTrack_31 ?_
      refine x_iconst C (1) d_Counts_addTrack_32 rfl ?_
      refine x_iadd C d_Counts_addTrack_33 ?_
      refine rn_st_crorow C (z_b6 hb h_20)  hc d_Counts_addTrack_34 ?_
      exact x_vret C E (if_neg (fun q => q.elim (fun q => h_14 (by rw [q])) (fun q => h_20 (by rw [q]; rfl)))).symm d_Counts_addTrack_35
def f_fl (M : z_M) (q n : Nat) (v : Int32) : z_M := va_up M q (fun j => if j < n then v else M q j)
theorem f_fl_step (M : z_M) (q i : Nat) (v : Int32) : z_sv (f_fl M q i v) q i v = f_fl M q (i + 1) v := by
  funext a b
  rw [z_sv_at]
  unfold f_fl va_up
  by_cases h : a = q
  · subst h
    by_cases h2 : b = i
    · subst h2; simp
    · have e : (b < i + 1) ↔ b < i := by omega
      simp [h2, e]
  · simp [h]
theorem f_fl_0 (M : z_M) (q : Nat) (v : Int32) : f_fl M q 0 v = M := by
  funext a b
  unfold f_fl va_up
  by_cases h : a = q
  · subst h; simp
  · simp [h]
theorem lp_Arrays_fill {dA : Nat → ClassId} {ad : Nat → Nat} {M : z_M} {k : z_K} {q N : Nat} {v : Int32} (hq : q < z_N) (hN : N < 100) (hc : ∀ f : Nat → Int32, z_c dA ad q f = .inl (dA 0, N, .inl f)) (C : z_C dA ad k b_Arrays_fill "java/util/Arrays" 0 4) (E : z_RV dA ad k (f_fl M q N v)) :
    ∀ (n i : Nat), i + n = N → z_X dA ad k 5 [some (.ref (ad q)), some (.int v), some (.int (nI i)), some (.int (nI N))] [] (f_fl M q i v) := by
  intro n
  induction n with
  | zero =>
    intro i hi
    refine x_iload_n C d_Arrays_fill_5 (i := 2) rfl rfl ?_
    refine x_iload_n C d_Arrays_fill_6 (i := 3) rfl rfl ?_
    refine x_icmp_ge C 20 d_Arrays_fill_7 rfl (fun h_7 => ?_) (fun h_7 => ?_)
    · exact x_vret C E (by rw [show i = N by omega]) d_Arrays_fill_20
    · exact absurd (nI_le (by omega) (by omega)) h_7
  | succ n ih =>
    intro i hi
    refine x_iload_n C d_Arrays_fill_5 (i := 2) rfl rfl ?_
    refine x_iload_n C d_Arrays_fill_6 (i := 3) rfl rfl ?_
    refine x_icmp_ge C 20 d_Arrays_fill_7 rfl (fun h_7 => ?_) (fun h_7 => ?_)
    · exact absurd h_7 (nI_ge (by omega) (by omega))
    · refine x_aload_n C d_Arrays_fill_10 (i := 0) rfl rfl ?_
      refine x_iload_n C d_Arrays_fill_11 (i := 2) rfl rfl ?_
      refine x_iload_n C d_Arrays_fill_12 (i := 1) rfl rfl ?_
      refine x_iast C (t0 := 0) hq hc rfl (vp_in_nI (n := i) (by omega) (by omega)) d_Arrays_fill_13 ?_
      refine x_eqM (show z_sv (f_fl M q i v) q (nI i).toNatClampNeg v = f_fl M q (i + 1) v by rw [nI_clamp (by omega)]; exact f_fl_step M q i v) ?_
      refine x_iinc C (nI (i + 1)) d_Arrays_fill_14 rfl (z_inc i) rfl ?_
      refine x_goto C 5 d_Arrays_fill_17 rfl ?_
      exact ih (i + 1) (by omega)
theorem c_Arrays_fill {dA : Nat → ClassId} {ad : Nat → Nat} {M : z_M} {q N : Nat} (hq : q < z_N) (hN : N < 100) (hc : ∀ f : Nat → Int32, z_c dA ad q f = .inl (dA 0, N, .inl f)) (v : Int32) : z_CV y_Arrays_fill b_Arrays_fill 4 0 dA ad [.ref (ad q), .int v] M (f_fl M q N v) := by
  refine z_ofV [some (.ref (ad q)), some (.int v), none, none] (by decide) (Nat.le_of_ble_eq_true rfl) rfl (fun k C E => ?_)
  have C : z_C dA ad k b_Arrays_fill "java/util/Arrays" 0 4 := C
  refine x_iconst C (0) d_Arrays_fill_0 rfl ?_
  refine x_istore_n C d_Arrays_fill_1 (i := 2) rfl rfl ?_
  refine x_aload_n C d_Arrays_fill_2 (i := 0) rfl rfl ?_
  refine x_alen C (nI N) (t0 := 0) (ty := .int) (ar := (N, .inl (M q))) hq (hc (M q)) rfl rfl d_Arrays_fill_3 ?_
  refine x_istore_n C d_Arrays_fill_4 (i := 3) rfl rfl ?_
  refine x_eqM (f_fl_0 M q v).symm ?_
  exact lp_Arrays_fill hq hN hc C E N 0 (by omega)
def f_rst : Nat → Nat → z_M → z_M
  | 0, _, M => M
  | n + 1, i, M => f_rst n (i + 1) (f_fl (f_fl M (i_talr i) 4 0) (i_cror i) 6 0)
theorem lp_Counts_reset {dA : Nat → ClassId} {ad : Nat → Nat} {M1 : z_M} {k : z_K} (C : z_C dA ad k b_Counts_reset "CellTransport$Counts" 1 2) (E : z_RV dA ad k M1) :
    ∀ (n i : Nat) (M : z_M), i + n = 6 → f_rst n i M = M1 → z_X dA ad k 10 [some (.ref (ad 33)), some (.int (nI i))] [] M := by
  intro n
  induction n with
  | zero =>
    intro i M hi hr
    refine x_iload_n C d_Counts_reset_10 (i := 1) rfl rfl ?_
    refine x_bipush C (6) d_Counts_reset_11 rfl ?_
    refine x_icmp_ge C 42 d_Counts_reset_13 rfl (fun h_13 => ?_) (fun h_13 => ?_)
    · exact x_vret C E hr d_Counts_reset_42
    · exact absurd (show (6 : Int32) ≤ nI i from nI_le (a := 6) (by omega) (by omega)) h_13
  | succ n ih =>
    intro i M hi hr
    have hi6 : i < 6 := by omega
    refine x_iload_n C d_Counts_reset_10 (i := 1) rfl rfl ?_
    refine x_bipush C (6) d_Counts_reset_11 rfl ?_
    refine x_icmp_ge C 42 d_Counts_reset_13 rfl (fun h_13 => ?_) (fun h_13 => ?_)
    · exact absurd (show nI 6 ≤ nI i from h_13) (nI_ge (by omega) (by decide))
    · refine x_aload_n C d_Counts_reset_16 (i := 0) rfl rfl ?_
      refine g_Counts_tallies C lk_Counts_17 d_Counts_reset_17 ?_
      refine x_iload_n C d_Counts_reset_20 (i := 1) rfl rfl ?_
      refine rn_al_tallies C hi6 d_Counts_reset_21 ?_
      refine x_iconst C (0) d_Counts_reset_22 rfl ?_
      refine x_callSv C (c_Arrays_fill (zl_talrow hi6) (by decide) (fun f => zc_talrow hi6 f) 0) mt_Arrays_fill rfl rfl (Nat.le_of_ble_eq_true rfl) (Nat.le_of_ble_eq_true rfl) lk_Counts_23 d_Counts_reset_23 ?_
      refine x_aload_n C d_Counts_reset_26 (i := 0) rfl rfl ?_
      refine g_Counts_crossings C lk_Counts_20 d_Counts_reset_27 ?_
      refine x_iload_n C d_Counts_reset_30 (i := 1) rfl rfl ?_
      refine rn_al_crossings C hi6 d_Counts_reset_31 ?_
      refine x_iconst C (0) d_Counts_reset_32 rfl ?_
      refine x_callSv C (c_Arrays_fill (zl_crorow hi6) (by decide) (fun f => zc_crorow hi6 f) 0) mt_Arrays_fill rfl rfl (Nat.le_of_ble_eq_true rfl) (Nat.le_of_ble_eq_true rfl) lk_Counts_23 d_Counts_reset_33 ?_
      refine x_iinc C (nI (i + 1)) d_Counts_reset_36 rfl (z_inc i) rfl ?_
      refine x_goto C 10 d_Counts_reset_39 rfl ?_
      exact ih (i + 1) _ (by omega) hr
theorem c_Counts_reset {dA : Nat → ClassId} {ad : Nat → Nat} {M : z_M}  : z_CV y_Counts_reset b_Counts_reset 2 1 dA ad [.ref (ad 33)] M (f_rst 6 0 (f_fl M 34 5 0)) := by
  refine z_ofV [some (.ref (ad 33)), none] (by decide) (Nat.le_of_ble_eq_true rfl) rfl (fun k C E => ?_)
  have C : z_C dA ad k b_Counts_reset "CellTransport$Counts" 1 2 := C
  refine x_aload_n C d_Counts_reset_0 (i := 0) rfl rfl ?_
  refine g_Counts_totals C lk_Counts_9 d_Counts_reset_1 ?_
  refine x_iconst C (0) d_Counts_reset_4 rfl ?_
  refine x_callSv C (c_Arrays_fill zl_totals (by decide) (fun f => zc_totals f) 0) mt_Arrays_fill rfl rfl (Nat.le_of_ble_eq_true rfl) (Nat.le_of_ble_eq_true rfl) lk_Counts_23 d_Counts_reset_5 ?_
  refine x_iconst C (0) d_Counts_reset_8 rfl ?_
  refine x_istore_n C d_Counts_reset_9 (i := 1) rfl rfl ?_
  exact lp_Counts_reset C E 6 0 _ (by omega) rfl
