theorem c_Model_seed {dA : Nat → ClassId} {ad : Nat → Nat} {M : z_M} (v : Int32) : z_CV y_Model_seed b_Model_seed 2 0 dA ad [.ref (ad 53), .int v] M (z_sv M 53 15 (v &&& 2147483647)) := by
  refine z_ofV [some (.ref (ad 53)), some (.int v)] (by decide) (Nat.le_of_ble_eq_true rfl) rfl (fun k C E => ?_)
  have C : z_C dA ad k b_Model_seed "CellTransportModel" 0 2 := C
  refine x_aload_n C d_Model_seed_0 (i := 0) rfl rfl ?_
  refine x_iload_n C d_Model_seed_1 (i := 1) rfl rfl ?_
  refine x_if_ge C 14 d_Model_seed_2 rfl (fun h_2 => ?_) (fun h_2 => ?_)
  · refine x_iload_n C d_Model_seed_14 (i := 1) rfl rfl ?_
    refine x_i2l C d_Model_seed_15 ?_
    refine u_Model_generator C (x := v &&& 2147483647) (z_sd1 h_2) lk_Model_47 d_Model_seed_16 ?_
    exact x_vret C E rfl d_Model_seed_19
  · refine x_iload_n C d_Model_seed_5 (i := 1) rfl rfl ?_
    refine x_i2l C d_Model_seed_6 ?_
    refine x_ldc2 C (2147483648) d_Model_seed_7 lk_Model_84 ?_
    refine x_ladd C d_Model_seed_10 ?_
    refine x_goto C 16 d_Model_seed_11 rfl ?_
    refine u_Model_generator C (x := v &&& 2147483647) (z_sd2 h_2) lk_Model_47 d_Model_seed_16 ?_
    exact x_vret C E rfl d_Model_seed_19
theorem c_Model_draw {dA : Nat → ClassId} {ad : Nat → Nat} {M : z_M} {n kk : Nat} (hn : n < 2 ^ 31) (eg : M 53 15 = nI n) (h0 : 0 < kk) (hk : kk < 2 ^ 31) : z_CI y_Model_draw b_Model_draw 2 .int 0 dA ad [.ref (ad 53), .int (nI kk)] M (z_rm (f_nx (M 53 15) / 256) (nI kk)) (z_sv M 53 15 (f_nx (M 53 15))) := by
  refine z_ofI [some (.ref (ad 53)), some (.int (nI kk))] (by decide) (Nat.le_of_ble_eq_true rfl) rfl (fun k C E => ?_)
  have C : z_C dA ad k b_Model_draw "CellTransportModel" 0 2 := C
  obtain ⟨m, hm, em⟩ := f_nx_n (M 53 15)
  refine x_aload_n C d_Model_draw_0 (i := 0) rfl rfl ?_
  refine x_aload_n C d_Model_draw_1 (i := 0) rfl rfl ?_
  refine g_Model_generator C lk_Model_47 d_Model_draw_2 ?_
  refine x_ldc2 C (1103515245) d_Model_draw_5 lk_Model_86 ?_
  refine x_lmul C d_Model_draw_8 ?_
  refine x_ldc2 C (12345) d_Model_draw_9 lk_Model_88 ?_
  refine x_ladd C d_Model_draw_12 ?_
  refine x_ldc2 C (2147483648) d_Model_draw_13 lk_Model_84 ?_
  refine x_lrem C d_Model_draw_16 (by decide) ?_
  refine u_Model_generator C (z_dr1 hn eg) lk_Model_47 d_Model_draw_17 ?_
  refine x_aload_n C d_Model_draw_20 (i := 0) rfl rfl ?_
  refine g_Model_generator C lk_Model_47 d_Model_draw_21 ?_
  refine x_eql (congrArg Int32.toInt64 (z_sv_self _ _ _ _)) ?_
  refine x_ldc2 C (256) d_Model_draw_24 lk_Model_90 ?_
  refine x_ldiv C d_Model_draw_27 (by decide) ?_
  refine x_iload_n C d_Model_draw_28 (i := 1) rfl rfl ?_
  refine x_i2l C d_Model_draw_29 ?_
  refine x_lrem C d_Model_draw_30 (z_kne h0 hk) ?_
  refine x_l2i C _ d_Model_draw_31 rfl ?_
  refine x_eqi (z_dr2 hm em h0 hk) ?_
  exact x_iret C E rfl rfl d_Model_draw_32
theorem c_Model_state {dA : Nat → ClassId} {ad : Nat → Nat} {M : z_M}  : z_CI y_Model_state b_Model_state 1 .int 0 dA ad [.ref (ad 53)] M (M 53 15) (M) := by
  refine z_ofI [some (.ref (ad 53))] (by decide) (Nat.le_of_ble_eq_true rfl) rfl (fun k C E => ?_)
  have C : z_C dA ad k b_Model_state "CellTransportModel" 0 1 := C
  refine x_aload_n C d_Model_state_0 (i := 0) rfl rfl ?_
  refine g_Model_generator C lk_Model_47 d_Model_state_1 ?_
  refine x_l2i C _ d_Model_state_4 rfl ?_
  refine x_eqi (z_l2i _) ?_
  exact x_iret C E rfl rfl d_Model_state_5
theorem c_Model_skipN {dA : Nat → ClassId} {ad : Nat → Nat} {M : z_M} {a : Int32} (hn : ¬ p_btw a 0 100000) : z_CI y_Model_skip b_Model_skip 4 .int 1 dA ad [.ref (ad 53), .int a] M (-1) (M) := by
  refine z_ofI [some (.ref (ad 53)), some (.int a), none, none] (by decide) (Nat.le_of_ble_eq_true rfl) rfl (fun k C E => ?_)
  have C : z_C dA ad k b_Model_skip "CellTransportModel" 1 4 := C
  refine x_iload_n C d_Model_skip_0 (i := 1) rfl rfl ?_
  refine x_iconst C (0) d_Model_skip_1 rfl ?_
  refine x_ldc C (100000) d_Model_skip_2 lk_Model_92 ?_
  refine x_callSi C (c_Model_out _ _ _) mt_Model_out rfl rfl (Nat.le_of_ble_eq_true rfl) (Nat.le_of_ble_eq_true rfl) lk_Model_66 d_Model_skip_4 ?_
  refine x_if_eq C 12 d_Model_skip_7 rfl (fun h_7 => ?_) (fun h_7 => ?_)
  · exact absurd (z_out0 h_7) hn
  · refine x_iconst C (-1) d_Model_skip_10 rfl ?_
    exact x_iret C E rfl rfl d_Model_skip_11
theorem g_it_n {s : Int32} (h : ∃ g : Nat, g < 2 ^ 31 ∧ s = nI g) : ∀ i : Nat, ∃ g : Nat, g < 2 ^ 31 ∧ g_it i s = nI g := by
  intro i
  cases i with
  | zero => exact h
  | succ i => exact f_nx_n _
theorem lp_Model_skip {dA : Nat → ClassId} {ad : Nat → Nat} {M0 : z_M} {k : z_K} {N : Nat} (hN : N ≤ 100000) (hg : ∃ g : Nat, g < 2 ^ 31 ∧ M0 53 15 = nI g) (C : z_C dA ad k b_Model_skip "CellTransportModel" 1 4) (E : z_RI dA ad k .int (g_it N (M0 53 15)) (z_sv M0 53 15 (g_it N (M0 53 15)))) :
    ∀ (n i q : Nat), i + n = N → q < 2 ^ 31 → z_X dA ad k 16 [some (.ref (ad 53)), some (.int (nI N)), some (.int (nI q)), some (.int (nI i))] [] (z_sv M0 53 15 (g_it i (M0 53 15))) := by
  intro n
  induction n with
  | zero =>
    intro i q hi hq
    refine x_iload_n C d_Model_skip_16 (i := 3) rfl rfl ?_
    refine x_iload_n C d_Model_skip_17 (i := 1) rfl rfl ?_
    refine x_icmp_ge C 33 d_Model_skip_18 rfl (fun h_18 => ?_) (fun h_18 => absurd (nI_le (by omega) (by omega)) h_18)
    refine x_iload_n C d_Model_skip_33 (i := 2) rfl rfl ?_
    refine x_if_ge C 41 d_Model_skip_34 rfl (fun h_34 => ?_) (fun h_34 => absurd (nI_pos' hq) h_34)
    refine x_aload_n C d_Model_skip_41 (i := 0) rfl rfl ?_
    refine g_Model_generator C lk_Model_47 d_Model_skip_42 ?_
    refine x_eql (congrArg Int32.toInt64 (z_sv_self _ _ _ _)) ?_
    refine x_l2i C _ d_Model_skip_45 rfl ?_
    refine x_eqi (z_l2i _) ?_
    exact x_iret C E (by rw [show i = N by omega]) (by rw [show i = N by omega]) d_Model_skip_46
  | succ n ih =>
    intro i q hi hq
    obtain ⟨g, hg1, hg2⟩ := g_it_n hg i
    obtain ⟨w, hw1, hw2⟩ := f_nx_rm (g_it i (M0 53 15)) (k := 2) (by decide) (by decide)
    have em : z_sv (z_sv M0 53 15 (g_it i (M0 53 15))) 53 15 (f_nx (z_sv M0 53 15 (g_it i (M0 53 15)) 53 15)) = z_sv M0 53 15 (g_it (i + 1) (M0 53 15)) := by rw [z_sv_self, z_sv_sv, g_it]
    have ei : z_rm (f_nx (z_sv M0 53 15 (g_it i (M0 53 15)) 53 15) / 256) (nI 2) = nI w := by rw [z_sv_self]; exact hw2
    refine x_iload_n C d_Model_skip_16 (i := 3) rfl rfl ?_
    refine x_iload_n C d_Model_skip_17 (i := 1) rfl rfl ?_
    refine x_icmp_ge C 33 d_Model_skip_18 rfl (fun h_18 => absurd h_18 (nI_ge (by omega) (by omega))) (fun h_18 => ?_)
    refine x_aload_n C d_Model_skip_21 (i := 0) rfl rfl ?_
    refine x_iconst C (nI 2) d_Model_skip_22 rfl ?_
    refine x_callVi C (c_Model_draw (M := z_sv M0 53 15 (g_it i (M0 53 15))) (kk := 2) hg1 ((z_sv_self _ _ _ _).trans hg2) (by decide) (by decide)) mt_Model_draw zl_Model (zc_Model _) rfl rfl rfl (Nat.le_of_ble_eq_true rfl) (Nat.le_of_ble_eq_true rfl) lk_Model_93 d_Model_skip_23 ?_
    refine x_eqM em ?_
    refine x_eqi ei ?_
    refine x_istore_n C d_Model_skip_26 (i := 2) rfl rfl ?_
    refine x_iinc C (nI (i + 1)) d_Model_skip_27 rfl (z_inc i) rfl ?_
    refine x_goto C 16 d_Model_skip_30 rfl ?_
    exact ih (i + 1) w (by omega) (by omega)
theorem c_Model_skipY {dA : Nat → ClassId} {ad : Nat → Nat} {M : z_M} {N : Nat} (hN : N ≤ 100000) (hg : ∃ g : Nat, g < 2 ^ 31 ∧ M 53 15 = nI g) : z_CI y_Model_skip b_Model_skip 4 .int 1 dA ad [.ref (ad 53), .int (nI N)] M (g_it N (M 53 15)) (z_sv M 53 15 (g_it N (M 53 15))) := by
  refine z_ofI [some (.ref (ad 53)), some (.int (nI N)), none, none] (by decide) (Nat.le_of_ble_eq_true rfl) rfl (fun k C E => ?_)
  have C : z_C dA ad k b_Model_skip "CellTransportModel" 1 4 := C
  refine x_iload_n C d_Model_skip_0 (i := 1) rfl rfl ?_
  refine x_iconst C (0) d_Model_skip_1 rfl ?_
  refine x_ldc C (100000) d_Model_skip_2 lk_Model_92 ?_
  refine x_callSi C (c_Model_out _ _ _) mt_Model_out rfl rfl (Nat.le_of_ble_eq_true rfl) (Nat.le_of_ble_eq_true rfl) lk_Model_66 d_Model_skip_4 ?_
  refine x_if_eq C 12 d_Model_skip_7 rfl (fun h_7 => ?_) (fun h_7 => absurd (z_in (n := 100000) hN (by decide)) (z_b_n0.mp h_7))
  refine x_iconst C (0) d_Model_skip_12 rfl ?_
  refine x_istore_n C d_Model_skip_13 (i := 2) rfl rfl ?_
  refine x_iconst C (0) d_Model_skip_14 rfl ?_
  refine x_istore_n C d_Model_skip_15 (i := 3) rfl rfl ?_
  refine x_eqM (z_sv_id M 53 15).symm ?_
  exact lp_Model_skip hN hg C E N 0 0 (by omega) (by decide)
theorem c_Model_stepX0 {dA : Nat → ClassId} {ad : Nat → Nat} {M : z_M}  : z_CI y_Model_stepX b_Model_stepX 1 .int 0 dA ad [.int (nI 0)] M (z_sX 0) (M) := by
  refine z_ofI [some (.int (nI 0))] (by decide) (Nat.le_of_ble_eq_true rfl) rfl (fun k C E => ?_)
  have C : z_C dA ad k b_Model_stepX "CellTransportModel" 0 1 := C
  refine x_iload_n C d_Model_stepX_0 (i := 0) rfl rfl ?_
  refine x_if_eq C 15 d_Model_stepX_1 rfl (fun h_1 => ?_) (fun h_1 => absurd (by decide) h_1)
  refine x_iconst C (1) d_Model_stepX_15 rfl ?_
  refine x_goto C 35 d_Model_stepX_16 rfl ?_
  exact x_iret C E rfl rfl d_Model_stepX_35
theorem c_Model_stepX1 {dA : Nat → ClassId} {ad : Nat → Nat} {M : z_M}  : z_CI y_Model_stepX b_Model_stepX 1 .int 0 dA ad [.int (nI 1)] M (z_sX 1) (M) := by
  refine z_ofI [some (.int (nI 1))] (by decide) (Nat.le_of_ble_eq_true rfl) rfl (fun k C E => ?_)
  have C : z_C dA ad k b_Model_stepX "CellTransportModel" 0 1 := C
  refine x_iload_n C d_Model_stepX_0 (i := 0) rfl rfl ?_
  refine x_if_eq C 15 d_Model_stepX_1 rfl (fun h_1 => absurd h_1 (by decide)) (fun h_1 => ?_)
  refine x_iload_n C d_Model_stepX_4 (i := 0) rfl rfl ?_
  refine x_iconst C (1) d_Model_stepX_5 rfl ?_
  refine x_icmp_eq C 15 d_Model_stepX_6 rfl (fun h_6 => ?_) (fun h_6 => absurd (by decide) h_6)
  refine x_iconst C (1) d_Model_stepX_15 rfl ?_
  refine x_goto C 35 d_Model_stepX_16 rfl ?_
  exact x_iret C E rfl rfl d_Model_stepX_35
theorem c_Model_stepX2 {dA : Nat → ClassId} {ad : Nat → Nat} {M : z_M}  : z_CI y_Model_stepX b_Model_stepX 1 .int 0 dA ad [.int (nI 2)] M (z_sX 2) (M) := by
  refine z_ofI [some (.int (nI 2))] (by decide) (Nat.le_of_ble_eq_true rfl) rfl (fun k C E => ?_)
  have C : z_C dA ad k b_Model_stepX "CellTransportModel" 0 1 := C
  refine x_iload_n C d_Model_stepX_0 (i := 0) rfl rfl ?_
  refine x_if_eq C 15 d_Model_stepX_1 rfl (fun h_1 => absurd h_1 (by decide)) (fun h_1 => ?_)
  refine x_iload_n C d_Model_stepX_4 (i := 0) rfl rfl ?_
  refine x_iconst C (1) d_Model_stepX_5 rfl ?_
  refine x_icmp_eq C 15 d_Model_stepX_6 rfl (fun h_6 => absurd h_6 (by decide)) (fun h_6 => ?_)
  refine x_iload_n C d_Model_stepX_9 (i := 0) rfl rfl ?_
  refine x_bipush C (7) d_Model_stepX_10 rfl ?_
  refine x_icmp_ne C 19 d_Model_stepX_12 rfl (fun h_12 => ?_) (fun h_12 => absurd h_12 (by decide))
  refine x_iload_n C d_Model_stepX_19 (i := 0) rfl rfl ?_
  refine x_iconst C (2) d_Model_stepX_20 rfl ?_
  refine x_icmp_eq C 30 d_Model_stepX_21 rfl (fun h_21 => ?_) (fun h_21 => absurd (by decide) h_21)
  refine x_iconst C (0) d_Model_stepX_30 rfl ?_
  refine x_goto C 35 d_Model_stepX_31 rfl ?_
  exact x_iret C E rfl rfl d_Model_stepX_35
theorem c_Model_stepX3 {dA : Nat → ClassId} {ad : Nat → Nat} {M : z_M}  : z_CI y_Model_stepX b_Model_stepX 1 .int 0 dA ad [.int (nI 3)] M (z_sX 3) (M) := by
  refine z_ofI [some (.int (nI 3))] (by decide) (Nat.le_of_ble_eq_true rfl) rfl (fun k C E => ?_)
  have C : z_C dA ad k b_Model_stepX "CellTransportModel" 0 1 := C
  refine x_iload_n C d_Model_stepX_0 (i := 0) rfl rfl ?_
  refine x_if_eq C 15 d_Model_stepX_1 rfl (fun h_1 => absurd h_1 (by decide)) (fun h_1 => ?_)
  refine x_iload_n C d_Model_stepX_4 (i := 0) rfl rfl ?_
  refine x_iconst C (1) d_Model_stepX_5 rfl ?_
  refine x_icmp_eq C 15 d_Model_stepX_6 rfl (fun h_6 => absurd h_6 (by decide)) (fun h_6 => ?_)
  refine x_iload_n C d_Model_stepX_9 (i := 0) rfl rfl ?_
  refine x_bipush C (7) d_Model_stepX_10 rfl ?_
  refine x_icmp_ne C 19 d_Model_stepX_12 rfl (fun h_12 => ?_) (fun h_12 => absurd h_12 (by decide))
  refine x_iload_n C d_Model_stepX_19 (i := 0) rfl rfl ?_
  refine x_iconst C (2) d_Model_stepX_20 rfl ?_
  refine x_icmp_eq C 30 d_Model_stepX_21 rfl (fun h_21 => absurd h_21 (by decide)) (fun h_21 => ?_)
  refine x_iload_n C d_Model_stepX_24 (i := 0) rfl rfl ?_
  refine x_bipush C (6) d_Model_stepX_25 rfl ?_
  refine x_icmp_ne C 34 d_Model_stepX_27 rfl (fun h_27 => ?_) (fun h_27 => absurd h_27 (by decide))
  refine x_iconst C (-1) d_Model_stepX_34 rfl ?_
  exact x_iret C E rfl rfl d_Model_stepX_35
theorem c_Model_stepX4 {dA : Nat → ClassId} {ad : Nat → Nat} {M : z_M}  : z_CI y_Model_stepX b_Model_stepX 1 .int 0 dA ad [.int (nI 4)] M (z_sX 4) (M) := by
  refine z_ofI [some (.int (nI 4))] (by decide) (Nat.le_of_ble_eq_true rfl) rfl (fun k C E => ?_)
  have C : z_C dA ad k b_Model_stepX "CellTransportModel" 0 1 := C
  refine x_iload_n C d_Model_stepX_0 (i := 0) rfl rfl ?_
  refine x_if_eq C 15 d_Model_stepX_1 rfl (fun h_1 => absurd h_1 (by decide)) (fun h_1 => ?_)
  refine x_iload_n C d_Model_stepX_4 (i := 0) rfl rfl ?_
  refine x_iconst C (1) d_Model_stepX_5 rfl ?_
  refine x_icmp_eq C 15 d_Model_stepX_6 rfl (fun h_6 => absurd h_6 (by decide)) (fun h_6 => ?_)
  refine x_iload_n C d_Model_stepX_9 (i := 0) rfl rfl ?_
  refine x_bipush C (7) d_Model_stepX_10 rfl ?_
  refine x_icmp_ne C 19 d_Model_stepX_12 rfl (fun h_12 => ?_) (fun h_12 => absurd h_12 (by decide))
  refine x_iload_n C d_Model_stepX_19 (i := 0) rfl rfl ?_
  refine x_iconst C (2) d_Model_stepX_20 rfl ?_
  refine x_icmp_eq C 30 d_Model_stepX_21 rfl (fun h_21 => absurd h_21 (by decide)) (fun h_21 => ?_)
  refine x_iload_n C d_Model_stepX_24 (i := 0) rfl rfl ?_
  refine x_bipush C (6) d_Model_stepX_25 rfl ?_
  refine x_icmp_ne C 34 d_Model_stepX_27 rfl (fun h_27 => ?_) (fun h_27 => absurd h_27 (by decide))
  refine x_iconst C (-1) d_Model_stepX_34 rfl ?_
  exact x_iret C E rfl rfl d_Model_stepX_35
theorem c_Model_stepX5 {dA : Nat → ClassId} {ad : Nat → Nat} {M : z_M}  : z_CI y_Model_stepX b_Model_stepX 1 .int 0 dA ad [.int (nI 5)] M (z_sX 5) (M) := by
  refine z_ofI [some (.int (nI 5))] (by decide) (Nat.le_of_ble_eq_true rfl) rfl (fun k C E => ?_)
  have C : z_C dA ad k b_Model_stepX "CellTransportModel" 0 1 := C
  refine x_iload_n C d_Model_stepX_0 (i := 0) rfl rfl ?_
  refine x_if_eq C 15 d_Model_stepX_1 rfl (fun h_1 => absurd h_1 (by decide)) (fun h_1 => ?_)
  refine x_iload_n C d_Model_stepX_4 (i := 0) rfl rfl ?_
  refine x_iconst C (1) d_Model_stepX_5 rfl ?_
  refine x_icmp_eq C 15 d_Model_stepX_6 rfl (fun h_6 => absurd h_6 (by decide)) (fun h_6 => ?_)
  refine x_iload_n C d_Model_stepX_9 (i := 0) rfl rfl ?_
  refine x_bipush C (7) d_Model_stepX_10 rfl ?_
  refine x_icmp_ne C 19 d_Model_stepX_12 rfl (fun h_12 => ?_) (fun h_12 => absurd h_12 (by decide))
  refine x_iload_n C d_Model_stepX_19 (i := 0) rfl rfl ?_
  refine x_iconst C (2) d_Model_stepX_20 rfl ?_
  refine x_icmp_eq C 30 d_Model_stepX_21 rfl (fun h_21 => absurd h_21 (by decide)) (fun h_21 => ?_)
  refine x_iload_n C d_Model_stepX_24 (i := 0) rfl rfl ?_
  refine x_bipush C (6) d_Model_stepX_25 rfl ?_
  refine x_icmp_ne C 34 d_Model_stepX_27 rfl (fun h_27 => ?_) (fun h_27 => absurd h_27 (by decide))
  refine x_iconst C (-1) d_Model_stepX_34 rfl ?_
  exact x_iret C E rfl rfl d_Model_stepX_35
theorem c_Model_stepX6 {dA : Nat → ClassId} {ad : Nat → Nat} {M : z_M}  : z_CI y_Model_stepX b_Model_stepX 1 .int 0 dA ad [.int (nI 6)] M (z_sX 6) (M) := by
  refine z_ofI [some (.int (nI 6))] (by decide) (Nat.le_of_ble_eq_true rfl) rfl (fun k C E => ?_)
  have C : z_C dA ad k b_Model_stepX "CellTransportModel" 0 1 := C
  refine x_iload_n C d_Model_stepX_0 (i := 0) rfl rfl ?_
  refine x_if_eq C 15 d_Model_stepX_1 rfl (fun h_1 => absurd h_1 (by decide)) (fun h_1 => ?_)
  refine x_iload_n C d_Model_stepX_4 (i := 0) rfl rfl ?_
  refine x_iconst C (1) d_Model_stepX_5 rfl ?_
  refine x_icmp_eq C 15 d_Model_stepX_6 rfl (fun h_6 => absurd h_6 (by decide)) (fun h_6 => ?_)
  refine x_iload_n C d_Model_stepX_9 (i := 0) rfl rfl ?_
  refine x_bipush C (7) d_Model_stepX_10 rfl ?_
  refine x_icmp_ne C 19 d_Model_stepX_12 rfl (fun h_12 => ?_) (fun h_12 => absurd h_12 (by decide))
  refine x_iload_n C d_Model_stepX_19 (i := 0) rfl rfl ?_
  refine x_iconst C (2) d_Model_stepX_20 rfl ?_
  refine x_icmp_eq C 30 d_Model_stepX_21 rfl (fun h_21 => absurd h_21 (by decide)) (fun h_21 => ?_)
  refine x_iload_n C d_Model_stepX_24 (i := 0) rfl rfl ?_
  refine x_bipush C (6) d_Model_stepX_25 rfl ?_
  refine x_icmp_ne C 34 d_Model_stepX_27 rfl (fun h_27 => absurd (by decide) h_27) (fun h_27 => ?_)
  refine x_iconst C (0) d_Model_stepX_30 rfl ?_
  refine x_goto C 35 d_Model_stepX_31 rfl ?_
  exact x_iret C E rfl rfl d_Model_stepX_35
theorem c_Model_stepX7 {dA : Nat → ClassId} {ad : Nat → Nat} {M : z_M}  : z_CI y_Model_stepX b_Model_stepX 1 .int 0 dA ad [.int (nI 7)] M (z_sX 7) (M) := by
  refine z_ofI [some (.int (nI 7))] (by decide) (Nat.le_of_ble_eq_true rfl) rfl (fun k C E => ?_)
  have C : z_C dA ad k b_Model_stepX "CellTransportModel" 0 1 := C
  refine x_iload_n C d_Model_stepX_0 (i := 0) rfl rfl ?_
  refine x_if_eq C 15 d_Model_stepX_1 rfl (fun h_1 => absurd h_1 (by decide)) (fun h_1 => ?_)
  refine x_iload_n C d_Model_stepX_4 (i := 0) rfl rfl ?_
  refine x_iconst C (1) d_Model_stepX_5 rfl ?_
  refine x_icmp_eq C 15 d_Model_stepX_6 rfl (fun h_6 => absurd h_6 (by decide)) (fun h_6 => ?_)
  refine x_iload_n C d_Model_stepX_9 (i := 0) rfl rfl ?_
  refine x_bipush C (7) d_Model_stepX_10 rfl ?_
  refine x_icmp_ne C 19 d_Model_stepX_12 rfl (fun h_12 => absurd (by decide) h_12) (fun h_12 => ?_)
  refine x_iconst C (1) d_Model_stepX_15 rfl ?_
  refine x_goto C 35 d_Model_stepX_16 rfl ?_
  exact x_iret C E rfl rfl d_Model_stepX_35
theorem c_Model_stepX {dA : Nat → ClassId} {ad : Nat → Nat} {M : z_M} {dd : Nat} (hd : dd < 8) : z_CI y_Model_stepX b_Model_stepX 1 .int 0 dA ad [.int (nI dd)] M (z_sX dd) M := by
  rcases (show dd = 0 ∨ dd = 1 ∨ dd = 2 ∨ dd = 3 ∨ dd = 4 ∨ dd = 5 ∨ dd = 6 ∨ dd = 7 by omega) with rfl | rfl | rfl | rfl | rfl | rfl | rfl | rfl
  · exact c_Model_stepX0
  · exact c_Model_stepX1
  · exact c_Model_stepX2
  · exact c_Model_stepX3
  · exact c_Model_stepX4
  · exact c_Model_stepX5
  · exact c_Model_stepX6
  · exact c_Model_stepX7
theorem c_Model_stepY0 {dA : Nat → ClassId} {ad : Nat → Nat} {M : z_M}  : z_CI y_Model_stepY b_Model_stepY 1 .int 0 dA ad [.int (nI 0)] M (z_sY 0) (M) := by
  refine z_ofI [some (.int (nI 0))] (by decide) (Nat.le_of_ble_eq_true rfl) rfl (fun k C E => ?_)
  have C : z_C dA ad k b_Model_stepY "CellTransportModel" 0 1 := C
  refine x_iload_n C d_Model_stepY_0 (i := 0) rfl rfl ?_
  refine x_if_eq C 9 d_Model_stepY_1 rfl (fun h_1 => ?_) (fun h_1 => absurd (by decide) h_1)
  refine x_iconst C (0) d_Model_stepY_9 rfl ?_
  refine x_goto C 23 d_Model_stepY_10 rfl ?_
  exact x_iret C E rfl rfl d_Model_stepY_23
theorem c_Model_stepY1 {dA : Nat → ClassId} {ad : Nat → Nat} {M : z_M}  : z_CI y_Model_stepY b_Model_stepY 1 .int 0 dA ad [.int (nI 1)] M (z_sY 1) (M) := by
  refine z_ofI [some (.int (nI 1))] (by decide) (Nat.le_of_ble_eq_true rfl) rfl (fun k C E => ?_)
  have C : z_C dA ad k b_Model_stepY "CellTransportModel" 0 1 := C
  refine x_iload_n C d_Model_stepY_0 (i := 0) rfl rfl ?_
  refine x_if_eq C 9 d_Model_stepY_1 rfl (fun h_1 => absurd h_1 (by decide)) (fun h_1 => ?_)
  refine x_iload_n C d_Model_stepY_4 (i := 0) rfl rfl ?_
  refine x_iconst C (4) d_Model_stepY_5 rfl ?_
  refine x_icmp_ne C 13 d_Model_stepY_6 rfl (fun h_6 => ?_) (fun h_6 => absurd h_6 (by decide))
  refine x_iload_n C d_Model_stepY_13 (i := 0) rfl rfl ?_
  refine x_iconst C (4) d_Model_stepY_14 rfl ?_
  refine x_icmp_ge C 22 d_Model_stepY_15 rfl (fun h_15 => absurd h_15 (by decide)) (fun h_15 => ?_)
  refine x_iconst C (1) d_Model_stepY_18 rfl ?_
  refine x_goto C 23 d_Model_stepY_19 rfl ?_
  exact x_iret C E rfl rfl d_Model_stepY_23
theorem c_Model_stepY2 {dA : Nat → ClassId} {ad : Nat → Nat} {M : z_M}  : z_CI y_Model_stepY b_Model_stepY 1 .int 0 dA ad [.int (nI 2)] M (z_sY 2) (M) := by
  refine z_ofI [some (.int (nI 2))] (by decide) (Nat.le_of_ble_eq_true rfl) rfl (fun k C E => ?_)
  have C : z_C dA ad k b_Model_stepY "CellTransportModel" 0 1 := C
  refine x_iload_n C d_Model_stepY_0 (i := 0) rfl rfl ?_
  refine x_if_eq C 9 d_Model_stepY_1 rfl (fun h_1 => absurd h_1 (by decide)) (fun h_1 => ?_)
  refine x_iload_n C d_Model_stepY_4 (i := 0) rfl rfl ?_
  refine x_iconst C (4) d_Model_stepY_5 rfl ?_
  refine x_icmp_ne C 13 d_Model_stepY_6 rfl (fun h_6 => ?_) (fun h_6 => absurd h_6 (by decide))
  refine x_iload_n C d_Model_stepY_13 (i := 0) rfl rfl ?_
  refine x_iconst C (4) d_Model_stepY_14 rfl ?_
  refine x_icmp_ge C 22 d_Model_stepY_15 rfl (fun h_15 => absurd h_15 (by decide)) (fun h_15 => ?_)
  refine x_iconst C (1) d_Model_stepY_18 rfl ?_
  refine x_goto C 23 d_Model_stepY_19 rfl ?_
  exact x_iret C E rfl rfl d_Model_stepY_23
theorem c_Model_stepY3 {dA : Nat → ClassId} {ad : Nat → Nat} {M : z_M}  : z_CI y_Model_stepY b_Model_stepY 1 .int 0 dA ad [.int (nI 3)] M (z_sY 3) (M) := by
  refine z_ofI [some (.int (nI 3))] (by decide) (Nat.le_of_ble_eq_true rfl) rfl (fun k C E => ?_)
  have C : z_C dA ad k b_Model_stepY "CellTransportModel" 0 1 := C
  refine x_iload_n C d_Model_stepY_0 (i := 0) rfl rfl ?_
  refine x_if_eq C 9 d_Model_stepY_1 rfl (fun h_1 => absurd h_1 (by decide)) (fun h_1 => ?_)
  refine x_iload_n C d_Model_stepY_4 (i := 0) rfl rfl ?_
  refine x_iconst C (4) d_Model_stepY_5 rfl ?_
  refine x_icmp_ne C 13 d_Model_stepY_6 rfl (fun h_6 => ?_) (fun h_6 => absurd h_6 (by decide))
  refine x_iload_n C d_Model_stepY_13 (i := 0) rfl rfl ?_
  refine x_iconst C (4) d_Model_stepY_14 rfl ?_
  refine x_icmp_ge C 22 d_Model_stepY_15 rfl (fun h_15 => absurd h_15 (by decide)) (fun h_15 => ?_)
  refine x_iconst C (1) d_Model_stepY_18 rfl ?_
  refine x_goto C 23 d_Model_stepY_19 rfl ?_
  exact x_iret C E rfl rfl d_Model_stepY_23
theorem c_Model_stepY4 {dA : Nat → ClassId} {ad : Nat → Nat} {M : z_M}  : z_CI y_Model_stepY b_Model_stepY 1 .int 0 dA ad [.int (nI 4)] M (z_sY 4) (M) := by
  refine z_ofI [some (.int (nI 4))] (by decide) (Nat.le_of_ble_eq_true rfl) rfl (fun k C E => ?_)
  have C : z_C dA ad k b_Model_stepY "CellTransportModel" 0 1 := C
  refine x_iload_n C d_Model_stepY_0 (i := 0) rfl rfl ?_
  refine x_if_eq C 9 d_Model_stepY_1 rfl (fun h_1 => absurd h_1 (by decide)) (fun h_1 => ?_)
  refine x_iload_n C d_Model_stepY_4 (i := 0) rfl rfl ?_
  refine x_iconst C (4) d_Model_stepY_5 rfl ?_
  refine x_icmp_ne C 13 d_Model_stepY_6 rfl (fun h_6 => absurd (by decide) h_6) (fun h_6 => ?_)
  refine x_iconst C (0) d_Model_stepY_9 rfl ?_
  refine x_goto C 23 d_Model_stepY_10 rfl ?_
  exact x_iret C E rfl rfl d_Model_stepY_23
theorem c_Model_stepY5 {dA : Nat → ClassId} {ad : Nat → Nat} {M : z_M}  : z_CI y_Model_stepY b_Model_stepY 1 .int 0 dA ad [.int (nI 5)] M (z_sY 5) (M) := by
  refine z_ofI [some (.int (nI 5))] (by decide) (Nat.le_of_ble_eq_true rfl) rfl (fun k C E => ?_)
  have C : z_C dA ad k b_Model_stepY "CellTransportModel" 0 1 := C
  refine x_iload_n C d_Model_stepY_0 (i := 0) rfl rfl ?_
  refine x_if_eq C 9 d_Model_stepY_1 rfl (fun h_1 => absurd h_1 (by decide)) (fun h_1 => ?_)
  refine x_iload_n C d_Model_stepY_4 (i := 0) rfl rfl ?_
  refine x_iconst C (4) d_Model_stepY_5 rfl ?_
  refine x_icmp_ne C 13 d_Model_stepY_6 rfl (fun h_6 => ?_) (fun h_6 => absurd h_6 (by decide))
  refine x_iload_n C d_Model_stepY_13 (i := 0) rfl rfl ?_
  refine x_iconst C (4) d_Model_stepY_14 rfl ?_
  refine x_icmp_ge C 22 d_Model_stepY_15 rfl (fun h_15 => ?_) (fun h_15 => absurd (by decide) h_15)
  refine x_iconst C (-1) d_Model_stepY_22 rfl ?_
  exact x_iret C E rfl rfl d_Model_stepY_23
theorem c_Model_stepY6 {dA : Nat → ClassId} {ad : Nat → Nat} {M : z_M}  : z_CI y_Model_stepY b_Model_stepY 1 .int 0 dA ad [.int (nI 6)] M (z_sY 6) (M) := by
  refine z_ofI [some (.int (nI 6))] (by decide) (Nat.le_of_ble_eq_true rfl) rfl (fun k C E => ?_)
  have C : z_C dA ad k b_Model_stepY "CellTransportModel" 0 1 := C
  refine x_iload_n C d_Model_stepY_0 (i := 0) rfl rfl ?_
  refine x_if_eq C 9 d_Model_stepY_1 rfl (fun h_1 => absurd h_1 (by decide)) (fun h_1 => ?_)
  refine x_iload_n C d_Model_stepY_4 (i := 0) rfl rfl ?_
  refine x_iconst C (4) d_Model_stepY_5 rfl ?_
  refine x_icmp_ne C 13 d_Model_stepY_6 rfl (fun h_6 => ?_) (fun h_6 => absurd h_6 (by decide))
  refine x_iload_n C d_Model_stepY_13 (i := 0) rfl rfl ?_
  refine x_iconst C (4) d_Model_stepY_14 rfl ?_
  refine x_icmp_ge C 22 d_Model_stepY_15 rfl (fun h_15 => ?_) (fun h_15 => absurd (by decide) h_15)
  refine x_iconst C (-1) d_Model_stepY_22 rfl ?_
  exact x_iret C E rfl rfl d_Model_stepY_23
theorem c_Model_stepY7 {dA : Nat → ClassId} {ad : Nat → Nat} {M : z_M}  : z_CI y_Model_stepY b_Model_stepY 1 .int 0 dA ad [.int (nI 7)] M (z_sY 7) (M) := by
  refine z_ofI [some (.int (nI 7))] (by decide) (Nat.le_of_ble_eq_true rfl) rfl (fun k C E => ?_)
  have C : z_C dA ad k b_Model_stepY "CellTransportModel" 0 1 := C
  refine x_iload_n C d_Model_stepY_0 (i := 0) rfl rfl ?_
  refine x_if_eq C 9 d_Model_stepY_1 rfl (fun h_1 => absurd h_1 (by decide)) (fun h_1 => ?_)
  refine x_iload_n C d_Model_stepY_4 (i := 0) rfl rfl ?_
  refine x_iconst C (4) d_Model_stepY_5 rfl ?_
  refine x_icmp_ne C 13 d_Model_stepY_6 rfl (fun h_6 => ?_) (fun h_6 => absurd h_6 (by decide))
  refine x_iload_n C d_Model_stepY_13 (i := 0) rfl rfl ?_
  refine x_iconst C (4) d_Model_stepY_14 rfl ?_
  refine x_icmp_ge C 22 d_Model_stepY_15 rfl (fun h_15 => ?_) (fun h_15 => absurd (by decide) h_15)
  refine x_iconst C (-1) d_Model_stepY_22 rfl ?_
  exact x_iret C E rfl rfl d_Model_stepY_23
theorem c_Model_stepY {dA : Nat → ClassId} {ad : Nat → Nat} {M : z_M} {dd : Nat} (hd : dd < 8) : z_CI y_Model_stepY b_Model_stepY 1 .int 0 dA ad [.int (nI dd)] M (z_sY dd) M := by
  rcases (show dd = 0 ∨ dd = 1 ∨ dd = 2 ∨ dd = 3 ∨ dd = 4 ∨ dd = 5 ∨ dd = 6 ∨ dd = 7 by omega) with rfl | rfl | rfl | rfl | rfl | rfl | rfl | rfl
  · exact c_Model_stepY0
  · exact c_Model_stepY1
  · exact c_Model_stepY2
  · exact c_Model_stepY3
  · exact c_Model_stepY4
  · exact c_Model_stepY5
  · exact c_Model_stepY6
  · exact c_Model_stepY7
theorem z_Vs (M : z_M) {j : Nat} (hj : j < 8) : z_V M (i_surf j) 0 = M 58 j ∧ z_V M (i_surf j) 1 = M 54 j ∧ z_V M (i_surf j) 2 = M 55 j ∧ z_V M (i_surf j) 3 = M 56 j ∧ z_V M (i_surf j) 4 = M 57 j := ⟨z_V_at (z_m_surf hj).1, z_V_at (z_m_surf hj).2.1, z_V_at (z_m_surf hj).2.2.1, z_V_at (z_m_surf hj).2.2.2.1, z_V_at (z_m_surf hj).2.2.2.2⟩
abbrev q_sh (M : z_M) (j : Nat) (x y : Int32) : Prop := ¬ M 58 j = 0 ∧ (if M 54 j = 0 then M 55 j * x + M 56 j * y ≤ M 57 j else (x - M 55 j) * (x - M 55 j) + (y - M 56 j) * (y - M 56 j) ≤ M 57 j * M 57 j)
theorem q_sh_V (M : z_M) {j : Nat} (hj : j < 8) (x y : Int32) : z_b (q_sh M j x y) = z_b (p_sh (z_V M (i_surf j)) x y) := by
  apply z_b_iff
  obtain ⟨e0, e1, e2, e3, e4⟩ := z_Vs M hj
  unfold p_sh
  rw [e0, e1, e2, e3, e4]
theorem c_Model_holds0 {dA : Nat → ClassId} {ad : Nat → Nat} {M : z_M} {j : Nat} (hj : j < 8) (x y : Int32) : z_CI y_Model_holds b_Model_holds 6 .boolean 0 dA ad [.ref (ad 53), .int (nI j), .int x, .int y] M (z_b (q_sh M j x y)) (M) := by
  refine z_ofI [some (.ref (ad 53)), some (.int (nI j)), some (.int x), some (.int y), none, none] (by decide) (Nat.le_of_ble_eq_true rfl) rfl (fun k C E => ?_)
  have C : z_C dA ad k b_Model_holds "CellTransportModel" 0 6 := C
  refine x_aload_n C d_Model_holds_0 (i := 0) rfl rfl ?_
  refine g_Model_set C lk_Model_22 d_Model_holds_1 ?_
  refine x_iload_n C d_Model_holds_4 (i := 1) rfl rfl ?_
  refine rn_ld_m_set C  hj d_Model_holds_5 ?_
  refine x_if_ne C 11 d_Model_holds_6 rfl (fun h_6 => ?_) (fun h_6 => ?_)
  · refine x_aload_n C d_Model_holds_11 (i := 0) rfl rfl ?_
    refine g_Model_kind C lk_Model_7 d_Model_holds_12 ?_
    refine x_iload_n C d_Model_holds_15 (i := 1) rfl rfl ?_
    refine rn_ld_m_kind C  hj d_Model_holds_16 ?_
    refine x_if_ne C 52 d_Model_holds_17 rfl (fun h_17 => ?_) (fun h_17 => ?_)
    · refine x_iload_n C d_Model_holds_52 (i := 2) rfl rfl ?_
      refine x_aload_n C d_Model_holds_53 (i := 0) rfl rfl ?_
      refine g_Model_sa C lk_Model_13 d_Model_holds_54 ?_
      refine x_iload_n C d_Model_holds_57 (i := 1) rfl rfl ?_
      refine rn_ld_m_sa C  hj d_Model_holds_58 ?_
      refine x_isub C d_Model_holds_59 ?_
      refine x_istore C d_Model_holds_60 rfl ?_
      refine x_iload_n C d_Model_holds_62 (i := 3) rfl rfl ?_
      refine x_aload_n C d_Model_holds_63 (i := 0) rfl rfl ?_
      refine g_Model_sb C lk_Model_16 d_Model_holds_64 ?_
      refine x_iload_n C d_Model_holds_67 (i := 1) rfl rfl ?_
      refine rn_ld_m_sb C  hj d_Model_holds_68 ?_
      refine x_isub C d_Model_holds_69 ?_
      refine x_istore C d_Model_holds_70 rfl ?_
      refine x_iload C d_Model_holds_72 rfl ?_
      refine x_iload C d_Model_holds_74 rfl ?_
      refine x_imul C d_Model_holds_76 ?_
      refine x_iload C d_Model_holds_77 rfl ?_
      refine x_iload C d_Model_holds_79 rfl ?_
      refine x_imul C d_Model_holds_81 ?_
      refine x_iadd C d_Model_holds_82 ?_
      refine x_aload_n C d_Model_holds_83 (i := 0) rfl rfl ?_
      refine g_Model_sc C lk_Model_19 d_Model_holds_84 ?_
      refine x_iload_n C d_Model_holds_87 (i := 1) rfl rfl ?_
      refine rn_ld_m_sc C  hj d_Model_holds_88 ?_
      refine x_aload_n C d_Model_holds_89 (i := 0) rfl rfl ?_
      refine g_Model_sc C lk_Model_19 d_Model_holds_90 ?_
      refine x_iload_n C d_Model_holds_93 (i := 1) rfl rfl ?_
      refine rn_ld_m_sc C  hj d_Model_holds_94 ?_
      refine x_imul C d_Model_holds_95 ?_
      refine x_icmp_gt C 103 d_Model_holds_96 rfl (fun h_96 => ?_) (fun h_96 => ?_)
      · refine x_iconst C (0) d_Model_holds_103 rfl ?_
        exact x_zret C E (z_b_f (fun q => by have q2 := q.2; rw [if_neg h_17] at q2; exact Int32.not_lt.mpr q2 h_96)).symm rfl rfl d_Model_holds_104
      · refine x_iconst C (1) d_Model_holds_99 rfl ?_
        refine x_goto C 104 d_Model_holds_100 rfl ?_
        exact x_zret C E (z_b_t ⟨h_6, by rw [if_neg h_17]; exact z_le h_96⟩).symm rfl rfl d_Model_holds_104
    · refine x_aload_n C d_Model_holds_20 (i := 0) rfl rfl ?_
      refine g_Model_sa C lk_Model_13 d_Model_holds_21 ?_
      refine x_iload_n C d_Model_holds_24 (i := 1) rfl rfl ?_
      refine rn_ld_m_sa C  hj d_Model_holds_25 ?_
      refine x_iload_n C d_Model_holds_26 (i := 2) rfl rfl ?_
      refine x_imul C d_Model_holds_27 ?_
      refine x_aload_n C d_Model_holds_28 (i := 0) rfl rfl ?_
      refine g_Model_sb C lk_Model_16 d_Model_holds_29 ?_
      refine x_iload_n C d_Model_holds_32 (i := 1) rfl rfl ?_
      refine rn_ld_m_sb C  hj d_Model_holds_33 ?_
      refine x_iload_n C d_Model_holds_34 (i := 3) rfl rfl ?_
      refine x_imul C d_Model_holds_35 ?_
      refine x_iadd C d_Model_holds_36 ?_
      refine x_aload_n C d_Model_holds_37 (i := 0) rfl rfl ?_
      refine g_Model_sc C lk_Model_19 d_Model_holds_38 ?_
      refine x_iload_n C d_Model_holds_41 (i := 1) rfl rfl ?_
      refine rn_ld_m_sc C  hj d_Model_holds_42 ?_
      refine x_icmp_gt C 50 d_Model_holds_43 rfl (fun h_43 => ?_) (fun h_43 => ?_)
      · refine x_iconst C (0) d_Model_holds_50 rfl ?_
        exact x_zret C E (z_b_f (fun q => by have q2 := q.2; rw [if_pos h_17] at q2; exact Int32.not_lt.mpr q2 h_43)).symm rfl rfl d_Model_holds_51
      · refine x_iconst C (1) d_Model_holds_46 rfl ?_
        refine x_goto C 51 d_Model_holds_47 rfl ?_
        exact x_zret C E (z_b_t ⟨h_6, by rw [if_pos h_17]; exact z_le h_43⟩).symm rfl rfl d_Model_holds_51
  · refine x_iconst C (0) d_Model_holds_9 rfl ?_
    exact x_zret C E (z_b_f (fun q => q.1 h_6)).symm rfl rfl d_Model_holds_10
theorem c_Model_holds {dA : Nat → ClassId} {ad : Nat → Nat} {M : z_M} {j : Nat} (hj : j < 8) (x y : Int32) : z_CI y_Model_holds b_Model_holds 6 .boolean 0 dA ad [.ref (ad 53), .int (nI j), .int x, .int y] M (z_b (p_sh (z_V M (i_surf j)) x y)) M := by
  rw [← q_sh_V M hj]
  exact c_Model_holds0 hj x y
theorem lp_Model_inside {dA : Nat → ClassId} {ad : Nat → Nat} {M : z_M} {k : z_K} {j : Nat} (hj : j < 6) {sz : Nat} (hsz : sz ≤ 8) (hs : M 61 j = nI sz) (ht : ∀ t, t < sz → ∃ v, v ≤ 10 ∧ z_V M (i_tok j) t = nI v) {x y r0 : Int32} (C : z_C dA ad k b_Model_inside "CellTransportModel" 1 9) (E : z_RI dA ad k .boolean r0 M) :
    ∀ (n i : Nat) (o : Int32) (a6 a7 a8 : Option Value), i + n = sz → z_b (f_rl (z_V M) (z_V M (i_tok j)) x y n i o = 1) = r0 → z_X dA ad k 9 [some (.ref (ad 53)), some (.int (nI j)), some (.int x), some (.int y), some (.int o), some (.int (nI (8 * j + i))), a6, a7, a8] [] M := by
  intro n
  induction n with
  | zero =>
    intro i o a6 a7 a8 hi hr
    refine x_iload C d_Model_inside_9 rfl ?_
    refine x_bipush C (nI 8) d_Model_inside_11 rfl ?_
    refine x_iload_n C d_Model_inside_13 (i := 1) rfl rfl ?_
    refine x_imul C d_Model_inside_14 ?_
    refine x_aload_n C d_Model_inside_15 (i := 0) rfl rfl ?_
    refine g_Model_tokens C lk_Model_32 d_Model_inside_16 ?_
    refine x_iload_n C d_Model_inside_19 (i := 1) rfl rfl ?_
    refine rn_ld_m_tokens C  hj d_Model_inside_20 ?_
    refine x_eqi hs ?_
    refine x_iadd C d_Model_inside_21 ?_
    refine x_eqi (z_ix 8 j sz) ?_
    refine x_icmp_ge C 132 d_Model_inside_22 rfl (fun h_22 => ?_) (fun h_22 => absurd (nI_le (by omega) (by omega)) h_22)
    refine x_iload C d_Model_inside_132 rfl ?_
    refine x_iconst C (1) d_Model_inside_134 rfl ?_
    refine x_icmp_ne C 142 d_Model_inside_135 rfl (fun h_135 => ?_) (fun h_135 => ?_)
    · refine x_iconst C (0) d_Model_inside_142 rfl ?_
      exact x_zret C E (hr ▸ (z_b_f h_135).symm) rfl rfl d_Model_inside_143
    · refine x_iconst C (1) d_Model_inside_138 rfl ?_
      refine x_goto C 143 d_Model_inside_139 rfl ?_
      exact x_zret C E (hr ▸ (z_b_t h_135).symm) rfl rfl d_Model_inside_143
  | succ n ih =>
    intro i o a6 a7 a8 hi hr
    obtain ⟨v, hv, ev0⟩ := ht i (by omega)
    have ev : M 60 (8 * j + i) = nI v := (z_V_at (z_m_tok hj (show i < 8 by omega))).symm.trans ev0
    by_cases v8 : v < 8
    · have n8 : ¬ nI v = 8 := fun q => by have := (nI_eq (a := v) (b := 8) (by omega) (by decide)).mp q; omega
      have n9 : ¬ nI v = 9 := fun q => by have := (nI_eq (a := v) (b := 9) (by omega) (by decide)).mp q; omega
      have n10 : ¬ nI v = 10 := fun q => by have := (nI_eq (a := v) (b := 10) (by omega) (by decide)).mp q; omega
      have er : f_rs (z_V M) x y o (nI v) = (o <<< ((1 : Int32) &&& 31)) ||| z_b (p_sh (z_V M (i_surf v)) x y) := by rw [f_rs, if_neg n8, if_neg n9, if_neg n10, nI_clamp (by omega)]
      refine x_iload C d_Model_inside_9 rfl ?_
      refine x_bipush C (nI 8) d_Model_inside_11 rfl ?_
      refine x_iload_n C d_Model_inside_13 (i := 1) rfl rfl ?_
      refine x_imul C d_Model_inside_14 ?_
      refine x_aload_n C d_Model_inside_15 (i := 0) rfl rfl ?_
      refine g_Model_tokens C lk_Model_32 d_Model_inside_16 ?_
      refine x_iload_n C d_Model_inside_19 (i := 1) rfl rfl ?_
      refine rn_ld_m_tokens C  hj d_Model_inside_20 ?_
      refine x_eqi hs ?_
      refine x_iadd C d_Model_inside_21 ?_
      refine x_eqi (z_ix 8 j sz) ?_
      refine x_icmp_ge C 132 d_Model_inside_22 rfl (fun h_22 => absurd h_22 (nI_ge (by omega) (by omega))) (fun h_22 => ?_)
      refine x_aload_n C d_Model_inside_25 (i := 0) rfl rfl ?_
      refine g_Model_region C lk_Model_29 d_Model_inside_26 ?_
      refine x_iload C d_Model_inside_29 rfl ?_
      refine rn_ld_m_region C  (show 8 * j + i < 48 by omega) d_Model_inside_31 ?_
      refine x_eqi ev ?_
      refine x_istore C d_Model_inside_32 rfl ?_
      refine x_iload C d_Model_inside_34 rfl ?_
      refine x_bipush C (8) d_Model_inside_36 rfl ?_
      refine x_icmp_ge C 67 d_Model_inside_38 rfl (fun h_38 => absurd (show nI 8 ≤ nI v from h_38) (nI_ge v8 (by decide))) (fun h_38 => ?_)
      refine x_iload C d_Model_inside_41 rfl ?_
      refine x_iconst C (2) d_Model_inside_43 rfl ?_
      refine x_imul C d_Model_inside_44 ?_
      refine x_aload_n C d_Model_inside_45 (i := 0) rfl rfl ?_
      refine x_iload C d_Model_inside_46 rfl ?_
      refine x_iload_n C d_Model_inside_48 (i := 2) rfl rfl ?_
      refine x_iload_n C d_Model_inside_49 (i := 3) rfl rfl ?_
      refine x_callVi C (c_Model_holds v8 _ _) mt_Model_holds zl_Model (zc_Model _) rfl rfl rfl (Nat.le_of_ble_eq_true rfl) (Nat.le_of_ble_eq_true rfl) lk_Model_97 d_Model_inside_50 ?_
      refine x_if_eq C 60 d_Model_inside_53 rfl (fun h_53 => ?_) (fun h_53 => ?_)
      · refine x_iconst C (0) d_Model_inside_60 rfl ?_
        refine x_iadd C d_Model_inside_61 ?_
        refine x_istore C d_Model_inside_62 rfl ?_
        refine x_goto C 126 d_Model_inside_64 rfl ?_
        refine x_iinc C (nI (8 * j + (i + 1))) d_Model_inside_126 rfl (z_inc (8 * j + i)) rfl ?_
        refine x_goto C 9 d_Model_inside_129 rfl ?_
        exact ih (i + 1) _ _ _ _ (by omega) (by rw [← hr]; show _ = z_b (f_rl (z_V M) (z_V M (i_tok j)) x y n (i + 1) (f_rs (z_V M) x y o (z_V M (i_tok j) i)) = 1); rw [ev0, er, h_53, z_bxz o])
      · refine x_iconst C (1) d_Model_inside_56 rfl ?_
        refine x_goto C 61 d_Model_inside_57 rfl ?_
        refine x_iadd C d_Model_inside_61 ?_
        refine x_istore C d_Model_inside_62 rfl ?_
        refine x_goto C 126 d_Model_inside_64 rfl ?_
        refine x_iinc C (nI (8 * j + (i + 1))) d_Model_inside_126 rfl (z_inc (8 * j + i)) rfl ?_
        refine x_goto C 9 d_Model_inside_129 rfl ?_
        exact ih (i + 1) _ _ _ _ (by omega) (by rw [← hr]; show _ = z_b (f_rl (z_V M) (z_V M (i_tok j)) x y n (i + 1) (f_rs (z_V M) x y o (z_V M (i_tok j) i)) = 1); rw [ev0, er, (show z_b (p_sh (z_V M (i_surf v)) x y) = 1 from z_b_t (z_b_n0.mp h_53)), z_bx1 o])
    · by_cases v10 : v = 10
      · subst v10
        refine x_iload C d_Model_inside_9 rfl ?_
        refine x_bipush C (nI 8) d_Model_inside_11 rfl ?_
        refine x_iload_n C d_Model_inside_13 (i := 1) rfl rfl ?_
        refine x_imul C d_Model_inside_14 ?_
        refine x_aload_n C d_Model_inside_15 (i := 0) rfl rfl ?_
        refine g_Model_tokens C lk_Model_32 d_Model_inside_16 ?_
        refine x_iload_n C d_Model_inside_19 (i := 1) rfl rfl ?_
        refine rn_ld_m_tokens C  hj d_Model_inside_20 ?_
        refine x_eqi hs ?_
        refine x_iadd C d_Model_inside_21 ?_
        refine x_eqi (z_ix 8 j sz) ?_
        refine x_icmp_ge C 132 d_Model_inside_22 rfl (fun h_22 => absurd h_22 (nI_ge (by omega) (by omega))) (fun h_22 => ?_)
        refine x_aload_n C d_Model_inside_25 (i := 0) rfl rfl ?_
        refine g_Model_region C lk_Model_29 d_Model_inside_26 ?_
        refine x_iload C d_Model_inside_29 rfl ?_
        refine rn_ld_m_region C  (show 8 * j + i < 48 by omega) d_Model_inside_31 ?_
        refine x_eqi ev ?_
        refine x_istore C d_Model_inside_32 rfl ?_
        refine x_iload C d_Model_inside_34 rfl ?_
        refine x_bipush C (8) d_Model_inside_36 rfl ?_
        refine x_icmp_ge C 67 d_Model_inside_38 rfl (fun h_38 => ?_) (fun h_38 => absurd (by decide) h_38)
        refine x_iload C d_Model_inside_67 rfl ?_
        refine x_bipush C (10) d_Model_inside_69 rfl ?_
        refine x_icmp_ne C 83 d_Model_inside_71 rfl (fun h_71 => absurd rfl h_71) (fun h_71 => ?_)
        refine x_iload C d_Model_inside_74 rfl ?_
        refine x_iconst C (1) d_Model_inside_76 rfl ?_
        refine x_ixor C d_Model_inside_77 ?_
        refine x_istore C d_Model_inside_78 rfl ?_
        refine x_goto C 126 d_Model_inside_80 rfl ?_
        refine x_iinc C (nI (8 * j + (i + 1))) d_Model_inside_126 rfl (z_inc (8 * j + i)) rfl ?_
        refine x_goto C 9 d_Model_inside_129 rfl ?_
        exact ih (i + 1) _ _ _ _ (by omega) (by rw [← hr]; show _ = z_b (f_rl (z_V M) (z_V M (i_tok j)) x y n (i + 1) (f_rs (z_V M) x y o (z_V M (i_tok j) i)) = 1); rw [ev0, show f_rs (z_V M) x y o (nI 10) = o ^^^ 1 from rfl])
      · by_cases v9 : v = 8
        · subst v9
          refine x_iload C d_Model_inside_9 rfl ?_
          refine x_bipush C (nI 8) d_Model_inside_11 rfl ?_
          refine x_iload_n C d_Model_inside_13 (i := 1) rfl rfl ?_
          refine x_imul C d_Model_inside_14 ?_
          refine x_aload_n C d_Model_inside_15 (i := 0) rfl rfl ?_
          refine g_Model_tokens C lk_Model_32 d_Model_inside_16 ?_
          refine x_iload_n C d_Model_inside_19 (i := 1) rfl rfl ?_
          refine rn_ld_m_tokens C  hj d_Model_inside_20 ?_
          refine x_eqi hs ?_
          refine x_iadd C d_Model_inside_21 ?_
          refine x_eqi (z_ix 8 j sz) ?_
          refine x_icmp_ge C 132 d_Model_inside_22 rfl (fun h_22 => absurd h_22 (nI_ge (by omega) (by omega))) (fun h_22 => ?_)
          refine x_aload_n C d_Model_inside_25 (i := 0) rfl rfl ?_
          refine g_Model_region C lk_Model_29 d_Model_inside_26 ?_
          refine x_iload C d_Model_inside_29 rfl ?_
          refine rn_ld_m_region C  (show 8 * j + i < 48 by omega) d_Model_inside_31 ?_
          refine x_eqi ev ?_
          refine x_istore C d_Model_inside_32 rfl ?_
          refine x_iload C d_Model_inside_34 rfl ?_
          refine x_bipush C (8) d_Model_inside_36 rfl ?_
          refine x_icmp_ge C 67 d_Model_inside_38 rfl (fun h_38 => ?_) (fun h_38 => absurd (by decide) h_38)
          refine x_iload C d_Model_inside_67 rfl ?_
          refine x_bipush C (10) d_Model_inside_69 rfl ?_
          refine x_icmp_ne C 83 d_Model_inside_71 rfl (fun h_71 => ?_) (fun h_71 => absurd h_71 (by decide))
          refine x_iload C d_Model_inside_83 rfl ?_
          refine x_iconst C (1) d_Model_inside_85 rfl ?_
          refine x_iand C d_Model_inside_86 ?_
          refine x_istore C d_Model_inside_87 rfl ?_
          refine x_iload C d_Model_inside_89 rfl ?_
          refine x_iconst C (1) d_Model_inside_91 rfl ?_
          refine x_ishr C d_Model_inside_92 ?_
          refine x_iconst C (1) d_Model_inside_93 rfl ?_
          refine x_iand C d_Model_inside_94 ?_
          refine x_istore C d_Model_inside_95 rfl ?_
          refine x_iload C d_Model_inside_97 rfl ?_
          refine x_iconst C (2) d_Model_inside_99 rfl ?_
          refine x_ishr C d_Model_inside_100 ?_
          refine x_iconst C (1) d_Model_inside_101 rfl ?_
          refine x_ishl C d_Model_inside_102 ?_
          refine x_iload C d_Model_inside_103 rfl ?_
          refine x_bipush C (8) d_Model_inside_105 rfl ?_
          refine x_icmp_ne C 118 d_Model_inside_107 rfl (fun h_107 => absurd rfl h_107) (fun h_107 => ?_)
          refine x_iload C d_Model_inside_110 rfl ?_
          refine x_iload C d_Model_inside_112 rfl ?_
          refine x_iand C d_Model_inside_114 ?_
          refine x_goto C 123 d_Model_inside_115 rfl ?_
          refine x_ior C d_Model_inside_123 ?_
          refine x_istore C d_Model_inside_124 rfl ?_
          refine x_iinc C (nI (8 * j + (i + 1))) d_Model_inside_126 rfl (z_inc (8 * j + i)) rfl ?_
          refine x_goto C 9 d_Model_inside_129 rfl ?_
          exact ih (i + 1) _ _ _ _ (by omega) (by rw [← hr]; show _ = z_b (f_rl (z_V M) (z_V M (i_tok j)) x y n (i + 1) (f_rs (z_V M) x y o (z_V M (i_tok j) i)) = 1); rw [ev0, show f_rs (z_V M) x y o (nI 8) = _ from (z_band o).symm])
        · have e9 : v = 9 := by omega
          subst e9
          refine x_iload C d_Model_inside_9 rfl ?_
          refine x_bipush C (nI 8) d_Model_inside_11 rfl ?_
          refine x_iload_n C d_Model_inside_13 (i := 1) rfl rfl ?_
          refine x_imul C d_Model_inside_14 ?_
          refine x_aload_n C d_Model_inside_15 (i := 0) rfl rfl ?_
          refine g_Model_tokens C lk_Model_32 d_Model_inside_16 ?_
          refine x_iload_n C d_Model_inside_19 (i := 1) rfl rfl ?_
          refine rn_ld_m_tokens C  hj d_Model_inside_20 ?_
          refine x_eqi hs ?_
          refine x_iadd C d_Model_inside_21 ?_
          refine x_eqi (z_ix 8 j sz) ?_
          refine x_icmp_ge C 132 d_Model_inside_22 rfl (fun h_22 => absurd h_22 (nI_ge (by omega) (by omega))) (fun h_22 => ?_)
          refine x_aload_n C d_Model_inside_25 (i := 0) rfl rfl ?_
          refine g_Model_region C lk_Model_29 d_Model_inside_26 ?_
          refine x_iload C d_Model_inside_29 rfl ?_
          refine rn_ld_m_region C  (show 8 * j + i < 48 by omega) d_Model_inside_31 ?_
          refine x_eqi ev ?_
          refine x_istore C d_Model_inside_32 rfl ?_
          refine x_iload C d_Model_inside_34 rfl ?_
          refine x_bipush C (8) d_Model_inside_36 rfl ?_
          refine x_icmp_ge C 67 d_Model_inside_38 rfl (fun h_38 => ?_) (fun h_38 => absurd (by decide) h_38)
          refine x_iload C d_Model_inside_67 rfl ?_
          refine x_bipush C (10) d_Model_inside_69 rfl ?_
          refine x_icmp_ne C 83 d_Model_inside_71 rfl (fun h_71 => ?_) (fun h_71 => absurd h_71 (by decide))
          refine x_iload C d_Model_inside_83 rfl ?_
          refine x_iconst C (1) d_Model_inside_85 rfl ?_
          refine x_iand C d_Model_inside_86 ?_
          refine x_istore C d_Model_inside_87 rfl ?_
          refine x_iload C d_Model_inside_89 rfl ?_
          refine x_iconst C (1) d_Model_inside_91 rfl ?_
          refine x_ishr C d_Model_inside_92 ?_
          refine x_iconst C (1) d_Model_inside_93 rfl ?_
          refine x_iand C d_Model_inside_94 ?_
          refine x_istore C d_Model_inside_95 rfl ?_
          refine x_iload C d_Model_inside_97 rfl ?_
          refine x_iconst C (2) d_Model_inside_99 rfl ?_
          refine x_ishr C d_Model_inside_100 ?_
          refine x_iconst C (1) d_Model_inside_101 rfl ?_
          refine x_ishl C d_Model_inside_102 ?_
          refine x_iload C d_Model_inside_103 rfl ?_
          refine x_bipush C (8) d_Model_inside_105 rfl ?_
          refine x_icmp_ne C 118 d_Model_inside_107 rfl (fun h_107 => ?_) (fun h_107 => absurd h_107 (by decide))
          refine x_iload C d_Model_inside_118 rfl ?_
          refine x_iload C d_Model_inside_120 rfl ?_
          refine x_ior C d_Model_inside_122 ?_
          refine x_ior C d_Model_inside_123 ?_
          refine x_istore C d_Model_inside_124 rfl ?_
          refine x_iinc C (nI (8 * j + (i + 1))) d_Model_inside_126 rfl (z_inc (8 * j + i)) rfl ?_
          refine x_goto C 9 d_Model_inside_129 rfl ?_
          exact ih (i + 1) _ _ _ _ (by omega) (by rw [← hr]; show _ = z_b (f_rl (z_V M) (z_V M (i_tok j)) x y n (i + 1) (f_rs (z_V M) x y o (z_V M (i_tok j) i)) = 1); rw [ev0, show f_rs (z_V M) x y o (nI 9) = _ from (z_bor o).symm])
theorem c_Model_inside {dA : Nat → ClassId} {ad : Nat → Nat} {M : z_M} {j : Nat} (hj : j < 6) {sz : Nat} (hsz : sz ≤ 8) (hs : M 61 j = nI sz) (ht : ∀ t, t < sz → ∃ v, v ≤ 10 ∧ z_V M (i_tok j) t = nI v) (x y : Int32) : z_CI y_Model_inside b_Model_inside 9 .boolean 1 dA ad [.ref (ad 53), .int (nI j), .int x, .int y] M (z_b (f_rl (z_V M) (z_V M (i_tok j)) x y sz 0 0 = 1)) (M) := by
  refine z_ofI [some (.ref (ad 53)), some (.int (nI j)), some (.int x), some (.int y), none, none, none, none, none] (by decide) (Nat.le_of_ble_eq_true rfl) rfl (fun k C E => ?_)
  have C : z_C dA ad k b_Model_inside "CellTransportModel" 1 9 := C
  refine x_iconst C (0) d_Model_inside_0 rfl ?_
  refine x_istore C d_Model_inside_1 rfl ?_
  refine x_bipush C (nI 8) d_Model_inside_3 rfl ?_
  refine x_iload_n C d_Model_inside_5 (i := 1) rfl rfl ?_
  refine x_imul C d_Model_inside_6 ?_
  refine x_eqi (pk_mul 8 j) ?_
  refine x_istore C d_Model_inside_7 rfl ?_
  exact lp_Model_inside hj hsz hs ht C E sz 0 0 none none none (by omega) rfl
