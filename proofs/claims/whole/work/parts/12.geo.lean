def f_def (M : z_M) (j : Nat) (de ab fi : Int32) : z_M := z_sv (z_sv (z_sv (f_cpy (z_sv M (i_cell j) 1 1) j) (i_cell j) 2 de) (i_cell j) 3 ab) (i_cell j) 4 fi
theorem c_Cell_define {dA : Nat → ClassId} {ad : Nat → Nat} {M : z_M} {j : Nat} (hj : j < 6) (de ab fi : Int32) : z_CV y_Cell_define b_Cell_define 5 2 dA ad [.ref (ad (i_cell j)), .ref (ad (i_reg 6)), .int de, .int ab, .int fi] M (f_def M j de ab fi) := by
  refine z_ofV [some (.ref (ad (i_cell j))), some (.ref (ad (i_reg 6))), some (.int de), some (.int ab), some (.int fi)] (by decide) (Nat.le_of_ble_eq_true rfl) rfl (fun k C E => ?_)
  have C : z_C dA ad k b_Cell_define "CellTransport$Cell" 2 5 := C
  refine x_aload_n C d_Cell_define_0 (i := 0) rfl rfl ?_
  refine x_iconst C (1) d_Cell_define_1 rfl ?_
  refine u_Cell_isDefined C hj rfl rfl lk_Cell_16 d_Cell_define_2 ?_
  refine x_aload_n C d_Cell_define_5 (i := 0) rfl rfl ?_
  refine g_Cell_region C hj lk_Cell_10 d_Cell_define_6 ?_
  refine x_aload_n C d_Cell_define_9 (i := 1) rfl rfl ?_
  refine x_callVNv C (c_Region_copyFrom hj) mt_Region_copyFrom (zl_Region (z_67 hj) ) (zc_Region (z_67 hj) _) rfl rfl rfl (Nat.le_of_ble_eq_true rfl) (Nat.le_of_ble_eq_true rfl) lk_Cell_20 d_Cell_define_10 ?_
  refine x_aload_n C d_Cell_define_13 (i := 0) rfl rfl ?_
  refine x_iload_n C d_Cell_define_14 (i := 2) rfl rfl ?_
  refine u_Cell_density C hj lk_Cell_24 d_Cell_define_15 ?_
  refine x_aload_n C d_Cell_define_18 (i := 0) rfl rfl ?_
  refine x_iload_n C d_Cell_define_19 (i := 3) rfl rfl ?_
  refine u_Cell_absorption C hj lk_Cell_28 d_Cell_define_20 ?_
  refine x_aload_n C d_Cell_define_23 (i := 0) rfl rfl ?_
  refine x_iload C d_Cell_define_24 rfl ?_
  refine u_Cell_fission C hj lk_Cell_31 d_Cell_define_26 ?_
  exact x_vret C E rfl d_Cell_define_29
abbrev p_in (M : z_M) (x y : Int32) (i : Nat) : Prop := f_rl M (M (i_tok i)) x y (M (i_reg i) 1).toNatClampNeg 0 0 = 1
def f_ca (M : z_M) (x y : Int32) : Nat → Nat → Int32
  | 0, _ => 6
  | n + 1, i => if ¬ M (i_cell i) 1 = 0 ∧ p_in M x y i then nI i else f_ca M x y n (i + 1)
theorem lp_Geometry_cellAt {dA : Nat → ClassId} {ad : Nat → Nat} {M : z_M} {k : z_K} (hR : ∀ r, r < 6 → z_okR M r) {x y r0 : Int32} (C : z_C dA ad k b_Geometry_cellAt "CellTransport$Geometry" 2 4) (E : z_RI dA ad k .int r0 M) :
    ∀ (n i : Nat), i + n = 6 → f_ca M x y n i = r0 → z_X dA ad k 2 [some (.ref (ad 1)), some (.int x), some (.int y), some (.int (nI i))] [] M := by
  intro n
  induction n with
  | zero =>
    intro i hi hr
    refine x_iload_n C d_Geometry_cellAt_2 (i := 3) rfl rfl ?_
    refine x_bipush C (6) d_Geometry_cellAt_3 rfl ?_
    refine x_icmp_ge C 49 d_Geometry_cellAt_5 rfl (fun h_5 => ?_) (fun h_5 => ?_)
    · refine x_bipush C (6) d_Geometry_cellAt_49 rfl ?_
      exact x_iret C E hr rfl d_Geometry_cellAt_51
    · exact absurd (show (6 : Int32) ≤ nI i from nI_le (a := 6) (by omega) (by omega)) h_5
  | succ n ih =>
    intro i hi hr
    have hi6 : i < 6 := by omega
    obtain ⟨sz, hsz, hs, ht⟩ := hR i hi6
    have ez : (M (i_reg i) 1).toNatClampNeg = sz := by rw [hs]; exact nI_clamp (by omega)
    refine x_iload_n C d_Geometry_cellAt_2 (i := 3) rfl rfl ?_
    refine x_bipush C (6) d_Geometry_cellAt_3 rfl ?_
    refine x_icmp_ge C 49 d_Geometry_cellAt_5 rfl (fun h_5 => ?_) (fun h_5 => ?_)
    · exact absurd (show nI 6 ≤ nI i from h_5) (nI_ge (by omega) (by decide))
    · refine x_aload_n C d_Geometry_cellAt_8 (i := 0) rfl rfl ?_
      refine g_Geometry_cells C lk_Geometry_19 d_Geometry_cellAt_9 ?_
      refine x_iload_n C d_Geometry_cellAt_12 (i := 3) rfl rfl ?_
      refine rn_al_cells C hi6 d_Geometry_cellAt_13 ?_
      refine g_Cell_isDefinedN C hi6 lk_Geometry_25 d_Geometry_cellAt_14 ?_
      refine x_if_eq C 43 d_Geometry_cellAt_17 rfl (fun h_17 => ?_) (fun h_17 => ?_)
      · refine x_iinc C (nI (i + 1)) d_Geometry_cellAt_43 rfl (z_inc i) rfl ?_
        refine x_goto C 2 d_Geometry_cellAt_46 rfl ?_
        exact ih (i + 1) (by omega) (by rw [← hr]; exact (if_neg (fun q => q.1 h_17)).symm)
      · refine x_aload_n C d_Geometry_cellAt_20 (i := 0) rfl rfl ?_
        refine g_Geometry_cells C lk_Geometry_19 d_Geometry_cellAt_21 ?_
        refine x_iload_n C d_Geometry_cellAt_24 (i := 3) rfl rfl ?_
        refine rn_al_cells C hi6 d_Geometry_cellAt_25 ?_
        refine g_Cell_regionN C hi6 lk_Geometry_29 d_Geometry_cellAt_26 ?_
        refine x_aload_n C d_Geometry_cellAt_29 (i := 0) rfl rfl ?_
        refine g_Geometry_surfaces C lk_Geometry_11 d_Geometry_cellAt_30 ?_
        refine x_iload_n C d_Geometry_cellAt_33 (i := 1) rfl rfl ?_
        refine x_iload_n C d_Geometry_cellAt_34 (i := 2) rfl rfl ?_
        refine x_callVNi C (c_Region_holds hi6 hsz hs ht _ _) mt_Region_holds (zl_Region (z_67 hi6) ) (zc_Region (z_67 hi6) _) rfl rfl rfl (Nat.le_of_ble_eq_true rfl) (Nat.le_of_ble_eq_true rfl) lk_Geometry_33 d_Geometry_cellAt_35 ?_
        refine x_if_eq C 43 d_Geometry_cellAt_38 rfl (fun h_38 => ?_) (fun h_38 => ?_)
        · refine x_iinc C (nI (i + 1)) d_Geometry_cellAt_43 rfl (z_inc i) rfl ?_
          refine x_goto C 2 d_Geometry_cellAt_46 rfl ?_
          exact ih (i + 1) (by omega) (by rw [← hr]; exact (if_neg (fun q => z_b_0.mp h_38 (by have q2 : f_rl M (M (i_tok i)) x y (M (i_reg i) 1).toNatClampNeg 0 0 = 1 := q.2; rw [ez] at q2; exact q2))).symm)
        · refine x_iload_n C d_Geometry_cellAt_41 (i := 3) rfl rfl ?_
          exact x_iret C E (by rw [← hr]; exact (if_pos ⟨h_17, by have h9 := z_b_n0.mp h_38; show f_rl M (M (i_tok i)) x y (M (i_reg i) 1).toNatClampNeg 0 0 = 1; rw [ez]; exact h9⟩).symm) rfl d_Geometry_cellAt_42
theorem c_Geometry_cellAt {dA : Nat → ClassId} {ad : Nat → Nat} {M : z_M} (hR : ∀ r, r < 6 → z_okR M r) (x y : Int32) : z_CI y_Geometry_cellAt b_Geometry_cellAt 4 .int 2 dA ad [.ref (ad 1), .int x, .int y] M (f_ca M x y 6 0) (M) := by
  refine z_ofI [some (.ref (ad 1)), some (.int x), some (.int y), none] (by decide) (Nat.le_of_ble_eq_true rfl) rfl (fun k C E => ?_)
  have C : z_C dA ad k b_Geometry_cellAt "CellTransport$Geometry" 2 4 := C
  refine x_iconst C (0) d_Geometry_cellAt_0 rfl ?_
  refine x_istore_n C d_Geometry_cellAt_1 (i := 3) rfl rfl ?_
  exact lp_Geometry_cellAt hR C E 6 0 (by omega) rfl
def f_dc (M : z_M) : Nat → Nat → Int32 → Int32
  | 0, _, a => a
  | n + 1, i, a => f_dc M n (i + 1) (a + z_b (¬ M (i_cell i) 1 = 0))
theorem lp_Geometry_definedCells {dA : Nat → ClassId} {ad : Nat → Nat} {M : z_M} {k : z_K} {r0 : Int32} (C : z_C dA ad k b_Geometry_definedCells "CellTransport$Geometry" 1 3) (E : z_RI dA ad k .int r0 M) :
    ∀ (n i : Nat) (a : Int32), i + n = 6 → f_dc M n i a = r0 → z_X dA ad k 4 [some (.ref (ad 1)), some (.int a), some (.int (nI i))] [] M := by
  intro n
  induction n with
  | zero =>
    intro i a hi hr
    refine x_iload_n C d_Geometry_definedCells_4 (i := 2) rfl rfl ?_
    refine x_bipush C (6) d_Geometry_definedCells_5 rfl ?_
    refine x_icmp_ge C 31 d_Geometry_definedCells_7 rfl (fun h_7 => ?_) (fun h_7 => ?_)
    · refine x_iload_n C d_Geometry_definedCells_31 (i := 1) rfl rfl ?_
      exact x_iret C E hr rfl d_Geometry_definedCells_32
    · exact absurd (show (6 : Int32) ≤ nI i from nI_le (a := 6) (by omega) (by omega)) h_7
  | succ n ih =>
    intro i a hi hr
    have hi6 : i < 6 := by omega
    refine x_iload_n C d_Geometry_definedCells_4 (i := 2) rfl rfl ?_
    refine x_bipush C (6) d_Geometry_definedCells_5 rfl ?_
    refine x_icmp_ge C 31 d_Geometry_definedCells_7 rfl (fun h_7 => ?_) (fun h_7 => ?_)
    · exact absurd (show nI 6 ≤ nI i from h_7) (nI_ge (by omega) (by decide))
    · refine x_iload_n C d_Geometry_definedCells_10 (i := 1) rfl rfl ?_
      refine x_aload_n C d_Geometry_definedCells_11 (i := 0) rfl rfl ?_
      refine g_Geometry_cells C lk_Geometry_19 d_Geometry_definedCells_12 ?_
      refine x_iload_n C d_Geometry_definedCells_15 (i := 2) rfl rfl ?_
      refine rn_al_cells C hi6 d_Geometry_definedCells_16 ?_
      refine g_Cell_isDefinedN C hi6 lk_Geometry_25 d_Geometry_definedCells_17 ?_
      refine x_callSNi C (c_CellTransport_oneIf _) mt_CellTransport_oneIf rfl rfl (Nat.le_of_ble_eq_true rfl) (Nat.le_of_ble_eq_true rfl) lk_Geometry_39 d_Geometry_definedCells_20 ?_
      refine x_iadd C d_Geometry_definedCells_23 ?_
      refine x_istore_n C d_Geometry_definedCells_24 (i := 1) rfl rfl ?_
      refine x_iinc C (nI (i + 1)) d_Geometry_definedCells_25 rfl (z_inc i) rfl ?_
      refine x_goto C 4 d_Geometry_definedCells_28 rfl ?_
      exact ih (i + 1) _ (by omega) hr
theorem c_Geometry_definedCells {dA : Nat → ClassId} {ad : Nat → Nat} {M : z_M}  : z_CI y_Geometry_definedCells b_Geometry_definedCells 3 .int 1 dA ad [.ref (ad 1)] M (f_dc M 6 0 0) (M) := by
  refine z_ofI [some (.ref (ad 1)), none, none] (by decide) (Nat.le_of_ble_eq_true rfl) rfl (fun k C E => ?_)
  have C : z_C dA ad k b_Geometry_definedCells "CellTransport$Geometry" 1 3 := C
  refine x_iconst C (0) d_Geometry_definedCells_0 rfl ?_
  refine x_istore_n C d_Geometry_definedCells_1 (i := 1) rfl rfl ?_
  refine x_iconst C (0) d_Geometry_definedCells_2 rfl ?_
  refine x_istore_n C d_Geometry_definedCells_3 (i := 2) rfl rfl ?_
  exact lp_Geometry_definedCells C E 6 0 0 (by omega) rfl
def f_nx (s : Int32) : Int32 := (s * 1103515245 + 12345) &&& 2147483647
theorem c_Generator_start {dA : Nat → ClassId} {ad : Nat → Nat} {M : z_M} (v : Int32) : z_CV y_Generator_start b_Generator_start 2 0 dA ad [.ref (ad 32), .int v] M (z_sv M 32 0 (v &&& 2147483647)) := by
  refine z_ofV [some (.ref (ad 32)), some (.int v)] (by decide) (Nat.le_of_ble_eq_true rfl) rfl (fun k C E => ?_)
  have C : z_C dA ad k b_Generator_start "CellTransport$Generator" 0 2 := C
  refine x_aload_n C d_Generator_start_0 (i := 0) rfl rfl ?_
  refine x_iload_n C d_Generator_start_1 (i := 1) rfl rfl ?_
  refine x_ldc C (2147483647) d_Generator_start_2 lk_Generator_15 ?_
  refine x_iand C d_Generator_start_4 ?_
  refine u_Generator_state C lk_Generator_9 d_Generator_start_5 ?_
  exact x_vret C E rfl d_Generator_start_8
theorem c_Generator_draw {dA : Nat → ClassId} {ad : Nat → Nat} {M : z_M}  : z_CI y_Generator_draw b_Generator_draw 1 .int 0 dA ad [.ref (ad 32)] M (f_nx (M 32 0) / 256) (z_sv M 32 0 (f_nx (M 32 0))) := by
  refine z_ofI [some (.ref (ad 32))] (by decide) (Nat.le_of_ble_eq_true rfl) rfl (fun k C E => ?_)
  have C : z_C dA ad k b_Generator_draw "CellTransport$Generator" 0 1 := C
  refine x_aload_n C d_Generator_draw_0 (i := 0) rfl rfl ?_
  refine x_aload_n C d_Generator_draw_1 (i := 0) rfl rfl ?_
  refine g_Generator_state C lk_Generator_9 d_Generator_draw_2 ?_
  refine x_ldc C (1103515245) d_Generator_draw_5 lk_Generator_16 ?_
  refine x_imul C d_Generator_draw_7 ?_
  refine x_sipush C (12345) d_Generator_draw_8 rfl ?_
  refine x_iadd C d_Generator_draw_11 ?_
  refine x_ldc C (2147483647) d_Generator_draw_12 lk_Generator_15 ?_
  refine x_iand C d_Generator_draw_14 ?_
  refine u_Generator_state C lk_Generator_9 d_Generator_draw_15 ?_
  refine x_aload_n C d_Generator_draw_18 (i := 0) rfl rfl ?_
  refine g_Generator_state C lk_Generator_9 d_Generator_draw_19 ?_
  refine x_eqi (z_sv_self _ _ _ _) ?_
  refine x_sipush C (256) d_Generator_draw_22 rfl ?_
  refine x_idiv C d_Generator_draw_25 (by decide) ?_
  exact x_iret C E rfl rfl d_Generator_draw_26
def f_lp (a : Int32) : Nat → Nat → Int32 → Int32 → Int32 → Int32
  | 0, _, s, _, _ => s
  | n + 1, b, s, f, h => f_lp a n (b + 1) (if (a >>> (nI b &&& 31)) &&& 1 = 1 then (s * f + h) &&& 2147483647 else s) (f * f) (h * f + h)
theorem lp_Generator_leap {dA : Nat → ClassId} {ad : Nat → Nat} {M M1 : z_M} {k : z_K} {a : Int32} (C : z_C dA ad k b_Generator_leap "CellTransport$Generator" 0 5) (E : z_RV dA ad k M1) :
    ∀ (n b : Nat) (s f h : Int32), b + n = 17 → z_sv M 32 0 (f_lp a n b s f h) = M1 → z_X dA ad k 10 [some (.ref (ad 32)), some (.int a), some (.int f), some (.int h), some (.int (nI b))] [] (z_sv M 32 0 s) := by
  intro n
  induction n with
  | zero =>
    intro b s f h hi hr
    refine x_iload C d_Generator_leap_10 rfl ?_
    refine x_bipush C (17) d_Generator_leap_12 rfl ?_
    refine x_icmp_ge C 58 d_Generator_leap_14 rfl (fun h_14 => ?_) (fun h_14 => ?_)
    · exact x_vret C E hr d_Generator_leap_58
    · exact absurd (show (17 : Int32) ≤ nI b from nI_le (a := 17) (by omega) (by omega)) h_14
  | succ n ih =>
    intro b s f h hi hr
    refine x_iload C d_Generator_leap_10 rfl ?_
    refine x_bipush C (17) d_Generator_leap_12 rfl ?_
    refine x_icmp_ge C 58 d_Generator_leap_14 rfl (fun h_14 => ?_) (fun h_14 => ?_)
    · exact absurd (show nI 17 ≤ nI b from h_14) (nI_ge (by omega) (by decide))
    · refine x_iload_n C d_Generator_leap_17 (i := 1) rfl rfl ?_
      refine x_iload C d_Generator_leap_18 rfl ?_
      refine x_ishr C d_Generator_leap_20 ?_
      refine x_iconst C (1) d_Generator_leap_21 rfl ?_
      refine x_iand C d_Generator_leap_22 ?_
      refine x_iconst C (1) d_Generator_leap_23 rfl ?_
      refine x_icmp_ne C 42 d_Generator_leap_24 rfl (fun h_24 => ?_) (fun h_24 => ?_)
      · refine x_iload_n C d_Generator_leap_42 (i := 3) rfl rfl ?_
        refine x_iload_n C d_Generator_leap_43 (i := 2) rfl rfl ?_
        refine x_imul C d_Generator_leap_44 ?_
        refine x_iload_n C d_Generator_leap_45 (i := 3) rfl rfl ?_
        refine x_iadd C d_Generator_leap_46 ?_
        refine x_istore_n C d_Generator_leap_47 (i := 3) rfl rfl ?_
        refine x_iload_n C d_Generator_leap_48 (i := 2) rfl rfl ?_
        refine x_iload_n C d_Generator_leap_49 (i := 2) rfl rfl ?_
        refine x_imul C d_Generator_leap_50 ?_
        refine x_istore_n C d_Generator_leap_51 (i := 2) rfl rfl ?_
        refine x_iinc C (nI (b + 1)) d_Generator_leap_52 rfl (z_inc b) rfl ?_
        refine x_goto C 10 d_Generator_leap_55 rfl ?_
        exact ih (b + 1) _ _ _ (by omega) (by rw [← hr]; show _ = z_sv M 32 0 (f_lp a n (b + 1) (if (a >>> (nI b &&& 31)) &&& 1 = 1 then (s * f + h) &&& 2147483647 else s) (f * f) (h * f + h)); rw [if_neg h_24])
      · refine x_aload_n C d_Generator_leap_27 (i := 0) rfl rfl ?_
        refine x_aload_n C d_Generator_leap_28 (i := 0) rfl rfl ?_
        refine g_Generator_state C lk_Generator_9 d_Generator_leap_29 ?_
        refine x_eqi (z_sv_self _ _ _ _) ?_
        refine x_iload_n C d_Generator_leap_32 (i := 2) rfl rfl ?_
        refine x_imul C d_Generator_leap_33 ?_
        refine x_iload_n C d_Generator_leap_34 (i := 3) rfl rfl ?_
        refine x_iadd C d_Generator_leap_35 ?_
        refine x_ldc C (2147483647) d_Generator_leap_36 lk_Generator_15 ?_
        refine x_iand C d_Generator_leap_38 ?_
        refine u_Generator_state C lk_Generator_9 d_Generator_leap_39 ?_
        refine x_eqM (z_sv_sv _ _ _ _ _) ?_
        refine x_iload_n C d_Generator_leap_42 (i := 3) rfl rfl ?_
        refine x_iload_n C d_Generator_leap_43 (i := 2) rfl rfl ?_
        refine x_imul C d_Generator_leap_44 ?_
        refine x_iload_n C d_Generator_leap_45 (i := 3) rfl rfl ?_
        refine x_iadd C d_Generator_leap_46 ?_
        refine x_istore_n C d_Generator_leap_47 (i := 3) rfl rfl ?_
        refine x_iload_n C d_Generator_leap_48 (i := 2) rfl rfl ?_
        refine x_iload_n C d_Generator_leap_49 (i := 2) rfl rfl ?_
        refine x_imul C d_Generator_leap_50 ?_
        refine x_istore_n C d_Generator_leap_51 (i := 2) rfl rfl ?_
        refine x_iinc C (nI (b + 1)) d_Generator_leap_52 rfl (z_inc b) rfl ?_
        refine x_goto C 10 d_Generator_leap_55 rfl ?_
        exact ih (b + 1) _ _ _ (by omega) (by rw [← hr]; show _ = z_sv M 32 0 (f_lp a n (b + 1) (if (a >>> (nI b &&& 31)) &&& 1 = 1 then (s * f + h) &&& 2147483647 else s) (f * f) (h * f + h)); rw [if_pos h_24])
theorem c_Generator_leap {dA : Nat → ClassId} {ad : Nat → Nat} {M : z_M} (a : Int32) : z_CV y_Generator_leap b_Generator_leap 5 0 dA ad [.ref (ad 32), .int a] M (z_sv M 32 0 (f_lp a 17 0 (M 32 0) 1103515245 12345)) := by
  refine z_ofV [some (.ref (ad 32)), some (.int a), none, none, none] (by decide) (Nat.le_of_ble_eq_true rfl) rfl (fun k C E => ?_)
  have C : z_C dA ad k b_Generator_leap "CellTransport$Generator" 0 5 := C
  refine x_ldc C (1103515245) d_Generator_leap_0 lk_Generator_16 ?_
  refine x_istore_n C d_Generator_leap_2 (i := 2) rfl rfl ?_
  refine x_sipush C (12345) d_Generator_leap_3 rfl ?_
  refine x_istore_n C d_Generator_leap_6 (i := 3) rfl rfl ?_
  refine x_iconst C (0) d_Generator_leap_7 rfl ?_
  refine x_istore C d_Generator_leap_8 rfl ?_
  refine x_eqM (z_sv_id M 32 0).symm ?_
  exact lp_Generator_leap C E 17 0 _ _ _ (by omega) rfl
