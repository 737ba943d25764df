theorem z_in {j n : Nat} (h : j ≤ n) (hn : n < 2 ^ 31) : p_btw (nI j) 0 (nI n) := ⟨nI_pos' (by omega), nI_le h hn⟩
theorem c_CellTransport_surfaceN {dA : Nat → ClassId} {ad : Nat → Nat} {M : z_M} {nm kd a b c : Int32} (hn : ¬ (p_btw nm 0 7 ∧ p_isS kd a b c)) : z_CI y_CellTransport_surface b_CellTransport_surface 8 .int 3 dA ad [.ref (ad 0), .int nm, .int kd, .int a, .int b, .int c] M (-1) (M) := by
  refine z_ofI [some (.ref (ad 0)), some (.int nm), some (.int kd), some (.int a), some (.int b), some (.int c), none, none] (by decide) (Nat.le_of_ble_eq_true rfl) rfl (fun k C E => ?_)
  have C : z_C dA ad k b_CellTransport_surface "CellTransport" 3 8 := C
  refine x_iload_n C d_CellTransport_surface_0 (i := 1) rfl rfl ?_
  refine x_iconst C (0) d_CellTransport_surface_1 rfl ?_
  refine x_bipush C (7) d_CellTransport_surface_2 rfl ?_
  refine x_callSi C (c_CellTransport_isBetween _ _ _) mt_CellTransport_isBetween rfl rfl (Nat.le_of_ble_eq_true rfl) (Nat.le_of_ble_eq_true rfl) lk_CellTransport_51 d_CellTransport_surface_4 ?_
  refine x_if_eq C 22 d_CellTransport_surface_7 rfl (fun h_7 => ?_) (fun h_7 => ?_)
  · refine x_iconst C (-1) d_CellTransport_surface_22 rfl ?_
    exact x_iret C E rfl rfl d_CellTransport_surface_23
  · refine x_iload_n C d_CellTransport_surface_10 (i := 2) rfl rfl ?_
    refine x_iload_n C d_CellTransport_surface_11 (i := 3) rfl rfl ?_
    refine x_iload C d_CellTransport_surface_12 rfl ?_
    refine x_iload C d_CellTransport_surface_14 rfl ?_
    refine x_callSi C (c_CellTransport_isSurface _ _ _ _) mt_CellTransport_isSurface rfl rfl (Nat.le_of_ble_eq_true rfl) (Nat.le_of_ble_eq_true rfl) lk_CellTransport_55 d_CellTransport_surface_16 ?_
    refine x_if_ne C 24 d_CellTransport_surface_19 rfl (fun h_19 => ?_) (fun h_19 => ?_)
    · exact absurd ⟨z_b_n0.mp h_7, z_b_n0.mp h_19⟩ hn
    · refine x_iconst C (-1) d_CellTransport_surface_22 rfl ?_
      exact x_iret C E rfl rfl d_CellTransport_surface_23
theorem c_CellTransport_surfaceY {dA : Nat → ClassId} {ad : Nat → Nat} {M : z_M} {j : Nat} (hj : j < 8) {kd a b c : Int32} (hp : p_isS kd a b c) : z_CI y_CellTransport_surface b_CellTransport_surface 8 .int 3 dA ad [.ref (ad 0), .int (nI j), .int kd, .int a, .int b, .int c] M (z_b (¬ M (i_surf j) 0 = 0)) (f_bec M j kd a b c) := by
  refine z_ofI [some (.ref (ad 0)), some (.int (nI j)), some (.int kd), some (.int a), some (.int b), some (.int c), none, none] (by decide) (Nat.le_of_ble_eq_true rfl) rfl (fun k C E => ?_)
  have C : z_C dA ad k b_CellTransport_surface "CellTransport" 3 8 := C
  have hb : p_btw (nI j) 0 7 := z_in (n := 7) (by omega) (by decide)
  refine x_iload_n C d_CellTransport_surface_0 (i := 1) rfl rfl ?_
  refine x_iconst C (0) d_CellTransport_surface_1 rfl ?_
  refine x_bipush C (7) d_CellTransport_surface_2 rfl ?_
  refine x_callSi C (c_CellTransport_isBetween _ _ _) mt_CellTransport_isBetween rfl rfl (Nat.le_of_ble_eq_true rfl) (Nat.le_of_ble_eq_true rfl) lk_CellTransport_51 d_CellTransport_surface_4 ?_
  refine x_if_eq C 22 d_CellTransport_surface_7 rfl (fun h_7 => ?_) (fun h_7 => ?_)
  · first | exact absurd hb (z_b_0.mp h_7) | exact absurd hp (z_b_0.mp h_19)
  · refine x_iload_n C d_CellTransport_surface_10 (i := 2) rfl rfl ?_
    refine x_iload_n C d_CellTransport_surface_11 (i := 3) rfl rfl ?_
    refine x_iload C d_CellTransport_surface_12 rfl ?_
    refine x_iload C d_CellTransport_surface_14 rfl ?_
    refine x_callSi C (c_CellTransport_isSurface _ _ _ _) mt_CellTransport_isSurface rfl rfl (Nat.le_of_ble_eq_true rfl) (Nat.le_of_ble_eq_true rfl) lk_CellTransport_55 d_CellTransport_surface_16 ?_
    refine x_if_ne C 24 d_CellTransport_surface_19 rfl (fun h_19 => ?_) (fun h_19 => ?_)
    · refine x_aload_n C d_CellTransport_surface_24 (i := 0) rfl rfl ?_
      refine g_CellTransport_geometry C lk_CellTransport_10 d_CellTransport_surface_25 ?_
      refine g_Geometry_surfacesN C lk_CellTransport_59 d_CellTransport_surface_28 ?_
      refine x_iload_n C d_CellTransport_surface_31 (i := 1) rfl rfl ?_
      refine rn_al_surfaces C hj d_CellTransport_surface_32 ?_
      refine x_astore C d_CellTransport_surface_33 rfl ?_
      refine x_aload C d_CellTransport_surface_35 rfl ?_
      refine g_Surface_isSetN C hj lk_CellTransport_63 d_CellTransport_surface_37 ?_
      refine x_callSi C (c_CellTransport_oneIf _) mt_CellTransport_oneIf rfl rfl (Nat.le_of_ble_eq_true rfl) (Nat.le_of_ble_eq_true rfl) lk_CellTransport_69 d_CellTransport_surface_40 ?_
      refine x_istore C d_CellTransport_surface_43 rfl ?_
      refine x_aload C d_CellTransport_surface_45 rfl ?_
      refine x_iload_n C d_CellTransport_surface_47 (i := 2) rfl rfl ?_
      refine x_iload_n C d_CellTransport_surface_48 (i := 3) rfl rfl ?_
      refine x_iload C d_CellTransport_surface_49 rfl ?_
      refine x_iload C d_CellTransport_surface_51 rfl ?_
      refine x_callVNv C (c_Surface_become hj _ _ _ _) mt_Surface_become (zl_Surface hj ) (zc_Surface hj _) rfl rfl rfl (Nat.le_of_ble_eq_true rfl) (Nat.le_of_ble_eq_true rfl) lk_CellTransport_73 d_CellTransport_surface_53 ?_
      refine x_iload C d_CellTransport_surface_56 rfl ?_
      exact x_iret C E rfl rfl d_CellTransport_surface_58
    · first | exact absurd hb (z_b_0.mp h_7) | exact absurd hp (z_b_0.mp h_19)
theorem c_CellTransport_tokenN {dA : Nat → ClassId} {ad : Nat → Nat} {M : z_M} {v : Int32} {sz : Nat} (hs : M (i_reg 6) 1 = nI sz) (hz : sz ≤ 8) (hn : ¬ (p_btw v 0 10 ∧ sz < 8)) : z_CI y_CellTransport_token b_CellTransport_token 2 .int 1 dA ad [.ref (ad 0), .int v] M (-1) (M) := by
  refine z_ofI [some (.ref (ad 0)), some (.int v)] (by decide) (Nat.le_of_ble_eq_true rfl) rfl (fun k C E => ?_)
  have C : z_C dA ad k b_CellTransport_token "CellTransport" 1 2 := C
  refine x_iload_n C d_CellTransport_token_0 (i := 1) rfl rfl ?_
  refine x_iconst C (0) d_CellTransport_token_1 rfl ?_
  refine x_bipush C (10) d_CellTransport_token_2 rfl ?_
  refine x_callSi C (c_CellTransport_isBetween _ _ _) mt_CellTransport_isBetween rfl rfl (Nat.le_of_ble_eq_true rfl) (Nat.le_of_ble_eq_true rfl) lk_CellTransport_51 d_CellTransport_token_4 ?_
  refine x_if_eq C 22 d_CellTransport_token_7 rfl (fun h_7 => ?_) (fun h_7 => ?_)
  · refine x_iconst C (-1) d_CellTransport_token_22 rfl ?_
    exact x_iret C E rfl rfl d_CellTransport_token_23
  · refine x_aload_n C d_CellTransport_token_10 (i := 0) rfl rfl ?_
    refine g_CellTransport_buffer C lk_CellTransport_19 d_CellTransport_token_11 ?_
    refine g_Region_sizeN C z_6 lk_CellTransport_77 d_CellTransport_token_14 ?_
    refine x_eqi hs ?_
    refine x_bipush C (8) d_CellTransport_token_17 rfl ?_
    refine x_icmp_lt C 24 d_CellTransport_token_19 rfl (fun h_19 => ?_) (fun h_19 => ?_)
    · exact absurd ⟨z_b_n0.mp h_7, (nI_ltI (b := 8) (by omega) (by decide)).mp h_19⟩ hn
    · refine x_iconst C (-1) d_CellTransport_token_22 rfl ?_
      exact x_iret C E rfl rfl d_CellTransport_token_23
theorem c_CellTransport_tokenY {dA : Nat → ClassId} {ad : Nat → Nat} {M : z_M} {v : Int32} {sz : Nat} (hs : M (i_reg 6) 1 = nI sz) (hv : p_btw v 0 10) (hz : sz < 8) : z_CI y_CellTransport_token b_CellTransport_token 2 .int 1 dA ad [.ref (ad 0), .int v] M (nI (sz + 1)) (z_sv (z_sv M (i_tok 6) sz v) (i_reg 6) 1 (nI (sz + 1))) := by
  refine z_ofI [some (.ref (ad 0)), some (.int v)] (by decide) (Nat.le_of_ble_eq_true rfl) rfl (fun k C E => ?_)
  have C : z_C dA ad k b_CellTransport_token "CellTransport" 1 2 := C
  refine x_iload_n C d_CellTransport_token_0 (i := 1) rfl rfl ?_
  refine x_iconst C (0) d_CellTransport_token_1 rfl ?_
  refine x_bipush C (10) d_CellTransport_token_2 rfl ?_
  refine x_callSi C (c_CellTransport_isBetween _ _ _) mt_CellTransport_isBetween rfl rfl (Nat.le_of_ble_eq_true rfl) (Nat.le_of_ble_eq_true rfl) lk_CellTransport_51 d_CellTransport_token_4 ?_
  refine x_if_eq C 22 d_CellTransport_token_7 rfl (fun h_7 => ?_) (fun h_7 => ?_)
  · first | exact absurd hv (z_b_0.mp h_7) | exact absurd (show nI sz < 8 from nI_lt (b := 8) hz (by decide)) h_19
  · refine x_aload_n C d_CellTransport_token_10 (i := 0) rfl rfl ?_
    refine g_CellTransport_buffer C lk_CellTransport_19 d_CellTransport_token_11 ?_
    refine g_Region_sizeN C z_6 lk_CellTransport_77 d_CellTransport_token_14 ?_
    refine x_eqi hs ?_
    refine x_bipush C (8) d_CellTransport_token_17 rfl ?_
    refine x_icmp_lt C 24 d_CellTransport_token_19 rfl (fun h_19 => ?_) (fun h_19 => ?_)
    · refine x_aload_n C d_CellTransport_token_24 (i := 0) rfl rfl ?_
      refine g_CellTransport_buffer C lk_CellTransport_19 d_CellTransport_token_25 ?_
      refine x_iload_n C d_CellTransport_token_28 (i := 1) rfl rfl ?_
      refine x_callVNv C (c_Region_add z_6 v hz hs) mt_Region_add (zl_Region z_6 ) (zc_Region z_6 _) rfl rfl rfl (Nat.le_of_ble_eq_true rfl) (Nat.le_of_ble_eq_true rfl) lk_CellTransport_81 d_CellTransport_token_29 ?_
      refine x_aload_n C d_CellTransport_token_32 (i := 0) rfl rfl ?_
      refine g_CellTransport_buffer C lk_CellTransport_19 d_CellTransport_token_33 ?_
      refine g_Region_sizeN C z_6 lk_CellTransport_77 d_CellTransport_token_36 ?_
      refine x_eqi (z_sv_self _ _ _ _) ?_
      exact x_iret C E rfl rfl d_CellTransport_token_39
    · first | exact absurd hv (z_b_0.mp h_7) | exact absurd (show nI sz < 8 from nI_lt (b := 8) hz (by decide)) h_19
theorem c_CellTransport_cellN {dA : Nat → ClassId} {ad : Nat → Nat} {M : z_M} {nm de ab fi : Int32} (hn : ¬ (p_btw nm 0 5 ∧ p_btw de 0 1000 ∧ p_shr ab fi)) : z_CI y_CellTransport_cell b_CellTransport_cell 7 .int 3 dA ad [.ref (ad 0), .int nm, .int de, .int ab, .int fi] M (-1) (M) := by
  refine z_ofI [some (.ref (ad 0)), some (.int nm), some (.int de), some (.int ab), some (.int fi), none, none] (by decide) (Nat.le_of_ble_eq_true rfl) rfl (fun k C E => ?_)
  have C : z_C dA ad k b_CellTransport_cell "CellTransport" 3 7 := C
  refine x_iload_n C d_CellTransport_cell_0 (i := 1) rfl rfl ?_
  refine x_iconst C (0) d_CellTransport_cell_1 rfl ?_
  refine x_iconst C (5) d_CellTransport_cell_2 rfl ?_
  refine x_callSi C (c_CellTransport_isBetween _ _ _) mt_CellTransport_isBetween rfl rfl (Nat.le_of_ble_eq_true rfl) (Nat.le_of_ble_eq_true rfl) lk_CellTransport_51 d_CellTransport_cell_3 ?_
  refine x_if_eq C 29 d_CellTransport_cell_6 rfl (fun h_6 => ?_) (fun h_6 => ?_)
  · refine x_iconst C (-1) d_CellTransport_cell_29 rfl ?_
    exact x_iret C E rfl rfl d_CellTransport_cell_30
  · refine x_iload_n C d_CellTransport_cell_9 (i := 2) rfl rfl ?_
    refine x_iconst C (0) d_CellTransport_cell_10 rfl ?_
    refine x_sipush C (1000) d_CellTransport_cell_11 rfl ?_
    refine x_callSi C (c_CellTransport_isBetween _ _ _) mt_CellTransport_isBetween rfl rfl (Nat.le_of_ble_eq_true rfl) (Nat.le_of_ble_eq_true rfl) lk_CellTransport_51 d_CellTransport_cell_14 ?_
    refine x_if_eq C 29 d_CellTransport_cell_17 rfl (fun h_17 => ?_) (fun h_17 => ?_)
    · refine x_iconst C (-1) d_CellTransport_cell_29 rfl ?_
      exact x_iret C E rfl rfl d_CellTransport_cell_30
    · refine x_iload_n C d_CellTransport_cell_20 (i := 3) rfl rfl ?_
      refine x_iload C d_CellTransport_cell_21 rfl ?_
      refine x_callSi C (c_CellTransport_areShares _ _) mt_CellTransport_areShares rfl rfl (Nat.le_of_ble_eq_true rfl) (Nat.le_of_ble_eq_true rfl) lk_CellTransport_85 d_CellTransport_cell_23 ?_
      refine x_if_ne C 31 d_CellTransport_cell_26 rfl (fun h_26 => ?_) (fun h_26 => ?_)
      · exact absurd ⟨z_b_n0.mp h_6, z_b_n0.mp h_17, z_b_n0.mp h_26⟩ hn
      · refine x_iconst C (-1) d_CellTransport_cell_29 rfl ?_
        exact x_iret C E rfl rfl d_CellTransport_cell_30
theorem c_CellTransport_cellW {dA : Nat → ClassId} {ad : Nat → Nat} {M : z_M} {nm de ab fi : Int32} {sz : Nat} (hs : M (i_reg 6) 1 = nI sz) (hz : sz ≤ 8) (hb : p_btw nm 0 5 ∧ p_btw de 0 1000 ∧ p_shr ab fi) (hw : f_wh (M (i_tok 6)) sz 0 0 = 0) : z_CI y_CellTransport_cell b_CellTransport_cell 7 .int 3 dA ad [.ref (ad 0), .int nm, .int de, .int ab, .int fi] M (-1) (z_sv M (i_reg 6) 1 0) := by
  refine z_ofI [some (.ref (ad 0)), some (.int nm), some (.int de), some (.int ab), some (.int fi), none, none] (by decide) (Nat.le_of_ble_eq_true rfl) rfl (fun k C E => ?_)
  have C : z_C dA ad k b_CellTransport_cell "CellTransport" 3 7 := C
  refine x_iload_n C d_CellTransport_cell_0 (i := 1) rfl rfl ?_
  refine x_iconst C (0) d_CellTransport_cell_1 rfl ?_
  refine x_iconst C (5) d_CellTransport_cell_2 rfl ?_
  refine x_callSi C (c_CellTransport_isBetween _ _ _) mt_CellTransport_isBetween rfl rfl (Nat.le_of_ble_eq_true rfl) (Nat.le_of_ble_eq_true rfl) lk_CellTransport_51 d_CellTransport_cell_3 ?_
  refine x_if_eq C 29 d_CellTransport_cell_6 rfl (fun h_6 => ?_) (fun h_6 => ?_)
  · first | exact absurd hb.1 (z_b_0.mp h_6) | exact absurd hb.2.1 (z_b_0.mp h_17) | exact absurd hb.2.2 (z_b_0.mp h_26)
  · refine x_iload_n C d_CellTransport_cell_9 (i := 2) rfl rfl ?_
    refine x_iconst C (0) d_CellTransport_cell_10 rfl ?_
    refine x_sipush C (1000) d_CellTransport_cell_11 rfl ?_
    refine x_callSi C (c_CellTransport_isBetween _ _ _) mt_CellTransport_isBetween rfl rfl (Nat.le_of_ble_eq_true rfl) (Nat.le_of_ble_eq_true rfl) lk_CellTransport_51 d_CellTransport_cell_14 ?_
    refine x_if_eq C 29 d_CellTransport_cell_17 rfl (fun h_17 => ?_) (fun h_17 => ?_)
    · first | exact absurd hb.1 (z_b_0.mp h_6) | exact absurd hb.2.1 (z_b_0.mp h_17) | exact absurd hb.2.2 (z_b_0.mp h_26)
    · refine x_iload_n C d_CellTransport_cell_20 (i := 3) rfl rfl ?_
      refine x_iload C d_CellTransport_cell_21 rfl ?_
      refine x_callSi C (c_CellTransport_areShares _ _) mt_CellTransport_areShares rfl rfl (Nat.le_of_ble_eq_true rfl) (Nat.le_of_ble_eq_true rfl) lk_CellTransport_85 d_CellTransport_cell_23 ?_
      refine x_if_ne C 31 d_CellTransport_cell_26 rfl (fun h_26 => ?_) (fun h_26 => ?_)
      · refine x_aload_n C d_CellTransport_cell_31 (i := 0) rfl rfl ?_
        refine g_CellTransport_buffer C lk_CellTransport_19 d_CellTransport_cell_32 ?_
        refine x_callVNi C (c_Region_isWhole z_6 hz hs) mt_Region_isWhole (zl_Region z_6 ) (zc_Region z_6 _) rfl rfl rfl (Nat.le_of_ble_eq_true rfl) (Nat.le_of_ble_eq_true rfl) lk_CellTransport_89 d_CellTransport_cell_35 ?_
        refine x_if_ne C 51 d_CellTransport_cell_38 rfl (fun h_38 => ?_) (fun h_38 => ?_)
        · exact absurd hw h_38
        · refine x_aload_n C d_CellTransport_cell_41 (i := 0) rfl rfl ?_
          refine g_CellTransport_buffer C lk_CellTransport_19 d_CellTransport_cell_42 ?_
          refine x_iconst C (0) d_CellTransport_cell_45 rfl ?_
          refine u_Region_sizeN C z_6 lk_CellTransport_77 d_CellTransport_cell_46 ?_
          refine x_iconst C (-1) d_CellTransport_cell_49 rfl ?_
          exact x_iret C E rfl rfl d_CellTransport_cell_50
      · first | exact absurd hb.1 (z_b_0.mp h_6) | exact absurd hb.2.1 (z_b_0.mp h_17) | exact absurd hb.2.2 (z_b_0.mp h_26)
theorem c_CellTransport_cellY {dA : Nat → ClassId} {ad : Nat → Nat} {M : z_M} {j : Nat} (hj : j < 6) {de ab fi : Int32} {sz : Nat} (hs : M (i_reg 6) 1 = nI sz) (hz : sz ≤ 8) (hb2 : p_btw de 0 1000 ∧ p_shr ab fi) (hw : ¬ f_wh (M (i_tok 6)) sz 0 0 = 0) : z_CI y_CellTransport_cell b_CellTransport_cell 7 .int 3 dA ad [.ref (ad 0), .int (nI j), .int de, .int ab, .int fi] M (z_b (¬ M (i_cell j) 1 = 0)) (z_sv (f_def M j de ab fi) (i_reg 6) 1 0) := by
  refine z_ofI [some (.ref (ad 0)), some (.int (nI j)), some (.int de), some (.int ab), some (.int fi), none, none] (by decide) (Nat.le_of_ble_eq_true rfl) rfl (fun k C E => ?_)
  have C : z_C dA ad k b_CellTransport_cell "CellTransport" 3 7 := C
  have hb : p_btw (nI j) 0 5 ∧ p_btw de 0 1000 ∧ p_shr ab fi := ⟨z_in (n := 5) (by omega) (by decide), hb2⟩
  refine x_iload_n C d_CellTransport_cell_0 (i := 1) rfl rfl ?_
  refine x_iconst C (0) d_CellTransport_cell_1 rfl ?_
  refine x_iconst C (5) d_CellTransport_cell_2 rfl ?_
  refine x_callSi C (c_CellTransport_isBetween _ _ _) mt_CellTransport_isBetween rfl rfl (Nat.le_of_ble_eq_true rfl) (Nat.le_of_ble_eq_true rfl) lk_CellTransport_51 d_CellTransport_cell_3 ?_
  refine x_if_eq C 29 d_CellTransport_cell_6 rfl (fun h_6 => ?_) (fun h_6 => ?_)
  · first | exact absurd hb.1 (z_b_0.mp h_6) | exact absurd hb.2.1 (z_b_0.mp h_17) | exact absurd hb.2.2 (z_b_0.mp h_26)
  · refine x_iload_n C d_CellTransport_cell_9 (i := 2) rfl rfl ?_
    refine x_iconst C (0) d_CellTransport_cell_10 rfl ?_
    refine x_sipush C (1000) d_CellTransport_cell_11 rfl ?_
    refine x_callSi C (c_CellTransport_isBetween _ _ _) mt_CellTransport_isBetween rfl rfl (Nat.le_of_ble_eq_true rfl) (Nat.le_of_ble_eq_true rfl) lk_CellTransport_51 d_CellTransport_cell_14 ?_
    refine x_if_eq C 29 d_CellTransport_cell_17 rfl (fun h_17 => ?_) (fun h_17 => ?_)
    · first | exact absurd hb.1 (z_b_0.mp h_6) | exact absurd hb.2.1 (z_b_0.mp h_17) | exact absurd hb.2.2 (z_b_0.mp h_26)
    · refine x_iload_n C d_CellTransport_cell_20 (i := 3) rfl rfl ?_
      refine x_iload C d_CellTransport_cell_21 rfl ?_
      refine x_callSi C (c_CellTransport_areShares _ _) mt_CellTransport_areShares rfl rfl (Nat.le_of_ble_eq_true rfl) (Nat.le_of_ble_eq_true rfl) lk_CellTransport_85 d_CellTransport_cell_23 ?_
      refine x_if_ne C 31 d_CellTransport_cell_26 rfl (fun h_26 => ?_) (fun h_26 => ?_)
      · refine x_aload_n C d_CellTransport_cell_31 (i := 0) rfl rfl ?_
        refine g_CellTransport_buffer C lk_CellTransport_19 d_CellTransport_cell_32 ?_
        refine x_callVNi C (c_Region_isWhole z_6 hz hs) mt_Region_isWhole (zl_Region z_6 ) (zc_Region z_6 _) rfl rfl rfl (Nat.le_of_ble_eq_true rfl) (Nat.le_of_ble_eq_true rfl) lk_CellTransport_89 d_CellTransport_cell_35 ?_
        refine x_if_ne C 51 d_CellTransport_cell_38 rfl (fun h_38 => ?_) (fun h_38 => ?_)
        · refine x_aload_n C d_CellTransport_cell_51 (i := 0) rfl rfl ?_
          refine g_CellTransport_geometry C lk_CellTransport_10 d_CellTransport_cell_52 ?_
          refine g_Geometry_cellsN C lk_CellTransport_93 d_CellTransport_cell_55 ?_
          refine x_iload_n C d_CellTransport_cell_58 (i := 1) rfl rfl ?_
          refine rn_al_cells C hj d_CellTransport_cell_59 ?_
          refine x_astore C d_CellTransport_cell_60 rfl ?_
          refine x_aload C d_CellTransport_cell_62 rfl ?_
          refine g_Cell_isDefinedN C hj lk_CellTransport_97 d_CellTransport_cell_64 ?_
          refine x_callSi C (c_CellTransport_oneIf _) mt_CellTransport_oneIf rfl rfl (Nat.le_of_ble_eq_true rfl) (Nat.le_of_ble_eq_true rfl) lk_CellTransport_69 d_CellTransport_cell_67 ?_
          refine x_istore C d_CellTransport_cell_70 rfl ?_
          refine x_aload C d_CellTransport_cell_72 rfl ?_
          refine x_aload_n C d_CellTransport_cell_74 (i := 0) rfl rfl ?_
          refine g_CellTransport_buffer C lk_CellTransport_19 d_CellTransport_cell_75 ?_
          refine x_iload_n C d_CellTransport_cell_78 (i := 2) rfl rfl ?_
          refine x_iload_n C d_CellTransport_cell_79 (i := 3) rfl rfl ?_
          refine x_iload C d_CellTransport_cell_80 rfl ?_
          refine x_callVNv C (c_Cell_define hj _ _ _) mt_Cell_define (zl_Cell hj ) (zc_Cell hj _) rfl rfl rfl (Nat.le_of_ble_eq_true rfl) (Nat.le_of_ble_eq_true rfl) lk_CellTransport_102 d_CellTransport_cell_82 ?_
          refine x_aload_n C d_CellTransport_cell_85 (i := 0) rfl rfl ?_
          refine g_CellTransport_buffer C lk_CellTransport_19 d_CellTransport_cell_86 ?_
          refine x_iconst C (0) d_CellTransport_cell_89 rfl ?_
          refine u_Region_sizeN C z_6 lk_CellTransport_77 d_CellTransport_cell_90 ?_
          refine x_iload C d_CellTransport_cell_93 rfl ?_
          exact x_iret C E rfl rfl d_CellTransport_cell_95
        · exact absurd h_38 hw
      · first | exact absurd hb.1 (z_b_0.mp h_6) | exact absurd hb.2.1 (z_b_0.mp h_17) | exact absurd hb.2.2 (z_b_0.mp h_26)
theorem c_CellTransport_undefineN {dA : Nat → ClassId} {ad : Nat → Nat} {M : z_M} {nm : Int32} (hn : ¬ p_btw nm 0 5) : z_CI y_CellTransport_undefine b_CellTransport_undefine 4 .int 1 dA ad [.ref (ad 0), .int nm] M (-1) (M) := by
  refine z_ofI [some (.ref (ad 0)), some (.int nm), none, none] (by decide) (Nat.le_of_ble_eq_true rfl) rfl (fun k C E => ?_)
  have C : z_C dA ad k b_CellTransport_undefine "CellTransport" 1 4 := C
  refine x_iload_n C d_CellTransport_undefine_0 (i := 1) rfl rfl ?_
  refine x_iconst C (0) d_CellTransport_undefine_1 rfl ?_
  refine x_iconst C (5) d_CellTransport_undefine_2 rfl ?_
  refine x_callSi C (c_CellTransport_isBetween _ _ _) mt_CellTransport_isBetween rfl rfl (Nat.le_of_ble_eq_true rfl) (Nat.le_of_ble_eq_true rfl) lk_CellTransport_51 d_CellTransport_undefine_3 ?_
  refine x_if_ne C 11 d_CellTransport_undefine_6 rfl (fun h_6 => ?_) (fun h_6 => ?_)
  · exact absurd (z_b_n0.mp h_6) hn
  · refine x_iconst C (-1) d_CellTransport_undefine_9 rfl ?_
    exact x_iret C E rfl rfl d_CellTransport_undefine_10
theorem c_CellTransport_undefineY {dA : Nat → ClassId} {ad : Nat → Nat} {M : z_M} {j : Nat} (hj : j < 6) : z_CI y_CellTransport_undefine b_CellTransport_undefine 4 .int 1 dA ad [.ref (ad 0), .int (nI j)] M (z_b (¬ M (i_cell j) 1 = 0)) (z_sv M (i_cell j) 1 0) := by
  refine z_ofI [some (.ref (ad 0)), some (.int (nI j)), none, none] (by decide) (Nat.le_of_ble_eq_true rfl) rfl (fun k C E => ?_)
  have C : z_C dA ad k b_CellTransport_undefine "CellTransport" 1 4 := C
  refine x_iload_n C d_CellTransport_undefine_0 (i := 1) rfl rfl ?_
  refine x_iconst C (0) d_CellTransport_undefine_1 rfl ?_
  refine x_iconst C (5) d_CellTransport_undefine_2 rfl ?_
  refine x_callSi C (c_CellTransport_isBetween _ _ _) mt_CellTransport_isBetween rfl rfl (Nat.le_of_ble_eq_true rfl) (Nat.le_of_ble_eq_true rfl) lk_CellTransport_51 d_CellTransport_undefine_3 ?_
  refine x_if_ne C 11 d_CellTransport_undefine_6 rfl (fun h_6 => ?_) (fun h_6 => ?_)
  · refine x_aload_n C d_CellTransport_undefine_11 (i := 0) rfl rfl ?_
    refine g_CellTransport_geometry C lk_CellTransport_10 d_CellTransport_undefine_12 ?_
    refine g_Geometry_cellsN C lk_CellTransport_93 d_CellTransport_undefine_15 ?_
    refine x_iload_n C d_CellTransport_undefine_18 (i := 1) rfl rfl ?_
    refine rn_al_cells C hj d_CellTransport_undefine_19 ?_
    refine x_astore_n C d_CellTransport_undefine_20 (i := 2) rfl rfl ?_
    refine x_aload_n C d_CellTransport_undefine_21 (i := 2) rfl rfl ?_
    refine g_Cell_isDefinedN C hj lk_CellTransport_97 d_CellTransport_undefine_22 ?_
    refine x_callSi C (c_CellTransport_oneIf _) mt_CellTransport_oneIf rfl rfl (Nat.le_of_ble_eq_true rfl) (Nat.le_of_ble_eq_true rfl) lk_CellTransport_69 d_CellTransport_undefine_25 ?_
    refine x_istore_n C d_CellTransport_undefine_28 (i := 3) rfl rfl ?_
    refine x_aload_n C d_CellTransport_undefine_29 (i := 2) rfl rfl ?_
    refine x_iconst C (0) d_CellTransport_undefine_30 rfl ?_
    refine u_Cell_isDefinedN C hj rfl rfl lk_CellTransport_97 d_CellTransport_undefine_31 ?_
    refine x_iload_n C d_CellTransport_undefine_34 (i := 3) rfl rfl ?_
    exact x_iret C E rfl rfl d_CellTransport_undefine_35
  · exact absurd (z_in (n := 5) (by omega) (by decide)) (z_b_0.mp h_6)
theorem c_CellTransport_sourceN {dA : Nat → ClassId} {ad : Nat → Nat} {M : z_M} {x y : Int32} (hn : ¬ p_wth x y 300) : z_CI y_CellTransport_source b_CellTransport_source 3 .int 2 dA ad [.ref (ad 0), .int x, .int y] M (-1) (M) := by
  refine z_ofI [some (.ref (ad 0)), some (.int x), some (.int y)] (by decide) (Nat.le_of_ble_eq_true rfl) rfl (fun k C E => ?_)
  have C : z_C dA ad k b_CellTransport_source "CellTransport" 2 3 := C
  refine x_iload_n C d_CellTransport_source_0 (i := 1) rfl rfl ?_
  refine x_iload_n C d_CellTransport_source_1 (i := 2) rfl rfl ?_
  refine x_sipush C (300) d_CellTransport_source_2 rfl ?_
  refine x_callSi C (c_CellTransport_areWithin _ _ _) mt_CellTransport_areWithin rfl rfl (Nat.le_of_ble_eq_true rfl) (Nat.le_of_ble_eq_true rfl) lk_CellTransport_106 d_CellTransport_source_5 ?_
  refine x_if_ne C 13 d_CellTransport_source_8 rfl (fun h_8 => ?_) (fun h_8 => ?_)
  · exact absurd (z_b_n0.mp h_8) hn
  · refine x_iconst C (-1) d_CellTransport_source_11 rfl ?_
    exact x_iret C E rfl rfl d_CellTransport_source_12
theorem c_CellTransport_sourceY {dA : Nat → ClassId} {ad : Nat → Nat} {M : z_M} {x y : Int32} (hp : p_wth x y 300) : z_CI y_CellTransport_source b_CellTransport_source 3 .int 2 dA ad [.ref (ad 0), .int x, .int y] M (0) (z_sv (z_sv M 0 6 x) 0 7 y) := by
  refine z_ofI [some (.ref (ad 0)), some (.int x), some (.int y)] (by decide) (Nat.le_of_ble_eq_true rfl) rfl (fun k C E => ?_)
  have C : z_C dA ad k b_CellTransport_source "CellTransport" 2 3 := C
  refine x_iload_n C d_CellTransport_source_0 (i := 1) rfl rfl ?_
  refine x_iload_n C d_CellTransport_source_1 (i := 2) rfl rfl ?_
  refine x_sipush C (300) d_CellTransport_source_2 rfl ?_
  refine x_callSi C (c_CellTransport_areWithin _ _ _) mt_CellTransport_areWithin rfl rfl (Nat.le_of_ble_eq_true rfl) (Nat.le_of_ble_eq_true rfl) lk_CellTransport_106 d_CellTransport_source_5 ?_
  refine x_if_ne C 13 d_CellTransport_source_8 rfl (fun h_8 => ?_) (fun h_8 => ?_)
  · refine x_aload_n C d_CellTransport_source_13 (i := 0) rfl rfl ?_
    refine x_iload_n C d_CellTransport_source_14 (i := 1) rfl rfl ?_
    refine u_CellTransport_sourceX C lk_CellTransport_109 d_CellTransport_source_15 ?_
    refine x_aload_n C d_CellTransport_source_18 (i := 0) rfl rfl ?_
    refine x_iload_n C d_CellTransport_source_19 (i := 2) rfl rfl ?_
    refine u_CellTransport_sourceY C lk_CellTransport_112 d_CellTransport_source_20 ?_
    refine x_iconst C (0) d_CellTransport_source_23 rfl ?_
    exact x_iret C E rfl rfl d_CellTransport_source_24
  · exact absurd hp (z_b_0.mp h_8)
theorem c_CellTransport_seed {dA : Nat → ClassId} {ad : Nat → Nat} {M : z_M} (v : Int32) : z_CV y_CellTransport_seed b_CellTransport_seed 2 1 dA ad [.ref (ad 0), .int v] M (z_sv M 32 0 (v &&& 2147483647)) := by
  refine z_ofV [some (.ref (ad 0)), some (.int v)] (by decide) (Nat.le_of_ble_eq_true rfl) rfl (fun k C E => ?_)
  have C : z_C dA ad k b_CellTransport_seed "CellTransport" 1 2 := C
  refine x_aload_n C d_CellTransport_seed_0 (i := 0) rfl rfl ?_
  refine g_CellTransport_generator C lk_CellTransport_26 d_CellTransport_seed_1 ?_
  refine x_iload_n C d_CellTransport_seed_4 (i := 1) rfl rfl ?_
  refine x_callVNv C (c_Generator_start _) mt_Generator_start zl_Generator (zc_Generator _) rfl rfl rfl (Nat.le_of_ble_eq_true rfl) (Nat.le_of_ble_eq_true rfl) lk_CellTransport_115 d_CellTransport_seed_5 ?_
  exact x_vret C E rfl d_CellTransport_seed_8
theorem c_CellTransport_skipN {dA : Nat → ClassId} {ad : Nat → Nat} {M : z_M} {a : Int32} (hn : ¬ p_btw a 0 100000) : z_CI y_CellTransport_skip b_CellTransport_skip 2 .int 1 dA ad [.ref (ad 0), .int a] M (-1) (M) := by
  refine z_ofI [some (.ref (ad 0)), some (.int a)] (by decide) (Nat.le_of_ble_eq_true rfl) rfl (fun k C E => ?_)
  have C : z_C dA ad k b_CellTransport_skip "CellTransport" 1 2 := C
  refine x_iload_n C d_CellTransport_skip_0 (i := 1) rfl rfl ?_
  refine x_iconst C (0) d_CellTransport_skip_1 rfl ?_
  refine x_ldc C (100000) d_CellTransport_skip_2 lk_CellTransport_118 ?_
  refine x_callSi C (c_CellTransport_isBetween _ _ _) mt_CellTransport_isBetween rfl rfl (Nat.le_of_ble_eq_true rfl) (Nat.le_of_ble_eq_true rfl) lk_CellTransport_51 d_CellTransport_skip_4 ?_
  refine x_if_ne C 12 d_CellTransport_skip_7 rfl (fun h_7 => ?_) (fun h_7 => ?_)
  · exact absurd (z_b_n0.mp h_7) hn
  · refine x_iconst C (-1) d_CellTransport_skip_10 rfl ?_
    exact x_iret C E rfl rfl d_CellTransport_skip_11
theorem c_CellTransport_skipY {dA : Nat → ClassId} {ad : Nat → Nat} {M : z_M} {a : Int32} (hp : p_btw a 0 100000) : z_CI y_CellTransport_skip b_CellTransport_skip 2 .int 1 dA ad [.ref (ad 0), .int a] M (f_lp a 17 0 (M 32 0) 1103515245 12345) (z_sv M 32 0 (f_lp a 17 0 (M 32 0) 1103515245 12345)) := by
  refine z_ofI [some (.ref (ad 0)), some (.int a)] (by decide) (Nat.le_of_ble_eq_true rfl) rfl (fun k C E => ?_)
  have C : z_C dA ad k b_CellTransport_skip "CellTransport" 1 2 := C
  refine x_iload_n C d_CellTransport_skip_0 (i := 1) rfl rfl ?_
  refine x_iconst C (0) d_CellTransport_skip_1 rfl ?_
  refine x_ldc C (100000) d_CellTransport_skip_2 lk_CellTransport_118 ?_
  refine x_callSi C (c_CellTransport_isBetween _ _ _) mt_CellTransport_isBetween rfl rfl (Nat.le_of_ble_eq_true rfl) (Nat.le_of_ble_eq_true rfl) lk_CellTransport_51 d_CellTransport_skip_4 ?_
  refine x_if_ne C 12 d_CellTransport_skip_7 rfl (fun h_7 => ?_) (fun h_7 => ?_)
  · refine x_aload_n C d_CellTransport_skip_12 (i := 0) rfl rfl ?_
    refine g_CellTransport_generator C lk_CellTransport_26 d_CellTransport_skip_13 ?_
    refine x_iload_n C d_CellTransport_skip_16 (i := 1) rfl rfl ?_
    refine x_callVNv C (c_Generator_leap _) mt_Generator_leap zl_Generator (zc_Generator _) rfl rfl rfl (Nat.le_of_ble_eq_true rfl) (Nat.le_of_ble_eq_true rfl) lk_CellTransport_119 d_CellTransport_skip_17 ?_
    refine x_aload_n C d_CellTransport_skip_20 (i := 0) rfl rfl ?_
    refine g_CellTransport_generator C lk_CellTransport_26 d_CellTransport_skip_21 ?_
    refine g_Generator_stateN C lk_CellTransport_122 d_CellTransport_skip_24 ?_
    refine x_eqi (z_sv_self _ _ _ _) ?_
    exact x_iret C E rfl rfl d_CellTransport_skip_27
  · exact absurd hp (z_b_0.mp h_7)
theorem c_CellTransport_state {dA : Nat → ClassId} {ad : Nat → Nat} {M : z_M}  : z_CI y_CellTransport_state b_CellTransport_state 1 .int 0 dA ad [.ref (ad 0)] M (M 32 0) (M) := by
  refine z_ofI [some (.ref (ad 0))] (by decide) (Nat.le_of_ble_eq_true rfl) rfl (fun k C E => ?_)
  have C : z_C dA ad k b_CellTransport_state "CellTransport" 0 1 := C
  refine x_aload_n C d_CellTransport_state_0 (i := 0) rfl rfl ?_
  refine g_CellTransport_generator C lk_CellTransport_26 d_CellTransport_state_1 ?_
  refine g_Generator_stateN C lk_CellTransport_122 d_CellTransport_state_4 ?_
  exact x_iret C E rfl rfl d_CellTransport_state_7
theorem c_CellTransport_whereN {dA : Nat → ClassId} {ad : Nat → Nat} {M : z_M} {x y : Int32} (hn : ¬ p_wth x y 1000) : z_CI y_CellTransport_where b_CellTransport_where 3 .int 3 dA ad [.ref (ad 0), .int x, .int y] M (-1) (M) := by
  refine z_ofI [some (.ref (ad 0)), some (.int x), some (.int y)] (by decide) (Nat.le_of_ble_eq_true rfl) rfl (fun k C E => ?_)
  have C : z_C dA ad k b_CellTransport_where "CellTransport" 3 3 := C
  refine x_iload_n C d_CellTransport_where_0 (i := 1) rfl rfl ?_
  refine x_iload_n C d_CellTransport_where_1 (i := 2) rfl rfl ?_
  refine x_sipush C (1000) d_CellTransport_where_2 rfl ?_
  refine x_callSi C (c_CellTransport_areWithin _ _ _) mt_CellTransport_areWithin rfl rfl (Nat.le_of_ble_eq_true rfl) (Nat.le_of_ble_eq_true rfl) lk_CellTransport_106 d_CellTransport_where_5 ?_
  refine x_if_ne C 13 d_CellTransport_where_8 rfl (fun h_8 => ?_) (fun h_8 => ?_)
  · exact absurd (z_b_n0.mp h_8) hn
  · refine x_iconst C (-1) d_CellTransport_where_11 rfl ?_
    exact x_iret C E rfl rfl d_CellTransport_where_12
theorem c_CellTransport_whereY {dA : Nat → ClassId} {ad : Nat → Nat} {M : z_M} (hR : ∀ r, r < 6 → z_okR M r) {x y : Int32} (hp : p_wth x y 1000) : z_CI y_CellTransport_where b_CellTransport_where 3 .int 3 dA ad [.ref (ad 0), .int x, .int y] M (f_ca M x y 6 0) (M) := by
  refine z_ofI [some (.ref (ad 0)), some (.int x), some (.int y)] (by decide) (Nat.le_of_ble_eq_true rfl) rfl (fun k C E => ?_)
  have C : z_C dA ad k b_CellTransport_where "CellTransport" 3 3 := C
  refine x_iload_n C d_CellTransport_where_0 (i := 1) rfl rfl ?_
  refine x_iload_n C d_CellTransport_where_1 (i := 2) rfl rfl ?_
  refine x_sipush C (1000) d_CellTransport_where_2 rfl ?_
  refine x_callSi C (c_CellTransport_areWithin _ _ _) mt_CellTransport_areWithin rfl rfl (Nat.le_of_ble_eq_true rfl) (Nat.le_of_ble_eq_true rfl) lk_CellTransport_106 d_CellTransport_where_5 ?_
  refine x_if_ne C 13 d_CellTransport_where_8 rfl (fun h_8 => ?_) (fun h_8 => ?_)
  · refine x_aload_n C d_CellTransport_where_13 (i := 0) rfl rfl ?_
    refine g_CellTransport_geometry C lk_CellTransport_10 d_CellTransport_where_14 ?_
    refine x_iload_n C d_CellTransport_where_17 (i := 1) rfl rfl ?_
    refine x_iload_n C d_CellTransport_where_18 (i := 2) rfl rfl ?_
    refine x_callVNi C (c_Geometry_cellAt hR _ _) mt_Geometry_cellAt zl_Geometry (zc_Geometry _) rfl rfl rfl (Nat.le_of_ble_eq_true rfl) (Nat.le_of_ble_eq_true rfl) lk_CellTransport_129 d_CellTransport_where_19 ?_
    exact x_iret C E rfl rfl d_CellTransport_where_22
  · exact absurd hp (z_b_0.mp h_8)
theorem c_CellTransport_reachN {dA : Nat → ClassId} {ad : Nat → Nat} {M : z_M} {x y dr : Int32} (hn : ¬ (p_wth x y 1000 ∧ p_btw dr 0 7)) : z_CI y_CellTransport_reach b_CellTransport_reach 6 .int 3 dA ad [.ref (ad 0), .int x, .int y, .int dr] M (-1) (M) := by
  refine z_ofI [some (.ref (ad 0)), some (.int x), some (.int y), some (.int dr), none, none] (by decide) (Nat.le_of_ble_eq_true rfl) rfl (fun k C E => ?_)
  have C : z_C dA ad k b_CellTransport_reach "CellTransport" 3 6 := C
  refine x_iload_n C d_CellTransport_reach_0 (i := 1) rfl rfl ?_
  refine x_iload_n C d_CellTransport_reach_1 (i := 2) rfl rfl ?_
  refine x_sipush C (1000) d_CellTransport_reach_2 rfl ?_
  refine x_callSi C (c_CellTransport_areWithin _ _ _) mt_CellTransport_areWithin rfl rfl (Nat.le_of_ble_eq_true rfl) (Nat.le_of_ble_eq_true rfl) lk_CellTransport_106 d_CellTransport_reach_5 ?_
  refine x_if_eq C 21 d_CellTransport_reach_8 rfl (fun h_8 => ?_) (fun h_8 => ?_)
  · refine x_iconst C (-1) d_CellTransport_reach_21 rfl ?_
    exact x_iret C E rfl rfl d_CellTransport_reach_22
  · refine x_iload_n C d_CellTransport_reach_11 (i := 3) rfl rfl ?_
    refine x_iconst C (0) d_CellTransport_reach_12 rfl ?_
    refine x_bipush C (7) d_CellTransport_reach_13 rfl ?_
    refine x_callSi C (c_CellTransport_isBetween _ _ _) mt_CellTransport_isBetween rfl rfl (Nat.le_of_ble_eq_true rfl) (Nat.le_of_ble_eq_true rfl) lk_CellTransport_51 d_CellTransport_reach_15 ?_
    refine x_if_ne C 23 d_CellTransport_reach_18 rfl (fun h_18 => ?_) (fun h_18 => ?_)
    · exact absurd ⟨z_b_n0.mp h_8, z_b_n0.mp h_18⟩ hn
    · refine x_iconst C (-1) d_CellTransport_reach_21 rfl ?_
      exact x_iret C E rfl rfl d_CellTransport_reach_22
def f_rc (M : z_M) (x y : Int32) (dd : Nat) (home : Int32) : Nat → Nat → Int32
  | 0, _ => 200
  | n + 1, i => if f_ca M (x + nI i * z_sX dd) (y + nI i * z_sY dd) 6 0 = home then f_rc M x y dd home n (i + 1) else nI i - 1
theorem lp_CellTransport_reach {dA : Nat → ClassId} {ad : Nat → Nat} {M : z_M} {k : z_K} (hR : ∀ r, r < 6 → z_okR M r) {x y home r0 : Int32} {dd : Nat} (hd : dd < 8) (C : z_C dA ad k b_CellTransport_reach "CellTransport" 3 6) (E : z_RI dA ad k .int r0 M) :
    ∀ (n i : Nat), i + n = 201 → f_rc M x y dd home n i = r0 → z_X dA ad k 37 [some (.ref (ad 0)), some (.int x), some (.int y), some (.int (nI dd)), some (.int home), some (.int (nI i))] [] M := by
  intro n
  induction n with
  | zero =>
    intro i hi hr
    refine x_iload C d_CellTransport_reach_37 rfl ?_
    refine x_sipush C (200) d_CellTransport_reach_39 rfl ?_
    refine x_icmp_gt C 88 d_CellTransport_reach_42 rfl (fun h_42 => ?_) (fun h_42 => ?_)
    · refine x_sipush C (200) d_CellTransport_reach_88 rfl ?_
      exact x_iret C E hr rfl d_CellTransport_reach_91
    · exact absurd (show (200 : Int32) < nI i from nI_lt (a := 200) (by omega) (by omega)) h_42
  | succ n ih =>
    intro i hi hr
    refine x_iload C d_CellTransport_reach_37 rfl ?_
    refine x_sipush C (200) d_CellTransport_reach_39 rfl ?_
    refine x_icmp_gt C 88 d_CellTransport_reach_42 rfl (fun h_42 => ?_) (fun h_42 => ?_)
    · exact absurd (show nI 200 < nI i from h_42) (nI_nlt (by omega) (by decide))
    · refine x_aload_n C d_CellTransport_reach_45 (i := 0) rfl rfl ?_
      refine g_CellTransport_geometry C lk_CellTransport_10 d_CellTransport_reach_46 ?_
      refine x_iload_n C d_CellTransport_reach_49 (i := 1) rfl rfl ?_
      refine x_iload C d_CellTransport_reach_50 rfl ?_
      refine s_STEP_X C lk_CellTransport_133 d_CellTransport_reach_52 (fun t_52 hT_52 => ?_)
      refine x_iload_n C d_CellTransport_reach_55 (i := 3) rfl rfl ?_
      refine rn_ld_tab C hT_52  hd d_CellTransport_reach_56 ?_
      refine x_imul C d_CellTransport_reach_57 ?_
      refine x_iadd C d_CellTransport_reach_58 ?_
      refine x_iload_n C d_CellTransport_reach_59 (i := 2) rfl rfl ?_
      refine x_iload C d_CellTransport_reach_60 rfl ?_
      refine s_STEP_Y C lk_CellTransport_137 d_CellTransport_reach_62 (fun t_62 hT_62 => ?_)
      refine x_iload_n C d_CellTransport_reach_65 (i := 3) rfl rfl ?_
      refine rn_ld_tab C hT_62  hd d_CellTransport_reach_66 ?_
      refine x_imul C d_CellTransport_reach_67 ?_
      refine x_iadd C d_CellTransport_reach_68 ?_
      refine x_callVNi C (c_Geometry_cellAt hR _ _) mt_Geometry_cellAt zl_Geometry (zc_Geometry _) rfl rfl rfl (Nat.le_of_ble_eq_true rfl) (Nat.le_of_ble_eq_true rfl) lk_CellTransport_129 d_CellTransport_reach_69 ?_
      refine x_iload C d_CellTransport_reach_72 rfl ?_
      refine x_icmp_eq C 82 d_CellTransport_reach_74 rfl (fun h_74 => ?_) (fun h_74 => ?_)
      · refine x_iinc C (nI (i + 1)) d_CellTransport_reach_82 rfl (z_inc i) rfl ?_
        refine x_goto C 37 d_CellTransport_reach_85 rfl ?_
        exact ih (i + 1) (by omega) (by rw [← hr]; exact (if_pos h_74).symm)
      · refine x_iload C d_CellTransport_reach_77 rfl ?_
        refine x_iconst C (1) d_CellTransport_reach_79 rfl ?_
        refine x_isub C d_CellTransport_reach_80 ?_
        exact x_iret C E (by rw [← hr]; exact (if_neg h_74).symm) rfl d_CellTransport_reach_81
theorem c_CellTransport_reachY {dA : Nat → ClassId} {ad : Nat → Nat} {M : z_M} (hR : ∀ r, r < 6 → z_okR M r) {x y : Int32} {dd : Nat} (hd : dd < 8) (hp : p_wth x y 1000) : z_CI y_CellTransport_reach b_CellTransport_reach 6 .int 3 dA ad [.ref (ad 0), .int x, .int y, .int (nI dd)] M (f_rc M x y dd (f_ca M x y 6 0) 200 1) (M) := by
  refine z_ofI [some (.ref (ad 0)), some (.int x), some (.int y), some (.int (nI dd)), none, none] (by decide) (Nat.le_of_ble_eq_true rfl) rfl (fun k C E => ?_)
  have C : z_C dA ad k b_CellTransport_reach "CellTransport" 3 6 := C
  refine x_iload_n C d_CellTransport_reach_0 (i := 1) rfl rfl ?_
  refine x_iload_n C d_CellTransport_reach_1 (i := 2) rfl rfl ?_
  refine x_sipush C (1000) d_CellTransport_reach_2 rfl ?_
  refine x_callSi C (c_CellTransport_areWithin _ _ _) mt_CellTransport_areWithin rfl rfl (Nat.le_of_ble_eq_true rfl) (Nat.le_of_ble_eq_true rfl) lk_CellTransport_106 d_CellTransport_reach_5 ?_
  refine x_if_eq C 21 d_CellTransport_reach_8 rfl (fun h_8 => ?_) (fun h_8 => ?_)
  · first | exact absurd hp (z_b_0.mp h_8) | exact absurd (z_in (n := 7) (by omega) (by decide)) (z_b_0.mp h_18)
  · refine x_iload_n C d_CellTransport_reach_11 (i := 3) rfl rfl ?_
    refine x_iconst C (0) d_CellTransport_reach_12 rfl ?_
    refine x_bipush C (7) d_CellTransport_reach_13 rfl ?_
    refine x_callSi C (c_CellTransport_isBetween _ _ _) mt_CellTransport_isBetween rfl rfl (Nat.le_of_ble_eq_true rfl) (Nat.le_of_ble_eq_true rfl) lk_CellTransport_51 d_CellTransport_reach_15 ?_
    refine x_if_ne C 23 d_CellTransport_reach_18 rfl (fun h_18 => ?_) (fun h_18 => ?_)
    · refine x_aload_n C d_CellTransport_reach_23 (i := 0) rfl rfl ?_
      refine g_CellTransport_geometry C lk_CellTransport_10 d_CellTransport_reach_24 ?_
      refine x_iload_n C d_CellTransport_reach_27 (i := 1) rfl rfl ?_
      refine x_iload_n C d_CellTransport_reach_28 (i := 2) rfl rfl ?_
      refine x_callVNi C (c_Geometry_cellAt hR _ _) mt_Geometry_cellAt zl_Geometry (zc_Geometry _) rfl rfl rfl (Nat.le_of_ble_eq_true rfl) (Nat.le_of_ble_eq_true rfl) lk_CellTransport_129 d_CellTransport_reach_29 ?_
      refine x_istore C d_CellTransport_reach_32 rfl ?_
      refine x_iconst C (1) d_CellTransport_reach_34 rfl ?_
      refine x_istore C d_CellTransport_reach_35 rfl ?_
      exact lp_CellTransport_reach hR hd C E 200 1 (by omega) rfl
    · first | exact absurd hp (z_b_0.mp h_8) | exact absurd (z_in (n := 7) (by omega) (by decide)) (z_b_0.mp h_18)
theorem c_CellTransport_tallyN {dA : Nat → ClassId} {ad : Nat → Nat} {M : z_M} {a b : Int32} (hn : ¬ (p_btw a 0 5 ∧ p_btw b 0 3)) : z_CI y_CellTransport_tally b_CellTransport_tally 3 .int 1 dA ad [.ref (ad 0), .int a, .int b] M (-1) (M) := by
  refine z_ofI [some (.ref (ad 0)), some (.int a), some (.int b)] (by decide) (Nat.le_of_ble_eq_true rfl) rfl (fun k C E => ?_)
  have C : z_C dA ad k b_CellTransport_tally "CellTransport" 1 3 := C
  refine x_iload_n C d_CellTransport_tally_0 (i := 1) rfl rfl ?_
  refine x_iconst C (0) d_CellTransport_tally_1 rfl ?_
  refine x_iconst C (5) d_CellTransport_tally_2 rfl ?_
  refine x_callSi C (c_CellTransport_isBetween _ _ _) mt_CellTransport_isBetween rfl rfl (Nat.le_of_ble_eq_true rfl) (Nat.le_of_ble_eq_true rfl) lk_CellTransport_51 d_CellTransport_tally_3 ?_
  refine x_if_eq C 18 d_CellTransport_tally_6 rfl (fun h_6 => ?_) (fun h_6 => ?_)
  · refine x_iconst C (-1) d_CellTransport_tally_18 rfl ?_
    exact x_iret C E rfl rfl d_CellTransport_tally_19
  · refine x_iload_n C d_CellTransport_tally_9 (i := 2) rfl rfl ?_
    refine x_iconst C (0) d_CellTransport_tally_10 rfl ?_
    refine x_iconst C (3) d_CellTransport_tally_11 rfl ?_
    refine x_callSi C (c_CellTransport_isBetween _ _ _) mt_CellTransport_isBetween rfl rfl (Nat.le_of_ble_eq_true rfl) (Nat.le_of_ble_eq_true rfl) lk_CellTransport_51 d_CellTransport_tally_12 ?_
    refine x_if_ne C 20 d_CellTransport_tally_15 rfl (fun h_15 => ?_) (fun h_15 => ?_)
    · exact absurd ⟨z_b_n0.mp h_6, z_b_n0.mp h_15⟩ hn
    · refine x_iconst C (-1) d_CellTransport_tally_18 rfl ?_
      exact x_iret C E rfl rfl d_CellTransport_tally_19
theorem c_CellTransport_tallyY {dA : Nat → ClassId} {ad : Nat → Nat} {M : z_M} {i q : Nat} (hi : i < 6) (hq : q < 4) : z_CI y_CellTransport_tally b_CellTransport_tally 3 .int 1 dA ad [.ref (ad 0), .int (nI i), .int (nI q)] M (M (i_talr i) q) (M) := by
  refine z_ofI [some (.ref (ad 0)), some (.int (nI i)), some (.int (nI q))] (by decide) (Nat.le_of_ble_eq_true rfl) rfl (fun k C E => ?_)
  have C : z_C dA ad k b_CellTransport_tally "CellTransport" 1 3 := C
  refine x_iload_n C d_CellTransport_tally_0 (i := 1) rfl rfl ?_
  refine x_iconst C (0) d_CellTransport_tally_1 rfl ?_
  refine x_iconst C (5) d_CellTransport_tally_2 rfl ?_
  refine x_callSi C (c_CellTransport_isBetween _ _ _) mt_CellTransport_isBetween rfl rfl (Nat.le_of_ble_eq_true rfl) (Nat.le_of_ble_eq_true rfl) lk_CellTransport_51 d_CellTransport_tally_3 ?_
  refine x_if_eq C 18 d_CellTransport_tally_6 rfl (fun h_6 => ?_) (fun h_6 => ?_)
  · first | exact absurd (z_in (n := 5) (by omega) (by decide)) (z_b_0.mp h_6) | exact absurd (z_in (n := 3) (by omega) (by decide)) (z_b_0.mp h_15)
  · refine x_iload_n C d_CellTransport_tally_9 (i := 2) rfl rfl ?_
    refine x_iconst C (0) d_CellTransport_tally_10 rfl ?_
    refine x_iconst C (3) d_CellTransport_tally_11 rfl ?_
    refine x_callSi C (c_CellTransport_isBetween _ _ _) mt_CellTransport_isBetween rfl rfl (Nat.le_of_ble_eq_true rfl) (Nat.le_of_ble_eq_true rfl) lk_CellTransport_51 d_CellTransport_tally_12 ?_
    refine x_if_ne C 20 d_CellTransport_tally_15 rfl (fun h_15 => ?_) (fun h_15 => ?_)
    · refine x_aload_n C d_CellTransport_tally_20 (i := 0) rfl rfl ?_
      refine g_CellTransport_counts C lk_CellTransport_33 d_CellTransport_tally_21 ?_
      refine g_Counts_talliesN C lk_CellTransport_140 d_CellTransport_tally_24 ?_
      refine x_iload_n C d_CellTransport_tally_27 (i := 1) rfl rfl ?_
      refine rn_al_tallies C hi d_CellTransport_tally_28 ?_
      refine x_iload_n C d_CellTransport_tally_29 (i := 2) rfl rfl ?_
      refine rn_ld_talrow C hi  hq d_CellTransport_tally_30 ?_
      exact x_iret C E rfl rfl d_CellTransport_tally_31
    · first | exact absurd (z_in (n := 5) (by omega) (by decide)) (z_b_0.mp h_6) | exact absurd (z_in (n := 3) (by omega) (by decide)) (z_b_0.mp h_15)
theorem c_CellTransport_crossedN {dA : Nat → ClassId} {ad : Nat → Nat} {M : z_M} {a b : Int32} (hn : ¬ (p_btw a 0 5 ∧ p_btw b 0 5)) : z_CI y_CellTransport_crossed b_CellTransport_crossed 3 .int 1 dA ad [.ref (ad 0), .int a, .int b] M (-1) (M) := by
  refine z_ofI [some (.ref (ad 0)), some (.int a), some (.int b)] (by decide) (Nat.le_of_ble_eq_true rfl) rfl (fun k C E => ?_)
  have C : z_C dA ad k b_CellTransport_crossed "CellTransport" 1 3 := C
  refine x_iload_n C d_CellTransport_crossed_0 (i := 1) rfl rfl ?_
  refine x_iconst C (0) d_CellTransport_crossed_1 rfl ?_
  refine x_iconst C (5) d_CellTransport_crossed_2 rfl ?_
  refine x_callSi C (c_CellTransport_isBetween _ _ _) mt_CellTransport_isBetween rfl rfl (Nat.le_of_ble_eq_true rfl) (Nat.le_of_ble_eq_true rfl) lk_CellTransport_51 d_CellTransport_crossed_3 ?_
  refine x_if_eq C 18 d_CellTransport_crossed_6 rfl (fun h_6 => ?_) (fun h_6 => ?_)
  · refine x_iconst C (-1) d_CellTransport_crossed_18 rfl ?_
    exact x_iret C E rfl rfl d_CellTransport_crossed_19
  · refine x_iload_n C d_CellTransport_crossed_9 (i := 2) rfl rfl ?_
    refine x_iconst C (0) d_CellTransport_crossed_10 rfl ?_
    refine x_iconst C (5) d_CellTransport_crossed_11 rfl ?_
    refine x_callSi C (c_CellTransport_isBetween _ _ _) mt_CellTransport_isBetween rfl rfl (Nat.le_of_ble_eq_true rfl) (Nat.le_of_ble_eq_true rfl) lk_CellTransport_51 d_CellTransport_crossed_12 ?_
    refine x_if_ne C 20 d_CellTransport_crossed_15 rfl (fun h_15 => ?_) (fun h_15 => ?_)
    · exact absurd ⟨z_b_n0.mp h_6, z_b_n0.mp h_15⟩ hn
    · refine x_iconst C (-1) d_CellTransport_crossed_18 rfl ?_
      exact x_iret C E rfl rfl d_CellTransport_crossed_19
theorem c_CellTransport_crossedY {dA : Nat → ClassId} {ad : Nat → Nat} {M : z_M} {i q : Nat} (hi : i < 6) (hq : q < 6) : z_CI y_CellTransport_crossed b_CellTransport_crossed 3 .int 1 dA ad [.ref (ad 0), .int (nI i), .int (nI q)] M (M (i_cror i) q) (M) := by
  refine z_ofI [some (.ref (ad 0)), some (.int (nI i)), some (.int (nI q))] (by decide) (Nat.le_of_ble_eq_true rfl) rfl (fun k C E => ?_)
  have C : z_C dA ad k b_CellTransport_crossed "CellTransport" 1 3 := C
  refine x_iload_n C d_CellTransport_crossed_0 (i := 1) rfl rfl ?_
  refine x_iconst C (0) d_CellTransport_crossed_1 rfl ?_
  refine x_iconst C (5) d_CellTransport_crossed_2 rfl ?_
  refine x_callSi C (c_CellTransport_isBetween _ _ _) mt_CellTransport_isBetween rfl rfl (Nat.le_of_ble_eq_true rfl) (Nat.le_of_ble_eq_true rfl) lk_CellTransport_51 d_CellTransport_crossed_3 ?_
  refine x_if_eq C 18 d_CellTransport_crossed_6 rfl (fun h_6 => ?_) (fun h_6 => ?_)
  · first | exact absurd (z_in (n := 5) (by omega) (by decide)) (z_b_0.mp h_6) | exact absurd (z_in (n := 5) (by omega) (by decide)) (z_b_0.mp h_15)
  · refine x_iload_n C d_CellTransport_crossed_9 (i := 2) rfl rfl ?_
    refine x_iconst C (0) d_CellTransport_crossed_10 rfl ?_
    refine x_iconst C (5) d_CellTransport_crossed_11 rfl ?_
    refine x_callSi C (c_CellTransport_isBetween _ _ _) mt_CellTransport_isBetween rfl rfl (Nat.le_of_ble_eq_true rfl) (Nat.le_of_ble_eq_true rfl) lk_CellTransport_51 d_CellTransport_crossed_12 ?_
    refine x_if_ne C 20 d_CellTransport_crossed_15 rfl (fun h_15 => ?_) (fun h_15 => ?_)
    · refine x_aload_n C d_CellTransport_crossed_20 (i := 0) rfl rfl ?_
      refine g_CellTransport_counts C lk_CellTransport_33 d_CellTransport_crossed_21 ?_
      refine g_Counts_crossingsN C lk_CellTransport_144 d_CellTransport_crossed_24 ?_
      refine x_iload_n C d_CellTransport_crossed_27 (i := 1) rfl rfl ?_
      refine rn_al_crossings C hi d_CellTransport_crossed_28 ?_
      refine x_iload_n C d_CellTransport_crossed_29 (i := 2) rfl rfl ?_
      refine rn_ld_crorow C hi  hq d_CellTransport_crossed_30 ?_
      exact x_iret C E rfl rfl d_CellTransport_crossed_31
    · first | exact absurd (z_in (n := 5) (by omega) (by decide)) (z_b_0.mp h_6) | exact absurd (z_in (n := 5) (by omega) (by decide)) (z_b_0.mp h_15)
theorem c_CellTransport_countT {dA : Nat → ClassId} {ad : Nat → Nat} {M : z_M} {q : Nat} (hq : q < 5) : z_CI y_CellTransport_count b_CellTransport_count 2 .int 2 dA ad [.ref (ad 0), .int (nI q)] M (M 34 q) (M) := by
  refine z_ofI [some (.ref (ad 0)), some (.int (nI q))] (by decide) (Nat.le_of_ble_eq_true rfl) rfl (fun k C E => ?_)
  have C : z_C dA ad k b_CellTransport_count "CellTransport" 2 2 := C
  refine x_iload_n C d_CellTransport_count_0 (i := 1) rfl rfl ?_
  refine x_iconst C (0) d_CellTransport_count_1 rfl ?_
  refine x_iconst C (4) d_CellTransport_count_2 rfl ?_
  refine x_callSi C (c_CellTransport_isBetween _ _ _) mt_CellTransport_isBetween rfl rfl (Nat.le_of_ble_eq_true rfl) (Nat.le_of_ble_eq_true rfl) lk_CellTransport_51 d_CellTransport_count_3 ?_
  refine x_if_eq C 19 d_CellTransport_count_6 rfl (fun h_6 => ?_) (fun h_6 => ?_)
  · exact absurd (z_in (n := 4) (by omega) (by decide)) (z_b_0.mp h_6)
  · refine x_aload_n C d_CellTransport_count_9 (i := 0) rfl rfl ?_
    refine g_CellTransport_counts C lk_CellTransport_33 d_CellTransport_count_10 ?_
    refine g_Counts_totalsN C lk_CellTransport_147 d_CellTransport_count_13 ?_
    refine x_iload_n C d_CellTransport_count_16 (i := 1) rfl rfl ?_
    refine rn_ld_totals C  hq d_CellTransport_count_17 ?_
    exact x_iret C E rfl rfl d_CellTransport_count_18
theorem c_CellTransport_count5 {dA : Nat → ClassId} {ad : Nat → Nat} {M : z_M}  : z_CI y_CellTransport_count b_CellTransport_count 2 .int 2 dA ad [.ref (ad 0), .int 5] M (M (i_reg 6) 1) (M) := by
  refine z_ofI [some (.ref (ad 0)), some (.int 5)] (by decide) (Nat.le_of_ble_eq_true rfl) rfl (fun k C E => ?_)
  have C : z_C dA ad k b_CellTransport_count "CellTransport" 2 2 := C
  refine x_iload_n C d_CellTransport_count_0 (i := 1) rfl rfl ?_
  refine x_iconst C (0) d_CellTransport_count_1 rfl ?_
  refine x_iconst C (4) d_CellTransport_count_2 rfl ?_
  refine x_callSi C (c_CellTransport_isBetween _ _ _) mt_CellTransport_isBetween rfl rfl (Nat.le_of_ble_eq_true rfl) (Nat.le_of_ble_eq_true rfl) lk_CellTransport_51 d_CellTransport_count_3 ?_
  refine x_if_eq C 19 d_CellTransport_count_6 rfl (fun h_6 => ?_) (fun h_6 => ?_)
  · refine x_iload_n C d_CellTransport_count_19 (i := 1) rfl rfl ?_
    refine x_lookup C 48 d_CellTransport_count_20 rfl rfl rfl ?_
    refine x_aload_n C d_CellTransport_count_48 (i := 0) rfl rfl ?_
    refine g_CellTransport_buffer C lk_CellTransport_19 d_CellTransport_count_49 ?_
    refine g_Region_sizeN C z_6 lk_CellTransport_77 d_CellTransport_count_52 ?_
    exact x_iret C E rfl rfl d_CellTransport_count_55
  · exact absurd (z_b_n0.mp h_6) (by decide)
theorem c_CellTransport_count6 {dA : Nat → ClassId} {ad : Nat → Nat} {M : z_M}  : z_CI y_CellTransport_count b_CellTransport_count 2 .int 2 dA ad [.ref (ad 0), .int 6] M (f_dc M 6 0 0) (M) := by
  refine z_ofI [some (.ref (ad 0)), some (.int 6)] (by decide) (Nat.le_of_ble_eq_true rfl) rfl (fun k C E => ?_)
  have C : z_C dA ad k b_CellTransport_count "CellTransport" 2 2 := C
  refine x_iload_n C d_CellTransport_count_0 (i := 1) rfl rfl ?_
  refine x_iconst C (0) d_CellTransport_count_1 rfl ?_
  refine x_iconst C (4) d_CellTransport_count_2 rfl ?_
  refine x_callSi C (c_CellTransport_isBetween _ _ _) mt_CellTransport_isBetween rfl rfl (Nat.le_of_ble_eq_true rfl) (Nat.le_of_ble_eq_true rfl) lk_CellTransport_51 d_CellTransport_count_3 ?_
  refine x_if_eq C 19 d_CellTransport_count_6 rfl (fun h_6 => ?_) (fun h_6 => ?_)
  · refine x_iload_n C d_CellTransport_count_19 (i := 1) rfl rfl ?_
    refine x_lookup C 56 d_CellTransport_count_20 rfl rfl rfl ?_
    refine x_aload_n C d_CellTransport_count_56 (i := 0) rfl rfl ?_
    refine g_CellTransport_geometry C lk_CellTransport_10 d_CellTransport_count_57 ?_
    refine x_callVNi C (c_Geometry_definedCells ) mt_Geometry_definedCells zl_Geometry (zc_Geometry _) rfl rfl rfl (Nat.le_of_ble_eq_true rfl) (Nat.le_of_ble_eq_true rfl) lk_CellTransport_150 d_CellTransport_count_60 ?_
    exact x_iret C E rfl rfl d_CellTransport_count_63
  · exact absurd (z_b_n0.mp h_6) (by decide)
theorem z_lk56 {x : Int32} (h0 : ¬ x = 5) (h1 : ¬ x = 6) : Op.lookupswitch.offset ([(5, 28), (6, 36)] : List (Int × Int)) 44 x.toInt = 44 := by
  have e0 : ¬ x.toInt = 5 := z_toInt_ne h0
  have e1 : ¬ x.toInt = 6 := z_toInt_ne h1
  have f0 : ¬ (5 : Int) = x.toInt := fun q => e0 q.symm
  have f1 : ¬ (6 : Int) = x.toInt := fun q => e1 q.symm
  simp [Op.lookupswitch.offset, e0, e1, f0, f1]
theorem c_CellTransport_countN {dA : Nat → ClassId} {ad : Nat → Nat} {M : z_M} {a : Int32} (hn : ¬ p_btw a 0 4) (h5 : ¬ a = 5) (h6 : ¬ a = 6) : z_CI y_CellTransport_count b_CellTransport_count 2 .int 2 dA ad [.ref (ad 0), .int a] M (-1) (M) := by
  refine z_ofI [some (.ref (ad 0)), some (.int a)] (by decide) (Nat.le_of_ble_eq_true rfl) rfl (fun k C E => ?_)
  have C : z_C dA ad k b_CellTransport_count "CellTransport" 2 2 := C
  refine x_iload_n C d_CellTransport_count_0 (i := 1) rfl rfl ?_
  refine x_iconst C (0) d_CellTransport_count_1 rfl ?_
  refine x_iconst C (4) d_CellTransport_count_2 rfl ?_
  refine x_callSi C (c_CellTransport_isBetween _ _ _) mt_CellTransport_isBetween rfl rfl (Nat.le_of_ble_eq_true rfl) (Nat.le_of_ble_eq_true rfl) lk_CellTransport_51 d_CellTransport_count_3 ?_
  refine x_if_eq C 19 d_CellTransport_count_6 rfl (fun h_6 => ?_) (fun h_6 => ?_)
  · refine x_iload_n C d_CellTransport_count_19 (i := 1) rfl rfl ?_
    refine x_lookup C 64 d_CellTransport_count_20 rfl (z_lk56 h5 h6) rfl ?_
    refine x_iconst C (-1) d_CellTransport_count_64 rfl ?_
    exact x_iret C E rfl rfl d_CellTransport_count_65
  · exact absurd (z_b_n0.mp h_6) hn
theorem c_CellTransport_clear {dA : Nat → ClassId} {ad : Nat → Nat} {M : z_M}  : z_CV y_CellTransport_clear b_CellTransport_clear 1 2 dA ad [.ref (ad 0)] M (f_rst 6 0 (f_fl M 34 5 0)) := by
  refine z_ofV [some (.ref (ad 0))] (by decide) (Nat.le_of_ble_eq_true rfl) rfl (fun k C E => ?_)
  have C : z_C dA ad k b_CellTransport_clear "CellTransport" 2 1 := C
  refine x_aload_n C d_CellTransport_clear_0 (i := 0) rfl rfl ?_
  refine g_CellTransport_counts C lk_CellTransport_33 d_CellTransport_clear_1 ?_
  refine x_callVNv C (c_Counts_reset ) mt_Counts_reset zl_Counts (zc_Counts _) rfl rfl rfl (Nat.le_of_ble_eq_true rfl) (Nat.le_of_ble_eq_true rfl) lk_CellTransport_153 d_CellTransport_clear_4 ?_
  exact x_vret C E rfl d_CellTransport_clear_7
