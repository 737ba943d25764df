theorem lp_Model_at {dA : Nat → ClassId} {ad : Nat → Nat} {M : z_M} {k : z_K} (hR : ∀ r, r < 6 → z_okR (z_V M) r) {x y r0 : Int32} (C : z_C dA ad k b_Model_at "CellTransportModel" 2 4) (E : z_RI dA ad k .int r0 M) :
    ∀ (n i : Nat), i + n = 6 → f_ca (z_V M) x y n i = r0 → z_X dA ad k 2 [some (.ref (ad 53)), some (.int x), some (.int y), some (.int (nI i))] [] M := by
  intro n
  induction n with
  | zero =>
    intro i hi hr
    refine x_iload_n C d_Model_at_2 (i := 3) rfl rfl ?_
    refine x_bipush C (6) d_Model_at_3 rfl ?_
    refine x_icmp_ge C 35 d_Model_at_5 rfl (fun h_5 => ?_) (fun h_5 => absurd (show (6 : Int32) ≤ nI i from nI_le (a := 6) (by omega) (by omega)) h_5)
    refine x_bipush C (6) d_Model_at_35 rfl ?_
    exact x_iret C E hr rfl d_Model_at_37
  | succ n ih =>
    intro i hi hr
    have hi6 : i < 6 := by omega
    obtain ⟨sz, hsz, hs0, ht⟩ := hR i hi6
    have hs : M 61 i = nI sz := (z_V_at (z_m_reg hi6)).symm.trans hs0
    have ed : z_V M (i_cell i) 1 = M 62 i := z_V_at (z_m_cell hi6).1
    have ez : (z_V M (i_reg i) 1).toNatClampNeg = sz := by rw [hs0]; exact nI_clamp (by omega)
    refine x_iload_n C d_Model_at_2 (i := 3) rfl rfl ?_
    refine x_bipush C (6) d_Model_at_3 rfl ?_
    refine x_icmp_ge C 35 d_Model_at_5 rfl (fun h_5 => absurd (show nI 6 ≤ nI i from h_5) (nI_ge (by omega) (by decide))) (fun h_5 => ?_)
    refine x_aload_n C d_Model_at_8 (i := 0) rfl rfl ?_
    refine g_Model_defined C lk_Model_35 d_Model_at_9 ?_
    refine x_iload_n C d_Model_at_12 (i := 3) rfl rfl ?_
    refine rn_ld_m_defined C  hi6 d_Model_at_13 ?_
    refine x_if_eq C 29 d_Model_at_14 rfl (fun h_14 => ?_) (fun h_14 => ?_)
    · refine x_iinc C (nI (i + 1)) d_Model_at_29 rfl (z_inc i) rfl ?_
      refine x_goto C 2 d_Model_at_32 rfl ?_
      exact ih (i + 1) (by omega) (by rw [← hr]; exact (if_neg (fun q => q.1 (ed.trans h_14))).symm)
    · refine x_aload_n C d_Model_at_17 (i := 0) rfl rfl ?_
      refine x_iload_n C d_Model_at_18 (i := 3) rfl rfl ?_
      refine x_iload_n C d_Model_at_19 (i := 1) rfl rfl ?_
      refine x_iload_n C d_Model_at_20 (i := 2) rfl rfl ?_
      refine x_callVi C (c_Model_inside hi6 hsz hs ht _ _) mt_Model_inside zl_Model (zc_Model _) rfl rfl rfl (Nat.le_of_ble_eq_true rfl) (Nat.le_of_ble_eq_true rfl) lk_Model_100 d_Model_at_21 ?_
      refine x_if_eq C 29 d_Model_at_24 rfl (fun h_24 => ?_) (fun h_24 => ?_)
      · refine x_iinc C (nI (i + 1)) d_Model_at_29 rfl (z_inc i) rfl ?_
        refine x_goto C 2 d_Model_at_32 rfl ?_
        exact ih (i + 1) (by omega) (by rw [← hr]; exact (if_neg (fun q => z_b_0.mp h_24 (by have q2 : f_rl (z_V M) (z_V M (i_tok i)) x y (z_V M (i_reg i) 1).toNatClampNeg 0 0 = 1 := q.2; rw [ez] at q2; exact q2))).symm)
      · refine x_iload_n C d_Model_at_27 (i := 3) rfl rfl ?_
        exact x_iret C E (by rw [← hr]; exact (if_pos ⟨fun q => h_14 (ed.symm.trans q), by have h9 := z_b_n0.mp h_24; show f_rl (z_V M) (z_V M (i_tok i)) x y (z_V M (i_reg i) 1).toNatClampNeg 0 0 = 1; rw [ez]; exact h9⟩).symm) rfl d_Model_at_28
theorem c_Model_at {dA : Nat → ClassId} {ad : Nat → Nat} {M : z_M} (hR : ∀ r, r < 6 → z_okR (z_V M) r) (x y : Int32) : z_CI y_Model_at b_Model_at 4 .int 2 dA ad [.ref (ad 53), .int x, .int y] M (f_ca (z_V M) x y 6 0) (M) := by
  refine z_ofI [some (.ref (ad 53)), some (.int x), some (.int y), none] (by decide) (Nat.le_of_ble_eq_true rfl) rfl (fun k C E => ?_)
  have C : z_C dA ad k b_Model_at "CellTransportModel" 2 4 := C
  refine x_iconst C (0) d_Model_at_0 rfl ?_
  refine x_istore_n C d_Model_at_1 (i := 3) rfl rfl ?_
  exact lp_Model_at hR C E 6 0 (by omega) rfl
theorem c_Model_whereN {dA : Nat → ClassId} {ad : Nat → Nat} {M : z_M} {x y : Int32} (hn : ¬ p_wth x y 1000) : z_CI y_Model_where b_Model_where 3 .int 3 dA ad [.ref (ad 53), .int x, .int y] M (-1) (M) := by
  refine z_ofI [some (.ref (ad 53)), some (.int x), some (.int y)] (by decide) (Nat.le_of_ble_eq_true rfl) rfl (fun k C E => ?_)
  have C : z_C dA ad k b_Model_where "CellTransportModel" 3 3 := C
  refine x_iload_n C d_Model_where_0 (i := 1) rfl rfl ?_
  refine x_sipush C (-1000) d_Model_where_1 rfl ?_
  refine x_sipush C (1000) d_Model_where_4 rfl ?_
  refine x_callSi C (c_Model_out _ _ _) mt_Model_out rfl rfl (Nat.le_of_ble_eq_true rfl) (Nat.le_of_ble_eq_true rfl) lk_Model_66 d_Model_where_7 ?_
  refine x_if_ne C 26 d_Model_where_10 rfl (fun h_10 => ?_) (fun h_10 => ?_)
  · refine x_iconst C (-1) d_Model_where_26 rfl ?_
    exact x_iret C E rfl rfl d_Model_where_27
  · refine x_iload_n C d_Model_where_13 (i := 2) rfl rfl ?_
    refine x_sipush C (-1000) d_Model_where_14 rfl ?_
    refine x_sipush C (1000) d_Model_where_17 rfl ?_
    refine x_callSi C (c_Model_out _ _ _) mt_Model_out rfl rfl (Nat.le_of_ble_eq_true rfl) (Nat.le_of_ble_eq_true rfl) lk_Model_66 d_Model_where_20 ?_
    refine x_if_eq C 28 d_Model_where_23 rfl (fun h_23 => ?_) (fun h_23 => ?_)
    · exact absurd ⟨z_out0 h_10, z_out0 h_23⟩ hn
    · refine x_iconst C (-1) d_Model_where_26 rfl ?_
      exact x_iret C E rfl rfl d_Model_where_27
theorem c_Model_whereY {dA : Nat → ClassId} {ad : Nat → Nat} {M : z_M} (hR : ∀ r, r < 6 → z_okR (z_V M) r) {x y : Int32} (hp : p_wth x y 1000) : z_CI y_Model_where b_Model_where 3 .int 3 dA ad [.ref (ad 53), .int x, .int y] M (f_ca (z_V M) x y 6 0) (M) := by
  refine z_ofI [some (.ref (ad 53)), some (.int x), some (.int y)] (by decide) (Nat.le_of_ble_eq_true rfl) rfl (fun k C E => ?_)
  have C : z_C dA ad k b_Model_where "CellTransportModel" 3 3 := C
  refine x_iload_n C d_Model_where_0 (i := 1) rfl rfl ?_
  refine x_sipush C (-1000) d_Model_where_1 rfl ?_
  refine x_sipush C (1000) d_Model_where_4 rfl ?_
  refine x_callSi C (c_Model_out _ _ _) mt_Model_out rfl rfl (Nat.le_of_ble_eq_true rfl) (Nat.le_of_ble_eq_true rfl) lk_Model_66 d_Model_where_7 ?_
  refine x_if_ne C 26 d_Model_where_10 rfl (fun h_10 => absurd hp.1 (z_b_n0.mp h_10)) (fun h_10 => ?_)
  refine x_iload_n C d_Model_where_13 (i := 2) rfl rfl ?_
  refine x_sipush C (-1000) d_Model_where_14 rfl ?_
  refine x_sipush C (1000) d_Model_where_17 rfl ?_
  refine x_callSi C (c_Model_out _ _ _) mt_Model_out rfl rfl (Nat.le_of_ble_eq_true rfl) (Nat.le_of_ble_eq_true rfl) lk_Model_66 d_Model_where_20 ?_
  refine x_if_eq C 28 d_Model_where_23 rfl (fun h_23 => ?_) (fun h_23 => absurd hp.2 (z_b_n0.mp h_23))
  refine x_aload_n C d_Model_where_28 (i := 0) rfl rfl ?_
  refine x_iload_n C d_Model_where_29 (i := 1) rfl rfl ?_
  refine x_iload_n C d_Model_where_30 (i := 2) rfl rfl ?_
  refine x_callVi C (c_Model_at hR _ _) mt_Model_at zl_Model (zc_Model _) rfl rfl rfl (Nat.le_of_ble_eq_true rfl) (Nat.le_of_ble_eq_true rfl) lk_Model_103 d_Model_where_31 ?_
  exact x_iret C E rfl rfl d_Model_where_34
theorem c_Model_reachN {dA : Nat → ClassId} {ad : Nat → Nat} {M : z_M} {x y dr : Int32} (hn : ¬ (p_wth x y 1000 ∧ p_btw dr 0 7)) : z_CI y_Model_reach b_Model_reach 6 .int 3 dA ad [.ref (ad 53), .int x, .int y, .int dr] M (-1) (M) := by
  refine z_ofI [some (.ref (ad 53)), some (.int x), some (.int y), some (.int dr), none, none] (by decide) (Nat.le_of_ble_eq_true rfl) rfl (fun k C E => ?_)
  have C : z_C dA ad k b_Model_reach "CellTransportModel" 3 6 := C
  refine x_iload_n C d_Model_reach_0 (i := 1) rfl rfl ?_
  refine x_sipush C (-1000) d_Model_reach_1 rfl ?_
  refine x_sipush C (1000) d_Model_reach_4 rfl ?_
  refine x_callSi C (c_Model_out _ _ _) mt_Model_out rfl rfl (Nat.le_of_ble_eq_true rfl) (Nat.le_of_ble_eq_true rfl) lk_Model_66 d_Model_reach_7 ?_
  refine x_if_ne C 36 d_Model_reach_10 rfl (fun h_10 => ?_) (fun h_10 => ?_)
  · refine x_iconst C (-1) d_Model_reach_36 rfl ?_
    exact x_iret C E rfl rfl d_Model_reach_37
  · refine x_iload_n C d_Model_reach_13 (i := 2) rfl rfl ?_
    refine x_sipush C (-1000) d_Model_reach_14 rfl ?_
    refine x_sipush C (1000) d_Model_reach_17 rfl ?_
    refine x_callSi C (c_Model_out _ _ _) mt_Model_out rfl rfl (Nat.le_of_ble_eq_true rfl) (Nat.le_of_ble_eq_true rfl) lk_Model_66 d_Model_reach_20 ?_
    refine x_if_ne C 36 d_Model_reach_23 rfl (fun h_23 => ?_) (fun h_23 => ?_)
    · refine x_iconst C (-1) d_Model_reach_36 rfl ?_
      exact x_iret C E rfl rfl d_Model_reach_37
    · refine x_iload_n C d_Model_reach_26 (i := 3) rfl rfl ?_
      refine x_iconst C (0) d_Model_reach_27 rfl ?_
      refine x_bipush C (7) d_Model_reach_28 rfl ?_
      refine x_callSi C (c_Model_out _ _ _) mt_Model_out rfl rfl (Nat.le_of_ble_eq_true rfl) (Nat.le_of_ble_eq_true rfl) lk_Model_66 d_Model_reach_30 ?_
      refine x_if_eq C 38 d_Model_reach_33 rfl (fun h_33 => ?_) (fun h_33 => ?_)
      · exact absurd ⟨⟨z_out0 h_10, z_out0 h_23⟩, z_out0 h_33⟩ hn
      · refine x_iconst C (-1) d_Model_reach_36 rfl ?_
        exact x_iret C E rfl rfl d_Model_reach_37
theorem lp_Model_reach {dA : Nat → ClassId} {ad : Nat → Nat} {M : z_M} {k : z_K} (hR : ∀ r, r < 6 → z_okR (z_V M) r) {x y home r0 : Int32} {dd : Nat} (hd : dd < 8) (C : z_C dA ad k b_Model_reach "CellTransportModel" 3 6) (E : z_RI dA ad k .int r0 M) :
    ∀ (n i : Nat), i + n = 200 → f_rc (z_V M) x y dd home n (i + 1) = r0 → z_X dA ad k 49 [some (.ref (ad 53)), some (.int x), some (.int y), some (.int (nI dd)), some (.int home), some (.int (nI i))] [] M := by
  intro n
  induction n with
  | zero =>
    intro i hi hr
    refine x_iload C d_Model_reach_49 rfl ?_
    refine x_sipush C (200) d_Model_reach_51 rfl ?_
    refine x_icmp_ge C 94 d_Model_reach_54 rfl (fun h_54 => ?_) (fun h_54 => absurd (show (200 : Int32) ≤ nI i from nI_le (a := 200) (by omega) (by omega)) h_54)
    refine x_iload C d_Model_reach_94 rfl ?_
    exact x_iret C E (by rw [← hr, show i = 200 by omega]; rfl) rfl d_Model_reach_96
  | succ n ih =>
    intro i hi hr
    refine x_iload C d_Model_reach_49 rfl ?_
    refine x_sipush C (200) d_Model_reach_51 rfl ?_
    refine x_icmp_ge C 94 d_Model_reach_54 rfl (fun h_54 => absurd (show nI 200 ≤ nI i from h_54) (nI_ge (by omega) (by decide))) (fun h_54 => ?_)
    refine x_aload_n C d_Model_reach_57 (i := 0) rfl rfl ?_
    refine x_iload_n C d_Model_reach_58 (i := 1) rfl rfl ?_
    refine x_iload C d_Model_reach_59 rfl ?_
    refine x_iconst C (1) d_Model_reach_61 rfl ?_
    refine x_iadd C d_Model_reach_62 ?_
    refine x_eqi (nI_1 i) ?_
    refine x_iload_n C d_Model_reach_63 (i := 3) rfl rfl ?_
    refine x_callSi C (c_Model_stepX hd) mt_Model_stepX rfl rfl (Nat.le_of_ble_eq_true rfl) (Nat.le_of_ble_eq_true rfl) lk_Model_107 d_Model_reach_64 ?_
    refine x_imul C d_Model_reach_67 ?_
    refine x_iadd C d_Model_reach_68 ?_
    refine x_iload_n C d_Model_reach_69 (i := 2) rfl rfl ?_
    refine x_iload C d_Model_reach_70 rfl ?_
    refine x_iconst C (1) d_Model_reach_72 rfl ?_
    refine x_iadd C d_Model_reach_73 ?_
    refine x_eqi (nI_1 i) ?_
    refine x_iload_n C d_Model_reach_74 (i := 3) rfl rfl ?_
    refine x_callSi C (c_Model_stepY hd) mt_Model_stepY rfl rfl (Nat.le_of_ble_eq_true rfl) (Nat.le_of_ble_eq_true rfl) lk_Model_110 d_Model_reach_75 ?_
    refine x_imul C d_Model_reach_78 ?_
    refine x_iadd C d_Model_reach_79 ?_
    refine x_callVi C (c_Model_at hR _ _) mt_Model_at zl_Model (zc_Model _) rfl rfl rfl (Nat.le_of_ble_eq_true rfl) (Nat.le_of_ble_eq_true rfl) lk_Model_103 d_Model_reach_80 ?_
    refine x_iload C d_Model_reach_83 rfl ?_
    refine x_icmp_ne C 94 d_Model_reach_85 rfl (fun h_85 => ?_) (fun h_85 => ?_)
    · refine x_iload C d_Model_reach_94 rfl ?_
      exact x_iret C E (by rw [← hr]; exact ((if_neg h_85).trans (nI_pred i)).symm) rfl d_Model_reach_96
    · refine x_iinc C (nI (i + 1)) d_Model_reach_88 rfl (z_inc i) rfl ?_
      refine x_goto C 49 d_Model_reach_91 rfl ?_
      exact ih (i + 1) (by omega) (by rw [← hr]; exact (if_pos h_85).symm)
theorem c_Model_reachY {dA : Nat → ClassId} {ad : Nat → Nat} {M : z_M} (hR : ∀ r, r < 6 → z_okR (z_V M) r) {x y : Int32} {dd : Nat} (hd : dd < 8) (hp : p_wth x y 1000) : z_CI y_Model_reach b_Model_reach 6 .int 3 dA ad [.ref (ad 53), .int x, .int y, .int (nI dd)] M (f_rc (z_V M) x y dd (f_ca (z_V M) x y 6 0) 200 1) (M) := by
  refine z_ofI [some (.ref (ad 53)), some (.int x), some (.int y), some (.int (nI dd)), none, none] (by decide) (Nat.le_of_ble_eq_true rfl) rfl (fun k C E => ?_)
  have C : z_C dA ad k b_Model_reach "CellTransportModel" 3 6 := C
  refine x_iload_n C d_Model_reach_0 (i := 1) rfl rfl ?_
  refine x_sipush C (-1000) d_Model_reach_1 rfl ?_
  refine x_sipush C (1000) d_Model_reach_4 rfl ?_
  refine x_callSi C (c_Model_out _ _ _) mt_Model_out rfl rfl (Nat.le_of_ble_eq_true rfl) (Nat.le_of_ble_eq_true rfl) lk_Model_66 d_Model_reach_7 ?_
  refine x_if_ne C 36 d_Model_reach_10 rfl (fun h_10 => absurd hp.1 (z_b_n0.mp h_10)) (fun h_10 => ?_)
  refine x_iload_n C d_Model_reach_13 (i := 2) rfl rfl ?_
  refine x_sipush C (-1000) d_Model_reach_14 rfl ?_
  refine x_sipush C (1000) d_Model_reach_17 rfl ?_
  refine x_callSi C (c_Model_out _ _ _) mt_Model_out rfl rfl (Nat.le_of_ble_eq_true rfl) (Nat.le_of_ble_eq_true rfl) lk_Model_66 d_Model_reach_20 ?_
  refine x_if_ne C 36 d_Model_reach_23 rfl (fun h_23 => absurd hp.2 (z_b_n0.mp h_23)) (fun h_23 => ?_)
  refine x_iload_n C d_Model_reach_26 (i := 3) rfl rfl ?_
  refine x_iconst C (0) d_Model_reach_27 rfl ?_
  refine x_bipush C (7) d_Model_reach_28 rfl ?_
  refine x_callSi C (c_Model_out _ _ _) mt_Model_out rfl rfl (Nat.le_of_ble_eq_true rfl) (Nat.le_of_ble_eq_true rfl) lk_Model_66 d_Model_reach_30 ?_
  refine x_if_eq C 38 d_Model_reach_33 rfl (fun h_33 => ?_) (fun h_33 => absurd (z_in (n := 7) (by omega) (by decide)) (z_b_n0.mp h_33))
  refine x_aload_n C d_Model_reach_38 (i := 0) rfl rfl ?_
  refine x_iload_n C d_Model_reach_39 (i := 1) rfl rfl ?_
  refine x_iload_n C d_Model_reach_40 (i := 2) rfl rfl ?_
  refine x_callVi C (c_Model_at hR _ _) mt_Model_at zl_Model (zc_Model _) rfl rfl rfl (Nat.le_of_ble_eq_true rfl) (Nat.le_of_ble_eq_true rfl) lk_Model_103 d_Model_reach_41 ?_
  refine x_istore C d_Model_reach_44 rfl ?_
  refine x_iconst C (0) d_Model_reach_46 rfl ?_
  refine x_istore C d_Model_reach_47 rfl ?_
  exact lp_Model_reach hR hd C E 200 0 (by omega) rfl
def z_GN (M : z_M) : Prop := ∃ g : Nat, g < 2 ^ 31 ∧ M 53 15 = nI g
def g_dr (M : z_M) : z_M := z_sv M 53 15 (f_nx (M 53 15))
theorem g_dr_GN (M : z_M) : z_GN (g_dr M) := by
  obtain ⟨g, h1, h2⟩ := f_nx_n (M 53 15)
  exact ⟨g, h1, (z_sv_self _ _ _ _).trans h2⟩
def g_t1 (M : z_M) : z_M := z_sv (g_dr M) 53 25 (z_rm (f_nx (M 53 15) / 256) (nI 8))
def g_turn (M : z_M) : z_M := z_sv (g_dr (g_t1 M)) 53 26 (1 + z_rm (f_nx (g_t1 M 53 15) / 256) (nI 2000))
theorem g_t1_GN (M : z_M) : z_GN (g_t1 M) := by
  obtain ⟨g, h1, h2⟩ := g_dr_GN M
  exact ⟨g, h1, (z_sv_get _ _ _ _ _ _ (Or.inr (by decide))).trans h2⟩
theorem g_turn_GN (M : z_M) : z_GN (g_turn M) := by
  obtain ⟨g, h1, h2⟩ := g_dr_GN (g_t1 M)
  exact ⟨g, h1, (z_sv_get _ _ _ _ _ _ (Or.inr (by decide))).trans h2⟩
def z_kq (M M2 : z_M) : Prop := ∀ a, (a < 53 ∨ (54 ≤ a ∧ a < 66)) → M2 a = M a
theorem z_kq.rf {M : z_M} : z_kq M M := fun _ _ => rfl
theorem z_kq.tr {M M2 M3 : z_M} (h : z_kq M M2) (g : z_kq M2 M3) : z_kq M M3 := fun a ha => (g a ha).trans (h a ha)
theorem z_kq.sv {M0 M : z_M} (h : z_kq M0 M) {k : Nat} (h1 : k = 53 ∨ 66 ≤ k) (j : Nat) (v : Int32) : z_kq M0 (z_sv M k j v) := fun a ha => (z_sv_row M j v (by omega)).trans (h a ha)
theorem z_okV_kq {M M2 : z_M} (h : z_kq M M2) (hR : ∀ r, r < 6 → z_okR (z_V M) r) : ∀ r, r < 6 → z_okR (z_V M2) r := by
  intro r hr
  obtain ⟨sz, h1, h2, h3⟩ := hR r hr
  have e61 : M2 61 = M 61 := h 61 (by omega)
  have e60 : M2 60 = M 60 := h 60 (by omega)
  refine ⟨sz, h1, ?_, fun t ht => ?_⟩
  · rw [z_V_at (z_m_reg hr), e61, ← z_V_at (B := M) (z_m_reg hr)]; exact h2
  · rw [z_V_at (z_m_tok hr (show t < 8 by omega)), e60, ← z_V_at (B := M) (z_m_tok hr (show t < 8 by omega))]; exact h3 t ht
theorem g_dr_kq {M0 M : z_M} (h : z_kq M0 M) : z_kq M0 (g_dr M) := h.sv (Or.inl rfl) _ _
theorem g_turn_kq {M0 M : z_M} (h : z_kq M0 M) : z_kq M0 (g_turn M) := (g_dr_kq ((g_dr_kq h).sv (Or.inl rfl) _ _)).sv (Or.inl rfl) _ _
def z_LD (M : z_M) (d : Nat) : Prop := ∃ w, w + d ≤ 12 ∧ M 53 21 = nI w ∧ M 53 22 = nI (w + d)
theorem z_LD.eq {M M2 : z_M} {d : Nat} (h : z_LD M d) (e1 : M2 53 21 = M 53 21) (e2 : M2 53 22 = M 53 22) : z_LD M2 d := by
  obtain ⟨w, h1, h2, h3⟩ := h
  exact ⟨w, h1, e1.trans h2, e2.trans h3⟩
def g_jn (M : z_M) (w jn : Nat) : z_M := z_sv (z_sv (z_sv (z_sv M 69 w (M 53 23)) 70 w (M 53 24)) 53 21 (nI (w + 1))) 53 22 (nI (jn + 1))
def g_j1 (M : z_M) : z_M := if M 53 22 = nI 12 then z_sv M 68 3 (M 68 3 + 1) else g_jn M (M 53 21).toNatClampNeg (M 53 22).toNatClampNeg
theorem g_j1_full {M : z_M} (h : M 53 22 = nI 12) : g_j1 M = z_sv M 68 3 (M 68 3 + 1) := if_pos h
theorem g_j1_open {M : z_M} {w jn : Nat} (hw : M 53 21 = nI w) (hj : M 53 22 = nI jn) (h1 : w < 12) (h2 : jn < 12) : g_j1 M = g_jn M w jn := by
  unfold g_j1
  rw [if_neg (fun q => by rw [hj] at q; have := (nI_eq (by omega) (by decide)).mp q; omega), hw, hj, nI_clamp (by omega), nI_clamp (by omega)]
theorem g_jn_kq {M0 M : z_M} (h : z_kq M0 M) (w jn : Nat) : z_kq M0 (g_jn M w jn) := (((h.sv (k := 69) (by omega) _ _).sv (k := 70) (by omega) _ _).sv (k := 53) (by omega) _ _).sv (k := 53) (by omega) _ _
theorem g_j1_kq {M0 M : z_M} (h : z_kq M0 M) : z_kq M0 (g_j1 M) := by
  by_cases q : M 53 22 = nI 12
  · rw [g_j1_full q]; exact h.sv (by omega) _ _
  · rw [g_j1, if_neg q]; exact g_jn_kq h _ _
theorem g_jn_at (M : z_M) (w jn : Nat) {b : Nat} (h1 : b ≠ 21) (h2 : b ≠ 22) : g_jn M w jn 53 b = M 53 b := by
  unfold g_jn
  rw [z_sv_get _ _ _ _ _ _ (Or.inr h2), z_sv_get _ _ _ _ _ _ (Or.inr h1), z_sv_get _ _ _ _ _ _ (Or.inl (by decide)), z_sv_get _ _ _ _ _ _ (Or.inl (by decide))]
theorem g_j1_at (M : z_M) {b : Nat} (h1 : b ≠ 21) (h2 : b ≠ 22) : g_j1 M 53 b = M 53 b := by
  by_cases q : M 53 22 = nI 12
  · rw [g_j1_full q]; exact z_sv_get _ _ _ _ _ _ (Or.inl (by decide))
  · rw [g_j1, if_neg q]; exact g_jn_at _ _ _ h1 h2
theorem g_j1_LD {M : z_M} {d : Nat} (h : z_LD M d) : z_LD (g_j1 M) d := by
  obtain ⟨w, h1, h2, h3⟩ := h
  by_cases hj : w + d < 12
  · rw [g_j1_open h2 h3 (by omega) hj]
    refine ⟨w + 1, by omega, ?_, ?_⟩
    · unfold g_jn
      rw [z_sv_get _ _ _ _ _ _ (Or.inr (by decide)), z_sv_self]
    · unfold g_jn
      rw [z_sv_self, show w + d + 1 = w + 1 + d by omega]
  · rw [g_j1_full (by rw [h3, show w + d = 12 by omega])]
    exact z_LD.eq ⟨w, h1, h2, h3⟩ (z_sv_get _ _ _ _ _ _ (Or.inl (by decide))) (z_sv_get _ _ _ _ _ _ (Or.inl (by decide)))
theorem c_Model_turn {dA : Nat → ClassId} {ad : Nat → Nat} {M : z_M} (hg : z_GN M) : z_CV y_Model_turn b_Model_turn 1 1 dA ad [.ref (ad 53)] M (g_turn M) := by
  refine z_ofV [some (.ref (ad 53))] (by decide) (Nat.le_of_ble_eq_true rfl) rfl (fun k C E => ?_)
  have C : z_C dA ad k b_Model_turn "CellTransportModel" 1 1 := C
  obtain ⟨g, hg1, hg2⟩ := hg
  obtain ⟨g2, hg3, hg4⟩ := g_t1_GN M
  refine x_aload_n C d_Model_turn_0 (i := 0) rfl rfl ?_
  refine x_aload_n C d_Model_turn_1 (i := 0) rfl rfl ?_
  refine x_bipush C (nI 8) d_Model_turn_2 rfl ?_
  refine x_callVi C (c_Model_draw (kk := 8) hg1 hg2 (by decide) (by decide)) mt_Model_draw zl_Model (zc_Model _) rfl rfl rfl (Nat.le_of_ble_eq_true rfl) (Nat.le_of_ble_eq_true rfl) lk_Model_93 d_Model_turn_4 ?_
  refine u_Model_direction C lk_Model_113 d_Model_turn_7 ?_
  refine x_eqM (M2 := g_t1 M) rfl ?_
  refine x_aload_n C d_Model_turn_10 (i := 0) rfl rfl ?_
  refine x_iconst C (1) d_Model_turn_11 rfl ?_
  refine x_aload_n C d_Model_turn_12 (i := 0) rfl rfl ?_
  refine x_sipush C (nI 2000) d_Model_turn_13 rfl ?_
  refine x_callVi C (c_Model_draw (M := g_t1 M) (kk := 2000) hg3 hg4 (by decide) (by decide)) mt_Model_draw zl_Model (zc_Model _) rfl rfl rfl (Nat.le_of_ble_eq_true rfl) (Nat.le_of_ble_eq_true rfl) lk_Model_93 d_Model_turn_16 ?_
  refine x_iadd C d_Model_turn_19 ?_
  refine u_Model_budget C lk_Model_116 d_Model_turn_20 ?_
  exact x_vret C E rfl d_Model_turn_23
theorem c_Model_joinO {dA : Nat → ClassId} {ad : Nat → Nat} {M : z_M} {w jn : Nat} (ew : M 53 21 = nI w) (ej : M 53 22 = nI jn) (hw : w < 12) (hj : jn < 12) : z_CV y_Model_join b_Model_join 1 0 dA ad [.ref (ad 53)] M (g_jn M w jn) := by
  refine z_ofV [some (.ref (ad 53))] (by decide) (Nat.le_of_ble_eq_true rfl) rfl (fun k C E => ?_)
  have C : z_C dA ad k b_Model_join "CellTransportModel" 0 1 := C
  refine x_aload_n C d_Model_join_0 (i := 0) rfl rfl ?_
  refine g_Model_particles C lk_Model_119 d_Model_join_1 ?_
  refine x_eqi ej ?_
  refine x_bipush C (12) d_Model_join_4 rfl ?_
  refine x_icmp_ne C 20 d_Model_join_6 rfl (fun h_6 => ?_) (fun h_6 => absurd ((nI_eq (a := jn) (b := 12) (by omega) (by decide)).mp h_6) (by omega))
  refine x_aload_n C d_Model_join_20 (i := 0) rfl rfl ?_
  refine g_Model_px C lk_Model_60 d_Model_join_21 ?_
  refine x_aload_n C d_Model_join_24 (i := 0) rfl rfl ?_
  refine g_Model_waiting C lk_Model_122 d_Model_join_25 ?_
  refine x_eqi ew ?_
  refine x_aload_n C d_Model_join_28 (i := 0) rfl rfl ?_
  refine g_Model_x C lk_Model_125 d_Model_join_29 ?_
  refine x_eqi rfl ?_
  refine rn_st_m_px C  hw d_Model_join_32 ?_
  refine x_aload_n C d_Model_join_33 (i := 0) rfl rfl ?_
  refine g_Model_py C lk_Model_63 d_Model_join_34 ?_
  refine x_aload_n C d_Model_join_37 (i := 0) rfl rfl ?_
  refine g_Model_waiting C lk_Model_122 d_Model_join_38 ?_
  refine x_eqi ((z_sv_get M _ _ _ _ _ (Or.inl (by decide))).trans ew) ?_
  refine x_aload_n C d_Model_join_41 (i := 0) rfl rfl ?_
  refine g_Model_y C lk_Model_128 d_Model_join_42 ?_
  refine x_eqi (z_sv_get M _ _ _ _ _ (Or.inl (by decide))) ?_
  refine rn_st_m_py C  hw d_Model_join_45 ?_
  refine x_aload_n C d_Model_join_46 (i := 0) rfl rfl ?_
  refine x_dup C d_Model_join_47 rfl ?_
  refine g_Model_waiting C lk_Model_122 d_Model_join_48 ?_
  refine x_eqi (((z_sv_get _ _ _ _ _ _ (Or.inl (by decide))).trans (z_sv_get M _ _ _ _ _ (Or.inl (by decide)))).trans ew) ?_
  refine x_iconst C (1) d_Model_join_51 rfl ?_
  refine x_iadd C d_Model_join_52 ?_
  refine x_eqi (nI_1 w) ?_
  refine u_Model_waiting C lk_Model_122 d_Model_join_53 ?_
  refine x_aload_n C d_Model_join_56 (i := 0) rfl rfl ?_
  refine x_dup C d_Model_join_57 rfl ?_
  refine g_Model_particles C lk_Model_119 d_Model_join_58 ?_
  refine x_eqi ((((z_sv_get _ _ _ _ _ _ (Or.inr (by decide))).trans (z_sv_get _ _ _ _ _ _ (Or.inl (by decide)))).trans (z_sv_get M _ _ _ _ _ (Or.inl (by decide)))).trans ej) ?_
  refine x_iconst C (1) d_Model_join_61 rfl ?_
  refine x_iadd C d_Model_join_62 ?_
  refine x_eqi (nI_1 jn) ?_
  refine u_Model_particles C lk_Model_119 d_Model_join_63 ?_
  exact x_vret C E rfl d_Model_join_66
theorem c_Model_joinF {dA : Nat → ClassId} {ad : Nat → Nat} {M : z_M} (ej : M 53 22 = nI 12) : z_CV y_Model_join b_Model_join 1 0 dA ad [.ref (ad 53)] M (z_sv M 68 3 (M 68 3 + 1)) := by
  refine z_ofV [some (.ref (ad 53))] (by decide) (Nat.le_of_ble_eq_true rfl) rfl (fun k C E => ?_)
  have C : z_C dA ad k b_Model_join "CellTransportModel" 0 1 := C
  refine x_aload_n C d_Model_join_0 (i := 0) rfl rfl ?_
  refine g_Model_particles C lk_Model_119 d_Model_join_1 ?_
  refine x_eqi ej ?_
  refine x_bipush C (12) d_Model_join_4 rfl ?_
  refine x_icmp_ne C 20 d_Model_join_6 rfl (fun h_6 => absurd rfl h_6) (fun h_6 => ?_)
  refine x_aload_n C d_Model_join_9 (i := 0) rfl rfl ?_
  refine g_Model_counts C lk_Model_57 d_Model_join_10 ?_
  refine x_iconst C (nI 3) d_Model_join_13 rfl ?_
  refine x_dup2 C d_Model_join_14 rfl rfl ?_
  refine rn_ld_m_counts C  (show 3 < 5 by decide) d_Model_join_15 ?_
  refine x_iconst C (1) d_Model_join_16 rfl ?_
  refine x_iadd C d_Model_join_17 ?_
  refine rn_st_m_counts C  (show 3 < 5 by decide) d_Model_join_18 ?_
  exact x_vret C E rfl d_Model_join_19
theorem c_Model_join {dA : Nat → ClassId} {ad : Nat → Nat} {M : z_M} {d : Nat} (h : z_LD M d) : z_CV y_Model_join b_Model_join 1 0 dA ad [.ref (ad 53)] M (g_j1 M) := by
  obtain ⟨w, h1, h2, h3⟩ := h
  by_cases hj : w + d < 12
  · rw [g_j1_open h2 h3 (by omega) hj]
    exact c_Model_joinO h2 h3 (by omega) hj
  · have e : M 53 22 = nI 12 := by rw [h3, show w + d = 12 by omega]
    rw [g_j1_full e]
    exact c_Model_joinF e
