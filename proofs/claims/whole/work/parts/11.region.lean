theorem lk_cp1 : Cond.native arraycopyName ∈ z_T := z_T_mem (List.mem_append_right _ (List.mem_of_getElem? (i := 262) (by decide +kernel))) rfl
theorem lk_cp2 : Cond.static arraycopyName ∈ z_T := by decide +kernel
theorem lk_cp3 : Cond.initialized "java/lang/System" ∈ z_T := by decide +kernel
theorem z_sv_id (M : z_M) (k j : Nat) : z_sv M k j (M k j) = M := by
  funext a b
  rw [z_sv_at]
  split
  · rename_i h; rw [h.1, h.2]
  · rfl
theorem z_sv_sv (M : z_M) (k j : Nat) (v w : Int32) : z_sv (z_sv M k j v) k j w = z_sv M k j w := by
  funext a b
  rw [z_sv_at, z_sv_at, z_sv_at]
  split <;> rfl
theorem z_sv_get (M : z_M) (k j a b : Nat) (v : Int32) (h : a ≠ k ∨ b ≠ j) : z_sv M k j v a b = M a b := by
  rw [z_sv_at, if_neg (fun q => h.elim (fun z => z q.1) (fun z => z q.2))]
def f_ops (t : Int32) : Int32 := if t = 8 then 2 else if t = 9 then 2 else if t = 10 then 1 else 0
theorem z_o810 {x : Int32} (h8 : ¬ x = 8) (h9 : ¬ x = 9) (h10 : ¬ x = 10) : x.toInt < 8 ∨ 10 < x.toInt := by
  have e8 : ¬ x.toInt = 8 := z_toInt_ne h8
  have e9 : ¬ x.toInt = 9 := z_toInt_ne h9
  have e10 : ¬ x.toInt = 10 := z_toInt_ne h10
  omega
theorem c_Region_operandsOf {dA : Nat → ClassId} {ad : Nat → Nat} {M : z_M} (t : Int32) : z_CI y_Region_operandsOf b_Region_operandsOf 1 .int 0 dA ad [.int t] M (f_ops t) (M) := by
  refine z_ofI [some (.int t)] (by decide) (Nat.le_of_ble_eq_true rfl) rfl (fun k C E => ?_)
  have C : z_C dA ad k b_Region_operandsOf "CellTransport$Region" 0 1 := C
  refine x_iload_n C d_Region_operandsOf_0 (i := 0) rfl rfl ?_
  by_cases h8 : t = 8
  · subst h8
    refine x_tableIn C 28 d_Region_operandsOf_1 (by decide) (by decide) rfl rfl ?_
    refine x_iconst C (2) d_Region_operandsOf_28 rfl ?_
    exact x_iret C E rfl rfl d_Region_operandsOf_29
  · by_cases h9 : t = 9
    · subst h9
      refine x_tableIn C 28 d_Region_operandsOf_1 (by decide) (by decide) rfl rfl ?_
      refine x_iconst C (2) d_Region_operandsOf_28 rfl ?_
      exact x_iret C E rfl rfl d_Region_operandsOf_29
    · by_cases h10 : t = 10
      · subst h10
        refine x_tableIn C 30 d_Region_operandsOf_1 (by decide) (by decide) rfl rfl ?_
        refine x_iconst C (1) d_Region_operandsOf_30 rfl ?_
        exact x_iret C E rfl rfl d_Region_operandsOf_31
      · refine x_tableOut C 32 d_Region_operandsOf_1 (z_o810 h8 h9 h10) rfl ?_
        refine x_iconst C (0) d_Region_operandsOf_32 rfl ?_
        exact x_iret C E (by simp [f_ops, h8, h9, h10]) rfl d_Region_operandsOf_33
theorem c_Region_add {dA : Nat → ClassId} {ad : Nat → Nat} {M : z_M} {j : Nat} (hj : j < 7) (v : Int32) {sz : Nat} (hsz : sz < 8) (hs : M (i_reg j) 1 = nI sz) : z_CV y_Region_add b_Region_add 2 0 dA ad [.ref (ad (i_reg j)), .int v] M (z_sv (z_sv M (i_tok j) sz v) (i_reg j) 1 (nI (sz + 1))) := by
  refine z_ofV [some (.ref (ad (i_reg j))), some (.int v)] (by decide) (Nat.le_of_ble_eq_true rfl) rfl (fun k C E => ?_)
  have C : z_C dA ad k b_Region_add "CellTransport$Region" 0 2 := C
  refine x_aload_n C d_Region_add_0 (i := 0) rfl rfl ?_
  refine g_Region_size C hj lk_Region_15 d_Region_add_1 ?_
  refine x_bipush C (8) d_Region_add_4 rfl ?_
  refine x_icmp_ge C 29 d_Region_add_6 rfl (fun h_6 => ?_) (fun h_6 => ?_)
  · exact x_vret C E (absurd (hs ▸ h_6) (nI_ge hsz (by decide))) d_Region_add_29
  · refine x_aload_n C d_Region_add_9 (i := 0) rfl rfl ?_
    refine g_Region_tokens C hj lk_Region_9 d_Region_add_10 ?_
    refine x_aload_n C d_Region_add_13 (i := 0) rfl rfl ?_
    refine g_Region_size C hj lk_Region_15 d_Region_add_14 ?_
    refine x_eqi hs ?_
    refine x_iload_n C d_Region_add_17 (i := 1) rfl rfl ?_
    refine rn_st_tokens C hj  hsz d_Region_add_18 ?_
    refine x_aload_n C d_Region_add_19 (i := 0) rfl rfl ?_
    refine x_dup C d_Region_add_20 rfl ?_
    refine g_Region_size C hj lk_Region_15 d_Region_add_21 ?_
    refine x_eqi ((z_sv_get M _ _ _ _ v (Or.inl (by unfold i_reg i_tok; omega))).trans hs) ?_
    refine x_iconst C (1) d_Region_add_24 rfl ?_
    refine x_iadd C d_Region_add_25 ?_
    refine x_eqi (nI_1 sz) ?_
    refine u_Region_size C hj lk_Region_15 d_Region_add_26 ?_
    exact x_vret C E rfl d_Region_add_29
def f_cpy (M : z_M) (j : Nat) : z_M := z_sv (va_up M (i_tok j) (va_cpy (M (i_tok 6)) (M (i_tok j)) 0 0 8)) (i_reg j) 1 (M (i_reg 6) 1)
theorem c_Region_copyFrom {dA : Nat → ClassId} {ad : Nat → Nat} {M : z_M} {j : Nat} (hj : j < 6) : z_CV y_Region_copyFrom b_Region_copyFrom 2 1 dA ad [.ref (ad (i_reg j)), .ref (ad (i_reg 6))] M (f_cpy M j) := by
  refine z_ofV [some (.ref (ad (i_reg j))), some (.ref (ad (i_reg 6)))] (by decide) (Nat.le_of_ble_eq_true rfl) rfl (fun k C E => ?_)
  have C : z_C dA ad k b_Region_copyFrom "CellTransport$Region" 1 2 := C
  refine x_aload_n C d_Region_copyFrom_0 (i := 1) rfl rfl ?_
  refine g_Region_tokens C z_6 lk_Region_9 d_Region_copyFrom_1 ?_
  refine x_iconst C (0) d_Region_copyFrom_4 rfl ?_
  refine x_aload_n C d_Region_copyFrom_5 (i := 0) rfl rfl ?_
  refine g_Region_tokens C (z_67 hj) lk_Region_9 d_Region_copyFrom_6 ?_
  refine x_iconst C (0) d_Region_copyFrom_9 rfl ?_
  refine x_bipush C (8) d_Region_copyFrom_10 rfl ?_
  refine x_copy C (t0 := 0) (zl_tokens z_6) (zl_tokens (z_67 hj)) (fun f => zc_tokens z_6 f) (fun f => zc_tokens (z_67 hj) f) rfl (by decide) (by decide) (by decide) (by decide) (by decide) (by decide) (by decide) lk_Region_19 lk_cp1 lk_cp2 lk_cp3 d_Region_copyFrom_12 ?_
  refine x_aload_n C d_Region_copyFrom_15 (i := 0) rfl rfl ?_
  refine x_aload_n C d_Region_copyFrom_16 (i := 1) rfl rfl ?_
  refine g_Region_size C z_6 lk_Region_15 d_Region_copyFrom_17 ?_
  refine x_eqi (show va_up M (i_tok j) _ (i_reg 6) 1 = M (i_reg 6) 1 from congrFun (va_up_ne M _ (show i_reg 6 ≠ i_tok j by unfold i_reg i_tok; omega)) 1) ?_
  refine u_Region_size C (z_67 hj) lk_Region_15 d_Region_copyFrom_20 ?_
  exact x_vret C E rfl d_Region_copyFrom_23
def f_wh (tok : Nat → Int32) : Nat → Nat → Int32 → Int32
  | 0, _, o => z_b (o = 1)
  | n + 1, i, o => if f_ops (tok i) ≤ o then f_wh tok n (i + 1) (o + (1 - f_ops (tok i))) else 0
theorem lp_Region_isWhole {dA : Nat → ClassId} {ad : Nat → Nat} {M : z_M} {k : z_K} {j : Nat} (hj : j < 7) {sz : Nat} (hsz : sz ≤ 8) (hs : M (i_reg j) 1 = nI sz) {r0 : Int32} (C : z_C dA ad k b_Region_isWhole "CellTransport$Region" 1 3) (E : z_RI dA ad k .boolean r0 M) :
    ∀ (n i : Nat) (o : Int32), i + n = sz → f_wh (M (i_tok j)) n i o = r0 → z_X dA ad k 4 [some (.ref (ad (i_reg j))), some (.int o), some (.int (nI i))] [] M := by
  intro n
  induction n with
  | zero =>
    intro i o hi hr
    refine x_iload_n C d_Region_isWhole_4 (i := 2) rfl rfl ?_
    refine x_aload_n C d_Region_isWhole_5 (i := 0) rfl rfl ?_
    refine g_Region_size C hj lk_Region_15 d_Region_isWhole_6 ?_
    refine x_eqi hs ?_
    refine x_icmp_ge C 47 d_Region_isWhole_9 rfl (fun h_9 => ?_) (fun h_9 => ?_)
    · refine x_iload_n C d_Region_isWhole_47 (i := 1) rfl rfl ?_
      refine x_iconst C (1) d_Region_isWhole_48 rfl ?_
      refine x_icmp_ne C 56 d_Region_isWhole_49 rfl (fun h_49 => ?_) (fun h_49 => ?_)
      · refine x_iconst C (0) d_Region_isWhole_56 rfl ?_
        exact x_zret C E (hr ▸ (z_b_f h_49).symm) rfl rfl d_Region_isWhole_57
      · refine x_iconst C (1) d_Region_isWhole_52 rfl ?_
        refine x_goto C 57 d_Region_isWhole_53 rfl ?_
        exact x_zret C E (hr ▸ (z_b_t h_49).symm) rfl rfl d_Region_isWhole_57
    · exact absurd (nI_le (by omega) (by omega)) h_9
  | succ n ih =>
    intro i o hi hr
    have hi8 : i < 8 := by omega
    refine x_iload_n C d_Region_isWhole_4 (i := 2) rfl rfl ?_
    refine x_aload_n C d_Region_isWhole_5 (i := 0) rfl rfl ?_
    refine g_Region_size C hj lk_Region_15 d_Region_isWhole_6 ?_
    refine x_eqi hs ?_
    refine x_icmp_ge C 47 d_Region_isWhole_9 rfl (fun h_9 => ?_) (fun h_9 => ?_)
    · exact absurd h_9 (nI_ge (by omega) (by omega))
    · refine x_iload_n C d_Region_isWhole_12 (i := 1) rfl rfl ?_
      refine x_aload_n C d_Region_isWhole_13 (i := 0) rfl rfl ?_
      refine g_Region_tokens C hj lk_Region_9 d_Region_isWhole_14 ?_
      refine x_iload_n C d_Region_isWhole_17 (i := 2) rfl rfl ?_
      refine rn_ld_tokens C hj  hi8 d_Region_isWhole_18 ?_
      refine x_callSi C (c_Region_operandsOf _) mt_Region_operandsOf rfl rfl (Nat.le_of_ble_eq_true rfl) (Nat.le_of_ble_eq_true rfl) lk_Region_25 d_Region_isWhole_19 ?_
      refine x_icmp_ge C 27 d_Region_isWhole_22 rfl (fun h_22 => ?_) (fun h_22 => ?_)
      · refine x_iload_n C d_Region_isWhole_27 (i := 1) rfl rfl ?_
        refine x_iconst C (1) d_Region_isWhole_28 rfl ?_
        refine x_aload_n C d_Region_isWhole_29 (i := 0) rfl rfl ?_
        refine g_Region_tokens C hj lk_Region_9 d_Region_isWhole_30 ?_
        refine x_iload_n C d_Region_isWhole_33 (i := 2) rfl rfl ?_
        refine rn_ld_tokens C hj  hi8 d_Region_isWhole_34 ?_
        refine x_callSi C (c_Region_operandsOf _) mt_Region_operandsOf rfl rfl (Nat.le_of_ble_eq_true rfl) (Nat.le_of_ble_eq_true rfl) lk_Region_25 d_Region_isWhole_35 ?_
        refine x_isub C d_Region_isWhole_38 ?_
        refine x_iadd C d_Region_isWhole_39 ?_
        refine x_istore_n C d_Region_isWhole_40 (i := 1) rfl rfl ?_
        refine x_iinc C (nI (i + 1)) d_Region_isWhole_41 rfl (z_inc i) rfl ?_
        refine x_goto C 4 d_Region_isWhole_44 rfl ?_
        exact ih (i + 1) _ (by omega) (by rw [← hr]; exact (if_pos h_22).symm)
      · refine x_iconst C (0) d_Region_isWhole_25 rfl ?_
        exact x_zret C E (by rw [← hr]; exact (if_neg h_22).symm) rfl rfl d_Region_isWhole_26
theorem c_Region_isWhole {dA : Nat → ClassId} {ad : Nat → Nat} {M : z_M} {j : Nat} (hj : j < 7) {sz : Nat} (hsz : sz ≤ 8) (hs : M (i_reg j) 1 = nI sz) : z_CI y_Region_isWhole b_Region_isWhole 3 .boolean 1 dA ad [.ref (ad (i_reg j))] M (f_wh (M (i_tok j)) sz 0 0) (M) := by
  refine z_ofI [some (.ref (ad (i_reg j))), none, none] (by decide) (Nat.le_of_ble_eq_true rfl) rfl (fun k C E => ?_)
  have C : z_C dA ad k b_Region_isWhole "CellTransport$Region" 1 3 := C
  refine x_iconst C (0) d_Region_isWhole_0 rfl ?_
  refine x_istore_n C d_Region_isWhole_1 (i := 1) rfl rfl ?_
  refine x_iconst C (0) d_Region_isWhole_2 rfl ?_
  refine x_istore_n C d_Region_isWhole_3 (i := 2) rfl rfl ?_
  exact lp_Region_isWhole hj hsz hs C E sz 0 0 (by omega) rfl
def f_rs (M : z_M) (x y o t : Int32) : Int32 := if t = 8 then (if o &&& 1 = 1 then o >>> ((1 : Int32) &&& 31) else (o >>> ((1 : Int32) &&& 31)) &&& (-2)) else if t = 9 then (o >>> ((1 : Int32) &&& 31)) ||| (o &&& 1) else if t = 10 then o ^^^ 1 else (o <<< ((1 : Int32) &&& 31)) ||| z_b (p_sh (M (i_surf t.toNatClampNeg)) x y)
def f_rl (M : z_M) (tok : Nat → Int32) (x y : Int32) : Nat → Nat → Int32 → Int32
  | 0, _, o => o
  | n + 1, i, o => f_rl M tok x y n (i + 1) (f_rs M x y o (tok i))
def z_okR (M : z_M) (r : Nat) : Prop := ∃ sz, sz ≤ 8 ∧ M (i_reg r) 1 = nI sz ∧ ∀ t, t < sz → ∃ v, v ≤ 10 ∧ M (i_tok r) t = nI v
theorem z_small {t : Int32} {v : Nat} (hv : v ≤ 10) (e : t = nI v) (h8 : ¬ t = 8) (h9 : ¬ t = 9) (h10 : ¬ t = 10) : v < 8 := by
  have a8 : v ≠ 8 := fun q => h8 (by rw [e, q]; rfl)
  have a9 : v ≠ 9 := fun q => h9 (by rw [e, q]; rfl)
  have a10 : v ≠ 10 := fun q => h10 (by rw [e, q]; rfl)
  omega
theorem z_bb {P : Prop} [Decidable P] : z_b (¬ z_b P = 0) = z_b P := z_b_iff z_b_n0
theorem lp_Region_holds {dA : Nat → ClassId} {ad : Nat → Nat} {M : z_M} {k : z_K} {j : Nat} (hj : j < 6) {sz : Nat} (hsz : sz ≤ 8) (hs : M (i_reg j) 1 = nI sz) (ht : ∀ t, t < sz → ∃ v, v ≤ 10 ∧ M (i_tok j) t = nI v) {x y r0 : Int32} (C : z_C dA ad k b_Region_holds "CellTransport$Region" 1 8) (E : z_RI dA ad k .boolean r0 M) :
    ∀ (n i : Nat) (o : Int32) (a6 a7 : Option Value), i + n = sz → z_b (f_rl M (M (i_tok j)) x y n i o = 1) = r0 → z_X dA ad k 6 [some (.ref (ad (i_reg j))), some (.ref (ad 2)), some (.int x), some (.int y), some (.int o), some (.int (nI i)), a6, a7] [] M := by
  have hj7 := z_67 hj
  intro n
  induction n with
  | zero =>
    intro i o a6 a7 hi hr
    refine x_iload C d_Region_holds_6 rfl ?_
    refine x_aload_n C d_Region_holds_8 (i := 0) rfl rfl ?_
    refine g_Region_size C hj7 lk_Region_15 d_Region_holds_9 ?_
    refine x_eqi hs ?_
    refine x_icmp_ge C 130 d_Region_holds_12 rfl (fun h_12 => ?_) (fun h_12 => ?_)
    · refine x_iload C d_Region_holds_130 rfl ?_
      refine x_iconst C (1) d_Region_holds_132 rfl ?_
      refine x_icmp_ne C 140 d_Region_holds_133 rfl (fun h_133 => ?_) (fun h_133 => ?_)
      · refine x_iconst C (0) d_Region_holds_140 rfl ?_
        exact x_zret C E (hr ▸ (z_b_f h_133).symm) rfl rfl d_Region_holds_141
      · refine x_iconst C (1) d_Region_holds_136 rfl ?_
        refine x_goto C 141 d_Region_holds_137 rfl ?_
        exact x_zret C E (hr ▸ (z_b_t h_133).symm) rfl rfl d_Region_holds_141
    · exact absurd (nI_le (by omega) (by omega)) h_12
  | succ n ih =>
    intro i o a6 a7 hi hr
    have hi8 : i < 8 := by omega
    refine x_iload C d_Region_holds_6 rfl ?_
    refine x_aload_n C d_Region_holds_8 (i := 0) rfl rfl ?_
    refine g_Region_size C hj7 lk_Region_15 d_Region_holds_9 ?_
    refine x_eqi hs ?_
    refine x_icmp_ge C 130 d_Region_holds_12 rfl (fun h_12 => ?_) (fun h_12 => ?_)
    · exact absurd h_12 (nI_ge (by omega) (by omega))
    · refine x_iload C d_Region_holds_15 rfl ?_
      refine x_iconst C (1) d_Region_holds_17 rfl ?_
      refine x_iand C d_Region_holds_18 ?_
      refine x_istore C d_Region_holds_19 rfl ?_
      refine x_iload C d_Region_holds_21 rfl ?_
      refine x_iconst C (1) d_Region_holds_23 rfl ?_
      refine x_ishr C d_Region_holds_24 ?_
      refine x_istore C d_Region_holds_25 rfl ?_
      refine x_aload_n C d_Region_holds_27 (i := 0) rfl rfl ?_
      refine g_Region_tokens C hj7 lk_Region_9 d_Region_holds_28 ?_
      refine x_iload C d_Region_holds_31 rfl ?_
      refine rn_ld_tokens C hj7  hi8 d_Region_holds_33 ?_
      obtain ⟨v, hv, ev⟩ := ht i (by omega)
      by_cases h8 : M (i_tok j) i = 8
      · refine x_eqi h8 ?_
        refine x_tableIn C 60 d_Region_holds_34 (by decide) (by decide) rfl rfl ?_
        refine x_iload C d_Region_holds_60 rfl ?_
        refine x_iconst C (1) d_Region_holds_62 rfl ?_
        refine x_icmp_ne C 71 d_Region_holds_63 rfl (fun h_63 => ?_) (fun h_63 => ?_)
        · refine x_iload C d_Region_holds_71 rfl ?_
          refine x_bipush C (-2) d_Region_holds_73 rfl ?_
          refine x_iand C d_Region_holds_75 ?_
          refine x_istore C d_Region_holds_76 rfl ?_
          refine x_goto C 124 d_Region_holds_78 rfl ?_
          refine x_iinc C (nI (i + 1)) d_Region_holds_124 rfl (z_inc i) rfl ?_
          refine x_goto C 6 d_Region_holds_127 rfl ?_
          exact ih (i + 1) _ _ _ (by omega) (by rw [← hr]; show _ = z_b (f_rl M (M (i_tok j)) x y n (i + 1) (f_rs M x y o (M (i_tok j) i)) = 1); simp only [f_rs, if_pos h8, h_63, if_true, if_false, ite_true, ite_false, if_neg, not_false_eq_true]; try rfl)
        · refine x_iload C d_Region_holds_66 rfl ?_
          refine x_goto C 76 d_Region_holds_68 rfl ?_
          refine x_istore C d_Region_holds_76 rfl ?_
          refine x_goto C 124 d_Region_holds_78 rfl ?_
          refine x_iinc C (nI (i + 1)) d_Region_holds_124 rfl (z_inc i) rfl ?_
          refine x_goto C 6 d_Region_holds_127 rfl ?_
          exact ih (i + 1) _ _ _ (by omega) (by rw [← hr]; show _ = z_b (f_rl M (M (i_tok j)) x y n (i + 1) (f_rs M x y o (M (i_tok j) i)) = 1); simp only [f_rs, if_pos h8, h_63, if_true, if_false, ite_true, ite_false, if_neg, not_false_eq_true]; try rfl)
      · by_cases h9 : M (i_tok j) i = 9
        · refine x_eqi h9 ?_
          refine x_tableIn C 81 d_Region_holds_34 (by decide) (by decide) rfl rfl ?_
          refine x_iload C d_Region_holds_81 rfl ?_
          refine x_iload C d_Region_holds_83 rfl ?_
          refine x_ior C d_Region_holds_85 ?_
          refine x_istore C d_Region_holds_86 rfl ?_
          refine x_goto C 124 d_Region_holds_88 rfl ?_
          refine x_iinc C (nI (i + 1)) d_Region_holds_124 rfl (z_inc i) rfl ?_
          refine x_goto C 6 d_Region_holds_127 rfl ?_
          exact ih (i + 1) _ _ _ (by omega) (by rw [← hr]; show _ = z_b (f_rl M (M (i_tok j)) x y n (i + 1) (f_rs M x y o (M (i_tok j) i)) = 1); rw [f_rs, if_neg h8, if_pos h9])
        · by_cases h10 : M (i_tok j) i = 10
          · refine x_eqi h10 ?_
            refine x_tableIn C 91 d_Region_holds_34 (by decide) (by decide) rfl rfl ?_
            refine x_iload C d_Region_holds_91 rfl ?_
            refine x_iconst C (1) d_Region_holds_93 rfl ?_
            refine x_ixor C d_Region_holds_94 ?_
            refine x_istore C d_Region_holds_95 rfl ?_
            refine x_goto C 124 d_Region_holds_97 rfl ?_
            refine x_iinc C (nI (i + 1)) d_Region_holds_124 rfl (z_inc i) rfl ?_
            refine x_goto C 6 d_Region_holds_127 rfl ?_
            exact ih (i + 1) _ _ _ (by omega) (by rw [← hr]; show _ = z_b (f_rl M (M (i_tok j)) x y n (i + 1) (f_rs M x y o (M (i_tok j) i)) = 1); rw [f_rs, if_neg h8, if_neg h9, if_pos h10])
          · have hv8 : v < 8 := z_small hv ev h8 h9 h10
            refine x_tableOut C 100 d_Region_holds_34 (z_o810 h8 h9 h10) rfl ?_
            refine x_iload C d_Region_holds_100 rfl ?_
            refine x_iconst C (1) d_Region_holds_102 rfl ?_
            refine x_ishl C d_Region_holds_103 ?_
            refine x_aload_n C d_Region_holds_104 (i := 1) rfl rfl ?_
            refine x_aload_n C d_Region_holds_105 (i := 0) rfl rfl ?_
            refine g_Region_tokens C hj7 lk_Region_9 d_Region_holds_106 ?_
            refine x_iload C d_Region_holds_109 rfl ?_
            refine rn_ld_tokens C hj7  hi8 d_Region_holds_111 ?_
            refine x_eqi ev ?_
            refine rn_al_surfaces C hv8 d_Region_holds_112 ?_
            refine x_iload_n C d_Region_holds_113 (i := 2) rfl rfl ?_
            refine x_iload_n C d_Region_holds_114 (i := 3) rfl rfl ?_
            refine x_callVNi C (c_Surface_holds hv8 _ _) mt_Surface_holds (zl_Surface hv8 ) (zc_Surface hv8 _) rfl rfl rfl (Nat.le_of_ble_eq_true rfl) (Nat.le_of_ble_eq_true rfl) lk_Region_29 d_Region_holds_115 ?_
            refine x_callSNi C (c_CellTransport_oneIf _) mt_CellTransport_oneIf rfl rfl (Nat.le_of_ble_eq_true rfl) (Nat.le_of_ble_eq_true rfl) lk_Region_35 d_Region_holds_118 ?_
            refine x_eqi z_bb ?_
            refine x_ior C d_Region_holds_121 ?_
            refine x_istore C d_Region_holds_122 rfl ?_
            refine x_iinc C (nI (i + 1)) d_Region_holds_124 rfl (z_inc i) rfl ?_
            refine x_goto C 6 d_Region_holds_127 rfl ?_
            exact ih (i + 1) _ _ _ (by omega) (by rw [← hr]; show _ = z_b (f_rl M (M (i_tok j)) x y n (i + 1) (f_rs M x y o (M (i_tok j) i)) = 1); rw [f_rs, if_neg h8, if_neg h9, if_neg h10, ev, nI_clamp (Nat.lt_trans hv8 (by decide))])
theorem c_Region_holds {dA : Nat → ClassId} {ad : Nat → Nat} {M : z_M} {j : Nat} (hj : j < 6) {sz : Nat} (hsz : sz ≤ 8) (hs : M (i_reg j) 1 = nI sz) (ht : ∀ t, t < sz → ∃ v, v ≤ 10 ∧ M (i_tok j) t = nI v) (x y : Int32) : z_CI y_Region_holds b_Region_holds 8 .boolean 1 dA ad [.ref (ad (i_reg j)), .ref (ad 2), .int x, .int y] M (z_b (f_rl M (M (i_tok j)) x y sz 0 0 = 1)) (M) := by
  refine z_ofI [some (.ref (ad (i_reg j))), some (.ref (ad 2)), some (.int x), some (.int y), none, none, none, none] (by decide) (Nat.le_of_ble_eq_true rfl) rfl (fun k C E => ?_)
  have C : z_C dA ad k b_Region_holds "CellTransport$Region" 1 8 := C
  refine x_iconst C (0) d_Region_holds_0 rfl ?_
  refine x_istore C d_Region_holds_1 rfl ?_
  refine x_iconst C (0) d_Region_holds_3 rfl ?_
  refine x_istore C d_Region_holds_4 rfl ?_
  exact lp_Region_holds hj hsz hs ht C E sz 0 0 none none (by omega) rfl
