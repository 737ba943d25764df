/-! ===== the flight ===== -/
abbrev z_rm (x k : Int32) : Int32 := x - x / k * k
def z_kp (M M2 : z_M) : Prop := ∀ a, (a < 32 ∨ 53 ≤ a) → M2 a = M a
theorem z_kp.rf {M : z_M} : z_kp M M := fun _ _ => rfl
theorem z_kp.tr {M M2 M3 : z_M} (h : z_kp M M2) (g : z_kp M2 M3) : z_kp M M3 := fun a ha => (g a ha).trans (h a ha)
theorem z_kp.sv {M0 M : z_M} (h : z_kp M0 M) {k : Nat} (h1 : 32 ≤ k) (h2 : k < 53) (j : Nat) (v : Int32) : z_kp M0 (z_sv M k j v) := fun a ha => (z_sv_row M j v (by omega)).trans (h a ha)
theorem z_okR_kp {M M2 : z_M} (h : z_kp M M2) (hR : ∀ r, r < 6 → z_okR M r) : ∀ r, r < 6 → z_okR M2 r := by
  intro r hr
  obtain ⟨sz, h1, h2, h3⟩ := hR r hr
  have e1 : M2 (i_reg r) = M (i_reg r) := h _ (Or.inl (by unfold i_reg; omega))
  have e2 : M2 (i_tok r) = M (i_tok r) := h _ (Or.inl (by unfold i_tok; omega))
  exact ⟨sz, h1, by rw [e1]; exact h2, fun t ht => by rw [e2]; exact h3 t ht⟩
def z_LI (M : z_M) (w jn : Nat) : Prop := w ≤ jn ∧ jn ≤ 12 ∧ M 49 2 = nI w ∧ M 49 3 = nI jn
theorem z_LI.row {M M2 : z_M} {w jn : Nat} (h : z_LI M w jn) (e : M2 49 = M 49) : z_LI M2 w jn := ⟨h.1, h.2.1, by rw [e]; exact h.2.2.1, by rw [e]; exact h.2.2.2⟩
def f_dr (M : z_M) : z_M := z_sv M 32 0 (f_nx (M 32 0))
theorem f_dr_kp {M0 M : z_M} (h : z_kp M0 M) : z_kp M0 (f_dr M) := h.sv (by decide) (by decide) _ _
def f_aim (M : z_M) : z_M := z_sv (f_dr (z_sv (f_dr M) 52 3 (z_rm (f_nx (M 32 0) / 256) 8))) 52 4 (1 + z_rm (f_nx ((z_sv (f_dr M) 52 3 (z_rm (f_nx (M 32 0) / 256) 8)) 32 0) / 256) 2000)
theorem f_aim_kp {M0 M : z_M} (h : z_kp M0 M) : z_kp M0 (f_aim M) := (f_dr_kp ((f_dr_kp h).sv (by decide) (by decide) _ _)).sv (by decide) (by decide) _ _
theorem f_aim_row (M : z_M) {a : Nat} (h1 : a ≠ 32) (h2 : a ≠ 52) : f_aim M a = M a := by
  unfold f_aim f_dr
  rw [z_sv_row _ _ _ h2, z_sv_row _ _ _ h1, z_sv_row _ _ _ h2, z_sv_row _ _ _ h1]
/-- the generator's next state is a number below 2^31 -/
theorem f_nx_n (s : Int32) : ∃ n : Nat, n < 2 ^ 31 ∧ f_nx s = nI n := by
  obtain ⟨j, hj, e⟩ := pk_andE (s * 1103515245 + 12345) (m := 2147483647) 31 (by decide)
  exact ⟨j, hj, e⟩
theorem f_nx_rm (s : Int32) {k : Nat} (h0 : 0 < k) (hk : k < 2 ^ 31) : ∃ n : Nat, n < k ∧ z_rm (f_nx s / 256) (nI k) = nI n := by
  obtain ⟨n, hn, e⟩ := f_nx_n s
  have e2 : f_nx s / 256 = nI (n / 256) := by rw [e]; exact pk_div hn (by decide) (by decide)
  have hb : n / 256 < 2 ^ 31 := Nat.lt_of_le_of_lt (Nat.div_le_self _ _) hn
  refine ⟨n / 256 % k, Nat.mod_lt _ h0, ?_⟩
  show f_nx s / 256 - f_nx s / 256 / nI k * nI k = _
  rw [e2]
  exact pk_rem hb h0 hk
theorem f_aim_dir (M : z_M) : ∃ dd : Nat, dd < 8 ∧ f_aim M 52 3 = nI dd := by
  obtain ⟨n, hn, e⟩ := f_nx_rm (M 32 0) (k := 8) (by decide) (by decide)
  refine ⟨n, hn, ?_⟩
  unfold f_aim f_dr
  rw [z_sv_get _ _ _ _ _ _ (Or.inr (by decide)), z_sv_get _ _ _ _ _ _ (Or.inl (by decide)), z_sv_self]
  exact e
def f_j1 (M : z_M) : z_M := if M 49 3 = nI 12 then z_sv M 34 3 (M 34 3 + 1) else f_jn M (M 49 2).toNatClampNeg (M 49 3).toNatClampNeg (M 52 0) (M 52 1)
theorem f_jn_kp {M0 M : z_M} (h : z_kp M0 M) (w jn : Nat) (x y : Int32) : z_kp M0 (f_jn M w jn x y) := (((h.sv (k := 50) (by decide) (by decide) _ _).sv (k := 51) (by decide) (by decide) _ _).sv (k := 49) (by decide) (by decide) _ _).sv (k := 49) (by decide) (by decide) _ _
theorem f_j1_kp {M0 M : z_M} (h : z_kp M0 M) : z_kp M0 (f_j1 M) := by
  unfold f_j1
  split
  · exact h.sv (by decide) (by decide) _ _
  · exact f_jn_kp h _ _ _ _
theorem f_j1_full {M : z_M} (h : M 49 3 = nI 12) : f_j1 M = z_sv M 34 3 (M 34 3 + 1) := if_pos h
theorem f_j1_open {M : z_M} {w jn : Nat} (h : z_LI M w jn) (hj : jn < 12) : f_j1 M = f_jn M w jn (M 52 0) (M 52 1) := by
  unfold f_j1
  rw [if_neg (fun q => by rw [h.2.2.2] at q; have := (nI_eq (by omega) (by decide)).mp q; omega), h.2.2.1, h.2.2.2, nI_clamp (by have := h.1; omega), nI_clamp (by omega)]
theorem f_jn_LI {M : z_M} {w jn : Nat} (hw : w ≤ jn) (hj : jn < 12) (x y : Int32) : z_LI (f_jn M w jn x y) (w + 1) (jn + 1) := by
  refine ⟨by omega, by omega, ?_, ?_⟩
  · unfold f_jn
    rw [z_sv_get _ _ _ _ _ _ (Or.inr (by decide)), z_sv_self]
  · unfold f_jn
    rw [z_sv_self]
theorem f_j1_LI {M : z_M} {w jn : Nat} (h : z_LI M w jn) : ∃ w2 jn2, z_LI (f_j1 M) w2 jn2 := by
  by_cases hj : jn < 12
  · rw [f_j1_open h hj]
    exact ⟨_, _, f_jn_LI h.1 hj _ _⟩
  · have e : jn = 12 := by have := h.2.1; omega
    rw [f_j1_full (by rw [h.2.2.2, e])]
    exact ⟨w, jn, h.row (z_sv_row _ _ _ (by decide))⟩
theorem f_j1_52 (M : z_M) : f_j1 M 52 = M 52 := by
  unfold f_j1
  split
  · exact z_sv_row _ _ _ (by decide)
  · unfold f_jn
    rw [z_sv_row _ _ _ (by decide), z_sv_row _ _ _ (by decide), z_sv_row _ _ _ (by decide), z_sv_row _ _ _ (by decide)]
def f_spn : Nat → z_M → z_M
  | 0, M => M
  | n + 1, M => f_spn n (f_j1 M)
def f_spl (M : z_M) : z_M := f_spn 2 M
theorem f_spl_kp {M0 M : z_M} (h : z_kp M0 M) : z_kp M0 (f_spl M) := f_j1_kp (f_j1_kp h)
theorem f_spl_LI {M : z_M} {w jn : Nat} (h : z_LI M w jn) : ∃ w2 jn2, z_LI (f_spl M) w2 jn2 := by
  obtain ⟨w2, j2, h2⟩ := f_j1_LI h
  exact f_j1_LI h2
theorem f_spl_52 (M : z_M) : f_spl M 52 = M 52 := (f_j1_52 _).trans (f_j1_52 _)
theorem c_CellTransport_aim {dA : Nat → ClassId} {ad : Nat → Nat} {M : z_M}  : z_CV y_CellTransport_aim b_CellTransport_aim 1 1 dA ad [.ref (ad 0)] M (f_aim M) := by
  refine z_ofV [some (.ref (ad 0))] (by decide) (Nat.le_of_ble_eq_true rfl) rfl (fun k C E => ?_)
  have C : z_C dA ad k b_CellTransport_aim "CellTransport" 1 1 := C
  refine x_aload_n C d_CellTransport_aim_0 (i := 0) rfl rfl ?_
  refine g_CellTransport_particle C lk_CellTransport_47 d_CellTransport_aim_1 ?_
  refine x_aload_n C d_CellTransport_aim_4 (i := 0) rfl rfl ?_
  refine g_CellTransport_generator C lk_CellTransport_26 d_CellTransport_aim_5 ?_
  refine x_callVNi C (c_Generator_draw ) mt_Generator_draw zl_Generator (zc_Generator _) rfl rfl rfl (Nat.le_of_ble_eq_true rfl) (Nat.le_of_ble_eq_true rfl) lk_CellTransport_187 d_CellTransport_aim_8 ?_
  refine x_bipush C (8) d_CellTransport_aim_11 rfl ?_
  refine x_irem C d_CellTransport_aim_13 (by decide) ?_
  refine u_Particle_directionN C lk_CellTransport_190 d_CellTransport_aim_14 ?_
  refine x_aload_n C d_CellTransport_aim_17 (i := 0) rfl rfl ?_
  refine g_CellTransport_particle C lk_CellTransport_47 d_CellTransport_aim_18 ?_
  refine x_iconst C (1) d_CellTransport_aim_21 rfl ?_
  refine x_aload_n C d_CellTransport_aim_22 (i := 0) rfl rfl ?_
  refine g_CellTransport_generator C lk_CellTransport_26 d_CellTransport_aim_23 ?_
  refine x_callVNi C (c_Generator_draw ) mt_Generator_draw zl_Generator (zc_Generator _) rfl rfl rfl (Nat.le_of_ble_eq_true rfl) (Nat.le_of_ble_eq_true rfl) lk_CellTransport_187 d_CellTransport_aim_26 ?_
  refine x_sipush C (2000) d_CellTransport_aim_29 rfl ?_
  refine x_irem C d_CellTransport_aim_32 (by decide) ?_
  refine x_iadd C d_CellTransport_aim_33 ?_
  refine u_Particle_budgetN C lk_CellTransport_193 d_CellTransport_aim_34 ?_
  exact x_vret C E rfl d_CellTransport_aim_37
theorem lp_CellTransport_split {dA : Nat → ClassId} {ad : Nat → Nat} {M1 : z_M} {k : z_K} (C : z_C dA ad k b_CellTransport_split "CellTransport" 1 2) (E : z_RV dA ad k M1) :
    ∀ (n i : Nat) (M : z_M), i + n = 2 → (∃ w jn, z_LI M w jn) → f_spn n M = M1 → z_X dA ad k 2 [some (.ref (ad 0)), some (.int (nI i))] [] M := by
  intro n
  induction n with
  | zero =>
    intro i M hi hL hr
    refine x_iload_n C d_CellTransport_split_2 (i := 1) rfl rfl ?_
    refine x_iconst C (2) d_CellTransport_split_3 rfl ?_
    refine x_icmp_ge C 50 d_CellTransport_split_4 rfl (fun h_4 => ?_) (fun h_4 => ?_)
    · exact x_vret C E hr d_CellTransport_split_50
    · exact absurd (show (2 : Int32) ≤ nI i from nI_le (a := 2) (by omega) (by omega)) h_4
  | succ n ih =>
    intro i M hi hL hr
    obtain ⟨w, jn, hLI⟩ := hL
    have hL2 : ∃ w jn, z_LI (f_j1 M) w jn := f_j1_LI hLI
    by_cases hj : jn < 12
    · have hw : w < 12 := Nat.lt_of_le_of_lt hLI.1 hj
      have ej : f_jn M w jn (M 52 0) (M 52 1) = f_j1 M := (f_j1_open hLI hj).symm
      refine x_iload_n C d_CellTransport_split_2 (i := 1) rfl rfl ?_
      refine x_iconst C (2) d_CellTransport_split_3 rfl ?_
      refine x_icmp_ge C 50 d_CellTransport_split_4 rfl (fun h_4 => absurd (show nI 2 ≤ nI i from h_4) (nI_ge (by omega) (by decide))) (fun h_4 => ?_)
      refine x_aload_n C d_CellTransport_split_7 (i := 0) rfl rfl ?_
      refine g_CellTransport_line C lk_CellTransport_40 d_CellTransport_split_8 ?_
      refine x_aload_n C d_CellTransport_split_11 (i := 0) rfl rfl ?_
      refine g_CellTransport_particle C lk_CellTransport_47 d_CellTransport_split_12 ?_
      refine g_Particle_xN C lk_CellTransport_172 d_CellTransport_split_15 ?_
      refine x_aload_n C d_CellTransport_split_18 (i := 0) rfl rfl ?_
      refine g_CellTransport_particle C lk_CellTransport_47 d_CellTransport_split_19 ?_
      refine g_Particle_yN C lk_CellTransport_175 d_CellTransport_split_22 ?_
      refine x_callVNi C (c_Line_join hw hj hLI.2.2.1 hLI.2.2.2 _ _) mt_Line_join zl_Line (zc_Line _) rfl rfl rfl (Nat.le_of_ble_eq_true rfl) (Nat.le_of_ble_eq_true rfl) lk_CellTransport_159 d_CellTransport_split_25 ?_
      refine x_eqM ej ?_
      refine x_if_ne C 44 d_CellTransport_split_28 rfl (fun h_28 => ?_) (fun h_28 => absurd h_28 (by decide))
      refine x_iinc C (nI (i + 1)) d_CellTransport_split_44 rfl (z_inc i) rfl ?_
      refine x_goto C 2 d_CellTransport_split_47 rfl ?_
      exact ih (i + 1) _ (by omega) hL2 hr
    · have ef : M 49 3 = nI 12 := by rw [hLI.2.2.2, show jn = 12 by have := hLI.2.1; omega]
      refine x_iload_n C d_CellTransport_split_2 (i := 1) rfl rfl ?_
      refine x_iconst C (2) d_CellTransport_split_3 rfl ?_
      refine x_icmp_ge C 50 d_CellTransport_split_4 rfl (fun h_4 => absurd (show nI 2 ≤ nI i from h_4) (nI_ge (by omega) (by decide))) (fun h_4 => ?_)
      refine x_aload_n C d_CellTransport_split_7 (i := 0) rfl rfl ?_
      refine g_CellTransport_line C lk_CellTransport_40 d_CellTransport_split_8 ?_
      refine x_aload_n C d_CellTransport_split_11 (i := 0) rfl rfl ?_
      refine g_CellTransport_particle C lk_CellTransport_47 d_CellTransport_split_12 ?_
      refine g_Particle_xN C lk_CellTransport_172 d_CellTransport_split_15 ?_
      refine x_aload_n C d_CellTransport_split_18 (i := 0) rfl rfl ?_
      refine g_CellTransport_particle C lk_CellTransport_47 d_CellTransport_split_19 ?_
      refine g_Particle_yN C lk_CellTransport_175 d_CellTransport_split_22 ?_
      refine x_callVNi C (c_Line_joinF ef _ _) mt_Line_join zl_Line (zc_Line _) rfl rfl rfl (Nat.le_of_ble_eq_true rfl) (Nat.le_of_ble_eq_true rfl) lk_CellTransport_159 d_CellTransport_split_25 ?_
      refine x_if_ne C 44 d_CellTransport_split_28 rfl (fun h_28 => absurd rfl h_28) (fun h_28 => ?_)
      refine x_aload_n C d_CellTransport_split_31 (i := 0) rfl rfl ?_
      refine g_CellTransport_counts C lk_CellTransport_33 d_CellTransport_split_32 ?_
      refine g_Counts_totalsN C lk_CellTransport_147 d_CellTransport_split_35 ?_
      refine x_iconst C (nI 3) d_CellTransport_split_38 rfl ?_
      refine x_dup2 C d_CellTransport_split_39 rfl rfl ?_
      refine rn_ld_totals C  (show 3 < 5 by decide) d_CellTransport_split_40 ?_
      refine x_iconst C (1) d_CellTransport_split_41 rfl ?_
      refine x_iadd C d_CellTransport_split_42 ?_
      refine rn_st_totals C  (show 3 < 5 by decide) d_CellTransport_split_43 ?_
      refine x_eqM (f_j1_full ef).symm ?_
      refine x_iinc C (nI (i + 1)) d_CellTransport_split_44 rfl (z_inc i) rfl ?_
      refine x_goto C 2 d_CellTransport_split_47 rfl ?_
      exact ih (i + 1) _ (by omega) hL2 hr
theorem c_CellTransport_split {dA : Nat → ClassId} {ad : Nat → Nat} {M : z_M} (hL : ∃ w jn, z_LI M w jn) : z_CV y_CellTransport_split b_CellTransport_split 2 1 dA ad [.ref (ad 0)] M (f_spl M) := by
  refine z_ofV [some (.ref (ad 0)), none] (by decide) (Nat.le_of_ble_eq_true rfl) rfl (fun k C E => ?_)
  have C : z_C dA ad k b_CellTransport_split "CellTransport" 1 2 := C
  refine x_iconst C (0) d_CellTransport_split_0 rfl ?_
  refine x_istore_n C d_CellTransport_split_1 (i := 1) rfl rfl ?_
  exact lp_CellTransport_split C E 2 0 M (by omega) hL rfl
def f_ca1 (M : z_M) (c : Nat) : z_M := z_sv M (i_talr c) 1 (M (i_talr c) 1 + 1)
def f_cb (M : z_M) (c : Nat) : z_M := f_dr (f_ca1 M c)
def f_cr (M : z_M) (c : Nat) : Int32 := z_rm (f_nx (f_ca1 M c 32 0) / 256) 1000
def f_col (M : z_M) (c : Nat) : Int32 × z_M := if f_cb M c (i_cell c) 3 ≤ f_cr M c then (if f_cb M c (i_cell c) 3 + f_cb M c (i_cell c) 4 ≤ f_cr M c then (1, f_aim (f_cb M c)) else (0, f_spl (z_sv (f_cb M c) (i_talr c) 3 (f_cb M c (i_talr c) 3 + 1)))) else (0, z_sv (f_cb M c) (i_talr c) 2 (f_cb M c (i_talr c) 2 + 1))
theorem f_cb_kp {M0 M : z_M} (h : z_kp M0 M) {c : Nat} (hc : c < 6) : z_kp M0 (f_cb M c) := f_dr_kp (h.sv (by unfold i_talr; omega) (by unfold i_talr; omega) _ _)
theorem f_cb_row (M : z_M) {c a : Nat} (h1 : a ≠ 32) (h2 : a ≠ i_talr c) : f_cb M c a = M a := by
  unfold f_cb f_dr f_ca1
  rw [z_sv_row _ _ _ h1, z_sv_row _ _ _ h2]
theorem f_col_cases (M : z_M) (c : Nat) : f_col M c = (1, f_aim (f_cb M c)) ∨ f_col M c = (0, f_spl (z_sv (f_cb M c) (i_talr c) 3 (f_cb M c (i_talr c) 3 + 1))) ∨ f_col M c = (0, z_sv (f_cb M c) (i_talr c) 2 (f_cb M c (i_talr c) 2 + 1)) := by
  by_cases h1 : f_cb M c (i_cell c) 3 ≤ f_cr M c
  · by_cases h2 : f_cb M c (i_cell c) 3 + f_cb M c (i_cell c) 4 ≤ f_cr M c
    · exact Or.inl (by rw [f_col, if_pos h1, if_pos h2])
    · exact Or.inr (Or.inl (by rw [f_col, if_pos h1, if_neg h2]))
  · exact Or.inr (Or.inr (by rw [f_col, if_neg h1]))
theorem f_col_kp {M0 M : z_M} (h : z_kp M0 M) {c : Nat} (hc : c < 6) : z_kp M0 (f_col M c).2 := by
  have hb := f_cb_kp h hc
  have t : 32 ≤ i_talr c ∧ i_talr c < 53 := by unfold i_talr; omega
  rcases f_col_cases M c with e | e | e
  · rw [e]; exact f_aim_kp hb
  · rw [e]; exact f_spl_kp (hb.sv t.1 t.2 _ _)
  · rw [e]; exact hb.sv t.1 t.2 _ _
theorem z_LIx {M2 M3 : z_M} (e : M3 = M2) (h : ∃ w jn, z_LI M2 w jn) : ∃ w jn, z_LI M3 w jn := by rw [e]; exact h
theorem f_col_LI {M : z_M} {w jn c : Nat} (h : z_LI M w jn) (hc : c < 6) : ∃ w2 jn2, z_LI (f_col M c).2 w2 jn2 := by
  have t : 49 ≠ i_talr c := by unfold i_talr; omega
  have hb : z_LI (f_cb M c) w jn := h.row (f_cb_row M (by decide) t)
  rcases f_col_cases M c with e | e | e
  · have h1 : z_LI (f_aim (f_cb M c)) w jn := hb.row (f_aim_row (f_cb M c) (by decide) (by decide))
    exact z_LIx (congrArg Prod.snd e) ⟨w, jn, h1⟩
  · have h1 : z_LI (z_sv (f_cb M c) (i_talr c) 3 (f_cb M c (i_talr c) 3 + 1)) w jn := hb.row (z_sv_row (f_cb M c) _ _ t)
    exact z_LIx (congrArg Prod.snd e) (f_spl_LI h1)
  · have h1 : z_LI (z_sv (f_cb M c) (i_talr c) 2 (f_cb M c (i_talr c) 2 + 1)) w jn := hb.row (z_sv_row (f_cb M c) _ _ t)
    exact z_LIx (congrArg Prod.snd e) ⟨w, jn, h1⟩
theorem f_col_01 (M : z_M) (c : Nat) : (f_col M c).1 = 0 ∨ (f_col M c).1 = 1 := by
  rcases f_col_cases M c with e | e | e
  · rw [e]; exact Or.inr rfl
  · rw [e]; exact Or.inl rfl
  · rw [e]; exact Or.inl rfl
theorem f_aim_2 (M : z_M) : f_aim M 52 2 = M 52 2 := by
  unfold f_aim f_dr
  rw [z_sv_get _ _ _ _ _ _ (Or.inr (by decide)), z_sv_get _ _ _ _ _ _ (Or.inl (by decide)), z_sv_get _ _ _ _ _ _ (Or.inr (by decide)), z_sv_get _ _ _ _ _ _ (Or.inl (by decide))]
theorem f_col_on {M : z_M} {c : Nat} (hc : c < 6) (h : ¬ (f_col M c).1 = 0) : (∃ dd : Nat, dd < 8 ∧ (f_col M c).2 52 3 = nI dd) ∧ (f_col M c).2 52 2 = M 52 2 := by
  have t : 52 ≠ i_talr c := by unfold i_talr; omega
  rcases f_col_cases M c with e | e | e
  · rw [e]
    refine ⟨f_aim_dir _, ?_⟩
    show f_aim (f_cb M c) 52 2 = M 52 2
    rw [f_aim_2, f_cb_row M (by decide) t]
  · exact absurd (by rw [e]) h
  · exact absurd (by rw [e]) h
theorem c_CellTransport_survivesCollision {dA : Nat → ClassId} {ad : Nat → Nat} {M : z_M} {c : Nat} (hc : c < 6) (ec : M 52 2 = nI c) (hL : ∃ w jn, z_LI M w jn) : z_CI y_CellTransport_survivesCollision b_CellTransport_survivesCollision 4 .boolean 2 dA ad [.ref (ad 0), .ref (ad (i_cell c))] M ((f_col M c).1) ((f_col M c).2) := by
  refine z_ofI [some (.ref (ad 0)), some (.ref (ad (i_cell c))), none, none] (by decide) (Nat.le_of_ble_eq_true rfl) rfl (fun k C E => ?_)
  have C : z_C dA ad k b_CellTransport_survivesCollision "CellTransport" 2 4 := C
  refine x_aload_n C d_CellTransport_survivesCollision_0 (i := 0) rfl rfl ?_
  refine g_CellTransport_counts C lk_CellTransport_33 d_CellTransport_survivesCollision_1 ?_
  refine g_Counts_talliesN C lk_CellTransport_140 d_CellTransport_survivesCollision_4 ?_
  refine x_aload_n C d_CellTransport_survivesCollision_7 (i := 0) rfl rfl ?_
  refine g_CellTransport_particle C lk_CellTransport_47 d_CellTransport_survivesCollision_8 ?_
  refine g_Particle_cellN C lk_CellTransport_178 d_CellTransport_survivesCollision_11 ?_
  refine x_eqi ec ?_
  refine rn_al_tallies C hc d_CellTransport_survivesCollision_14 ?_
  refine x_astore_n C d_CellTransport_survivesCollision_15 (i := 2) rfl rfl ?_
  refine x_aload_n C d_CellTransport_survivesCollision_16 (i := 2) rfl rfl ?_
  refine x_iconst C (nI 1) d_CellTransport_survivesCollision_17 rfl ?_
  refine x_dup2 C d_CellTransport_survivesCollision_18 rfl rfl ?_
  refine rn_ld_talrow C hc  (show 1 < 4 by decide) d_CellTransport_survivesCollision_19 ?_
  refine x_iconst C (1) d_CellTransport_survivesCollision_20 rfl ?_
  refine x_iadd C d_CellTransport_survivesCollision_21 ?_
  refine rn_st_talrow C hc  (show 1 < 4 by decide) d_CellTransport_survivesCollision_22 ?_
  refine x_aload_n C d_CellTransport_survivesCollision_23 (i := 0) rfl rfl ?_
  refine g_CellTransport_generator C lk_CellTransport_26 d_CellTransport_survivesCollision_24 ?_
  refine x_callVNi C (c_Generator_draw ) mt_Generator_draw zl_Generator (zc_Generator _) rfl rfl rfl (Nat.le_of_ble_eq_true rfl) (Nat.le_of_ble_eq_true rfl) lk_CellTransport_187 d_CellTransport_survivesCollision_27 ?_
  refine x_sipush C (1000) d_CellTransport_survivesCollision_30 rfl ?_
  refine x_irem C d_CellTransport_survivesCollision_33 (by decide) ?_
  refine x_istore_n C d_CellTransport_survivesCollision_34 (i := 3) rfl rfl ?_
  refine x_iload_n C d_CellTransport_survivesCollision_35 (i := 3) rfl rfl ?_
  refine x_aload_n C d_CellTransport_survivesCollision_36 (i := 1) rfl rfl ?_
  refine g_Cell_absorptionN C hc lk_CellTransport_210 d_CellTransport_survivesCollision_37 ?_
  refine x_icmp_ge C 52 d_CellTransport_survivesCollision_40 rfl (fun h_40 => ?_) (fun h_40 => ?_)
  · refine x_iload_n C d_CellTransport_survivesCollision_52 (i := 3) rfl rfl ?_
    refine x_aload_n C d_CellTransport_survivesCollision_53 (i := 1) rfl rfl ?_
    refine g_Cell_absorptionN C hc lk_CellTransport_210 d_CellTransport_survivesCollision_54 ?_
    refine x_aload_n C d_CellTransport_survivesCollision_57 (i := 1) rfl rfl ?_
    refine g_Cell_fissionN C hc lk_CellTransport_213 d_CellTransport_survivesCollision_58 ?_
    refine x_iadd C d_CellTransport_survivesCollision_61 ?_
    refine x_icmp_ge C 78 d_CellTransport_survivesCollision_62 rfl (fun h_62 => ?_) (fun h_62 => ?_)
    · refine x_aload_n C d_CellTransport_survivesCollision_78 (i := 0) rfl rfl ?_
      refine x_callVv C (c_CellTransport_aim ) mt_CellTransport_aim zl_CellTransport (zc_CellTransport _) rfl rfl rfl (Nat.le_of_ble_eq_true rfl) (Nat.le_of_ble_eq_true rfl) lk_CellTransport_181 d_CellTransport_survivesCollision_79 ?_
      refine x_iconst C (1) d_CellTransport_survivesCollision_82 rfl ?_
      exact x_zret C E (congrArg Prod.fst (show f_col M c = (1, f_aim (f_cb M c)) by rw [f_col, if_pos (show f_cb M c (i_cell c) 3 ≤ f_cr M c from h_40), if_pos (show f_cb M c (i_cell c) 3 + f_cb M c (i_cell c) 4 ≤ f_cr M c from h_62)])).symm (congrArg Prod.snd (show f_col M c = (1, f_aim (f_cb M c)) by rw [f_col, if_pos (show f_cb M c (i_cell c) 3 ≤ f_cr M c from h_40), if_pos (show f_cb M c (i_cell c) 3 + f_cb M c (i_cell c) 4 ≤ f_cr M c from h_62)])).symm rfl d_CellTransport_survivesCollision_83
    · refine x_aload_n C d_CellTransport_survivesCollision_65 (i := 2) rfl rfl ?_
      refine x_iconst C (nI 3) d_CellTransport_survivesCollision_66 rfl ?_
      refine x_dup2 C d_CellTransport_survivesCollision_67 rfl rfl ?_
      refine rn_ld_talrow C hc  (show 3 < 4 by decide) d_CellTransport_survivesCollision_68 ?_
      refine x_iconst C (1) d_CellTransport_survivesCollision_69 rfl ?_
      refine x_iadd C d_CellTransport_survivesCollision_70 ?_
      refine rn_st_talrow C hc  (show 3 < 4 by decide) d_CellTransport_survivesCollision_71 ?_
      refine x_aload_n C d_CellTransport_survivesCollision_72 (i := 0) rfl rfl ?_
      refine x_callVv C (c_CellTransport_split (hL.elim (fun w q => q.elim (fun jn hLI => ⟨w, jn, hLI.row ((z_sv_row _ _ _ (show 49 ≠ i_talr c by unfold i_talr; omega)).trans (f_cb_row M (by decide) (show 49 ≠ i_talr c by unfold i_talr; omega)))⟩)))) mt_CellTransport_split zl_CellTransport (zc_CellTransport _) rfl rfl rfl (Nat.le_of_ble_eq_true rfl) (Nat.le_of_ble_eq_true rfl) lk_CellTransport_216 d_CellTransport_survivesCollision_73 ?_
      refine x_iconst C (0) d_CellTransport_survivesCollision_76 rfl ?_
      exact x_zret C E (congrArg Prod.fst (show f_col M c = (0, f_spl (z_sv (f_cb M c) (i_talr c) 3 (f_cb M c (i_talr c) 3 + 1))) by rw [f_col, if_pos (show f_cb M c (i_cell c) 3 ≤ f_cr M c from h_40), if_neg (show ¬ f_cb M c (i_cell c) 3 + f_cb M c (i_cell c) 4 ≤ f_cr M c from h_62)])).symm (congrArg Prod.snd (show f_col M c = (0, f_spl (z_sv (f_cb M c) (i_talr c) 3 (f_cb M c (i_talr c) 3 + 1))) by rw [f_col, if_pos (show f_cb M c (i_cell c) 3 ≤ f_cr M c from h_40), if_neg (show ¬ f_cb M c (i_cell c) 3 + f_cb M c (i_cell c) 4 ≤ f_cr M c from h_62)])).symm rfl d_CellTransport_survivesCollision_77
  · refine x_aload_n C d_CellTransport_survivesCollision_43 (i := 2) rfl rfl ?_
    refine x_iconst C (nI 2) d_CellTransport_survivesCollision_44 rfl ?_
    refine x_dup2 C d_CellTransport_survivesCollision_45 rfl rfl ?_
    refine rn_ld_talrow C hc  (show 2 < 4 by decide) d_CellTransport_survivesCollision_46 ?_
    refine x_iconst C (1) d_CellTransport_survivesCollision_47 rfl ?_
    refine x_iadd C d_CellTransport_survivesCollision_48 ?_
    refine rn_st_talrow C hc  (show 2 < 4 by decide) d_CellTransport_survivesCollision_49 ?_
    refine x_iconst C (0) d_CellTransport_survivesCollision_50 rfl ?_
    exact x_zret C E (congrArg Prod.fst (show f_col M c = (0, z_sv (f_cb M c) (i_talr c) 2 (f_cb M c (i_talr c) 2 + 1)) by rw [f_col, if_neg (show ¬ f_cb M c (i_cell c) 3 ≤ f_cr M c from h_40)])).symm (congrArg Prod.snd (show f_col M c = (0, z_sv (f_cb M c) (i_talr c) 2 (f_cb M c (i_talr c) 2 + 1)) by rw [f_col, if_neg (show ¬ f_cb M c (i_cell c) 3 ≤ f_cr M c from h_40)])).symm rfl d_CellTransport_survivesCollision_51
