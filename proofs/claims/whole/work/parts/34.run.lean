/-! ===== the flight side by side ===== -/
theorem rs_kp {M M2 : z_M} (h : z_kp M M2) (x y o : Int32) {v : Nat} (hv : v ≤ 10) : f_rs M2 x y o (nI v) = f_rs M x y o (nI v) := by
  by_cases v8 : v < 8
  · have n8 : ¬ nI v = 8 := fun q => by have := (nI_eq (a := v) (b := 8) (by omega) (by decide)).mp q; omega
    have n9 : ¬ nI v = 9 := fun q => by have := (nI_eq (a := v) (b := 9) (by omega) (by decide)).mp q; omega
    have n10 : ¬ nI v = 10 := fun q => by have := (nI_eq (a := v) (b := 10) (by omega) (by decide)).mp q; omega
    rw [f_rs, f_rs, if_neg n8, if_neg n9, if_neg n10, if_neg n8, if_neg n9, if_neg n10, nI_clamp (by omega), h (i_surf v) (Or.inl (by unfold i_surf; omega))]
  · rcases (show v = 8 ∨ v = 9 ∨ v = 10 by omega) with e | e | e
    · have q : nI v = 8 := by rw [e]; rfl
      rw [f_rs, f_rs, if_pos q, if_pos q]
    · have n8 : ¬ nI v = 8 := by rw [e]; decide
      have q : nI v = 9 := by rw [e]; rfl
      rw [f_rs, f_rs, if_neg n8, if_pos q, if_neg n8, if_pos q]
    · have n8 : ¬ nI v = 8 := by rw [e]; decide
      have n9 : ¬ nI v = 9 := by rw [e]; decide
      have q : nI v = 10 := by rw [e]; rfl
      rw [f_rs, f_rs, if_neg n8, if_neg n9, if_pos q, if_neg n8, if_neg n9, if_pos q]
theorem rl_kp {M M2 : z_M} (h : z_kp M M2) (x y : Int32) {ta : Nat → Int32} {sz : Nat} (ht : ∀ t, t < sz → ∃ v, v ≤ 10 ∧ ta t = nI v) : ∀ (n i : Nat) (o : Int32), i + n = sz → f_rl M2 ta x y n i o = f_rl M ta x y n i o := by
  intro n
  induction n with
  | zero => intro i o _; rfl
  | succ n ih =>
    intro i o hi
    obtain ⟨v, hv, ev⟩ := ht i (by omega)
    rw [f_rl, f_rl, ev, rs_kp h x y o hv]
    exact ih (i + 1) _ (by omega)
theorem ca_kp {M M2 : z_M} (h : z_kp M M2) (hR : ∀ r, r < 6 → z_okR M r) (x y : Int32) : ∀ (n i : Nat), i + n = 6 → f_ca M2 x y n i = f_ca M x y n i := by
  intro n
  induction n with
  | zero => intro i _; rfl
  | succ n ih =>
    intro i hi
    have hi6 : i < 6 := by omega
    obtain ⟨sz, h1, h2, h3⟩ := hR i hi6
    have e1 : M2 (i_cell i) = M (i_cell i) := h _ (Or.inl (by unfold i_cell; omega))
    have e2 : M2 (i_reg i) = M (i_reg i) := h _ (Or.inl (by unfold i_reg; omega))
    have e3 : M2 (i_tok i) = M (i_tok i) := h _ (Or.inl (by unfold i_tok; omega))
    have e4 : p_in M2 x y i ↔ p_in M x y i := by
      unfold p_in
      rw [e2, e3, h2, nI_clamp (by omega), rl_kp h x y h3 sz 0 0 (by omega)]
    by_cases q : ¬ M (i_cell i) 1 = 0 ∧ p_in M x y i
    · have q2 : ¬ M2 (i_cell i) 1 = 0 ∧ p_in M2 x y i := ⟨by rw [e1]; exact q.1, e4.mpr q.2⟩
      rw [f_ca, f_ca, if_pos q, if_pos q2]
    · have q2 : ¬ (¬ M2 (i_cell i) 1 = 0 ∧ p_in M2 x y i) := fun z => q ⟨by rw [← e1]; exact z.1, e4.mp z.2⟩
      rw [f_ca, f_ca, if_neg q, if_neg q2]
      exact ih (i + 1) (by omega)
theorem sm_gen {A B : z_M} (h : z_sim A B) : A 32 0 = B 53 15 := h.at (show z_m 32 0 = some (53, 15) by decide) (by decide)
theorem sm_x {A B : z_M} (h : z_sim A B) : A 52 0 = B 53 23 := h.at (show z_m 52 0 = some (53, 23) by decide) (by decide)
theorem sm_y {A B : z_M} (h : z_sim A B) : A 52 1 = B 53 24 := h.at (show z_m 52 1 = some (53, 24) by decide) (by decide)
theorem sm_d {A B : z_M} (h : z_sim A B) : A 52 3 = B 53 25 := h.at (show z_m 52 3 = some (53, 25) by decide) (by decide)
theorem sm_u {A B : z_M} (h : z_sim A B) : A 52 4 = B 53 26 := h.at (show z_m 52 4 = some (53, 26) by decide) (by decide)
theorem sm_w {A B : z_M} (h : z_sim A B) : A 49 2 = B 53 21 := h.at (show z_m 49 2 = some (53, 21) by decide) (by decide)
theorem sm_j {A B : z_M} (h : z_sim A B) : A 49 3 = B 53 22 := h.at (show z_m 49 3 = some (53, 22) by decide) (by decide)
theorem sm_t {A B : z_M} (h : z_sim A B) (q : Nat) : A 34 q = B 68 q := h.at (show z_m 34 q = some (68, q) from rfl) (by decide)
theorem s_dr {A B : z_M} (h : z_sim A B) : z_sim (f_dr A) (g_dr B) := by
  unfold f_dr g_dr
  rw [sm_gen h]
  exact h.sv (show z_m 32 0 = some (53, 15) by decide) (by decide) (by decide) _
theorem s_tot {A B : z_M} (h : z_sim A B) (q : Nat) (v : Int32) : z_sim (z_sv A 34 q v) (z_sv B 68 q v) := h.sv (show z_m 34 q = some (68, q) from rfl) (by decide) (by decide) v
theorem s_t1 {A B : z_M} (h : z_sim A B) : z_sim (z_sv (f_dr A) 52 3 (z_rm (f_nx (A 32 0) / 256) 8)) (g_t1 B) := by
  unfold g_t1
  rw [sm_gen h]
  exact (s_dr h).sv (show z_m 52 3 = some (53, 25) by decide) (by decide) (by decide) _
theorem s_aim {A B : z_M} (h : z_sim A B) : z_sim (f_aim A) (g_turn B) := by
  have h1 := s_t1 h
  unfold f_aim g_turn
  rw [sm_gen h1]
  exact (s_dr h1).sv (show z_m 52 4 = some (53, 26) by decide) (by decide) (by decide) _
theorem s_jn {A B : z_M} (h : z_sim A B) (w jn : Nat) (x y : Int32) : z_sim (f_jn A w jn x y) (z_sv (z_sv (z_sv (z_sv B 69 w x) 70 w y) 53 21 (nI (w + 1))) 53 22 (nI (jn + 1))) :=
  (((h.sv (show z_m 50 w = some (69, w) from rfl) (by decide) (by decide) x).sv (show z_m 51 w = some (70, w) from rfl) (by decide) (by decide) y).sv (show z_m 49 2 = some (53, 21) by decide) (by decide) (by decide) _).sv (show z_m 49 3 = some (53, 22) by decide) (by decide) (by decide) _
theorem s_j1 {A B : z_M} (h : z_sim A B) : z_sim (f_j1 A) (g_j1 B) := by
  by_cases q : A 49 3 = nI 12
  · have q2 : B 53 22 = nI 12 := by rw [← sm_j h]; exact q
    rw [f_j1_full q, g_j1_full q2, sm_t h 3]
    exact s_tot h 3 _
  · have q2 : ¬ B 53 22 = nI 12 := by rw [← sm_j h]; exact q
    rw [f_j1, if_neg q, g_j1, if_neg q2, sm_w h, sm_j h, sm_x h, sm_y h]
    exact s_jn h _ _ _ _
theorem s_spl {A B : z_M} (h : z_sim A B) : z_sim (f_spl A) (g_spl B) := s_j1 (s_j1 h)
theorem s_tal {A B : z_M} (h : z_sim A B) {c q : Nat} (hc : c < 6) (hq : q < 4) : z_sim (z_sv A (i_talr c) q (A (i_talr c) q + 1)) (z_sv B 66 (4 * c + q) (B 66 (4 * c + q) + 1)) := by
  have m := z_m_talr hc hq
  rw [h.at m (by unfold i_talr; omega)]
  exact h.sv m (by unfold i_talr; omega) (by decide) _
theorem s_cb {A B : z_M} (h : z_sim A B) {c : Nat} (hc : c < 6) : z_sim (f_cb A c) (g_cb B c) := s_dr (s_tal h hc (by decide))
theorem s_cr {A B : z_M} (h : z_sim A B) {c : Nat} (hc : c < 6) : f_cr A c = g_cr B c := by
  unfold f_cr g_cr
  have h1 : z_sim (f_ca1 A c) (g_ca1 B c) := s_tal h hc (by decide)
  rw [sm_gen h1]
  rfl
theorem s_col {A B : z_M} (h : z_sim A B) {c : Nat} (hc : c < 6) : (f_col A c).1 = (g_col B c).1 ∧ z_sim (f_col A c).2 (g_col B c).2 := by
  have hb := s_cb h hc
  have hr := s_cr h hc
  have c18 : i_cell c < 25 := by unfold i_cell; omega
  have e3 := hb.at (z_m_cell hc).2.2.1 (Or.inl c18)
  have e4 := hb.at (z_m_cell hc).2.2.2 (Or.inl c18)
  by_cases h1 : f_cb A c (i_cell c) 3 ≤ f_cr A c
  · have g1 : g_cb B c 64 c ≤ g_cr B c := by rw [← e3, ← hr]; exact h1
    by_cases h2 : f_cb A c (i_cell c) 3 + f_cb A c (i_cell c) 4 ≤ f_cr A c
    · have g2 : g_cb B c 64 c + g_cb B c 65 c ≤ g_cr B c := by rw [← e3, ← e4, ← hr]; exact h2
      rw [f_col, if_pos h1, if_pos h2, g_col, if_pos g1, if_pos g2]
      exact ⟨rfl, s_aim hb⟩
    · have g2 : ¬ g_cb B c 64 c + g_cb B c 65 c ≤ g_cr B c := by rw [← e3, ← e4, ← hr]; exact h2
      rw [f_col, if_pos h1, if_neg h2, g_col, if_pos g1, if_neg g2]
      exact ⟨rfl, s_spl (s_tal hb hc (by decide))⟩
  · have g1 : ¬ g_cb B c 64 c ≤ g_cr B c := by rw [← e3, ← hr]; exact h1
    rw [f_col, if_neg h1, g_col, if_neg g1]
    exact ⟨rfl, s_tal hb hc (by decide)⟩
theorem s_mv {A B : z_M} (h : z_sim A B) (dd : Nat) : z_sim (f_mv A dd) (g_mv B dd) := by
  unfold f_mv g_mv
  rw [sm_x h, sm_y h]
  exact (h.sv (show z_m 52 0 = some (53, 23) by decide) (by decide) (by decide) _).sv (show z_m 52 1 = some (53, 24) by decide) (by decide) (by decide) _
theorem s_at {A B : z_M} (h : z_sim A B) {b c : Nat} (hb : b ≤ 6) (hc : c < 6) : z_sim (f_at A b c) (g_at B b c) := by
  have ht : z_sim (f_tk A c) (g_tk B c) := s_tal h hc (by decide)
  by_cases q : b = c ∨ b = 6
  · rw [f_at, if_pos q, g_at, if_pos q]; exact ht
  · have m := z_m_cror (show b < 6 by omega) hc
    rw [f_at, if_neg q, g_at, if_neg q, ht.at m (by unfold i_cror; omega)]
    exact ht.sv m (by unfold i_cror; omega) (by decide) _
theorem s_s1 {A B : z_M} (h : z_sim A B) (dd c : Nat) : z_sim (f_s1 A dd c) (g_mv B dd) := (s_mv h dd).svA _
theorem s_s3 {A B : z_M} (h : z_sim A B) (dd : Nat) {b c : Nat} (hb : b ≤ 6) (hc : c < 6) : z_sim (f_s3 A dd b c) (g_s3 B dd b c) ∧ f_s2 A dd b c 52 4 - f_s2 A dd b c (i_cell c) 2 = g_s2 B dd b c 53 26 - g_s2 B dd b c 63 c := by
  have h2 : z_sim (f_s2 A dd b c) (g_s2 B dd b c) := s_at (s_s1 h dd c) hb hc
  have e : f_s2 A dd b c 52 4 - f_s2 A dd b c (i_cell c) 2 = g_s2 B dd b c 53 26 - g_s2 B dd b c 63 c := by
    rw [sm_u h2, h2.at (z_m_cell hc).2.1 (by unfold i_cell; omega)]
  refine ⟨?_, e⟩
  unfold f_s3 g_s3
  rw [e]
  exact h2.sv (show z_m 52 4 = some (53, 26) by decide) (by decide) (by decide) _
theorem s_st0 {A B : z_M} (h : z_sim A B) (dd : Nat) {b c : Nat} (hb : b ≤ 6) (hc : c ≤ 6) : (f_st0 A dd b c).1 = (g_st0 B dd b c).1 ∧ z_sim (f_st0 A dd b c).2 (g_st0 B dd b c).2 := by
  by_cases h6 : c = 6
  · rw [f_st0, if_pos h6, g_st0, if_pos h6]
    refine ⟨rfl, ?_⟩
    show z_sim (f_lk A dd c) (g_lk B dd)
    have h1 := s_s1 h dd c
    unfold f_lk g_lk
    rw [sm_t h1 1]
    exact s_tot h1 1 _
  · obtain ⟨h3, e⟩ := s_s3 h dd hb (show c < 6 by omega)
    by_cases q : 0 < f_s2 A dd b c 52 4 - f_s2 A dd b c (i_cell c) 2
    · have q2 : 0 < g_s2 B dd b c 53 26 - g_s2 B dd b c 63 c := by rw [← e]; exact q
      rw [f_st0, if_neg h6, if_pos q, g_st0, if_neg h6, if_pos q2]
      exact ⟨rfl, h3⟩
    · have q2 : ¬ 0 < g_s2 B dd b c 53 26 - g_s2 B dd b c 63 c := by rw [← e]; exact q
      rw [f_st0, if_neg h6, if_neg q, g_st0, if_neg h6, if_neg q2]
      exact s_col h3 (by omega)
def z_cc (A : z_M) : Prop := A 52 2 = f_ca A (A 52 0) (A 52 1) 6 0
theorem s_idx {A B : z_M} (h : z_sim A B) (hF : z_FI A) (hc : z_cc A) : f_dd A = g_dd B ∧ f_bb A = g_bb B ∧ f_cc A = g_cc B := by
  have e1 : f_dd A = g_dd B := by unfold f_dd g_dd; rw [sm_d h]
  have e2 : f_bb A = g_bb B := by
    unfold f_bb g_bb
    rw [show A 52 2 = _ from hc, z_ca_eq h hF.1 _ _ 6 0 (by omega), sm_x h, sm_y h]
  refine ⟨e1, e2, ?_⟩
  have h1 := s_mv h (g_dd B)
  unfold f_cc g_cc
  rw [e1, z_ca_eq h1 (z_okR_kp (f_mv_kp z_kp.rf _) hF.1) _ _ 6 0 (by omega), sm_x h1, sm_y h1]
theorem f_s3_xy (M : z_M) {dd b c : Nat} (hb : b ≤ 6) (hc : c < 6) : f_s3 M dd b c 52 0 = f_mv M dd 52 0 ∧ f_s3 M dd b c 52 1 = f_mv M dd 52 1 := by
  unfold f_s3
  rw [z_sv_get _ _ _ _ _ _ (Or.inr (by decide)), z_sv_get _ _ _ _ _ _ (Or.inr (by decide)), f_s2_52 M hb hc]
  unfold f_s1
  rw [z_sv_get _ _ _ _ _ _ (Or.inr (by decide)), z_sv_get _ _ _ _ _ _ (Or.inr (by decide))]
  exact ⟨rfl, rfl⟩
theorem f_aim_xy (M : z_M) : f_aim M 52 0 = M 52 0 ∧ f_aim M 52 1 = M 52 1 := by
  unfold f_aim f_dr
  constructor
  · rw [z_sv_get _ _ _ _ _ _ (Or.inr (by decide)), z_sv_get _ _ _ _ _ _ (Or.inl (by decide)), z_sv_get _ _ _ _ _ _ (Or.inr (by decide)), z_sv_get _ _ _ _ _ _ (Or.inl (by decide))]
  · rw [z_sv_get _ _ _ _ _ _ (Or.inr (by decide)), z_sv_get _ _ _ _ _ _ (Or.inl (by decide)), z_sv_get _ _ _ _ _ _ (Or.inr (by decide)), z_sv_get _ _ _ _ _ _ (Or.inl (by decide))]
theorem f_s3_cc {M : z_M} (hF : z_FI M) (hc6 : f_cc M < 6) : z_cc (f_s3 M (f_dd M) (f_bb M) (f_cc M)) := by
  have hb := (f_bb_n hF.2.2.2).1
  obtain ⟨e0, e1⟩ := f_s3_xy M (dd := f_dd M) hb hc6
  have hRm := z_okR_kp (f_mv_kp z_kp.rf (f_dd M)) hF.1
  have kk : z_kp (f_mv M (f_dd M)) (f_s3 M (f_dd M) (f_bb M) (f_cc M)) := (f_at_kp (z_kp.rf.sv (k := 52) (by decide) (by decide) _ _) hb hc6).sv (by decide) (by decide) _ _
  unfold z_cc
  rw [f_s3_2 M hb hc6, e0, e1, ca_kp kk hRm _ _ 6 0 (by omega)]
  exact (f_cc_n M).2.symm
theorem f_aim_cc {M : z_M} (hR : ∀ r, r < 6 → z_okR M r) (h : z_cc M) : z_cc (f_aim M) := by
  obtain ⟨e0, e1⟩ := f_aim_xy M
  unfold z_cc
  rw [f_aim_2, e0, e1, ca_kp (f_aim_kp z_kp.rf) hR _ _ 6 0 (by omega)]
  exact h
theorem f_cb_cc {M : z_M} (hR : ∀ r, r < 6 → z_okR M r) (h : z_cc M) {c : Nat} (hc : c < 6) : z_cc (f_cb M c) := by
  have e : f_cb M c 52 = M 52 := f_cb_row M (by decide) (by unfold i_talr; omega)
  unfold z_cc
  rw [e, ca_kp (f_cb_kp z_kp.rf hc) hR _ _ 6 0 (by omega)]
  exact h
theorem z_ccx {M2 M3 : z_M} (e : M3 = M2) (h : z_cc M2) : z_cc M3 := by rw [e]; exact h
theorem f_stp_cc {M : z_M} (hF : z_FI M) (h : ¬ (f_stp M).1 = 0) : z_cc (f_stp M).2 := by
  have hb := (f_bb_n hF.2.2.2).1
  have hc := (f_cc_n M).1
  rcases f_st0_cases M (f_dd M) (f_bb M) (f_cc M) with ⟨-, e⟩ | ⟨n, e⟩ | ⟨n, e⟩
  · exact absurd (congrArg Prod.fst e) h
  · exact z_ccx (congrArg Prod.snd e) (f_s3_cc hF (by omega))
  · have h3 := f_s3_cc hF (show f_cc M < 6 by omega)
    have hR3 := z_okR_kp (f_s3_kp (dd := f_dd M) z_kp.rf hb (show f_cc M < 6 by omega)) hF.1
    have e1 : (f_stp M).1 = (f_col (f_s3 M (f_dd M) (f_bb M) (f_cc M)) (f_cc M)).1 := congrArg Prod.fst e
    rcases f_col_cases (f_s3 M (f_dd M) (f_bb M) (f_cc M)) (f_cc M) with g | g | g
    · refine z_ccx ((congrArg Prod.snd e).trans (congrArg Prod.snd g)) (f_aim_cc ?_ (f_cb_cc hR3 h3 (by omega)))
      exact z_okR_kp (f_cb_kp z_kp.rf (show f_cc M < 6 by omega)) hR3
    · exact absurd (e1.trans (congrArg Prod.fst g)) h
    · exact absurd (e1.trans (congrArg Prod.fst g)) h
theorem s_stp {A B : z_M} (h : z_sim A B) (hF : z_FI A) (hc : z_cc A) : (f_stp A).1 = (g_stp B).1 ∧ z_sim (f_stp A).2 (g_stp B).2 := by
  obtain ⟨e1, e2, e3⟩ := s_idx h hF hc
  unfold f_stp g_stp
  rw [← e1, ← e2, ← e3]
  exact s_st0 h (f_dd A) (f_bb_n hF.2.2.2).1 (f_cc_n A).1
theorem s_flp : ∀ (n : Nat) (A B : z_M), z_sim A B → z_FI A → z_cc A → z_sim (f_flp n A) (g_flp n B) := by
  intro n
  induction n with
  | zero =>
    intro A B h hF hc
    rw [f_flp, g_flp, sm_t h 2]
    exact s_tot h 2 _
  | succ n ih =>
    intro A B h hF hc
    obtain ⟨e, hs⟩ := s_stp h hF hc
    by_cases q : (f_stp A).1 = 0
    · rw [f_flp, if_pos q, g_flp, if_pos (by rw [← e]; exact q)]
      exact hs
    · rw [f_flp, if_neg q, g_flp, if_neg (by rw [← e]; exact q)]
      exact ih _ _ hs (f_stp_on hF q) (f_stp_cc hF q)
theorem s_fly {A B : z_M} (h : z_sim A B) (hR : ∀ r, r < 6 → z_okR A r) (hL : ∃ w jn, z_LI A w jn) : z_sim (f_fly A) (g_fly B) := by
  have h1 : z_sim (f_fl0 A) (g_turn B) := s_aim (h.svA _)
  refine s_flp 200 _ _ h1 (f_fl0_FI hR hL) ?_
  refine f_aim_cc (z_okR_kp (z_kp.rf.sv (k := 52) (by decide) (by decide) _ _) hR) ?_
  unfold z_cc
  rw [z_sv_self, z_sv_get _ _ _ _ _ _ (Or.inr (by decide)), z_sv_get _ _ _ _ _ _ (Or.inr (by decide)), ca_kp (z_kp.rf.sv (k := 52) (by decide) (by decide) _ _) hR _ _ 6 0 (by omega)]
theorem s_snd {A B : z_M} (h : z_sim A B) (w : Nat) : z_sim (f_snd A w) (g_snd B w) := by
  unfold f_snd g_snd
  rw [h.at (show z_m 50 w = some (69, w) from rfl) (by decide), h.at (show z_m 51 w = some (70, w) from rfl) (by decide)]
  exact ((h.sv (show z_m 49 2 = some (53, 21) by decide) (by decide) (by decide) _).sv (show z_m 52 0 = some (53, 23) by decide) (by decide) (by decide) _).sv (show z_m 52 1 = some (53, 24) by decide) (by decide) (by decide) _
theorem s_hl : ∀ (n fl : Nat) (A B : z_M), z_sim A B → z_HI A → (f_hl n fl A).1 = (g_hl n fl B).1 ∧ z_sim (f_hl n fl A).2 (g_hl n fl B).2 := by
  intro n
  induction n with
  | zero => intro fl A B h _; exact ⟨rfl, h⟩
  | succ n ih =>
    intro fl A B h hH
    by_cases q : A 49 2 ≤ 0
    · have q2 : B 53 21 ≤ 0 := by rw [← sm_w h]; exact q
      rw [f_hl, if_pos q, g_hl, if_pos q2]
      exact ⟨rfl, h⟩
    · have q2 : ¬ B 53 21 ≤ 0 := by rw [← sm_w h]; exact q
      rw [f_hl, if_neg q, g_hl, if_neg q2]
      obtain ⟨hR, w, jn, hL⟩ := hH
      have hw : 0 < w := by
        rcases Nat.eq_zero_or_pos w with z | z
        · exact absurd (by rw [hL.2.2.1, z]; decide) q
        · exact z
      have ew : f_ww A = w := by unfold f_ww; rw [hL.2.2.1]; exact nI_clamp (by have := hL.1; have := hL.2.1; omega)
      have ew2 : g_ww B = f_ww A := by unfold f_ww g_ww; rw [sm_w h]
      have hL2 : z_LI A ((f_ww A - 1) + 1) jn := by rw [ew, show w - 1 + 1 = w by omega]; exact hL
      have k1 := f_snd_kp A (f_ww A - 1)
      obtain ⟨g1, g2⟩ := f_fly_kp (z_okR_kp k1 hR) ⟨_, _, f_snd_LI hL2⟩
      rw [ew2]
      exact ih (fl + 1) _ _ (s_fly (s_snd h _) (z_okR_kp k1 hR) ⟨_, _, f_snd_LI hL2⟩) ⟨z_okR_kp (k1.tr g1) hR, g2⟩
theorem s_h0 {A B : z_M} (h : z_sim A B) : z_sim (f_h0 A) (g_h0 B) := by
  have e1 : A 0 6 = B 53 13 := h.at (show z_m 0 6 = some (53, 13) by decide) (by decide)
  have e2 : A 0 7 = B 53 14 := h.at (show z_m 0 7 = some (53, 14) by decide) (by decide)
  have h1 := (h.sv (show z_m 49 2 = some (53, 21) by decide) (by decide) (by decide) 0).sv (show z_m 49 3 = some (53, 22) by decide) (by decide) (by decide) 0
  have h2 := s_jn h1 0 0 (A 0 6) (A 0 7)
  have e : z_sv (z_sv (z_sv (z_sv (z_sv (z_sv B 53 21 0) 53 22 0) 69 0 (A 0 6)) 70 0 (A 0 7)) 53 21 (nI (0 + 1))) 53 22 (nI (0 + 1)) = g_h0 B := by
    unfold g_h0
    rw [← e1, ← e2, z_sv_cm _ (k := 53) (k2 := 69) (j := 22) (Or.inl (by decide)), z_sv_cm _ (k := 53) (k2 := 70) (j := 22) (Or.inl (by decide)), z_sv_cm _ (k := 53) (j := 22) (k2 := 53) (j2 := 21) (Or.inr (by decide)), z_sv_sv, z_sv_cm _ (k := 53) (k2 := 69) (j := 21) (Or.inl (by decide)), z_sv_cm _ (k := 53) (k2 := 70) (j := 21) (Or.inl (by decide)), z_sv_sv]
  rw [e] at h2
  exact h2
theorem s_h2 {p q : Nat × z_M} (e : p.1 = q.1) (h : z_sim p.2 q.2) : z_sim (f_h2 p) (g_h2 q) := by
  have h1 : z_sim (f_h1 p) (g_h1 q) := by
    unfold f_h1 g_h1
    rw [e, sm_t h 0]
    exact s_tot h 0 _
  unfold f_h2 g_h2
  rw [sm_t h1 4]
  exact s_tot h1 4 _
theorem f_his_2 (M : z_M) : (f_his M).2 = f_h2 (f_hl 12 0 (f_h0 M)) := by rw [f_his]
theorem f_his_1 (M : z_M) : (f_his M).1 = nI (f_hl 12 0 (f_h0 M)).1 := by rw [f_his]
theorem g_his_1 (M : z_M) : (g_his M).1 = nI (g_hl 12 0 (g_h0 M)).1 := by rw [g_his]
theorem s_his {A B : z_M} (h : z_sim A B) (hR : ∀ r, r < 6 → z_okR A r) : (f_his A).1 = (g_his B).1 ∧ z_sim (f_his A).2 (g_his B).2 := by
  obtain ⟨e, h1⟩ := s_hl 12 0 _ _ (s_h0 h) (f_h0_HI hR).2
  rw [f_his_1, g_his_1, f_his_2, g_his_2, e]
  exact ⟨rfl, s_h2 e h1⟩
theorem s_run : ∀ (n : Nat) (a : Int32) (A B : z_M), z_sim A B → (∀ r, r < 6 → z_okR A r) → (f_run n a A).1 = (g_run n a B).1 ∧ z_sim (f_run n a A).2 (g_run n a B).2 := by
  intro n
  induction n with
  | zero => intro a A B h _; exact ⟨rfl, h⟩
  | succ n ih =>
    intro a A B h hR
    obtain ⟨e, h1⟩ := s_his h hR
    rw [f_run, g_run, ← e]
    exact ih _ _ _ h1 (z_okR_kp (f_his_kp hR) hR)
theorem g_run_ok : ∀ (n : Nat) (a : Int32) (M : z_M), (∀ r, r < 6 → z_okR (z_V M) r) → z_GN M → z_GN (g_run n a M).2 ∧ z_kq M (g_run n a M).2 := by
  intro n
  induction n with
  | zero => intro a M _ hg; exact ⟨hg, z_kq.rf⟩
  | succ n ih =>
    intro a M hR hg
    obtain ⟨⟨h1, h2⟩, h3⟩ := g_his_ok hR hg
    rw [g_run]
    obtain ⟨h4, h5⟩ := ih (a + (g_his M).1) _ h1 h2
    exact ⟨h4, h3.tr h5⟩
theorem op_run {dA : Nat → ClassId} {ad : Nat → Nat} {M : z_M} (hI : z_I M) (a : Int32) : ∃ (r : Int32) (M1 M2 : z_M), z_CI y_CellTransport_run b_CellTransport_run 4 .int 6 dA ad [.ref (ad 0), .int a] M r M1 ∧ z_CI y_Model_run b_Model_run 4 .int 5 dA ad [.ref (ad 53), .int a] M1 r M2 ∧ z_I M2 := by
  by_cases h : p_btw a 1 2
  · obtain ⟨N, hN, rfl⟩ := z_btwN (v := a) (n := 2) (by decide) ⟨Int32.le_trans (by decide) h.1, h.2⟩
    have h1 : 1 ≤ N := (nI_leI (a := 1) (by decide) (by omega)).mp h.1
    have k1 := f_run_kp N 0 M hI.r6
    have fA : ∀ q, 53 ≤ q → (f_run N 0 M).2 q = M q := fun q hq => k1 q (Or.inr hq)
    have s0 : z_sim M (f_run N 0 M).2 := hI.1.congr (fun _ _ => rfl) fA
    have hV : ∀ r, r < 6 → z_okR (z_V (f_run N 0 M).2) r := z_okV_of s0 hI.r6
    have hg : z_GN (f_run N 0 M).2 := z_GN_row hI.2.2 (by rw [fA 53 (by decide)])
    obtain ⟨e, s1⟩ := s_run N 0 _ _ s0 hI.r6
    obtain ⟨g1, g2⟩ := g_run_ok N 0 _ hV hg
    refine ⟨_, _, _, c_CellTransport_runY h1 hN hI.r6, by rw [e]; exact c_Model_runY h1 hN hV hg, ?_⟩
    refine z_I_step hI fA (fun q hq => g2 q (Or.inl hq)) (fun _ => s1) (fun r hr => ?_) g1
    exact z_okR_row (hI.2.1 r hr) (k1 _ (Or.inl (by unfold i_reg; omega))) (k1 _ (Or.inl (by unfold i_tok; omega)))
  · exact ⟨-1, M, M, c_CellTransport_runN h, c_Model_runN h, hI⟩
