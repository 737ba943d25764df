def z_I (M : z_M) : Prop := z_sim M M ∧ (∀ r, r < 7 → z_okR M r) ∧ z_GN M
theorem z_I.r6 {M : z_M} (h : z_I M) : ∀ r, r < 6 → z_okR M r := fun r hr => h.2.1 r (Nat.lt_succ_of_lt hr)
theorem z_I.rV {M : z_M} (h : z_I M) : ∀ r, r < 6 → z_okR (z_V M) r := z_okV_of h.1 h.r6
theorem z_okR_row {M M2 : z_M} {r : Nat} (h : z_okR M r) (e1 : M2 (i_reg r) = M (i_reg r)) (e2 : M2 (i_tok r) = M (i_tok r)) : z_okR M2 r := by
  obtain ⟨sz, h1, h2, h3⟩ := h
  exact ⟨sz, h1, by rw [e1]; exact h2, fun t ht => by rw [e2]; exact h3 t ht⟩
theorem z_I_step {M M1 M2 : z_M} (hI : z_I M) (fA : ∀ a, 53 ≤ a → M1 a = M a) (fB : ∀ a, a < 53 → M2 a = M1 a) (S : z_sim M M1 → z_sim M1 M2) (R : ∀ r, r < 7 → z_okR M1 r) (G : z_GN M2) : z_I M2 := by
  have s1 : z_sim M M1 := hI.1.congr (fun _ _ => rfl) fA
  have s2 : z_sim M2 M2 := (S s1).congr fB (fun _ _ => rfl)
  exact ⟨s2, fun r hr => z_okR_row (R r hr) (fB _ (by unfold i_reg; omega)) (fB _ (by unfold i_tok; omega)), G⟩
theorem z_GN_row {M M2 : z_M} (h : z_GN M) (e : M2 53 15 = M 53 15) : z_GN M2 := by
  obtain ⟨g, h1, h2⟩ := h
  exact ⟨g, h1, e.trans h2⟩
theorem z_fr {M0 M : z_M} (h : ∀ a, 53 ≤ a → M a = M0 a) {k : Nat} (hk : k < 53) (j : Nat) (v : Int32) : ∀ a, 53 ≤ a → z_sv M k j v a = M0 a := fun a ha => (z_sv_row M j v (by omega)).trans (h a ha)
theorem z_fl {M0 M : z_M} (h : ∀ a, a < 53 → M a = M0 a) {k : Nat} (hk : 53 ≤ k) (j : Nat) (v : Int32) : ∀ a, a < 53 → z_sv M k j v a = M0 a := fun a ha => (z_sv_row M j v (by omega)).trans (h a ha)
theorem z_rf {M : z_M} {p : Nat → Prop} : ∀ a, p a → M a = M a := fun _ _ => rfl
theorem z_okR_sv {M : z_M} {r : Nat} (h : z_okR M r) {k : Nat} (h1 : k ≠ i_reg r) (h2 : k ≠ i_tok r) (j : Nat) (v : Int32) : z_okR (z_sv M k j v) r := z_okR_row h (z_sv_row _ _ _ (fun q => h1 q.symm)) (z_sv_row _ _ _ (fun q => h2 q.symm))
theorem z_btwN {v : Int32} {n : Nat} (hn : n < 2 ^ 31) (h : p_btw v 0 (nI n)) : ∃ j : Nat, j ≤ n ∧ v = nI j := nI_of2 (nI_toInt hn) (Int32.not_lt.mpr h.1) h.2
theorem z_idem {M : z_M} (hI : z_I M) : z_I M := hI

theorem op_surface {dA : Nat → ClassId} {ad : Nat → Nat} {M : z_M} (hI : z_I M) (nm kd a b c : Int32) : ∃ (r : Int32) (M1 M2 : z_M), z_CI y_CellTransport_surface b_CellTransport_surface 8 .int 3 dA ad [.ref (ad 0), .int nm, .int kd, .int a, .int b, .int c] M r M1 ∧ z_CI y_Model_surface b_Model_surface 8 .int 1 dA ad [.ref (ad 53), .int nm, .int kd, .int a, .int b, .int c] M1 r M2 ∧ z_I M2 := by
  by_cases h : p_btw nm 0 7 ∧ p_isS kd a b c
  · obtain ⟨j, hj, rfl⟩ := z_btwN (n := 7) (by decide) h.1
    have hj8 : j < 8 := by omega
    obtain ⟨m0, m1, m2, m3, m4⟩ := z_m_surf hj8
    have s25 : i_surf j < 18 := by unfold i_surf; omega
    have es : M (i_surf j) 0 = M 58 j := hI.1.at m0 (Or.inl (by omega))
    have fA : ∀ q, 53 ≤ q → f_bec M j kd a b c q = M q := z_fr (z_fr (z_fr (z_fr (z_fr (fun _ _ => rfl) (by omega) _ _) (by omega) _ _) (by omega) _ _) (by omega) _ _) (by omega) _ _
    have er : z_b (¬ M (i_surf j) 0 = 0) = z_b (¬ f_bec M j kd a b c 58 j = 0) := by rw [es, fA 58 (by decide)]
    have fin : z_I (g_srf (f_bec M j kd a b c) j kd a b c) := by
      refine z_I_step hI fA (z_fl (z_fl (z_fl (z_fl (z_fl (fun _ _ => rfl) (by decide) _ _) (by decide) _ _) (by decide) _ _) (by decide) _ _) (by decide) _ _) (fun s => ?_) (fun r hr => ?_) ?_
      · exact ((((s.sv m0 (Or.inl s25) (by decide) _).sv m1 (Or.inl s25) (by decide) _).sv m2 (Or.inl s25) (by decide) _).sv m3 (Or.inl s25) (by decide) _).sv m4 (Or.inl s25) (by decide) _
      · have n1 : i_surf j ≠ i_reg r := by unfold i_surf i_reg; omega
        have n2 : i_surf j ≠ i_tok r := by unfold i_surf i_tok; omega
        exact z_okR_sv (z_okR_sv (z_okR_sv (z_okR_sv (z_okR_sv (hI.2.1 r hr) n1 n2 _ _) n1 n2 _ _) n1 n2 _ _) n1 n2 _ _) n1 n2 _ _
      · refine z_GN_row hI.2.2 ?_
        unfold g_srf
        rw [z_sv_row _ _ _ (by decide), z_sv_row _ _ _ (by decide), z_sv_row _ _ _ (by decide), z_sv_row _ _ _ (by decide), z_sv_row _ _ _ (by decide), fA 53 (by decide)]
    refine ⟨_, _, g_srf (f_bec M j kd a b c) j kd a b c, c_CellTransport_surfaceY hj8 h.2, ?_, fin⟩
    rw [er]
    rcases h.2 with ⟨rfl, hp⟩ | ⟨rfl, hp⟩
    · exact c_Model_surface0 hj8 hp
    · exact c_Model_surface1 hj8 hp
  · exact ⟨-1, M, M, c_CellTransport_surfaceN h, c_Model_surfaceN h, hI⟩
theorem op_token {dA : Nat → ClassId} {ad : Nat → Nat} {M : z_M} (hI : z_I M) (v : Int32) : ∃ (r : Int32) (M1 M2 : z_M), z_CI y_CellTransport_token b_CellTransport_token 2 .int 1 dA ad [.ref (ad 0), .int v] M r M1 ∧ z_CI y_Model_token b_Model_token 2 .int 1 dA ad [.ref (ad 53), .int v] M1 r M2 ∧ z_I M2 := by
  obtain ⟨sz, hz, hs, ht⟩ := hI.2.1 6 (by decide)
  have hs2 : M 53 6 = nI sz := (hI.1.at (show z_m (i_reg 6) 1 = some (53, 6) by decide) (by decide)).symm.trans hs
  by_cases h : p_btw v 0 10 ∧ sz < 8
  · obtain ⟨hv, h8⟩ := h
    have fA : ∀ q, 53 ≤ q → z_sv (z_sv M (i_tok 6) sz v) (i_reg 6) 1 (nI (sz + 1)) q = M q := z_fr (z_fr (fun _ _ => rfl) (by decide) _ _) (by decide) _ _
    refine ⟨_, _, _, c_CellTransport_tokenY hs hv h8, c_Model_tokenY (by rw [fA 53 (by decide)]; exact hs2) hv h8, ?_⟩
    refine z_I_step hI fA (z_fl (z_fl (fun _ _ => rfl) (by decide) _ _) (by decide) _ _) (fun s => ?_) (fun r hr => ?_) ?_
    · exact (s.sv (k := i_tok 6) (show z_m (i_tok 6) sz = some (59, sz) from rfl) (by decide) (by decide) _).sv (show z_m (i_reg 6) 1 = some (53, 6) by decide) (by decide) (by decide) _
    · by_cases h6 : r = 6
      · subst h6
        refine ⟨sz + 1, by omega, z_sv_self _ _ _ _, fun t ht2 => ?_⟩
        by_cases e : t = sz
        · obtain ⟨q, hq, eq⟩ := z_btwN (n := 10) (by decide) hv
          refine ⟨q, hq, ?_⟩
          rw [z_sv_get _ _ _ _ _ _ (Or.inl (by decide)), e, z_sv_self]
          exact eq
        · obtain ⟨q, hq, eq⟩ := ht t (by omega)
          refine ⟨q, hq, ?_⟩
          rw [z_sv_get _ _ _ _ _ _ (Or.inl (by decide)), z_sv_get _ _ _ _ _ _ (Or.inr e)]
          exact eq
      · have n1 : i_tok 6 ≠ i_reg r := by unfold i_tok i_reg; omega
        have n2 : i_tok 6 ≠ i_tok r := by unfold i_tok; omega
        have n3 : i_reg 6 ≠ i_reg r := by unfold i_reg; omega
        have n4 : i_reg 6 ≠ i_tok r := by unfold i_reg i_tok; omega
        exact z_okR_sv (z_okR_sv (hI.2.1 r hr) n1 n2 _ _) n3 n4 _ _
    · refine z_GN_row hI.2.2 ?_
      rw [z_sv_get _ _ _ _ _ _ (Or.inr (by decide)), z_sv_get _ _ _ _ _ _ (Or.inl (by decide)), fA 53 (by decide)]
  · exact ⟨-1, M, M, c_CellTransport_tokenN hs hz h, c_Model_tokenN hs2 hz h, hI⟩
theorem op_undefine {dA : Nat → ClassId} {ad : Nat → Nat} {M : z_M} (hI : z_I M) (nm : Int32) : ∃ (r : Int32) (M1 M2 : z_M), z_CI y_CellTransport_undefine b_CellTransport_undefine 4 .int 1 dA ad [.ref (ad 0), .int nm] M r M1 ∧ z_CI y_Model_undefine b_Model_undefine 3 .int 1 dA ad [.ref (ad 53), .int nm] M1 r M2 ∧ z_I M2 := by
  by_cases h : p_btw nm 0 5
  · obtain ⟨j, hj, rfl⟩ := z_btwN (n := 5) (by decide) h
    have hj6 : j < 6 := by omega
    have m0 := (z_m_cell hj6).1
    have s18 : i_cell j < 18 := by unfold i_cell; omega
    have fA : ∀ q, 53 ≤ q → z_sv M (i_cell j) 1 0 q = M q := z_fr (fun _ _ => rfl) (by omega) _ _
    have er : z_b (¬ M (i_cell j) 1 = 0) = z_b (¬ z_sv M (i_cell j) 1 0 62 j = 0) := by rw [hI.1.at m0 (Or.inl (by omega)), fA 62 (by decide)]
    refine ⟨_, _, _, c_CellTransport_undefineY hj6, by rw [er]; exact c_Model_undefineY hj6, ?_⟩
    refine z_I_step hI fA (z_fl (fun _ _ => rfl) (by decide) _ _) (fun s => s.sv m0 (Or.inl s18) (by decide) _) (fun r hr => ?_) ?_
    · exact z_okR_sv (hI.2.1 r hr) (by unfold i_cell i_reg; omega) (by unfold i_cell i_tok; omega) _ _
    · refine z_GN_row hI.2.2 ?_
      rw [z_sv_row _ _ _ (by decide), fA 53 (by decide)]
  · exact ⟨-1, M, M, c_CellTransport_undefineN h, c_Model_undefineN h, hI⟩
theorem op_source {dA : Nat → ClassId} {ad : Nat → Nat} {M : z_M} (hI : z_I M) (x y : Int32) : ∃ (r : Int32) (M1 M2 : z_M), z_CI y_CellTransport_source b_CellTransport_source 3 .int 2 dA ad [.ref (ad 0), .int x, .int y] M r M1 ∧ z_CI y_Model_source b_Model_source 3 .int 1 dA ad [.ref (ad 53), .int x, .int y] M1 r M2 ∧ z_I M2 := by
  by_cases h : p_wth x y 300
  · have fA : ∀ q, 53 ≤ q → z_sv (z_sv M 0 6 x) 0 7 y q = M q := z_fr (z_fr (fun _ _ => rfl) (by decide) _ _) (by decide) _ _
    refine ⟨0, _, _, c_CellTransport_sourceY h, c_Model_sourceY h, ?_⟩
    refine z_I_step hI fA (z_fl (z_fl (fun _ _ => rfl) (by decide) _ _) (by decide) _ _) (fun s => (s.sv (show z_m 0 6 = some (53, 13) by decide) (by decide) (by decide) _).sv (show z_m 0 7 = some (53, 14) by decide) (by decide) (by decide) _) (fun r hr => ?_) ?_
    · exact z_okR_sv (z_okR_sv (hI.2.1 r hr) (by unfold i_reg; omega) (by unfold i_tok; omega) _ _) (by unfold i_reg; omega) (by unfold i_tok; omega) _ _
    · refine z_GN_row hI.2.2 ?_
      rw [z_sv_get _ _ _ _ _ _ (Or.inr (by decide)), z_sv_get _ _ _ _ _ _ (Or.inr (by decide)), fA 53 (by decide)]
  · exact ⟨-1, M, M, c_CellTransport_sourceN h, c_Model_sourceN h, hI⟩
theorem op_gen {M : z_M} (hI : z_I M) {s : Int32} (hs : ∃ g : Nat, g < 2 ^ 31 ∧ s = nI g) : z_I (z_sv (z_sv M 32 0 s) 53 15 s) := by
  have fA : ∀ q, 53 ≤ q → z_sv M 32 0 s q = M q := z_fr (fun _ _ => rfl) (by decide) _ _
  refine z_I_step hI fA (z_fl (fun _ _ => rfl) (by decide) _ _) (fun h => h.sv (show z_m 32 0 = some (53, 15) by decide) (by decide) (by decide) _) (fun r hr => ?_) ?_
  · exact z_okR_sv (hI.2.1 r hr) (by unfold i_reg; omega) (by unfold i_tok; omega) _ _
  · obtain ⟨g, h1, h2⟩ := hs
    exact ⟨g, h1, (z_sv_self _ _ _ _).trans h2⟩
theorem op_seed {dA : Nat → ClassId} {ad : Nat → Nat} {M : z_M} (hI : z_I M) (v : Int32) : ∃ M1 M2 : z_M, z_CV y_CellTransport_seed b_CellTransport_seed 2 1 dA ad [.ref (ad 0), .int v] M M1 ∧ z_CV y_Model_seed b_Model_seed 2 0 dA ad [.ref (ad 53), .int v] M1 M2 ∧ z_I M2 := by
  exact ⟨_, _, c_CellTransport_seed v, c_Model_seed v, op_gen hI ⟨_, Nat.mod_lt _ (by decide), z_mask v⟩⟩
theorem op_state {dA : Nat → ClassId} {ad : Nat → Nat} {M : z_M} (hI : z_I M) : ∃ (r : Int32) (M1 M2 : z_M), z_CI y_CellTransport_state b_CellTransport_state 1 .int 0 dA ad [.ref (ad 0)] M r M1 ∧ z_CI y_Model_state b_Model_state 1 .int 0 dA ad [.ref (ad 53)] M1 r M2 ∧ z_I M2 := by
  have e : M 32 0 = M 53 15 := hI.1.at (show z_m 32 0 = some (53, 15) by decide) (by decide)
  exact ⟨_, M, M, c_CellTransport_state, by rw [e]; exact c_Model_state, hI⟩
theorem op_where {dA : Nat → ClassId} {ad : Nat → Nat} {M : z_M} (hI : z_I M) (x y : Int32) : ∃ (r : Int32) (M1 M2 : z_M), z_CI y_CellTransport_where b_CellTransport_where 3 .int 3 dA ad [.ref (ad 0), .int x, .int y] M r M1 ∧ z_CI y_Model_where b_Model_where 3 .int 3 dA ad [.ref (ad 53), .int x, .int y] M1 r M2 ∧ z_I M2 := by
  by_cases h : p_wth x y 1000
  · exact ⟨_, M, M, c_CellTransport_whereY hI.r6 h, by rw [z_ca_eq hI.1 hI.r6 x y 6 0 (by omega)]; exact c_Model_whereY hI.rV h, hI⟩
  · exact ⟨-1, M, M, c_CellTransport_whereN h, c_Model_whereN h, hI⟩
theorem op_reach {dA : Nat → ClassId} {ad : Nat → Nat} {M : z_M} (hI : z_I M) (x y dr : Int32) : ∃ (r : Int32) (M1 M2 : z_M), z_CI y_CellTransport_reach b_CellTransport_reach 6 .int 3 dA ad [.ref (ad 0), .int x, .int y, .int dr] M r M1 ∧ z_CI y_Model_reach b_Model_reach 6 .int 3 dA ad [.ref (ad 53), .int x, .int y, .int dr] M1 r M2 ∧ z_I M2 := by
  by_cases h : p_wth x y 1000 ∧ p_btw dr 0 7
  · obtain ⟨h1, h2⟩ := h
    obtain ⟨dd, hd, rfl⟩ := z_btwN (n := 7) (by decide) h2
    exact ⟨_, M, M, c_CellTransport_reachY hI.r6 (by omega) h1, by rw [z_rc_eq hI.1 hI.r6, z_ca_eq hI.1 hI.r6 x y 6 0 (by omega)]; exact c_Model_reachY hI.rV (by omega) h1, hI⟩
  · exact ⟨-1, M, M, c_CellTransport_reachN h, c_Model_reachN h, hI⟩
theorem op_tally {dA : Nat → ClassId} {ad : Nat → Nat} {M : z_M} (hI : z_I M) (a b : Int32) : ∃ (r : Int32) (M1 M2 : z_M), z_CI y_CellTransport_tally b_CellTransport_tally 3 .int 1 dA ad [.ref (ad 0), .int a, .int b] M r M1 ∧ z_CI y_Model_tally b_Model_tally 3 .int 1 dA ad [.ref (ad 53), .int a, .int b] M1 r M2 ∧ z_I M2 := by
  by_cases h : p_btw a 0 5 ∧ p_btw b 0 3
  · obtain ⟨i, hi, rfl⟩ := z_btwN (n := 5) (by decide) h.1
    obtain ⟨q, hq, rfl⟩ := z_btwN (n := 3) (by decide) h.2
    have e : M (i_talr i) q = _ := hI.1.at (z_m_talr (show i < 6 by omega) (show q < 4 by omega)) (by unfold i_talr; omega)
    exact ⟨_, M, M, c_CellTransport_tallyY (by omega) (by omega), by rw [e]; exact c_Model_tallyY (by omega) (by omega), hI⟩
  · exact ⟨-1, M, M, c_CellTransport_tallyN h, c_Model_tallyN h, hI⟩
theorem op_crossed {dA : Nat → ClassId} {ad : Nat → Nat} {M : z_M} (hI : z_I M) (a b : Int32) : ∃ (r : Int32) (M1 M2 : z_M), z_CI y_CellTransport_crossed b_CellTransport_crossed 3 .int 1 dA ad [.ref (ad 0), .int a, .int b] M r M1 ∧ z_CI y_Model_crossed b_Model_crossed 3 .int 1 dA ad [.ref (ad 53), .int a, .int b] M1 r M2 ∧ z_I M2 := by
  by_cases h : p_btw a 0 5 ∧ p_btw b 0 5
  · obtain ⟨i, hi, rfl⟩ := z_btwN (n := 5) (by decide) h.1
    obtain ⟨q, hq, rfl⟩ := z_btwN (n := 5) (by decide) h.2
    have e : M (i_cror i) q = _ := hI.1.at (z_m_cror (show i < 6 by omega) (show q < 6 by omega)) (by unfold i_cror; omega)
    exact ⟨_, M, M, c_CellTransport_crossedY (by omega) (by omega), by rw [e]; exact c_Model_crossedY (by omega) (by omega), hI⟩
  · exact ⟨-1, M, M, c_CellTransport_crossedN h, c_Model_crossedN h, hI⟩
theorem op_count {dA : Nat → ClassId} {ad : Nat → Nat} {M : z_M} (hI : z_I M) (a : Int32) : ∃ (r : Int32) (M1 M2 : z_M), z_CI y_CellTransport_count b_CellTransport_count 2 .int 2 dA ad [.ref (ad 0), .int a] M r M1 ∧ z_CI y_Model_count b_Model_count 4 .int 1 dA ad [.ref (ad 53), .int a] M1 r M2 ∧ z_I M2 := by
  by_cases h4 : p_btw a 0 4
  · obtain ⟨q, hq, rfl⟩ := z_btwN (n := 4) (by decide) h4
    have e : M 34 q = M 68 q := hI.1.at (show z_m 34 q = some (68, q) from rfl) (by decide)
    exact ⟨_, M, M, c_CellTransport_countT (by omega), by rw [e]; exact c_Model_countT (by omega), hI⟩
  · by_cases h5 : a = 5
    · subst h5
      have e : M (i_reg 6) 1 = M 53 6 := hI.1.at (show z_m (i_reg 6) 1 = some (53, 6) by decide) (by decide)
      exact ⟨_, M, M, c_CellTransport_count5, by rw [e]; exact c_Model_count5, hI⟩
    · by_cases h6 : a = 6
      · subst h6
        exact ⟨_, M, M, c_CellTransport_count6, by rw [z_dc_eq hI.1 6 0 0 (by omega)]; exact c_Model_count6, hI⟩
      · refine ⟨-1, M, M, c_CellTransport_countN h4 h5 h6, c_Model_countN (fun q => ?_), hI⟩
        obtain ⟨j, hj, e⟩ := z_btwN (n := 6) (by decide) q
        rcases (show j ≤ 4 ∨ j = 5 ∨ j = 6 by omega) with q4 | q5 | q6
        · exact h4 (by rw [e]; exact z_in (n := 4) q4 (by decide))
        · exact h5 (by rw [e, q5]; rfl)
        · exact h6 (by rw [e, q6]; rfl)
