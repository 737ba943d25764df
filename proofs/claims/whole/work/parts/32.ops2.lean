theorem z_m_cls {a b x y : Nat} (h : z_m a b = some (x, y)) : (x = 68 ↔ a = 34) ∧ (x = 66 ↔ 36 ≤ a ∧ a < 42) ∧ (x = 67 ↔ 43 ≤ a ∧ a < 49) ∧ (x = 66 → b < 4 ∧ y < 24) ∧ (x = 67 → b < 6 ∧ y < 36) ∧ (x = 68 → y = b) ∧ (x = 60 → 25 ≤ a ∧ a < 31) := by
  unfold z_m at h
  by_cases q1 : a = 0
  · rw [if_pos q1] at h
    by_cases q2 : b = 6
    · rw [if_pos q2] at h
      cases h
      omega
    rw [if_neg q2] at h
    by_cases q3 : b = 7
    · rw [if_pos q3] at h
      cases h
      omega
    rw [if_neg q3] at h
    cases h
  rw [if_neg q1] at h
  by_cases q4 : a < 4
  · rw [if_pos q4] at h
    cases h
  rw [if_neg q4] at h
  by_cases q5 : a < 12
  · rw [if_pos q5] at h
    by_cases q6 : b = 0
    · rw [if_pos q6] at h
      cases h
      omega
    rw [if_neg q6] at h
    by_cases q7 : b = 1
    · rw [if_pos q7] at h
      cases h
      omega
    rw [if_neg q7] at h
    by_cases q8 : b = 2
    · rw [if_pos q8] at h
      cases h
      omega
    rw [if_neg q8] at h
    by_cases q9 : b = 3
    · rw [if_pos q9] at h
      cases h
      omega
    rw [if_neg q9] at h
    by_cases q10 : b = 4
    · rw [if_pos q10] at h
      cases h
      omega
    rw [if_neg q10] at h
    cases h
  rw [if_neg q5] at h
  by_cases q11 : a < 18
  · rw [if_pos q11] at h
    by_cases q12 : b = 1
    · rw [if_pos q12] at h
      cases h
      omega
    rw [if_neg q12] at h
    by_cases q13 : b = 2
    · rw [if_pos q13] at h
      cases h
      omega
    rw [if_neg q13] at h
    by_cases q14 : b = 3
    · rw [if_pos q14] at h
      cases h
      omega
    rw [if_neg q14] at h
    by_cases q15 : b = 4
    · rw [if_pos q15] at h
      cases h
      omega
    rw [if_neg q15] at h
    cases h
  rw [if_neg q11] at h
  by_cases q16 : a < 24
  · rw [if_pos q16] at h
    by_cases q17 : b = 1
    · rw [if_pos q17] at h
      cases h
      omega
    rw [if_neg q17] at h
    cases h
  rw [if_neg q16] at h
  by_cases q18 : a = 24
  · rw [if_pos q18] at h
    by_cases q19 : b = 1
    · rw [if_pos q19] at h
      cases h
      omega
    rw [if_neg q19] at h
    cases h
  rw [if_neg q18] at h
  by_cases q20 : a < 31
  · rw [if_pos q20] at h
    by_cases q21 : b < 8
    · rw [if_pos q21] at h
      cases h
      omega
    rw [if_neg q21] at h
    cases h
  rw [if_neg q20] at h
  by_cases q22 : a = 31
  · rw [if_pos q22] at h
    cases h
    omega
  rw [if_neg q22] at h
  by_cases q23 : a = 32
  · rw [if_pos q23] at h
    by_cases q24 : b = 0
    · rw [if_pos q24] at h
      cases h
      omega
    rw [if_neg q24] at h
    cases h
  rw [if_neg q23] at h
  by_cases q25 : a = 34
  · rw [if_pos q25] at h
    cases h
    omega
  rw [if_neg q25] at h
  by_cases q26 : 36 ≤ a ∧ a < 42
  · rw [if_pos q26] at h
    by_cases q27 : b < 4
    · rw [if_pos q27] at h
      cases h
      omega
    rw [if_neg q27] at h
    cases h
  rw [if_neg q26] at h
  by_cases q28 : 43 ≤ a ∧ a < 49
  · rw [if_pos q28] at h
    by_cases q29 : b < 6
    · rw [if_pos q29] at h
      cases h
      omega
    rw [if_neg q29] at h
    cases h
  rw [if_neg q28] at h
  by_cases q30 : a = 49
  · rw [if_pos q30] at h
    by_cases q31 : b = 2
    · rw [if_pos q31] at h
      cases h
      omega
    rw [if_neg q31] at h
    by_cases q32 : b = 3
    · rw [if_pos q32] at h
      cases h
      omega
    rw [if_neg q32] at h
    cases h
  rw [if_neg q30] at h
  by_cases q33 : a = 50
  · rw [if_pos q33] at h
    cases h
    omega
  rw [if_neg q33] at h
  by_cases q34 : a = 51
  · rw [if_pos q34] at h
    cases h
    omega
  rw [if_neg q34] at h
  by_cases q35 : a = 52
  · rw [if_pos q35] at h
    by_cases q36 : b = 0
    · rw [if_pos q36] at h
      cases h
      omega
    rw [if_neg q36] at h
    by_cases q37 : b = 1
    · rw [if_pos q37] at h
      cases h
      omega
    rw [if_neg q37] at h
    by_cases q38 : b = 3
    · rw [if_pos q38] at h
      cases h
      omega
    rw [if_neg q38] at h
    by_cases q39 : b = 4
    · rw [if_pos q39] at h
      cases h
      omega
    rw [if_neg q39] at h
    cases h
  rw [if_neg q35] at h
  cases h
theorem z_sv_cm (M : z_M) {k k2 j j2 : Nat} (h : k ≠ k2 ∨ j ≠ j2) (v v2 : Int32) : z_sv (z_sv M k j v) k2 j2 v2 = z_sv (z_sv M k2 j2 v2) k j v := by
  funext a b
  rw [z_sv_at, z_sv_at, z_sv_at, z_sv_at]
  by_cases e1 : a = k ∧ b = j
  · have e2 : ¬ (a = k2 ∧ b = j2) := fun q => h.elim (fun z => z (e1.1.symm.trans q.1)) (fun z => z (e1.2.symm.trans q.2))
    rw [if_neg e2, if_pos e1, if_pos e1]
  · by_cases e2 : a = k2 ∧ b = j2
    · rw [if_pos e2, if_neg e1, if_pos e2]
    · rw [if_neg e2, if_neg e1, if_neg e1, if_neg e2]
theorem g_cp_cm (j : Nat) {k : Nat} (h1 : k ≠ 59) (h2 : k ≠ 60) (q : Nat) (v : Int32) : ∀ (n i : Nat) (M : z_M), g_cp j n i (z_sv M k q v) = z_sv (g_cp j n i M) k q v := by
  intro n
  induction n with
  | zero => intro i M; rfl
  | succ n ih =>
    intro i M
    rw [g_cp, g_cp, z_sv_row M q v (fun z => h1 z.symm), z_sv_cm M (Or.inl h2), ih]
theorem g_cp_at (j : Nat) : ∀ (n i : Nat) (M : z_M) (q : Nat), g_cp j n i M 60 q = if 8 * j + i ≤ q ∧ q < 8 * j + i + n then M 59 (q - 8 * j) else M 60 q := by
  intro n
  induction n with
  | zero => intro i M q; rw [if_neg (by omega)]; rfl
  | succ n ih =>
    intro i M q
    rw [g_cp, ih (i + 1)]
    by_cases e : q = 8 * j + i
    · rw [if_neg (by omega), if_pos (by omega), e, z_sv_self, show 8 * j + i - 8 * j = i by omega]
    · by_cases g : 8 * j + (i + 1) ≤ q ∧ q < 8 * j + (i + 1) + n
      · rw [if_pos g, if_pos (by omega), z_sv_get _ _ _ _ _ _ (Or.inl (by decide))]
      · rw [if_neg g, if_neg (by omega), z_sv_get _ _ _ _ _ _ (Or.inr e)]
theorem f_cpy_row (A : z_M) (j : Nat) {a : Nat} (h1 : a ≠ i_tok j) (h2 : a ≠ i_reg j) : f_cpy A j a = A a := by
  unfold f_cpy
  rw [z_sv_row _ _ _ h2, va_up_ne _ _ h1]
theorem f_cpy_reg (A : z_M) (j : Nat) : f_cpy A j (i_reg j) 1 = A (i_reg 6) 1 := z_sv_self _ _ _ _
theorem f_cpy_tok (A : z_M) {j t : Nat} (ht : t < 8) : f_cpy A j (i_tok j) t = A (i_tok 6) t := by
  unfold f_cpy
  rw [z_sv_row _ _ _ (by unfold i_tok i_reg; omega), va_up_self, pk_cpy_in (by omega) (by omega)]
  simp
theorem f_cpy_regO (A : z_M) (j : Nat) {a b : Nat} (h1 : a ≠ i_tok j) (h2 : a ≠ i_reg j ∨ b ≠ 1) : f_cpy A j a b = A a b := by
  unfold f_cpy
  rw [z_sv_get _ _ _ _ _ _ h2, va_up_ne _ _ h1]
theorem z_sim_cpy {A B : z_M} (h : z_sim A B) (hR : ∀ r, r < 7 → z_okR A r) {j : Nat} (hj : j < 6) {sz : Nat} (hz : sz ≤ 8) (hs : A (i_reg 6) 1 = nI sz) : z_sim (f_cpy A j) (z_sv (g_cp j sz 0 B) 61 j (nI sz)) := by
  refine ⟨fun a b q hq ha => ?_, fun r hr t ht => ?_⟩
  · obtain ⟨x, y⟩ := q
    have n1 : a ≠ i_tok j := by unfold i_tok; omega
    by_cases e : a = i_reg j ∧ b = 1
    · obtain ⟨rfl, rfl⟩ := e
      have eq : (x, y) = (61, j) := Option.some.inj (hq.symm.trans (z_m_reg hj))
      rw [eq, f_cpy_reg, hs]
      exact (z_sv_self _ _ _ _).symm
    · have n2 : a ≠ i_reg j ∨ b ≠ 1 := by
        by_cases q1 : a = i_reg j
        · exact Or.inr (fun q2 => e ⟨q1, q2⟩)
        · exact Or.inl q1
      have n3 : x ≠ 61 ∨ y ≠ j := by
        by_cases q1 : x = 61
        · refine Or.inr (fun q2 => e ?_)
          rw [q1, q2] at hq
          exact z_m_inj hq (z_m_reg hj)
        · exact Or.inl q1
      have n4 : x ≠ 60 := fun q1 => by have := (z_m_cls hq).2.2.2.2.2.2 q1; omega
      rw [f_cpy_regO A j n1 n2]
      show A a b = z_sv (g_cp j sz 0 B) 61 j (nI sz) x y
      rw [z_sv_get _ _ _ _ _ _ n3, g_cp_row _ _ _ _ n4]
      exact h.1 a b (x, y) hq ha
  · by_cases e : r = j
    · subst e
      rw [f_cpy_reg, hs, nI_clamp (by omega)] at ht
      rw [f_cpy_tok A (show t < 8 by omega), z_sv_row _ _ _ (by decide), g_cp_at, if_pos (by omega), show 8 * r + t - 8 * r = t by omega]
      exact h.at (show z_m (i_tok 6) t = some (59, t) from rfl) (by decide)
    · have n1 : i_reg r ≠ i_tok j := by unfold i_reg i_tok; omega
      have n2 : i_reg r ≠ i_reg j := by unfold i_reg; omega
      have n3 : i_tok r ≠ i_tok j := by unfold i_tok; omega
      have n4 : i_tok r ≠ i_reg j := by unfold i_tok i_reg; omega
      rw [f_cpy_row A j n1 n2] at ht
      obtain ⟨s2, h1, h2, -⟩ := hR r (by omega)
      have ht8 : t < 8 := by rw [h2, nI_clamp (by omega)] at ht; omega
      rw [f_cpy_row A j n3 n4, z_sv_row _ _ _ (by decide), g_cp_at, if_neg (by omega)]
      exact h.2 r hr t ht
theorem f_def_eq (M : z_M) {j : Nat} (hj : j < 6) (de ab fi : Int32) : f_def M j de ab fi = z_sv (z_sv (z_sv (z_sv (f_cpy M j) (i_cell j) 1 1) (i_cell j) 2 de) (i_cell j) 3 ab) (i_cell j) 4 fi := by
  have e : f_cpy (z_sv M (i_cell j) 1 1) j = z_sv (f_cpy M j) (i_cell j) 1 1 := by
    have c1 : i_tok 6 ≠ i_cell j := by unfold i_tok i_cell; omega
    have c2 : i_tok j ≠ i_cell j := by unfold i_tok i_cell; omega
    have c3 : i_reg 6 ≠ i_cell j := by unfold i_reg i_cell; omega
    have c4 : i_reg j ≠ i_cell j := by unfold i_reg i_cell; omega
    unfold f_cpy
    rw [z_sv_row M _ _ c1, z_sv_row M _ _ c2, z_sv_row M _ _ c3, z_sv_cm _ (k := i_reg j) (k2 := i_cell j) (Or.inl c4)]
    congr 1
    funext a
    by_cases q : a = i_tok j
    · subst q
      rw [va_up_self, z_sv_row _ _ _ c2, va_up_self]
    · rw [va_up_ne _ _ q]
      unfold z_sv
      by_cases q2 : a = i_cell j
      · subst q2
        rw [va_up_self, va_up_self, va_up_ne _ _ q]
      · rw [va_up_ne _ _ q2, va_up_ne _ _ q2, va_up_ne _ _ q]
  unfold f_def
  rw [e]
theorem g_cel_eq (B : z_M) (j sz : Nat) (de ab fi : Int32) : g_cel B j sz de ab fi = z_sv (z_sv (z_sv (z_sv (z_sv (z_sv (g_cp j sz 0 B) 61 j (nI sz)) 62 j 1) 63 j de) 64 j ab) 65 j fi) 53 6 0 := by
  unfold g_cel g_ce1 g_ce0
  rw [g_cp_cm j (by decide) (by decide)]
  rw [z_sv_cm _ (k := 53) (k2 := 61) (Or.inl (by decide)), z_sv_cm _ (k := 53) (k2 := 63) (Or.inl (by decide)), z_sv_cm _ (k := 53) (k2 := 64) (Or.inl (by decide)), z_sv_cm _ (k := 53) (k2 := 65) (Or.inl (by decide)), z_sv_cm _ (k := 53) (k2 := 62) (Or.inl (by decide)), z_sv_cm _ (k := 65) (k2 := 62) (Or.inl (by decide)), z_sv_cm _ (k := 64) (k2 := 62) (Or.inl (by decide)), z_sv_cm _ (k := 63) (k2 := 62) (Or.inl (by decide))]
theorem op_cell {dA : Nat → ClassId} {ad : Nat → Nat} {M : z_M} (hI : z_I M) (nm de ab fi : Int32) : ∃ (r : Int32) (M1 M2 : z_M), z_CI y_CellTransport_cell b_CellTransport_cell 7 .int 3 dA ad [.ref (ad 0), .int nm, .int de, .int ab, .int fi] M r M1 ∧ z_CI y_Model_cell b_Model_cell 8 .int 1 dA ad [.ref (ad 53), .int nm, .int de, .int ab, .int fi] M1 r M2 ∧ z_I M2 := by
  obtain ⟨sz, hz, hs, ht⟩ := hI.2.1 6 (by decide)
  have hs2 : M 53 6 = nI sz := (hI.1.at (show z_m (i_reg 6) 1 = some (53, 6) by decide) (by decide)).symm.trans hs
  have e59 : M (i_tok 6) = M 59 := funext fun t => hI.1.at (show z_m (i_tok 6) t = some (59, t) from rfl) (by decide)
  have ht2 : ∀ t, t < sz → ∃ v, v ≤ 10 ∧ M 59 t = nI v := fun t h => by rw [← e59]; exact ht t h
  by_cases h : p_btw nm 0 5 ∧ p_btw de 0 1000 ∧ p_shr ab fi
  · by_cases hw : f_wh (M (i_tok 6)) sz 0 0 = 0
    · have fA : ∀ q, 53 ≤ q → z_sv M (i_reg 6) 1 0 q = M q := z_fr (fun _ _ => rfl) (by decide) _ _
      refine ⟨-1, _, _, c_CellTransport_cellW hs hz h hw, c_Model_cellW (sz := sz) (by rw [fA 53 (by decide)]; exact hs2) hz (by rw [fA 59 (by decide)]; exact ht2) h (by rw [fA 59 (by decide), ← e59]; exact hw), ?_⟩
      refine z_I_step hI fA (z_fl (fun _ _ => rfl) (by decide) _ _) (fun s => s.sv (show z_m (i_reg 6) 1 = some (53, 6) by decide) (by decide) (by decide) _) (fun r hr => ?_) ?_
      · by_cases h6 : r = 6
        · subst h6
          exact ⟨0, by omega, (z_sv_self _ _ _ _).trans nI_0.symm, fun t q => absurd q (by omega)⟩
        · exact z_okR_sv (hI.2.1 r hr) (by unfold i_reg; omega) (by unfold i_reg i_tok; omega) _ _
      · refine z_GN_row hI.2.2 ?_
        rw [z_sv_get _ _ _ _ _ _ (Or.inr (by decide)), fA 53 (by decide)]
    · obtain ⟨hn, hb2⟩ := h
      obtain ⟨j, hj, rfl⟩ := z_btwN (n := 5) (by decide) hn
      have hj6 : j < 6 := by omega
      have s18 : i_cell j < 18 := by unfold i_cell; omega
      obtain ⟨m1, m2, m3, m4⟩ := z_m_cell hj6
      have t53 : i_tok j < 53 ∧ i_reg j < 53 := by unfold i_tok i_reg; omega
      have fA : ∀ q, 53 ≤ q → z_sv (f_def M j de ab fi) (i_reg 6) 1 0 q = M q := by
        rw [f_def_eq M hj6]
        exact z_fr (z_fr (z_fr (z_fr (z_fr (fun a ha => f_cpy_row M j (by omega) (by omega)) (by omega) _ _) (by omega) _ _) (by omega) _ _) (by omega) _ _) (by decide) _ _
      have er : z_b (¬ M (i_cell j) 1 = 0) = z_b (¬ z_sv (f_def M j de ab fi) (i_reg 6) 1 0 62 j = 0) := by rw [hI.1.at m1 (Or.inl (by omega)), fA 62 (by decide)]
      refine ⟨_, _, _, c_CellTransport_cellY hj6 hs hz hb2 hw, by rw [er]; exact c_Model_cellY hj6 (sz := sz) (by rw [fA 53 (by decide)]; exact hs2) hz (by rw [fA 59 (by decide)]; exact ht2) hb2 (by rw [fA 59 (by decide), ← e59]; exact hw), ?_⟩
      refine z_I_step hI fA (fun a ha => ?_) (fun s => ?_) (fun r hr => ?_) ?_
      · rw [g_cel_eq]
        exact z_fl (z_fl (z_fl (z_fl (z_fl (z_fl (fun a ha => g_cp_row j sz 0 _ (by omega)) (by decide) _ _) (by decide) _ _) (by decide) _ _) (by decide) _ _) (by decide) _ _) (by decide) _ _ a ha
      · rw [g_cel_eq]
        have s1 := z_sim_cpy s hI.2.1 hj6 hz hs
        have s2 := ((((s1.sv m1 (Or.inl s18) (by decide) 1).sv m2 (Or.inl s18) (by decide) de).sv m3 (Or.inl s18) (by decide) ab).sv m4 (Or.inl s18) (by decide) fi).sv (show z_m (i_reg 6) 1 = some (53, 6) by decide) (by decide) (by decide) 0
        rw [← f_def_eq M hj6] at s2
        exact s2
      · by_cases h6 : r = 6
        · subst h6
          exact ⟨0, by omega, (z_sv_self _ _ _ _).trans nI_0.symm, fun t q => absurd q (by omega)⟩
        · refine z_okR_sv ?_ (by unfold i_reg; omega) (by unfold i_reg i_tok; omega) _ _
          rw [f_def_eq M hj6]
          have k1 : i_cell j ≠ i_reg r := by unfold i_cell i_reg; omega
          have k2 : i_cell j ≠ i_tok r := by unfold i_cell i_tok; omega
          refine z_okR_sv (z_okR_sv (z_okR_sv (z_okR_sv ?_ k1 k2 _ _) k1 k2 _ _) k1 k2 _ _) k1 k2 _ _
          by_cases e : r = j
          · subst e
            exact ⟨sz, hz, (f_cpy_reg M r).trans hs, fun t q => by rw [f_cpy_tok M (show t < 8 by omega)]; exact ht t q⟩
          · exact z_okR_row (hI.2.1 r hr) (f_cpy_row M j (by unfold i_reg i_tok; omega) (by unfold i_reg; omega)) (f_cpy_row M j (by unfold i_tok; omega) (by unfold i_tok i_reg; omega))
      · refine z_GN_row hI.2.2 ?_
        rw [g_cel_eq, z_sv_get _ _ _ _ _ _ (Or.inr (by decide)), z_sv_row _ _ _ (by decide), z_sv_row _ _ _ (by decide), z_sv_row _ _ _ (by decide), z_sv_row _ _ _ (by decide), z_sv_row _ _ _ (by decide), g_cp_row _ _ _ _ (by decide), fA 53 (by decide)]
  · exact ⟨-1, M, M, c_CellTransport_cellN h, c_Model_cellN h, hI⟩
theorem f_fl_at (M : z_M) (q n : Nat) (v : Int32) (a b : Nat) : f_fl M q n v a b = if a = q ∧ b < n then v else M a b := by
  unfold f_fl va_up
  by_cases h : a = q
  · subst h
    by_cases h2 : b < n <;> simp [h2]
  · simp [h]
theorem f_rst_at (a b : Nat) : ∀ (n i : Nat) (M : z_M), i + n = 6 → f_rst n i M a b = if (36 + i ≤ a ∧ a < 42 ∧ b < 4) ∨ (43 + i ≤ a ∧ a < 49 ∧ b < 6) then 0 else M a b := by
  intro n
  induction n with
  | zero => intro i M hi; rw [f_rst, if_neg (by omega)]
  | succ n ih =>
    intro i M hi
    rw [f_rst, ih (i + 1) _ (by omega), f_fl_at, f_fl_at]
    unfold i_talr i_cror
    by_cases h1 : (36 + (i + 1) ≤ a ∧ a < 42 ∧ b < 4) ∨ (43 + (i + 1) ≤ a ∧ a < 49 ∧ b < 6)
    · rw [if_pos h1, if_pos (by omega)]
    · rw [if_neg h1]
      by_cases h2 : a = 43 + i ∧ b < 6
      · rw [if_pos h2, if_pos (by omega)]
      · rw [if_neg h2]
        by_cases h3 : a = 36 + i ∧ b < 4
        · rw [if_pos h3, if_pos (by omega)]
        · rw [if_neg h3, if_neg (by omega)]
theorem f_clr_at (M : z_M) (a b : Nat) : f_rst 6 0 (f_fl M 34 5 0) a b = if (36 ≤ a ∧ a < 42 ∧ b < 4) ∨ (43 ≤ a ∧ a < 49 ∧ b < 6) ∨ (a = 34 ∧ b < 5) then 0 else M a b := by
  rw [f_rst_at a b 6 0 _ (by omega), f_fl_at]
  by_cases h1 : (36 + 0 ≤ a ∧ a < 42 ∧ b < 4) ∨ (43 + 0 ≤ a ∧ a < 49 ∧ b < 6)
  · rw [if_pos h1, if_pos (by omega)]
  · rw [if_neg h1]
    by_cases h2 : a = 34 ∧ b < 5
    · rw [if_pos h2, if_pos (by omega)]
    · rw [if_neg h2, if_neg (by omega)]
theorem g_clr_at (M : z_M) (a b : Nat) : f_fl (f_fl (f_fl M 66 24 0) 67 36 0) 68 5 0 a b = if (a = 66 ∧ b < 24) ∨ (a = 67 ∧ b < 36) ∨ (a = 68 ∧ b < 5) then 0 else M a b := by
  rw [f_fl_at, f_fl_at, f_fl_at]
  by_cases h1 : a = 68 ∧ b < 5
  · rw [if_pos h1, if_pos (by omega)]
  · rw [if_neg h1]
    by_cases h2 : a = 67 ∧ b < 36
    · rw [if_pos h2, if_pos (by omega)]
    · rw [if_neg h2]
      by_cases h3 : a = 66 ∧ b < 24
      · rw [if_pos h3, if_pos (by omega)]
      · rw [if_neg h3, if_neg (by omega)]
theorem z_sim_clr {A B : z_M} (h : z_sim A B) : z_sim (f_rst 6 0 (f_fl A 34 5 0)) (f_fl (f_fl (f_fl B 66 24 0) 67 36 0) 68 5 0) := by
  refine ⟨fun a b q hq ha => ?_, fun r hr t ht => ?_⟩
  · obtain ⟨x, y⟩ := q
    obtain ⟨c1, c2, c3, c4, c5, c6, -⟩ := z_m_cls hq
    show _ = f_fl (f_fl (f_fl B 66 24 0) 67 36 0) 68 5 0 x y
    rw [f_clr_at, g_clr_at]
    by_cases g : (36 ≤ a ∧ a < 42 ∧ b < 4) ∨ (43 ≤ a ∧ a < 49 ∧ b < 6) ∨ (a = 34 ∧ b < 5)
    · rw [if_pos g, if_pos]
      rcases g with g | g | g
      · have := c2.mpr ⟨g.1, g.2.1⟩; have := c4 this; omega
      · have := c3.mpr ⟨g.1, g.2.1⟩; have := c5 this; omega
      · have := c1.mpr g.1; have := c6 this; omega
    · rw [if_neg g, if_neg]
      · exact h.1 a b (x, y) hq ha
      · intro z
        rcases z with z | z | z
        · have e1 := c2.mp z.1; have e2 := c4 z.1; omega
        · have e1 := c3.mp z.1; have e2 := c5 z.1; omega
        · have e1 := c1.mp z.1; have e2 := c6 z.1; omega
  · have e1 : f_rst 6 0 (f_fl A 34 5 0) (i_reg r) 1 = A (i_reg r) 1 := by rw [f_clr_at, if_neg (by unfold i_reg; omega)]
    rw [e1] at ht
    rw [f_clr_at, if_neg (by unfold i_tok; omega), g_clr_at, if_neg (by omega)]
    exact h.2 r hr t ht
theorem op_clear {dA : Nat → ClassId} {ad : Nat → Nat} {M : z_M} (hI : z_I M) : ∃ M1 M2 : z_M, z_CV y_CellTransport_clear b_CellTransport_clear 1 2 dA ad [.ref (ad 0)] M M1 ∧ z_CV y_Model_clear b_Model_clear 2 0 dA ad [.ref (ad 53)] M1 M2 ∧ z_I M2 := by
  refine ⟨_, _, c_CellTransport_clear, c_Model_clear, ?_⟩
  have fA : ∀ q, 53 ≤ q → f_rst 6 0 (f_fl M 34 5 0) q = M q := fun q hq => funext fun b => by rw [f_clr_at, if_neg (by omega)]
  refine z_I_step hI fA (fun a ha => funext fun b => by rw [g_clr_at, if_neg (by omega)]) (fun s => (z_sim_clr (hI.1.congr (fun _ _ => rfl) (fun _ _ => rfl))).congr (fun _ _ => rfl) (fun a ha => funext fun b => ?_)) (fun r hr => ?_) ?_
  · rw [g_clr_at, g_clr_at, fA a ha]
  · exact z_okR_row (hI.2.1 r hr) (funext fun b => by rw [f_clr_at, if_neg (by unfold i_reg; omega)]) (funext fun b => by rw [f_clr_at, if_neg (by unfold i_tok; omega)])
  · refine z_GN_row hI.2.2 ?_
    rw [g_clr_at, if_neg (by omega), fA 53 (by decide)]
