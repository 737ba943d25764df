/-! ===== the reference: where each of its ints stands in the class's layout ===== -/
def z_m (a b : Nat) : Option (Nat × Nat) :=
  if a = 0 then (if b = 6 then some (53, 13) else if b = 7 then some (53, 14) else none)
  else if a < 4 then none
  else if a < 12 then (if b = 0 then some (58, a - 4) else if b = 1 then some (54, a - 4) else if b = 2 then some (55, a - 4) else if b = 3 then some (56, a - 4) else if b = 4 then some (57, a - 4) else none)
  else if a < 18 then (if b = 1 then some (62, a - 12) else if b = 2 then some (63, a - 12) else if b = 3 then some (64, a - 12) else if b = 4 then some (65, a - 12) else none)
  else if a < 24 then (if b = 1 then some (61, a - 18) else none)
  else if a = 24 then (if b = 1 then some (53, 6) else none)
  else if a < 31 then (if b < 8 then some (60, 8 * (a - 25) + b) else none)
  else if a = 31 then some (59, b)
  else if a = 32 then (if b = 0 then some (53, 15) else none)
  else if a = 34 then some (68, b)
  else if 36 ≤ a ∧ a < 42 then (if b < 4 then some (66, 4 * (a - 36) + b) else none)
  else if 43 ≤ a ∧ a < 49 then (if b < 6 then some (67, 6 * (a - 43) + b) else none)
  else if a = 49 then (if b = 2 then some (53, 21) else if b = 3 then some (53, 22) else none)
  else if a = 50 then some (69, b)
  else if a = 51 then some (70, b)
  else if a = 52 then (if b = 0 then some (53, 23) else if b = 1 then some (53, 24) else if b = 3 then some (53, 25) else if b = 4 then some (53, 26) else none)
  else none
def z_mi (x y : Nat) : Nat × Nat :=
  if x = 53 then (if y = 13 then (0, 6) else if y = 14 then (0, 7) else if y = 6 then (24, 1) else if y = 15 then (32, 0) else if y = 21 then (49, 2) else if y = 22 then (49, 3) else if y = 23 then (52, 0) else if y = 24 then (52, 1) else if y = 25 then (52, 3) else (52, 4))
  else if x = 58 then (y + 4, 0) else if x = 54 then (y + 4, 1) else if x = 55 then (y + 4, 2) else if x = 56 then (y + 4, 3) else if x = 57 then (y + 4, 4)
  else if x = 62 then (y + 12, 1) else if x = 63 then (y + 12, 2) else if x = 64 then (y + 12, 3) else if x = 65 then (y + 12, 4)
  else if x = 61 then (y + 18, 1) else if x = 60 then (25 + y / 8, y % 8) else if x = 59 then (31, y) else if x = 68 then (34, y)
  else if x = 66 then (36 + y / 4, y % 4) else if x = 67 then (43 + y / 6, y % 6) else if x = 69 then (50, y) else (51, y)
theorem z_m_inv {a b x y : Nat} (h : z_m a b = some (x, y)) : z_mi x y = (a, b) := by
  unfold z_m at h
  by_cases q1 : a = 0
  · rw [if_pos q1] at h
    by_cases q2 : b = 6
    · rw [if_pos q2] at h
      cases h
      simp [z_mi] <;> omega
    rw [if_neg q2] at h
    by_cases q3 : b = 7
    · rw [if_pos q3] at h
      cases h
      simp [z_mi] <;> omega
    rw [if_neg q3] at h
    cases h
  rw [if_neg q1] at h
  by_cases q4 : a < 4
  · rw [if_pos q4] at h
    cases h
  rw [if_neg q4] at h
  by_cases q5 : a < 12
  · rw [if_pos q5] at h
    by_cases q6 : b = 0
    · rw [if_pos q6] at h
      cases h
      simp [z_mi] <;> omega
    rw [if_neg q6] at h
    by_cases q7 : b = 1
    · rw [if_pos q7] at h
      cases h
      simp [z_mi] <;> omega
    rw [if_neg q7] at h
    by_cases q8 : b = 2
    · rw [if_pos q8] at h
      cases h
      simp [z_mi] <;> omega
    rw [if_neg q8] at h
    by_cases q9 : b = 3
    · rw [if_pos q9] at h
      cases h
      simp [z_mi] <;> omega
    rw [if_neg q9] at h
    by_cases q10 : b = 4
    · rw [if_pos q10] at h
      cases h
      simp [z_mi] <;> omega
    rw [if_neg q10] at h
    cases h
  rw [if_neg q5] at h
  by_cases q11 : a < 18
  · rw [if_pos q11] at h
    by_cases q12 : b = 1
    · rw [if_pos q12] at h
      cases h
      simp [z_mi] <;> omega
    rw [if_neg q12] at h
    by_cases q13 : b = 2
    · rw [if_pos q13] at h
      cases h
      simp [z_mi] <;> omega
    rw [if_neg q13] at h
    by_cases q14 : b = 3
    · rw [if_pos q14] at h
      cases h
      simp [z_mi] <;> omega
    rw [if_neg q14] at h
    by_cases q15 : b = 4
    · rw [if_pos q15] at h
      cases h
      simp [z_mi] <;> omega
    rw [if_neg q15] at h
    cases h
  rw [if_neg q11] at h
  by_cases q16 : a < 24
  · rw [if_pos q16] at h
    by_cases q17 : b = 1
    · rw [if_pos q17] at h
      cases h
      simp [z_mi] <;> omega
    rw [if_neg q17] at h
    cases h
  rw [if_neg q16] at h
  by_cases q18 : a = 24
  · rw [if_pos q18] at h
    by_cases q19 : b = 1
    · rw [if_pos q19] at h
      cases h
      simp [z_mi] <;> omega
    rw [if_neg q19] at h
    cases h
  rw [if_neg q18] at h
  by_cases q20 : a < 31
  · rw [if_pos q20] at h
    by_cases q21 : b < 8
    · rw [if_pos q21] at h
      cases h
      simp [z_mi] <;> omega
    rw [if_neg q21] at h
    cases h
  rw [if_neg q20] at h
  by_cases q22 : a = 31
  · rw [if_pos q22] at h
    cases h
    simp [z_mi] <;> omega
  rw [if_neg q22] at h
  by_cases q23 : a = 32
  · rw [if_pos q23] at h
    by_cases q24 : b = 0
    · rw [if_pos q24] at h
      cases h
      simp [z_mi] <;> omega
    rw [if_neg q24] at h
    cases h
  rw [if_neg q23] at h
  by_cases q25 : a = 34
  · rw [if_pos q25] at h
    cases h
    simp [z_mi] <;> omega
  rw [if_neg q25] at h
  by_cases q26 : 36 ≤ a ∧ a < 42
  · rw [if_pos q26] at h
    by_cases q27 : b < 4
    · rw [if_pos q27] at h
      cases h
      simp [z_mi] <;> omega
    rw [if_neg q27] at h
    cases h
  rw [if_neg q26] at h
  by_cases q28 : 43 ≤ a ∧ a < 49
  · rw [if_pos q28] at h
    by_cases q29 : b < 6
    · rw [if_pos q29] at h
      cases h
      simp [z_mi] <;> omega
    rw [if_neg q29] at h
    cases h
  rw [if_neg q28] at h
  by_cases q30 : a = 49
  · rw [if_pos q30] at h
    by_cases q31 : b = 2
    · rw [if_pos q31] at h
      cases h
      simp [z_mi] <;> omega
    rw [if_neg q31] at h
    by_cases q32 : b = 3
    · rw [if_pos q32] at h
      cases h
      simp [z_mi] <;> omega
    rw [if_neg q32] at h
    cases h
  rw [if_neg q30] at h
  by_cases q33 : a = 50
  · rw [if_pos q33] at h
    cases h
    simp [z_mi] <;> omega
  rw [if_neg q33] at h
  by_cases q34 : a = 51
  · rw [if_pos q34] at h
    cases h
    simp [z_mi] <;> omega
  rw [if_neg q34] at h
  by_cases q35 : a = 52
  · rw [if_pos q35] at h
    by_cases q36 : b = 0
    · rw [if_pos q36] at h
      cases h
      simp [z_mi] <;> omega
    rw [if_neg q36] at h
    by_cases q37 : b = 1
    · rw [if_pos q37] at h
      cases h
      simp [z_mi] <;> omega
    rw [if_neg q37] at h
    by_cases q38 : b = 3
    · rw [if_pos q38] at h
      cases h
      simp [z_mi] <;> omega
    rw [if_neg q38] at h
    by_cases q39 : b = 4
    · rw [if_pos q39] at h
      cases h
      simp [z_mi] <;> omega
    rw [if_neg q39] at h
    cases h
  rw [if_neg q35] at h
  cases h
theorem z_m_inj {a b a2 b2 : Nat} {q : Nat × Nat} (h : z_m a b = some q) (h2 : z_m a2 b2 = some q) : a = a2 ∧ b = b2 := by
  obtain ⟨x, y⟩ := q
  have e := (z_m_inv h).symm.trans (z_m_inv h2)
  exact ⟨congrArg Prod.fst e, congrArg Prod.snd e⟩
def z_V (B : z_M) : z_M := fun a b => match z_m a b with
  | some q => B q.1 q.2
  | none => 0
theorem z_V_at {B : z_M} {a b x y : Nat} (h : z_m a b = some (x, y)) : z_V B a b = B x y := by
  unfold z_V
  rw [h]
theorem z_m_surf {j : Nat} (hj : j < 8) : z_m (i_surf j) 0 = some (58, j) ∧ z_m (i_surf j) 1 = some (54, j) ∧ z_m (i_surf j) 2 = some (55, j) ∧ z_m (i_surf j) 3 = some (56, j) ∧ z_m (i_surf j) 4 = some (57, j) := by
  have h0 : ¬ 4 + j = 0 := by omega
  have h1 : ¬ 4 + j < 4 := by omega
  have h2 : 4 + j < 12 := by omega
  have h3 : 4 + j - 4 = j := by omega
  simp [z_m, i_surf, h0, h1, h2, h3]
theorem z_m_cell {j : Nat} (hj : j < 6) : z_m (i_cell j) 1 = some (62, j) ∧ z_m (i_cell j) 2 = some (63, j) ∧ z_m (i_cell j) 3 = some (64, j) ∧ z_m (i_cell j) 4 = some (65, j) := by
  have h0 : ¬ 12 + j = 0 := by omega
  have h1 : ¬ 12 + j < 4 := by omega
  have h2 : ¬ 12 + j < 12 := by omega
  have h3 : 12 + j < 18 := by omega
  have h4 : 12 + j - 12 = j := by omega
  simp [z_m, i_cell, h0, h1, h2, h3, h4]
theorem z_m_reg {j : Nat} (hj : j < 6) : z_m (i_reg j) 1 = some (61, j) := by
  have h0 : ¬ 18 + j = 0 := by omega
  have h1 : ¬ 18 + j < 4 := by omega
  have h2 : ¬ 18 + j < 12 := by omega
  have h3 : ¬ 18 + j < 18 := by omega
  have h4 : 18 + j < 24 := by omega
  have h5 : 18 + j - 18 = j := by omega
  simp [z_m, i_reg, h0, h1, h2, h3, h4, h5]
theorem z_m_tok {j t : Nat} (hj : j < 6) (ht : t < 8) : z_m (i_tok j) t = some (60, 8 * j + t) := by
  have h0 : ¬ 25 + j = 0 := by omega
  have h1 : ¬ 25 + j < 4 := by omega
  have h2 : ¬ 25 + j < 12 := by omega
  have h3 : ¬ 25 + j < 18 := by omega
  have h4 : ¬ 25 + j < 24 := by omega
  have h5 : ¬ 25 + j = 24 := by omega
  have h6 : 25 + j < 31 := by omega
  have h7 : 25 + j - 25 = j := by omega
  simp [z_m, i_tok, h0, h1, h2, h3, h4, h5, h6, h7, ht]
theorem z_m_talr {j t : Nat} (hj : j < 6) (ht : t < 4) : z_m (i_talr j) t = some (66, 4 * j + t) := by
  have h : ¬ 36 + j = 0 ∧ ¬ 36 + j < 4 ∧ ¬ 36 + j < 12 ∧ ¬ 36 + j < 18 ∧ ¬ 36 + j < 24 ∧ ¬ 36 + j = 24 ∧ ¬ 36 + j < 31 ∧ ¬ 36 + j = 31 ∧ ¬ 36 + j = 32 ∧ ¬ 36 + j = 34 ∧ 36 + j < 42 ∧ 36 + j - 36 = j := by omega
  simp [z_m, i_talr, h, ht]
theorem z_m_cror {j t : Nat} (hj : j < 6) (ht : t < 6) : z_m (i_cror j) t = some (67, 6 * j + t) := by
  have h : ¬ 43 + j = 0 ∧ ¬ 43 + j < 4 ∧ ¬ 43 + j < 12 ∧ ¬ 43 + j < 18 ∧ ¬ 43 + j < 24 ∧ ¬ 43 + j = 24 ∧ ¬ 43 + j < 31 ∧ ¬ 43 + j = 31 ∧ ¬ 43 + j = 32 ∧ ¬ 43 + j = 34 ∧ ¬ 43 + j < 42 ∧ 43 + j < 49 ∧ 43 + j - 43 = j := by omega
  simp [z_m, i_cror, h, ht]
theorem z_ix (a b c : Nat) : nI a * nI b + nI c = nI (a * b + c) := by rw [pk_mul, nI_add]
theorem z_out0 {P : Prop} [Decidable P] (h : z_b (¬ P) = 0) : P := Decidable.of_not_not (z_b_0.mp h)
theorem c_Model_out {dA : Nat → ClassId} {ad : Nat → Nat} {M : z_M} (v lo hi : Int32) : z_CI y_Model_out b_Model_out 3 .boolean 0 dA ad [.int v, .int lo, .int hi] M (z_b (¬ p_btw v lo hi)) (M) := by
  refine z_ofI [some (.int v), some (.int lo), some (.int hi)] (by decide) (Nat.le_of_ble_eq_true rfl) rfl (fun k C E => ?_)
  have C : z_C dA ad k b_Model_out "CellTransportModel" 0 3 := C
  refine x_iload_n C d_Model_out_0 (i := 0) rfl rfl ?_
  refine x_iload_n C d_Model_out_1 (i := 1) rfl rfl ?_
  refine x_icmp_lt C 10 d_Model_out_2 rfl (fun h_2 => ?_) (fun h_2 => ?_)
  · refine x_iconst C (1) d_Model_out_10 rfl ?_
    refine x_goto C 15 d_Model_out_11 rfl ?_
    exact x_zret C E (z_b_t (P := ¬ p_btw v lo hi) (fun q => Int32.not_lt.mpr q.1 h_2)).symm rfl rfl d_Model_out_15
  · refine x_iload_n C d_Model_out_5 (i := 0) rfl rfl ?_
    refine x_iload_n C d_Model_out_6 (i := 2) rfl rfl ?_
    refine x_icmp_le C 14 d_Model_out_7 rfl (fun h_7 => ?_) (fun h_7 => ?_)
    · refine x_iconst C (0) d_Model_out_14 rfl ?_
      exact x_zret C E (z_b_f (P := ¬ p_btw v lo hi) (fun q => q ⟨z_le h_2, h_7⟩)).symm rfl rfl d_Model_out_15
    · refine x_iconst C (1) d_Model_out_10 rfl ?_
      refine x_goto C 15 d_Model_out_11 rfl ?_
      exact x_zret C E (z_b_t (P := ¬ p_btw v lo hi) (fun q => h_7 q.2)).symm rfl rfl d_Model_out_15
theorem z_k01 {kd : Int32} (h : p_btw kd 0 1) (h0 : ¬ kd = 0) (h1 : ¬ kd = 1) : False := by
  obtain ⟨j, hj, e⟩ := nI_of2 (x := kd) (M := 1) (n := 1) (by decide) (Int32.not_lt.mpr h.1) h.2
  rcases (show j = 0 ∨ j = 1 by omega) with q | q
  · exact h0 (by rw [e, q]; rfl)
  · exact h1 (by rw [e, q]; rfl)
theorem c_Model_surfaceN {dA : Nat → ClassId} {ad : Nat → Nat} {M : z_M} {nm kd a b c : Int32} (hn : ¬ (p_btw nm 0 7 ∧ p_isS kd a b c)) : z_CI y_Model_surface b_Model_surface 8 .int 1 dA ad [.ref (ad 53), .int nm, .int kd, .int a, .int b, .int c] M (-1) (M) := by
  refine z_ofI [some (.ref (ad 53)), some (.int nm), some (.int kd), some (.int a), some (.int b), some (.int c), none, none] (by decide) (Nat.le_of_ble_eq_true rfl) rfl (fun k C E => ?_)
  have C : z_C dA ad k b_Model_surface "CellTransportModel" 1 8 := C
  by_cases k0 : kd = 0
  · subst k0
    refine x_iload_n C d_Model_surface_0 (i := 1) rfl rfl ?_
    refine x_iconst C (0) d_Model_surface_1 rfl ?_
    refine x_bipush C (7) d_Model_surface_2 rfl ?_
    refine x_callSi C (c_Model_out _ _ _) mt_Model_out rfl rfl (Nat.le_of_ble_eq_true rfl) (Nat.le_of_ble_eq_true rfl) lk_Model_66 d_Model_surface_4 ?_
    refine x_if_ne C 19 d_Model_surface_7 rfl (fun h_7 => ?_) (fun h_7 => ?_)
    · refine x_iconst C (-1) d_Model_surface_19 rfl ?_
      exact x_iret C E rfl rfl d_Model_surface_20
    · refine x_iload_n C d_Model_surface_10 (i := 2) rfl rfl ?_
      refine x_iconst C (0) d_Model_surface_11 rfl ?_
      refine x_iconst C (1) d_Model_surface_12 rfl ?_
      refine x_callSi C (c_Model_out _ _ _) mt_Model_out rfl rfl (Nat.le_of_ble_eq_true rfl) (Nat.le_of_ble_eq_true rfl) lk_Model_66 d_Model_surface_13 ?_
      refine x_if_eq C 21 d_Model_surface_16 rfl (fun h_16 => ?_) (fun h_16 => ?_)
      · refine x_iload_n C d_Model_surface_21 (i := 2) rfl rfl ?_
        refine x_if_ne C 30 d_Model_surface_22 rfl (fun h_22 => absurd rfl h_22) (fun h_22 => ?_)
        refine x_bipush C (9) d_Model_surface_25 rfl ?_
        refine x_goto C 33 d_Model_surface_27 rfl ?_
        refine x_istore C d_Model_surface_33 rfl ?_
        refine x_iload_n C d_Model_surface_35 (i := 3) rfl rfl ?_
        refine x_iload C d_Model_surface_36 rfl ?_
        refine x_ineg C d_Model_surface_38 ?_
        refine x_iload C d_Model_surface_39 rfl ?_
        refine x_callSi C (c_Model_out _ _ _) mt_Model_out rfl rfl (Nat.le_of_ble_eq_true rfl) (Nat.le_of_ble_eq_true rfl) lk_Model_66 d_Model_surface_41 ?_
        refine x_if_ne C 92 d_Model_surface_44 rfl (fun h_44 => ?_) (fun h_44 => ?_)
        · refine x_iconst C (-1) d_Model_surface_92 rfl ?_
          exact x_iret C E rfl rfl d_Model_surface_93
        · refine x_iload C d_Model_surface_47 rfl ?_
          refine x_iload C d_Model_surface_49 rfl ?_
          refine x_ineg C d_Model_surface_51 ?_
          refine x_iload C d_Model_surface_52 rfl ?_
          refine x_callSi C (c_Model_out _ _ _) mt_Model_out rfl rfl (Nat.le_of_ble_eq_true rfl) (Nat.le_of_ble_eq_true rfl) lk_Model_66 d_Model_surface_54 ?_
          refine x_if_ne C 92 d_Model_surface_57 rfl (fun h_57 => ?_) (fun h_57 => ?_)
          · refine x_iconst C (-1) d_Model_surface_92 rfl ?_
            exact x_iret C E rfl rfl d_Model_surface_93
          · refine x_iload C d_Model_surface_60 rfl ?_
            refine x_iload_n C d_Model_surface_62 (i := 2) rfl rfl ?_
            refine x_if_ne C 72 d_Model_surface_63 rfl (fun h_63 => absurd rfl h_63) (fun h_63 => ?_)
            refine x_sipush C (-9999) d_Model_surface_66 rfl ?_
            refine x_goto C 73 d_Model_surface_69 rfl ?_
            refine x_iload_n C d_Model_surface_73 (i := 2) rfl rfl ?_
            refine x_if_ne C 83 d_Model_surface_74 rfl (fun h_74 => absurd rfl h_74) (fun h_74 => ?_)
            refine x_sipush C (9999) d_Model_surface_77 rfl ?_
            refine x_goto C 86 d_Model_surface_80 rfl ?_
            refine x_callSi C (c_Model_out _ _ _) mt_Model_out rfl rfl (Nat.le_of_ble_eq_true rfl) (Nat.le_of_ble_eq_true rfl) lk_Model_66 d_Model_surface_86 ?_
            refine x_if_eq C 94 d_Model_surface_89 rfl (fun h_89 => ?_) (fun h_89 => ?_)
            · exact absurd ⟨z_out0 h_7, Or.inl ⟨rfl, ⟨z_out0 h_44, z_out0 h_57⟩, z_out0 h_89⟩⟩ hn
            · refine x_iconst C (-1) d_Model_surface_92 rfl ?_
              exact x_iret C E rfl rfl d_Model_surface_93
      · refine x_iconst C (-1) d_Model_surface_19 rfl ?_
        exact x_iret C E rfl rfl d_Model_surface_20
  · by_cases k1 : kd = 1
    · subst k1
      refine x_iload_n C d_Model_surface_0 (i := 1) rfl rfl ?_
      refine x_iconst C (0) d_Model_surface_1 rfl ?_
      refine x_bipush C (7) d_Model_surface_2 rfl ?_
      refine x_callSi C (c_Model_out _ _ _) mt_Model_out rfl rfl (Nat.le_of_ble_eq_true rfl) (Nat.le_of_ble_eq_true rfl) lk_Model_66 d_Model_surface_4 ?_
      refine x_if_ne C 19 d_Model_surface_7 rfl (fun h_7 => ?_) (fun h_7 => ?_)
      · refine x_iconst C (-1) d_Model_surface_19 rfl ?_
        exact x_iret C E rfl rfl d_Model_surface_20
      · refine x_iload_n C d_Model_surface_10 (i := 2) rfl rfl ?_
        refine x_iconst C (0) d_Model_surface_11 rfl ?_
        refine x_iconst C (1) d_Model_surface_12 rfl ?_
        refine x_callSi C (c_Model_out _ _ _) mt_Model_out rfl rfl (Nat.le_of_ble_eq_true rfl) (Nat.le_of_ble_eq_true rfl) lk_Model_66 d_Model_surface_13 ?_
        refine x_if_eq C 21 d_Model_surface_16 rfl (fun h_16 => ?_) (fun h_16 => ?_)
        · refine x_iload_n C d_Model_surface_21 (i := 2) rfl rfl ?_
          refine x_if_ne C 30 d_Model_surface_22 rfl (fun h_22 => ?_) (fun h_22 => absurd h_22 (by decide))
          refine x_sipush C (300) d_Model_surface_30 rfl ?_
          refine x_istore C d_Model_surface_33 rfl ?_
          refine x_iload_n C d_Model_surface_35 (i := 3) rfl rfl ?_
          refine x_iload C d_Model_surface_36 rfl ?_
          refine x_ineg C d_Model_surface_38 ?_
          refine x_iload C d_Model_surface_39 rfl ?_
          refine x_callSi C (c_Model_out _ _ _) mt_Model_out rfl rfl (Nat.le_of_ble_eq_true rfl) (Nat.le_of_ble_eq_true rfl) lk_Model_66 d_Model_surface_41 ?_
          refine x_if_ne C 92 d_Model_surface_44 rfl (fun h_44 => ?_) (fun h_44 => ?_)
          · refine x_iconst C (-1) d_Model_surface_92 rfl ?_
            exact x_iret C E rfl rfl d_Model_surface_93
          · refine x_iload C d_Model_surface_47 rfl ?_
            refine x_iload C d_Model_surface_49 rfl ?_
            refine x_ineg C d_Model_surface_51 ?_
            refine x_iload C d_Model_surface_52 rfl ?_
            refine x_callSi C (c_Model_out _ _ _) mt_Model_out rfl rfl (Nat.le_of_ble_eq_true rfl) (Nat.le_of_ble_eq_true rfl) lk_Model_66 d_Model_surface_54 ?_
            refine x_if_ne C 92 d_Model_surface_57 rfl (fun h_57 => ?_) (fun h_57 => ?_)
            · refine x_iconst C (-1) d_Model_surface_92 rfl ?_
              exact x_iret C E rfl rfl d_Model_surface_93
            · refine x_iload C d_Model_surface_60 rfl ?_
              refine x_iload_n C d_Model_surface_62 (i := 2) rfl rfl ?_
              refine x_if_ne C 72 d_Model_surface_63 rfl (fun h_63 => ?_) (fun h_63 => absurd h_63 (by decide))
              refine x_iconst C (0) d_Model_surface_72 rfl ?_
              refine x_iload_n C d_Model_surface_73 (i := 2) rfl rfl ?_
              refine x_if_ne C 83 d_Model_surface_74 rfl (fun h_74 => ?_) (fun h_74 => absurd h_74 (by decide))
              refine x_sipush C (300) d_Model_surface_83 rfl ?_
              refine x_callSi C (c_Model_out _ _ _) mt_Model_out rfl rfl (Nat.le_of_ble_eq_true rfl) (Nat.le_of_ble_eq_true rfl) lk_Model_66 d_Model_surface_86 ?_
              refine x_if_eq C 94 d_Model_surface_89 rfl (fun h_89 => ?_) (fun h_89 => ?_)
              · exact absurd ⟨z_out0 h_7, Or.inr ⟨rfl, ⟨z_out0 h_44, z_out0 h_57⟩, z_out0 h_89⟩⟩ hn
              · refine x_iconst C (-1) d_Model_surface_92 rfl ?_
                exact x_iret C E rfl rfl d_Model_surface_93
        · refine x_iconst C (-1) d_Model_surface_19 rfl ?_
          exact x_iret C E rfl rfl d_Model_surface_20
    · refine x_iload_n C d_Model_surface_0 (i := 1) rfl rfl ?_
      refine x_iconst C (0) d_Model_surface_1 rfl ?_
      refine x_bipush C (7) d_Model_surface_2 rfl ?_
      refine x_callSi C (c_Model_out _ _ _) mt_Model_out rfl rfl (Nat.le_of_ble_eq_true rfl) (Nat.le_of_ble_eq_true rfl) lk_Model_66 d_Model_surface_4 ?_
      refine x_if_ne C 19 d_Model_surface_7 rfl (fun h_7 => ?_) (fun h_7 => ?_)
      · refine x_iconst C (-1) d_Model_surface_19 rfl ?_
        exact x_iret C E rfl rfl d_Model_surface_20
      · refine x_iload_n C d_Model_surface_10 (i := 2) rfl rfl ?_
        refine x_iconst C (0) d_Model_surface_11 rfl ?_
        refine x_iconst C (1) d_Model_surface_12 rfl ?_
        refine x_callSi C (c_Model_out _ _ _) mt_Model_out rfl rfl (Nat.le_of_ble_eq_true rfl) (Nat.le_of_ble_eq_true rfl) lk_Model_66 d_Model_surface_13 ?_
        refine x_if_eq C 21 d_Model_surface_16 rfl (fun h_16 => ?_) (fun h_16 => ?_)
        · exact absurd (z_out0 h_16) (fun q => z_k01 q k0 k1)
        · refine x_iconst C (-1) d_Model_surface_19 rfl ?_
          exact x_iret C E rfl rfl d_Model_surface_20
def g_srf (M : z_M) (j : Nat) (kd a b c : Int32) : z_M := z_sv (z_sv (z_sv (z_sv (z_sv M 58 j 1) 54 j kd) 55 j a) 56 j b) 57 j c
theorem c_Model_surface0 {dA : Nat → ClassId} {ad : Nat → Nat} {M : z_M} {j : Nat} (hj : j < 8) {a b c : Int32} (hp : p_wth a b 9 ∧ p_btw c (-9999) 9999) : z_CI y_Model_surface b_Model_surface 8 .int 1 dA ad [.ref (ad 53), .int (nI j), .int 0, .int a, .int b, .int c] M (z_b (¬ M 58 j = 0)) (g_srf M j 0 a b c) := by
  refine z_ofI [some (.ref (ad 53)), some (.int (nI j)), some (.int 0), some (.int a), some (.int b), some (.int c), none, none] (by decide) (Nat.le_of_ble_eq_true rfl) rfl (fun k C E => ?_)
  have C : z_C dA ad k b_Model_surface "CellTransportModel" 1 8 := C
  have hb : p_btw (nI j) 0 7 := z_in (n := 7) (by omega) (by decide)
  refine x_iload_n C d_Model_surface_0 (i := 1) rfl rfl ?_
  refine x_iconst C (0) d_Model_surface_1 rfl ?_
  refine x_bipush C (7) d_Model_surface_2 rfl ?_
  refine x_callSi C (c_Model_out _ _ _) mt_Model_out rfl rfl (Nat.le_of_ble_eq_true rfl) (Nat.le_of_ble_eq_true rfl) lk_Model_66 d_Model_surface_4 ?_
  refine x_if_ne C 19 d_Model_surface_7 rfl (fun h_7 => absurd hb (z_b_n0.mp h_7)) (fun h_7 => ?_)
  refine x_iload_n C d_Model_surface_10 (i := 2) rfl rfl ?_
  refine x_iconst C (0) d_Model_surface_11 rfl ?_
  refine x_iconst C (1) d_Model_surface_12 rfl ?_
  refine x_callSi C (c_Model_out _ _ _) mt_Model_out rfl rfl (Nat.le_of_ble_eq_true rfl) (Nat.le_of_ble_eq_true rfl) lk_Model_66 d_Model_surface_13 ?_
  refine x_if_eq C 21 d_Model_surface_16 rfl (fun h_16 => ?_) (fun h_16 => absurd (by decide : p_btw 0 0 1) (z_b_n0.mp h_16))
  refine x_iload_n C d_Model_surface_21 (i := 2) rfl rfl ?_
  refine x_if_ne C 30 d_Model_surface_22 rfl (fun h_22 => absurd rfl h_22) (fun h_22 => ?_)
  refine x_bipush C (9) d_Model_surface_25 rfl ?_
  refine x_goto C 33 d_Model_surface_27 rfl ?_
  refine x_istore C d_Model_surface_33 rfl ?_
  refine x_iload_n C d_Model_surface_35 (i := 3) rfl rfl ?_
  refine x_iload C d_Model_surface_36 rfl ?_
  refine x_ineg C d_Model_surface_38 ?_
  refine x_iload C d_Model_surface_39 rfl ?_
  refine x_callSi C (c_Model_out _ _ _) mt_Model_out rfl rfl (Nat.le_of_ble_eq_true rfl) (Nat.le_of_ble_eq_true rfl) lk_Model_66 d_Model_surface_41 ?_
  refine x_if_ne C 92 d_Model_surface_44 rfl (fun h_44 => absurd hp.1.1 (z_b_n0.mp h_44)) (fun h_44 => ?_)
  refine x_iload C d_Model_surface_47 rfl ?_
  refine x_iload C d_Model_surface_49 rfl ?_
  refine x_ineg C d_Model_surface_51 ?_
  refine x_iload C d_Model_surface_52 rfl ?_
  refine x_callSi C (c_Model_out _ _ _) mt_Model_out rfl rfl (Nat.le_of_ble_eq_true rfl) (Nat.le_of_ble_eq_true rfl) lk_Model_66 d_Model_surface_54 ?_
  refine x_if_ne C 92 d_Model_surface_57 rfl (fun h_57 => absurd hp.1.2 (z_b_n0.mp h_57)) (fun h_57 => ?_)
  refine x_iload C d_Model_surface_60 rfl ?_
  refine x_iload_n C d_Model_surface_62 (i := 2) rfl rfl ?_
  refine x_if_ne C 72 d_Model_surface_63 rfl (fun h_63 => absurd rfl h_63) (fun h_63 => ?_)
  refine x_sipush C (-9999) d_Model_surface_66 rfl ?_
  refine x_goto C 73 d_Model_surface_69 rfl ?_
  refine x_iload_n C d_Model_surface_73 (i := 2) rfl rfl ?_
  refine x_if_ne C 83 d_Model_surface_74 rfl (fun h_74 => absurd rfl h_74) (fun h_74 => ?_)
  refine x_sipush C (9999) d_Model_surface_77 rfl ?_
  refine x_goto C 86 d_Model_surface_80 rfl ?_
  refine x_callSi C (c_Model_out _ _ _) mt_Model_out rfl rfl (Nat.le_of_ble_eq_true rfl) (Nat.le_of_ble_eq_true rfl) lk_Model_66 d_Model_surface_86 ?_
  refine x_if_eq C 94 d_Model_surface_89 rfl (fun h_89 => ?_) (fun h_89 => absurd hp.2 (z_b_n0.mp h_89))
  refine x_aload_n C d_Model_surface_94 (i := 0) rfl rfl ?_
  refine g_Model_set C lk_Model_22 d_Model_surface_95 ?_
  refine x_iload_n C d_Model_surface_98 (i := 1) rfl rfl ?_
  refine rn_ld_m_set C  hj d_Model_surface_99 ?_
  refine x_if_eq C 107 d_Model_surface_100 rfl (fun h_100 => ?_) (fun h_100 => ?_)
  · refine x_iconst C (0) d_Model_surface_107 rfl ?_
    refine x_istore C d_Model_surface_108 rfl ?_
    refine x_aload_n C d_Model_surface_110 (i := 0) rfl rfl ?_
    refine g_Model_set C lk_Model_22 d_Model_surface_111 ?_
    refine x_iload_n C d_Model_surface_114 (i := 1) rfl rfl ?_
    refine x_iconst C (1) d_Model_surface_115 rfl ?_
    refine rn_st_m_set C  hj rfl d_Model_surface_116 ?_
    refine x_aload_n C d_Model_surface_117 (i := 0) rfl rfl ?_
    refine g_Model_kind C lk_Model_7 d_Model_surface_118 ?_
    refine x_iload_n C d_Model_surface_121 (i := 1) rfl rfl ?_
    refine x_iload_n C d_Model_surface_122 (i := 2) rfl rfl ?_
    refine rn_st_m_kind C  hj d_Model_surface_123 ?_
    refine x_aload_n C d_Model_surface_124 (i := 0) rfl rfl ?_
    refine g_Model_sa C lk_Model_13 d_Model_surface_125 ?_
    refine x_iload_n C d_Model_surface_128 (i := 1) rfl rfl ?_
    refine x_iload_n C d_Model_surface_129 (i := 3) rfl rfl ?_
    refine rn_st_m_sa C  hj d_Model_surface_130 ?_
    refine x_aload_n C d_Model_surface_131 (i := 0) rfl rfl ?_
    refine g_Model_sb C lk_Model_16 d_Model_surface_132 ?_
    refine x_iload_n C d_Model_surface_135 (i := 1) rfl rfl ?_
    refine x_iload C d_Model_surface_136 rfl ?_
    refine rn_st_m_sb C  hj d_Model_surface_138 ?_
    refine x_aload_n C d_Model_surface_139 (i := 0) rfl rfl ?_
    refine g_Model_sc C lk_Model_19 d_Model_surface_140 ?_
    refine x_iload_n C d_Model_surface_143 (i := 1) rfl rfl ?_
    refine x_iload C d_Model_surface_144 rfl ?_
    refine rn_st_m_sc C  hj d_Model_surface_146 ?_
    refine x_iload C d_Model_surface_147 rfl ?_
    exact x_iret C E (z_b_f (fun q => q h_100)).symm rfl d_Model_surface_149
  · refine x_iconst C (1) d_Model_surface_103 rfl ?_
    refine x_goto C 108 d_Model_surface_104 rfl ?_
    refine x_istore C d_Model_surface_108 rfl ?_
    refine x_aload_n C d_Model_surface_110 (i := 0) rfl rfl ?_
    refine g_Model_set C lk_Model_22 d_Model_surface_111 ?_
    refine x_iload_n C d_Model_surface_114 (i := 1) rfl rfl ?_
    refine x_iconst C (1) d_Model_surface_115 rfl ?_
    refine rn_st_m_set C  hj rfl d_Model_surface_116 ?_
    refine x_aload_n C d_Model_surface_117 (i := 0) rfl rfl ?_
    refine g_Model_kind C lk_Model_7 d_Model_surface_118 ?_
    refine x_iload_n C d_Model_surface_121 (i := 1) rfl rfl ?_
    refine x_iload_n C d_Model_surface_122 (i := 2) rfl rfl ?_
    refine rn_st_m_kind C  hj d_Model_surface_123 ?_
    refine x_aload_n C d_Model_surface_124 (i := 0) rfl rfl ?_
    refine g_Model_sa C lk_Model_13 d_Model_surface_125 ?_
    refine x_iload_n C d_Model_surface_128 (i := 1) rfl rfl ?_
    refine x_iload_n C d_Model_surface_129 (i := 3) rfl rfl ?_
    refine rn_st_m_sa C  hj d_Model_surface_130 ?_
    refine x_aload_n C d_Model_surface_131 (i := 0) rfl rfl ?_
    refine g_Model_sb C lk_Model_16 d_Model_surface_132 ?_
    refine x_iload_n C d_Model_surface_135 (i := 1) rfl rfl ?_
    refine x_iload C d_Model_surface_136 rfl ?_
    refine rn_st_m_sb C  hj d_Model_surface_138 ?_
    refine x_aload_n C d_Model_surface_139 (i := 0) rfl rfl ?_
    refine g_Model_sc C lk_Model_19 d_Model_surface_140 ?_
    refine x_iload_n C d_Model_surface_143 (i := 1) rfl rfl ?_
    refine x_iload C d_Model_surface_144 rfl ?_
    refine rn_st_m_sc C  hj d_Model_surface_146 ?_
    refine x_iload C d_Model_surface_147 rfl ?_
    exact x_iret C E (z_b_t h_100).symm rfl d_Model_surface_149
theorem c_Model_surface1 {dA : Nat → ClassId} {ad : Nat → Nat} {M : z_M} {j : Nat} (hj : j < 8) {a b c : Int32} (hp : p_wth a b 300 ∧ p_btw c 0 300) : z_CI y_Model_surface b_Model_surface 8 .int 1 dA ad [.ref (ad 53), .int (nI j), .int 1, .int a, .int b, .int c] M (z_b (¬ M 58 j = 0)) (g_srf M j 1 a b c) := by
  refine z_ofI [some (.ref (ad 53)), some (.int (nI j)), some (.int 1), some (.int a), some (.int b), some (.int c), none, none] (by decide) (Nat.le_of_ble_eq_true rfl) rfl (fun k C E => ?_)
  have C : z_C dA ad k b_Model_surface "CellTransportModel" 1 8 := C
  have hb : p_btw (nI j) 0 7 := z_in (n := 7) (by omega) (by decide)
  refine x_iload_n C d_Model_surface_0 (i := 1) rfl rfl ?_
  refine x_iconst C (0) d_Model_surface_1 rfl ?_
  refine x_bipush C (7) d_Model_surface_2 rfl ?_
  refine x_callSi C (c_Model_out _ _ _) mt_Model_out rfl rfl (Nat.le_of_ble_eq_true rfl) (Nat.le_of_ble_eq_true rfl) lk_Model_66 d_Model_surface_4 ?_
  refine x_if_ne C 19 d_Model_surface_7 rfl (fun h_7 => absurd hb (z_b_n0.mp h_7)) (fun h_7 => ?_)
  refine x_iload_n C d_Model_surface_10 (i := 2) rfl rfl ?_
  refine x_iconst C (0) d_Model_surface_11 rfl ?_
  refine x_iconst C (1) d_Model_surface_12 rfl ?_
  refine x_callSi C (c_Model_out _ _ _) mt_Model_out rfl rfl (Nat.le_of_ble_eq_true rfl) (Nat.le_of_ble_eq_true rfl) lk_Model_66 d_Model_surface_13 ?_
  refine x_if_eq C 21 d_Model_surface_16 rfl (fun h_16 => ?_) (fun h_16 => absurd (by decide : p_btw 1 0 1) (z_b_n0.mp h_16))
  refine x_iload_n C d_Model_surface_21 (i := 2) rfl rfl ?_
  refine x_if_ne C 30 d_Model_surface_22 rfl (fun h_22 => ?_) (fun h_22 => absurd h_22 (by decide))
  refine x_sipush C (300) d_Model_surface_30 rfl ?_
  refine x_istore C d_Model_surface_33 rfl ?_
  refine x_iload_n C d_Model_surface_35 (i := 3) rfl rfl ?_
  refine x_iload C d_Model_surface_36 rfl ?_
  refine x_ineg C d_Model_surface_38 ?_
  refine x_iload C d_Model_surface_39 rfl ?_
  refine x_callSi C (c_Model_out _ _ _) mt_Model_out rfl rfl (Nat.le_of_ble_eq_true rfl) (Nat.le_of_ble_eq_true rfl) lk_Model_66 d_Model_surface_41 ?_
  refine x_if_ne C 92 d_Model_surface_44 rfl (fun h_44 => absurd hp.1.1 (z_b_n0.mp h_44)) (fun h_44 => ?_)
  refine x_iload C d_Model_surface_47 rfl ?_
  refine x_iload C d_Model_surface_49 rfl ?_
  refine x_ineg C d_Model_surface_51 ?_
  refine x_iload C d_Model_surface_52 rfl ?_
  refine x_callSi C (c_Model_out _ _ _) mt_Model_out rfl rfl (Nat.le_of_ble_eq_true rfl) (Nat.le_of_ble_eq_true rfl) lk_Model_66 d_Model_surface_54 ?_
  refine x_if_ne C 92 d_Model_surface_57 rfl (fun h_57 => absurd hp.1.2 (z_b_n0.mp h_57)) (fun h_57 => ?_)
  refine x_iload C d_Model_surface_60 rfl ?_
  refine x_iload_n C d_Model_surface_62 (i := 2) rfl rfl ?_
  refine x_if_ne C 72 d_Model_surface_63 rfl (fun h_63 => ?_) (fun h_63 => absurd h_63 (by decide))
  refine x_iconst C (0) d_Model_surface_72 rfl ?_
  refine x_iload_n C d_Model_surface_73 (i := 2) rfl rfl ?_
  refine x_if_ne C 83 d_Model_surface_74 rfl (fun h_74 => ?_) (fun h_74 => absurd h_74 (by decide))
  refine x_sipush C (300) d_Model_surface_83 rfl ?_
  refine x_callSi C (c_Model_out _ _ _) mt_Model_out rfl rfl (Nat.le_of_ble_eq_true rfl) (Nat.le_of_ble_eq_true rfl) lk_Model_66 d_Model_surface_86 ?_
  refine x_if_eq C 94 d_Model_surface_89 rfl (fun h_89 => ?_) (fun h_89 => absurd hp.2 (z_b_n0.mp h_89))
  refine x_aload_n C d_Model_surface_94 (i := 0) rfl rfl ?_
  refine g_Model_set C lk_Model_22 d_Model_surface_95 ?_
  refine x_iload_n C d_Model_surface_98 (i := 1) rfl rfl ?_
  refine rn_ld_m_set C  hj d_Model_surface_99 ?_
  refine x_if_eq C 107 d_Model_surface_100 rfl (fun h_100 => ?_) (fun h_100 => ?_)
  · refine x_iconst C (0) d_Model_surface_107 rfl ?_
    refine x_istore C d_Model_surface_108 rfl ?_
    refine x_aload_n C d_Model_surface_110 (i := 0) rfl rfl ?_
    refine g_Model_set C lk_Model_22 d_Model_surface_111 ?_
    refine x_iload_n C d_Model_surface_114 (i := 1) rfl rfl ?_
    refine x_iconst C (1) d_Model_surface_115 rfl ?_
    refine rn_st_m_set C  hj rfl d_Model_surface_116 ?_
    refine x_aload_n C d_Model_surface_117 (i := 0) rfl rfl ?_
    refine g_Model_kind C lk_Model_7 d_Model_surface_118 ?_
    refine x_iload_n C d_Model_surface_121 (i := 1) rfl rfl ?_
    refine x_iload_n C d_Model_surface_122 (i := 2) rfl rfl ?_
    refine rn_st_m_kind C  hj d_Model_surface_123 ?_
    refine x_aload_n C d_Model_surface_124 (i := 0) rfl rfl ?_
    refine g_Model_sa C lk_Model_13 d_Model_surface_125 ?_
    refine x_iload_n C d_Model_surface_128 (i := 1) rfl rfl ?_
    refine x_iload_n C d_Model_surface_129 (i := 3) rfl rfl ?_
    refine rn_st_m_sa C  hj d_Model_surface_130 ?_
    refine x_aload_n C d_Model_surface_131 (i := 0) rfl rfl ?_
    refine g_Model_sb C lk_Model_16 d_Model_surface_132 ?_
    refine x_iload_n C d_Model_surface_135 (i := 1) rfl rfl ?_
    refine x_iload C d_Model_surface_136 rfl ?_
    refine rn_st_m_sb C  hj d_Model_surface_138 ?_
    refine x_aload_n C d_Model_surface_139 (i := 0) rfl rfl ?_
    refine g_Model_sc C lk_Model_19 d_Model_surface_140 ?_
    refine x_iload_n C d_Model_surface_143 (i := 1) rfl rfl ?_
    refine x_iload C d_Model_surface_144 rfl ?_
    refine rn_st_m_sc C  hj d_Model_surface_146 ?_
    refine x_iload C d_Model_surface_147 rfl ?_
    exact x_iret C E (z_b_f (fun q => q h_100)).symm rfl d_Model_surface_149
  · refine x_iconst C (1) d_Model_surface_103 rfl ?_
    refine x_goto C 108 d_Model_surface_104 rfl ?_
    refine x_istore C d_Model_surface_108 rfl ?_
    refine x_aload_n C d_Model_surface_110 (i := 0) rfl rfl ?_
    refine g_Model_set C lk_Model_22 d_Model_surface_111 ?_
    refine x_iload_n C d_Model_surface_114 (i := 1) rfl rfl ?_
    refine x_iconst C (1) d_Model_surface_115 rfl ?_
    refine rn_st_m_set C  hj rfl d_Model_surface_116 ?_
    refine x_aload_n C d_Model_surface_117 (i := 0) rfl rfl ?_
    refine g_Model_kind C lk_Model_7 d_Model_surface_118 ?_
    refine x_iload_n C d_Model_surface_121 (i := 1) rfl rfl ?_
    refine x_iload_n C d_Model_surface_122 (i := 2) rfl rfl ?_
    refine rn_st_m_kind C  hj d_Model_surface_123 ?_
    refine x_aload_n C d_Model_surface_124 (i := 0) rfl rfl ?_
    refine g_Model_sa C lk_Model_13 d_Model_surface_125 ?_
    refine x_iload_n C d_Model_surface_128 (i := 1) rfl rfl ?_
    refine x_iload_n C d_Model_surface_129 (i := 3) rfl rfl ?_
    refine rn_st_m_sa C  hj d_Model_surface_130 ?_
    refine x_aload_n C d_Model_surface_131 (i := 0) rfl rfl ?_
    refine g_Model_sb C lk_Model_16 d_Model_surface_132 ?_
    refine x_iload_n C d_Model_surface_135 (i := 1) rfl rfl ?_
    refine x_iload C d_Model_surface_136 rfl ?_
    refine rn_st_m_sb C  hj d_Model_surface_138 ?_
    refine x_aload_n C d_Model_surface_139 (i := 0) rfl rfl ?_
    refine g_Model_sc C lk_Model_19 d_Model_surface_140 ?_
    refine x_iload_n C d_Model_surface_143 (i := 1) rfl rfl ?_
    refine x_iload C d_Model_surface_144 rfl ?_
    refine rn_st_m_sc C  hj d_Model_surface_146 ?_
    refine x_iload C d_Model_surface_147 rfl ?_
    exact x_iret C E (z_b_t h_100).symm rfl d_Model_surface_149
theorem z_lt8 {sz : Nat} (hz : sz ≤ 8) (h : ¬ nI sz = 8) : sz < 8 := by
  have a : sz ≠ 8 := fun q => h (by rw [q]; rfl)
  omega
theorem c_Model_tokenN {dA : Nat → ClassId} {ad : Nat → Nat} {M : z_M} {v : Int32} {sz : Nat} (hs : M 53 6 = nI sz) (hz : sz ≤ 8) (hn : ¬ (p_btw v 0 10 ∧ sz < 8)) : z_CI y_Model_token b_Model_token 2 .int 1 dA ad [.ref (ad 53), .int v] M (-1) (M) := by
  refine z_ofI [some (.ref (ad 53)), some (.int v)] (by decide) (Nat.le_of_ble_eq_true rfl) rfl (fun k C E => ?_)
  have C : z_C dA ad k b_Model_token "CellTransportModel" 1 2 := C
  refine x_iload_n C d_Model_token_0 (i := 1) rfl rfl ?_
  refine x_iconst C (0) d_Model_token_1 rfl ?_
  refine x_bipush C (10) d_Model_token_2 rfl ?_
  refine x_callSi C (c_Model_out _ _ _) mt_Model_out rfl rfl (Nat.le_of_ble_eq_true rfl) (Nat.le_of_ble_eq_true rfl) lk_Model_66 d_Model_token_4 ?_
  refine x_if_ne C 19 d_Model_token_7 rfl (fun h_7 => ?_) (fun h_7 => ?_)
  · refine x_iconst C (-1) d_Model_token_19 rfl ?_
    exact x_iret C E rfl rfl d_Model_token_20
  · refine x_aload_n C d_Model_token_10 (i := 0) rfl rfl ?_
    refine g_Model_held C lk_Model_70 d_Model_token_11 ?_
    refine x_eqi hs ?_
    refine x_bipush C (8) d_Model_token_14 rfl ?_
    refine x_icmp_ne C 21 d_Model_token_16 rfl (fun h_16 => ?_) (fun h_16 => ?_)
    · exact absurd ⟨z_out0 h_7, z_lt8 hz h_16⟩ hn
    · refine x_iconst C (-1) d_Model_token_19 rfl ?_
      exact x_iret C E rfl rfl d_Model_token_20
theorem c_Model_tokenY {dA : Nat → ClassId} {ad : Nat → Nat} {M : z_M} {v : Int32} {sz : Nat} (hs : M 53 6 = nI sz) (hv : p_btw v 0 10) (hz : sz < 8) : z_CI y_Model_token b_Model_token 2 .int 1 dA ad [.ref (ad 53), .int v] M (nI (sz + 1)) (z_sv (z_sv M 59 sz v) 53 6 (nI (sz + 1))) := by
  refine z_ofI [some (.ref (ad 53)), some (.int v)] (by decide) (Nat.le_of_ble_eq_true rfl) rfl (fun k C E => ?_)
  have C : z_C dA ad k b_Model_token "CellTransportModel" 1 2 := C
  refine x_iload_n C d_Model_token_0 (i := 1) rfl rfl ?_
  refine x_iconst C (0) d_Model_token_1 rfl ?_
  refine x_bipush C (10) d_Model_token_2 rfl ?_
  refine x_callSi C (c_Model_out _ _ _) mt_Model_out rfl rfl (Nat.le_of_ble_eq_true rfl) (Nat.le_of_ble_eq_true rfl) lk_Model_66 d_Model_token_4 ?_
  refine x_if_ne C 19 d_Model_token_7 rfl (fun h_7 => absurd hv (z_b_n0.mp h_7)) (fun h_7 => ?_)
  refine x_aload_n C d_Model_token_10 (i := 0) rfl rfl ?_
  refine g_Model_held C lk_Model_70 d_Model_token_11 ?_
  refine x_eqi hs ?_
  refine x_bipush C (8) d_Model_token_14 rfl ?_
  refine x_icmp_ne C 21 d_Model_token_16 rfl (fun h_16 => ?_) (fun h_16 => absurd ((nI_eq (a := sz) (b := 8) (by omega) (by decide)).mp h_16) (by omega))
  refine x_aload_n C d_Model_token_21 (i := 0) rfl rfl ?_
  refine g_Model_buffer C lk_Model_26 d_Model_token_22 ?_
  refine x_aload_n C d_Model_token_25 (i := 0) rfl rfl ?_
  refine g_Model_held C lk_Model_70 d_Model_token_26 ?_
  refine x_eqi hs ?_
  refine x_iload_n C d_Model_token_29 (i := 1) rfl rfl ?_
  refine rn_st_m_buffer C  hz d_Model_token_30 ?_
  refine x_aload_n C d_Model_token_31 (i := 0) rfl rfl ?_
  refine x_dup C d_Model_token_32 rfl ?_
  refine g_Model_held C lk_Model_70 d_Model_token_33 ?_
  refine x_eqi ((z_sv_get M _ _ _ _ v (Or.inl (by decide))).trans hs) ?_
  refine x_iconst C (1) d_Model_token_36 rfl ?_
  refine x_iadd C d_Model_token_37 ?_
  refine x_eqi (nI_1 sz) ?_
  refine u_Model_held C lk_Model_70 d_Model_token_38 ?_
  refine x_aload_n C d_Model_token_41 (i := 0) rfl rfl ?_
  refine g_Model_held C lk_Model_70 d_Model_token_42 ?_
  refine x_eqi (z_sv_self _ _ _ _) ?_
  exact x_iret C E rfl rfl d_Model_token_45
theorem z_ops0 {v : Nat} (h : v < 8) : f_ops (nI v) = 0 := by
  have a8 : ¬ nI v = 8 := fun q => by have := (nI_eq (a := v) (b := 8) (by omega) (by decide)).mp q; omega
  have a9 : ¬ nI v = 9 := fun q => by have := (nI_eq (a := v) (b := 9) (by omega) (by decide)).mp q; omega
  have a10 : ¬ nI v = 10 := fun q => by have := (nI_eq (a := v) (b := 10) (by omega) (by decide)).mp q; omega
  rw [f_ops, if_neg a8, if_neg a9, if_neg a10]
theorem z_ops2 {v : Nat} (hv : v ≤ 10) (h8 : ¬ v < 8) (h10 : ¬ v = 10) : f_ops (nI v) = 2 := by
  rcases (show v = 8 ∨ v = 9 by omega) with rfl | rfl <;> rfl
theorem lp_Model_told {dA : Nat → ClassId} {ad : Nat → Nat} {M : z_M} {k : z_K} {sz : Nat} (hsz : sz ≤ 8) (hs : M 53 6 = nI sz) (ht : ∀ t, t < sz → ∃ v, v ≤ 10 ∧ M 59 t = nI v) {r0 : Int32} (C : z_C dA ad k b_Model_told "CellTransportModel" 0 4) (E : z_RI dA ad k .boolean r0 M) :
    ∀ (n i : Nat) (o : Int32) (a3 : Option Value), i + n = sz → f_wh (M 59) n i o = r0 → z_X dA ad k 4 [some (.ref (ad 53)), some (.int o), some (.int (nI i)), a3] [] M := by
  intro n
  induction n with
  | zero =>
    intro i o a3 hi hr
    refine x_iload_n C d_Model_told_4 (i := 2) rfl rfl ?_
    refine x_aload_n C d_Model_told_5 (i := 0) rfl rfl ?_
    refine g_Model_held C lk_Model_70 d_Model_told_6 ?_
    refine x_eqi hs ?_
    refine x_icmp_ge C 63 d_Model_told_9 rfl (fun h_9 => ?_) (fun h_9 => absurd (nI_le (by omega) (by omega)) h_9)
    refine x_iload_n C d_Model_told_63 (i := 1) rfl rfl ?_
    refine x_iconst C (1) d_Model_told_64 rfl ?_
    refine x_icmp_ne C 72 d_Model_told_65 rfl (fun h_65 => ?_) (fun h_65 => ?_)
    · refine x_iconst C (0) d_Model_told_72 rfl ?_
      exact x_zret C E (hr ▸ (z_b_f h_65).symm) rfl rfl d_Model_told_73
    · refine x_iconst C (1) d_Model_told_68 rfl ?_
      refine x_goto C 73 d_Model_told_69 rfl ?_
      exact x_zret C E (hr ▸ (z_b_t h_65).symm) rfl rfl d_Model_told_73
  | succ n ih =>
    intro i o a3 hi hr
    have hi8 : i < 8 := by omega
    obtain ⟨v, hv, ev⟩ := ht i (by omega)
    by_cases v8 : v < 8
    · have ef : f_ops (M 59 i) = 0 := by rw [ev]; exact z_ops0 v8
      refine x_iload_n C d_Model_told_4 (i := 2) rfl rfl ?_
      refine x_aload_n C d_Model_told_5 (i := 0) rfl rfl ?_
      refine g_Model_held C lk_Model_70 d_Model_told_6 ?_
      refine x_eqi hs ?_
      refine x_icmp_ge C 63 d_Model_told_9 rfl (fun h_9 => absurd h_9 (nI_ge (by omega) (by omega))) (fun h_9 => ?_)
      refine x_aload_n C d_Model_told_12 (i := 0) rfl rfl ?_
      refine g_Model_buffer C lk_Model_26 d_Model_told_13 ?_
      refine x_iload_n C d_Model_told_16 (i := 2) rfl rfl ?_
      refine rn_ld_m_buffer C  hi8 d_Model_told_17 ?_
      refine x_eqi ev ?_
      refine x_bipush C (8) d_Model_told_18 rfl ?_
      refine x_icmp_ge C 27 d_Model_told_20 rfl (fun h_20 => absurd (show nI 8 ≤ nI v from h_20) (nI_ge v8 (by decide))) (fun h_20 => ?_)
      refine x_iconst C (0) d_Model_told_23 rfl ?_
      refine x_goto C 43 d_Model_told_24 rfl ?_
      refine x_istore_n C d_Model_told_43 (i := 3) rfl rfl ?_
      refine x_iload_n C d_Model_told_44 (i := 1) rfl rfl ?_
      refine x_iload_n C d_Model_told_45 (i := 3) rfl rfl ?_
      refine x_icmp_ge C 51 d_Model_told_46 rfl (fun h_46 => ?_) (fun h_46 => ?_)
      · refine x_iload_n C d_Model_told_51 (i := 1) rfl rfl ?_
        refine x_iconst C (1) d_Model_told_52 rfl ?_
        refine x_iload_n C d_Model_told_53 (i := 3) rfl rfl ?_
        refine x_isub C d_Model_told_54 ?_
        refine x_iadd C d_Model_told_55 ?_
        refine x_istore_n C d_Model_told_56 (i := 1) rfl rfl ?_
        refine x_iinc C (nI (i + 1)) d_Model_told_57 rfl (z_inc i) rfl ?_
        refine x_goto C 4 d_Model_told_60 rfl ?_
        exact ih (i + 1) _ _ (by omega) (by rw [← hr]; show _ = (if f_ops (M 59 i) ≤ o then f_wh (M 59) n (i + 1) (o + (1 - f_ops (M 59 i))) else 0); rw [ef, if_pos h_46])
      · refine x_iconst C (0) d_Model_told_49 rfl ?_
        exact x_zret C E (by rw [← hr]; show _ = (if f_ops (M 59 i) ≤ o then f_wh (M 59) n (i + 1) (o + (1 - f_ops (M 59 i))) else 0); rw [ef, if_neg h_46]) rfl rfl d_Model_told_50
    · by_cases v10 : v = 10
      · have ef : f_ops (M 59 i) = 1 := by rw [ev, v10]; rfl
        refine x_iload_n C d_Model_told_4 (i := 2) rfl rfl ?_
        refine x_aload_n C d_Model_told_5 (i := 0) rfl rfl ?_
        refine g_Model_held C lk_Model_70 d_Model_told_6 ?_
        refine x_eqi hs ?_
        refine x_icmp_ge C 63 d_Model_told_9 rfl (fun h_9 => absurd h_9 (nI_ge (by omega) (by omega))) (fun h_9 => ?_)
        refine x_aload_n C d_Model_told_12 (i := 0) rfl rfl ?_
        refine g_Model_buffer C lk_Model_26 d_Model_told_13 ?_
        refine x_iload_n C d_Model_told_16 (i := 2) rfl rfl ?_
        refine rn_ld_m_buffer C  hi8 d_Model_told_17 ?_
        refine x_eqi ev ?_
        refine x_bipush C (8) d_Model_told_18 rfl ?_
        refine x_icmp_ge C 27 d_Model_told_20 rfl (fun h_20 => ?_) (fun h_20 => absurd (show nI 8 ≤ nI v from nI_le (by omega) (by omega)) h_20)
        refine x_aload_n C d_Model_told_27 (i := 0) rfl rfl ?_
        refine g_Model_buffer C lk_Model_26 d_Model_told_28 ?_
        refine x_iload_n C d_Model_told_31 (i := 2) rfl rfl ?_
        refine rn_ld_m_buffer C  hi8 d_Model_told_32 ?_
        refine x_eqi ev ?_
        refine x_bipush C (10) d_Model_told_33 rfl ?_
        refine x_icmp_ne C 42 d_Model_told_35 rfl (fun h_35 => absurd (show nI v = 10 by rw [v10]; rfl) h_35) (fun h_35 => ?_)
        refine x_iconst C (1) d_Model_told_38 rfl ?_
        refine x_goto C 43 d_Model_told_39 rfl ?_
        refine x_istore_n C d_Model_told_43 (i := 3) rfl rfl ?_
        refine x_iload_n C d_Model_told_44 (i := 1) rfl rfl ?_
        refine x_iload_n C d_Model_told_45 (i := 3) rfl rfl ?_
        refine x_icmp_ge C 51 d_Model_told_46 rfl (fun h_46 => ?_) (fun h_46 => ?_)
        · refine x_iload_n C d_Model_told_51 (i := 1) rfl rfl ?_
          refine x_iconst C (1) d_Model_told_52 rfl ?_
          refine x_iload_n C d_Model_told_53 (i := 3) rfl rfl ?_
          refine x_isub C d_Model_told_54 ?_
          refine x_iadd C d_Model_told_55 ?_
          refine x_istore_n C d_Model_told_56 (i := 1) rfl rfl ?_
          refine x_iinc C (nI (i + 1)) d_Model_told_57 rfl (z_inc i) rfl ?_
          refine x_goto C 4 d_Model_told_60 rfl ?_
          exact ih (i + 1) _ _ (by omega) (by rw [← hr]; show _ = (if f_ops (M 59 i) ≤ o then f_wh (M 59) n (i + 1) (o + (1 - f_ops (M 59 i))) else 0); rw [ef, if_pos h_46])
        · refine x_iconst C (0) d_Model_told_49 rfl ?_
          exact x_zret C E (by rw [← hr]; show _ = (if f_ops (M 59 i) ≤ o then f_wh (M 59) n (i + 1) (o + (1 - f_ops (M 59 i))) else 0); rw [ef, if_neg h_46]) rfl rfl d_Model_told_50
      · have ef : f_ops (M 59 i) = 2 := by rw [ev]; exact z_ops2 hv v8 v10
        refine x_iload_n C d_Model_told_4 (i := 2) rfl rfl ?_
        refine x_aload_n C d_Model_told_5 (i := 0) rfl rfl ?_
        refine g_Model_held C lk_Model_70 d_Model_told_6 ?_
        refine x_eqi hs ?_
        refine x_icmp_ge C 63 d_Model_told_9 rfl (fun h_9 => absurd h_9 (nI_ge (by omega) (by omega))) (fun h_9 => ?_)
        refine x_aload_n C d_Model_told_12 (i := 0) rfl rfl ?_
        refine g_Model_buffer C lk_Model_26 d_Model_told_13 ?_
        refine x_iload_n C d_Model_told_16 (i := 2) rfl rfl ?_
        refine rn_ld_m_buffer C  hi8 d_Model_told_17 ?_
        refine x_eqi ev ?_
        refine x_bipush C (8) d_Model_told_18 rfl ?_
        refine x_icmp_ge C 27 d_Model_told_20 rfl (fun h_20 => ?_) (fun h_20 => absurd (show nI 8 ≤ nI v from nI_le (by omega) (by omega)) h_20)
        refine x_aload_n C d_Model_told_27 (i := 0) rfl rfl ?_
        refine g_Model_buffer C lk_Model_26 d_Model_told_28 ?_
        refine x_iload_n C d_Model_told_31 (i := 2) rfl rfl ?_
        refine rn_ld_m_buffer C  hi8 d_Model_told_32 ?_
        refine x_eqi ev ?_
        refine x_bipush C (10) d_Model_told_33 rfl ?_
        refine x_icmp_ne C 42 d_Model_told_35 rfl (fun h_35 => ?_) (fun h_35 => absurd ((nI_eq (a := v) (b := 10) (by omega) (by decide)).mp h_35) v10)
        refine x_iconst C (2) d_Model_told_42 rfl ?_
        refine x_istore_n C d_Model_told_43 (i := 3) rfl rfl ?_
        refine x_iload_n C d_Model_told_44 (i := 1) rfl rfl ?_
        refine x_iload_n C d_Model_told_45 (i := 3) rfl rfl ?_
        refine x_icmp_ge C 51 d_Model_told_46 rfl (fun h_46 => ?_) (fun h_46 => ?_)
        · refine x_iload_n C d_Model_told_51 (i := 1) rfl rfl ?_
          refine x_iconst C (1) d_Model_told_52 rfl ?_
          refine x_iload_n C d_Model_told_53 (i := 3) rfl rfl ?_
          refine x_isub C d_Model_told_54 ?_
          refine x_iadd C d_Model_told_55 ?_
          refine x_istore_n C d_Model_told_56 (i := 1) rfl rfl ?_
          refine x_iinc C (nI (i + 1)) d_Model_told_57 rfl (z_inc i) rfl ?_
          refine x_goto C 4 d_Model_told_60 rfl ?_
          exact ih (i + 1) _ _ (by omega) (by rw [← hr]; show _ = (if f_ops (M 59 i) ≤ o then f_wh (M 59) n (i + 1) (o + (1 - f_ops (M 59 i))) else 0); rw [ef, if_pos h_46])
        · refine x_iconst C (0) d_Model_told_49 rfl ?_
          exact x_zret C E (by rw [← hr]; show _ = (if f_ops (M 59 i) ≤ o then f_wh (M 59) n (i + 1) (o + (1 - f_ops (M 59 i))) else 0); rw [ef, if_neg h_46]) rfl rfl d_Model_told_50
theorem c_Model_told {dA : Nat → ClassId} {ad : Nat → Nat} {M : z_M} {sz : Nat} (hsz : sz ≤ 8) (hs : M 53 6 = nI sz) (ht : ∀ t, t < sz → ∃ v, v ≤ 10 ∧ M 59 t = nI v) : z_CI y_Model_told b_Model_told 4 .boolean 0 dA ad [.ref (ad 53)] M (f_wh (M 59) sz 0 0) (M) := by
  refine z_ofI [some (.ref (ad 53)), none, none, none] (by decide) (Nat.le_of_ble_eq_true rfl) rfl (fun k C E => ?_)
  have C : z_C dA ad k b_Model_told "CellTransportModel" 0 4 := C
  refine x_iconst C (0) d_Model_told_0 rfl ?_
  refine x_istore_n C d_Model_told_1 (i := 1) rfl rfl ?_
  refine x_iconst C (0) d_Model_told_2 rfl ?_
  refine x_istore_n C d_Model_told_3 (i := 2) rfl rfl ?_
  exact lp_Model_told hsz hs ht C E sz 0 0 none (by omega) rfl
