theorem z_m_x {a b x y : Nat} (h : z_m a b = some (x, y)) : 53 ≤ x := by
  unfold z_m at h
  by_cases q1 : a = 0
  · rw [if_pos q1] at h
    by_cases q2 : b = 6
    · rw [if_pos q2] at h
      cases h
      decide
    rw [if_neg q2] at h
    by_cases q3 : b = 7
    · rw [if_pos q3] at h
      cases h
      decide
    rw [if_neg q3] at h
    cases h
  rw [if_neg q1] at h
  by_cases q4 : a < 4
  · rw [if_pos q4] at h
    cases h
  rw [if_neg q4] at h
  by_cases q5 : a < 12
  · rw [if_pos q5] at h
    by_cases q6 : b = 0
    · rw [if_pos q6] at h
      cases h
      decide
    rw [if_neg q6] at h
    by_cases q7 : b = 1
    · rw [if_pos q7] at h
      cases h
      decide
    rw [if_neg q7] at h
    by_cases q8 : b = 2
    · rw [if_pos q8] at h
      cases h
      decide
    rw [if_neg q8] at h
    by_cases q9 : b = 3
    · rw [if_pos q9] at h
      cases h
      decide
    rw [if_neg q9] at h
    by_cases q10 : b = 4
    · rw [if_pos q10] at h
      cases h
      decide
    rw [if_neg q10] at h
    cases h
  rw [if_neg q5] at h
  by_cases q11 : a < 18
  · rw [if_pos q11] at h
    by_cases q12 : b = 1
    · rw [if_pos q12] at h
      cases h
      decide
    rw [if_neg q12] at h
    by_cases q13 : b = 2
    · rw [if_pos q13] at h
      cases h
      decide
    rw [if_neg q13] at h
    by_cases q14 : b = 3
    · rw [if_pos q14] at h
      cases h
      decide
    rw [if_neg q14] at h
    by_cases q15 : b = 4
    · rw [if_pos q15] at h
      cases h
      decide
    rw [if_neg q15] at h
    cases h
  rw [if_neg q11] at h
  by_cases q16 : a < 24
  · rw [if_pos q16] at h
    by_cases q17 : b = 1
    · rw [if_pos q17] at h
      cases h
      decide
    rw [if_neg q17] at h
    cases h
  rw [if_neg q16] at h
  by_cases q18 : a = 24
  · rw [if_pos q18] at h
    by_cases q19 : b = 1
    · rw [if_pos q19] at h
      cases h
      decide
    rw [if_neg q19] at h
    cases h
  rw [if_neg q18] at h
  by_cases q20 : a < 31
  · rw [if_pos q20] at h
    by_cases q21 : b < 8
    · rw [if_pos q21] at h
      cases h
      decide
    rw [if_neg q21] at h
    cases h
  rw [if_neg q20] at h
  by_cases q22 : a = 31
  · rw [if_pos q22] at h
    cases h
    decide
  rw [if_neg q22] at h
  by_cases q23 : a = 32
  · rw [if_pos q23] at h
    by_cases q24 : b = 0
    · rw [if_pos q24] at h
      cases h
      decide
    rw [if_neg q24] at h
    cases h
  rw [if_neg q23] at h
  by_cases q25 : a = 34
  · rw [if_pos q25] at h
    cases h
    decide
  rw [if_neg q25] at h
  by_cases q26 : 36 ≤ a ∧ a < 42
  · rw [if_pos q26] at h
    by_cases q27 : b < 4
    · rw [if_pos q27] at h
      cases h
      decide
    rw [if_neg q27] at h
    cases h
  rw [if_neg q26] at h
  by_cases q28 : 43 ≤ a ∧ a < 49
  · rw [if_pos q28] at h
    by_cases q29 : b < 6
    · rw [if_pos q29] at h
      cases h
      decide
    rw [if_neg q29] at h
    cases h
  rw [if_neg q28] at h
  by_cases q30 : a = 49
  · rw [if_pos q30] at h
    by_cases q31 : b = 2
    · rw [if_pos q31] at h
      cases h
      decide
    rw [if_neg q31] at h
    by_cases q32 : b = 3
    · rw [if_pos q32] at h
      cases h
      decide
    rw [if_neg q32] at h
    cases h
  rw [if_neg q30] at h
  by_cases q33 : a = 50
  · rw [if_pos q33] at h
    cases h
    decide
  rw [if_neg q33] at h
  by_cases q34 : a = 51
  · rw [if_pos q34] at h
    cases h
    decide
  rw [if_neg q34] at h
  by_cases q35 : a = 52
  · rw [if_pos q35] at h
    by_cases q36 : b = 0
    · rw [if_pos q36] at h
      cases h
      decide
    rw [if_neg q36] at h
    by_cases q37 : b = 1
    · rw [if_pos q37] at h
      cases h
      decide
    rw [if_neg q37] at h
    by_cases q38 : b = 3
    · rw [if_pos q38] at h
      cases h
      decide
    rw [if_neg q38] at h
    by_cases q39 : b = 4
    · rw [if_pos q39] at h
      cases h
      decide
    rw [if_neg q39] at h
    cases h
  rw [if_neg q35] at h
  cases h
/-! ===== class and reference side by side ===== -/
def z_sim (A B : z_M) : Prop := (∀ (a b : Nat) (q : Nat × Nat), z_m a b = some q → (a < 25 ∨ 31 ≤ a) → A a b = B q.1 q.2) ∧ ∀ r, r < 6 → ∀ t, t < (A (i_reg r) 1).toNatClampNeg → A (i_tok r) t = B 60 (8 * r + t)
theorem z_sim.at {A B : z_M} (h : z_sim A B) {a b x y : Nat} (hm : z_m a b = some (x, y)) (ha : a < 25 ∨ 31 ≤ a) : A a b = B x y := h.1 a b (x, y) hm ha
theorem z_m_ge {a b x y : Nat} (h : z_m a b = some (x, y)) : a < 53 ∧ 53 ≤ x := by
  have e := z_m_inv h
  constructor
  · refine Nat.lt_of_not_le fun q => ?_
    have h1 : ¬ a = 0 ∧ ¬ a < 4 ∧ ¬ a < 12 ∧ ¬ a < 18 ∧ ¬ a < 24 ∧ ¬ a = 24 ∧ ¬ a < 31 ∧ ¬ a = 31 ∧ ¬ a = 32 ∧ ¬ a = 34 ∧ ¬ (36 ≤ a ∧ a < 42) ∧ ¬ (43 ≤ a ∧ a < 49) ∧ ¬ a = 49 ∧ ¬ a = 50 ∧ ¬ a = 51 ∧ ¬ a = 52 := by omega
    unfold z_m at h
    rw [if_neg h1.1, if_neg h1.2.1, if_neg h1.2.2.1, if_neg h1.2.2.2.1, if_neg h1.2.2.2.2.1, if_neg h1.2.2.2.2.2.1, if_neg h1.2.2.2.2.2.2.1, if_neg h1.2.2.2.2.2.2.2.1, if_neg h1.2.2.2.2.2.2.2.2.1, if_neg h1.2.2.2.2.2.2.2.2.2.1, if_neg h1.2.2.2.2.2.2.2.2.2.2.1, if_neg h1.2.2.2.2.2.2.2.2.2.2.2.1, if_neg h1.2.2.2.2.2.2.2.2.2.2.2.2.1, if_neg h1.2.2.2.2.2.2.2.2.2.2.2.2.2.1, if_neg h1.2.2.2.2.2.2.2.2.2.2.2.2.2.2.1, if_neg h1.2.2.2.2.2.2.2.2.2.2.2.2.2.2.2] at h
    cases h
  · exact z_m_x h
theorem z_sim.congr {A B A2 B2 : z_M} (h : z_sim A B) (hA : ∀ a, a < 53 → A2 a = A a) (hB : ∀ a, 53 ≤ a → B2 a = B a) : z_sim A2 B2 := by
  refine ⟨fun a b q hq ha => ?_, fun r hr t ht => ?_⟩
  · obtain ⟨x, y⟩ := q
    obtain ⟨h1, h2⟩ := z_m_ge hq
    rw [hA a h1, hB x h2]
    exact h.1 a b (x, y) hq ha
  · have e1 : A2 (i_reg r) = A (i_reg r) := hA _ (by unfold i_reg; omega)
    have e2 : A2 (i_tok r) = A (i_tok r) := hA _ (by unfold i_tok; omega)
    rw [e1] at ht
    rw [e2, hB 60 (by omega)]
    exact h.2 r hr t ht
theorem z_sim.sv {A B : z_M} (h : z_sim A B) {k j x y : Nat} (hm : z_m k j = some (x, y)) (hk : k < 18 ∨ k = 24 ∨ 31 ≤ k) (hx : x ≠ 60) (v : Int32) : z_sim (z_sv A k j v) (z_sv B x y v) := by
  refine ⟨fun a b q hq ha => ?_, fun r hr t ht => ?_⟩
  · by_cases e : a = k ∧ b = j
    · obtain ⟨rfl, rfl⟩ := e
      have eq : q = (x, y) := Option.some.inj (hq.symm.trans hm)
      subst eq
      rw [z_sv_self]
      exact (z_sv_self B x y v).symm
    · have n1 : a ≠ k ∨ b ≠ j := by
        by_cases q1 : a = k
        · exact Or.inr (fun q2 => e ⟨q1, q2⟩)
        · exact Or.inl q1
      have n2 : q.1 ≠ x ∨ q.2 ≠ y := by
        by_cases q1 : q.1 = x
        · refine Or.inr (fun q2 => e ?_)
          have eq : q = (x, y) := by rw [← q1, ← q2]
          rw [eq] at hq
          exact z_m_inj hq hm
        · exact Or.inl q1
      rw [z_sv_get _ _ _ _ _ _ n1, z_sv_get _ _ _ _ _ _ n2]
      exact h.1 a b q hq ha
  · have e1 : z_sv A k j v (i_reg r) = A (i_reg r) := z_sv_row _ _ _ (by unfold i_reg; omega)
    have e2 : z_sv A k j v (i_tok r) = A (i_tok r) := z_sv_row _ _ _ (by unfold i_tok; omega)
    rw [e1] at ht
    rw [e2, z_sv_get _ _ _ _ _ _ (Or.inl (fun q => hx q.symm))]
    exact h.2 r hr t ht
theorem z_sim.svA {A B : z_M} (h : z_sim A B) (v : Int32) : z_sim (z_sv A 52 2 v) B := by
  refine ⟨fun a b q hq ha => ?_, fun r hr t ht => ?_⟩
  · have n1 : a ≠ 52 ∨ b ≠ 2 := by
      by_cases q1 : a = 52
      · refine Or.inr (fun q2 => ?_)
        rw [q1, q2, show z_m 52 2 = none by decide] at hq
        cases hq
      · exact Or.inl q1
    rw [z_sv_get _ _ _ _ _ _ n1]
    exact h.1 a b q hq ha
  · have e1 : z_sv A 52 2 v (i_reg r) = A (i_reg r) := z_sv_row _ _ _ (by unfold i_reg; omega)
    have e2 : z_sv A 52 2 v (i_tok r) = A (i_tok r) := z_sv_row _ _ _ (by unfold i_tok; omega)
    rw [e1] at ht
    rw [e2]
    exact h.2 r hr t ht
theorem z_okV_of {A B : z_M} (h : z_sim A B) (hR : ∀ r, r < 6 → z_okR A r) : ∀ r, r < 6 → z_okR (z_V B) r := by
  intro r hr
  obtain ⟨sz, h1, h2, h3⟩ := hR r hr
  have e1 : z_V B (i_reg r) 1 = A (i_reg r) 1 := (z_V_at (z_m_reg hr)).trans (h.at (z_m_reg hr) (by unfold i_reg; omega)).symm
  refine ⟨sz, h1, e1.trans h2, fun t ht => ?_⟩
  obtain ⟨v, hv, ev⟩ := h3 t ht
  refine ⟨v, hv, ?_⟩
  rw [z_V_at (z_m_tok hr (show t < 8 by omega)), ← h.2 r hr t (by rw [h2, nI_clamp (by omega)]; exact ht)]
  exact ev
theorem z_sh_eq {A B : z_M} (h : z_sim A B) {v : Nat} (hv : v < 8) (x y : Int32) : z_b (p_sh (A (i_surf v)) x y) = z_b (p_sh (z_V B (i_surf v)) x y) := by
  apply z_b_iff
  obtain ⟨e0, e1, e2, e3, e4⟩ := z_Vs B hv
  obtain ⟨m0, m1, m2, m3, m4⟩ := z_m_surf hv
  have s : i_surf v < 25 := by unfold i_surf; omega
  unfold p_sh
  rw [e0, e1, e2, e3, e4, h.at m0 (Or.inl s), h.at m1 (Or.inl s), h.at m2 (Or.inl s), h.at m3 (Or.inl s), h.at m4 (Or.inl s)]
theorem z_rs_eq {A B : z_M} (h : z_sim A B) (x y o : Int32) {v : Nat} (hv : v ≤ 10) : f_rs A x y o (nI v) = f_rs (z_V B) x y o (nI v) := by
  by_cases v8 : v < 8
  · have n8 : ¬ nI v = 8 := fun q => by have := (nI_eq (a := v) (b := 8) (by omega) (by decide)).mp q; omega
    have n9 : ¬ nI v = 9 := fun q => by have := (nI_eq (a := v) (b := 9) (by omega) (by decide)).mp q; omega
    have n10 : ¬ nI v = 10 := fun q => by have := (nI_eq (a := v) (b := 10) (by omega) (by decide)).mp q; omega
    rw [f_rs, f_rs, if_neg n8, if_neg n9, if_neg n10, if_neg n8, if_neg n9, if_neg n10, nI_clamp (by omega), z_sh_eq h v8]
  · rcases (show v = 8 ∨ v = 9 ∨ v = 10 by omega) with e | e | e
    · have q : nI v = 8 := by rw [e]; rfl
      rw [f_rs, f_rs, if_pos q, if_pos q]
    · have n8 : ¬ nI v = 8 := by rw [e]; decide
      have q : nI v = 9 := by rw [e]; rfl
      rw [f_rs, f_rs, if_neg n8, if_pos q, if_neg n8, if_pos q]
    · have n8 : ¬ nI v = 8 := by rw [e]; decide
      have n9 : ¬ nI v = 9 := by rw [e]; decide
      have q : nI v = 10 := by rw [e]; rfl
      rw [f_rs, f_rs, if_neg n8, if_neg n9, if_pos q, if_neg n8, if_neg n9, if_pos q]
theorem z_rl_eq {A B : z_M} (h : z_sim A B) (x y : Int32) {ta tb : Nat → Int32} {sz : Nat} (ht : ∀ t, t < sz → ta t = tb t ∧ ∃ v, v ≤ 10 ∧ ta t = nI v) : ∀ (n i : Nat) (o : Int32), i + n = sz → f_rl A ta x y n i o = f_rl (z_V B) tb x y n i o := by
  intro n
  induction n with
  | zero => intro i o _; rfl
  | succ n ih =>
    intro i o hi
    obtain ⟨e, v, hv, ev⟩ := ht i (by omega)
    rw [f_rl, f_rl, ← e, ev, z_rs_eq h x y o hv]
    exact ih (i + 1) _ (by omega)
theorem z_in_eq {A B : z_M} (h : z_sim A B) (hR : ∀ r, r < 6 → z_okR A r) (x y : Int32) {i : Nat} (hi : i < 6) : p_in A x y i ↔ p_in (z_V B) x y i := by
  obtain ⟨sz, h1, h2, h3⟩ := hR i hi
  have e1 : z_V B (i_reg i) 1 = A (i_reg i) 1 := (z_V_at (z_m_reg hi)).trans (h.at (z_m_reg hi) (by unfold i_reg; omega)).symm
  have ez : (A (i_reg i) 1).toNatClampNeg = sz := by rw [h2]; exact nI_clamp (by omega)
  have key : f_rl A (A (i_tok i)) x y sz 0 0 = f_rl (z_V B) (z_V B (i_tok i)) x y sz 0 0 := by
    refine z_rl_eq h x y (sz := sz) (fun t ht => ⟨?_, h3 t ht⟩) sz 0 0 (by omega)
    rw [z_V_at (z_m_tok hi (show t < 8 by omega))]
    exact h.2 i hi t (by rw [ez]; exact ht)
  unfold p_in
  rw [e1, ez, key]
theorem z_ca_eq {A B : z_M} (h : z_sim A B) (hR : ∀ r, r < 6 → z_okR A r) (x y : Int32) : ∀ (n i : Nat), i + n = 6 → f_ca A x y n i = f_ca (z_V B) x y n i := by
  intro n
  induction n with
  | zero => intro i _; rfl
  | succ n ih =>
    intro i hi
    have hi6 : i < 6 := by omega
    have e1 : A (i_cell i) 1 = z_V B (i_cell i) 1 := (h.at (z_m_cell hi6).1 (by unfold i_cell; omega)).trans (z_V_at (z_m_cell hi6).1).symm
    by_cases q : ¬ A (i_cell i) 1 = 0 ∧ p_in A x y i
    · have q2 : ¬ z_V B (i_cell i) 1 = 0 ∧ p_in (z_V B) x y i := ⟨fun z => q.1 (e1.trans z), (z_in_eq h hR x y hi6).mp q.2⟩
      rw [f_ca, f_ca, if_pos q, if_pos q2]
    · have q2 : ¬ (¬ z_V B (i_cell i) 1 = 0 ∧ p_in (z_V B) x y i) := fun z => q ⟨fun w => z.1 (e1.symm.trans w), (z_in_eq h hR x y hi6).mpr z.2⟩
      rw [f_ca, f_ca, if_neg q, if_neg q2]
      exact ih (i + 1) (by omega)
theorem z_rc_eq {A B : z_M} (h : z_sim A B) (hR : ∀ r, r < 6 → z_okR A r) (x y home : Int32) (dd : Nat) : ∀ (n i : Nat), f_rc A x y dd home n i = f_rc (z_V B) x y dd home n i := by
  intro n
  induction n with
  | zero => intro i; rfl
  | succ n ih =>
    intro i
    rw [f_rc, f_rc, z_ca_eq h hR _ _ 6 0 (by omega), ih (i + 1)]
theorem z_dc_eq {A B : z_M} (h : z_sim A B) : ∀ (n i : Nat) (a : Int32), i + n = 6 → f_dc A n i a = f_dc (z_V B) n i a := by
  intro n
  induction n with
  | zero => intro i a _; rfl
  | succ n ih =>
    intro i a hi
    have hi6 : i < 6 := by omega
    have e1 : A (i_cell i) 1 = z_V B (i_cell i) 1 := (h.at (z_m_cell hi6).1 (by unfold i_cell; omega)).trans (z_V_at (z_m_cell hi6).1).symm
    rw [f_dc, f_dc, e1]
    exact ih (i + 1) _ (by omega)
