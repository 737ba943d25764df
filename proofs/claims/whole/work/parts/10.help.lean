abbrev p_btw (v lo hi : Int32) : Prop := lo ≤ v ∧ v ≤ hi
abbrev p_wth (x y m : Int32) : Prop := p_btw x (-m) m ∧ p_btw y (-m) m
abbrev p_isS (kd a b c : Int32) : Prop := (kd = 0 ∧ p_wth a b 9 ∧ p_btw c (-9999) 9999) ∨ (kd = 1 ∧ p_wth a b 300 ∧ p_btw c 0 300)
abbrev p_shr (a f : Int32) : Prop := p_btw a 0 1000 ∧ p_btw f 0 (1000 - a)
theorem c_CellTransport_isBetween {dA : Nat → ClassId} {ad : Nat → Nat} {M : z_M} (v lo hi : Int32) : z_CI y_CellTransport_isBetween b_CellTransport_isBetween 3 .boolean 0 dA ad [.int v, .int lo, .int hi] M (z_b (p_btw v lo hi)) (M) := by
  refine z_ofI [some (.int v), some (.int lo), some (.int hi)] (by decide) (Nat.le_of_ble_eq_true rfl) rfl (fun k C E => ?_)
  have C : z_C dA ad k b_CellTransport_isBetween "CellTransport" 0 3 := C
  refine x_iload_n C d_CellTransport_isBetween_0 (i := 1) rfl rfl ?_
  refine x_iload_n C d_CellTransport_isBetween_1 (i := 0) rfl rfl ?_
  refine x_icmp_gt C 14 d_CellTransport_isBetween_2 rfl (fun h_2 => ?_) (fun h_2 => ?_)
  · refine x_iconst C (0) d_CellTransport_isBetween_14 rfl ?_
    exact x_zret C E (z_b_f (fun q => Int32.not_lt.mpr q.1 h_2)).symm rfl rfl d_CellTransport_isBetween_15
  · refine x_iload_n C d_CellTransport_isBetween_5 (i := 0) rfl rfl ?_
    refine x_iload_n C d_CellTransport_isBetween_6 (i := 2) rfl rfl ?_
    refine x_icmp_gt C 14 d_CellTransport_isBetween_7 rfl (fun h_7 => ?_) (fun h_7 => ?_)
    · refine x_iconst C (0) d_CellTransport_isBetween_14 rfl ?_
      exact x_zret C E (z_b_f (fun q => Int32.not_lt.mpr q.2 h_7)).symm rfl rfl d_CellTransport_isBetween_15
    · refine x_iconst C (1) d_CellTransport_isBetween_10 rfl ?_
      refine x_goto C 15 d_CellTransport_isBetween_11 rfl ?_
      exact x_zret C E (z_b_t ⟨z_le h_2, z_le h_7⟩).symm rfl rfl d_CellTransport_isBetween_15
theorem c_CellTransport_areWithin {dA : Nat → ClassId} {ad : Nat → Nat} {M : z_M} (x y m : Int32) : z_CI y_CellTransport_areWithin b_CellTransport_areWithin 3 .boolean 1 dA ad [.int x, .int y, .int m] M (z_b (p_wth x y m)) (M) := by
  refine z_ofI [some (.int x), some (.int y), some (.int m)] (by decide) (Nat.le_of_ble_eq_true rfl) rfl (fun k C E => ?_)
  have C : z_C dA ad k b_CellTransport_areWithin "CellTransport" 1 3 := C
  refine x_iload_n C d_CellTransport_areWithin_0 (i := 0) rfl rfl ?_
  refine x_iload_n C d_CellTransport_areWithin_1 (i := 2) rfl rfl ?_
  refine x_ineg C d_CellTransport_areWithin_2 ?_
  refine x_iload_n C d_CellTransport_areWithin_3 (i := 2) rfl rfl ?_
  refine x_callSi C (c_CellTransport_isBetween _ _ _) mt_CellTransport_isBetween rfl rfl (Nat.le_of_ble_eq_true rfl) (Nat.le_of_ble_eq_true rfl) lk_CellTransport_51 d_CellTransport_areWithin_4 ?_
  refine x_if_eq C 24 d_CellTransport_areWithin_7 rfl (fun h_7 => ?_) (fun h_7 => ?_)
  · refine x_iconst C (0) d_CellTransport_areWithin_24 rfl ?_
    exact x_zret C E (z_b_f (fun q => z_b_0.mp h_7 q.1)).symm rfl rfl d_CellTransport_areWithin_25
  · refine x_iload_n C d_CellTransport_areWithin_10 (i := 1) rfl rfl ?_
    refine x_iload_n C d_CellTransport_areWithin_11 (i := 2) rfl rfl ?_
    refine x_ineg C d_CellTransport_areWithin_12 ?_
    refine x_iload_n C d_CellTransport_areWithin_13 (i := 2) rfl rfl ?_
    refine x_callSi C (c_CellTransport_isBetween _ _ _) mt_CellTransport_isBetween rfl rfl (Nat.le_of_ble_eq_true rfl) (Nat.le_of_ble_eq_true rfl) lk_CellTransport_51 d_CellTransport_areWithin_14 ?_
    refine x_if_eq C 24 d_CellTransport_areWithin_17 rfl (fun h_17 => ?_) (fun h_17 => ?_)
    · refine x_iconst C (0) d_CellTransport_areWithin_24 rfl ?_
      exact x_zret C E (z_b_f (fun q => z_b_0.mp h_17 q.2)).symm rfl rfl d_CellTransport_areWithin_25
    · refine x_iconst C (1) d_CellTransport_areWithin_20 rfl ?_
      refine x_goto C 25 d_CellTransport_areWithin_21 rfl ?_
      exact x_zret C E (z_b_t ⟨z_b_n0.mp h_7, z_b_n0.mp h_17⟩).symm rfl rfl d_CellTransport_areWithin_25
theorem c_CellTransport_areShares {dA : Nat → ClassId} {ad : Nat → Nat} {M : z_M} (a f : Int32) : z_CI y_CellTransport_areShares b_CellTransport_areShares 2 .boolean 1 dA ad [.int a, .int f] M (z_b (p_shr a f)) (M) := by
  refine z_ofI [some (.int a), some (.int f)] (by decide) (Nat.le_of_ble_eq_true rfl) rfl (fun k C E => ?_)
  have C : z_C dA ad k b_CellTransport_areShares "CellTransport" 1 2 := C
  refine x_iload_n C d_CellTransport_areShares_0 (i := 0) rfl rfl ?_
  refine x_iconst C (0) d_CellTransport_areShares_1 rfl ?_
  refine x_sipush C (1000) d_CellTransport_areShares_2 rfl ?_
  refine x_callSi C (c_CellTransport_isBetween _ _ _) mt_CellTransport_isBetween rfl rfl (Nat.le_of_ble_eq_true rfl) (Nat.le_of_ble_eq_true rfl) lk_CellTransport_51 d_CellTransport_areShares_5 ?_
  refine x_if_eq C 28 d_CellTransport_areShares_8 rfl (fun h_8 => ?_) (fun h_8 => ?_)
  · refine x_iconst C (0) d_CellTransport_areShares_28 rfl ?_
    exact x_zret C E (z_b_f (fun q => z_b_0.mp h_8 q.1)).symm rfl rfl d_CellTransport_areShares_29
  · refine x_iload_n C d_CellTransport_areShares_11 (i := 1) rfl rfl ?_
    refine x_iconst C (0) d_CellTransport_areShares_12 rfl ?_
    refine x_sipush C (1000) d_CellTransport_areShares_13 rfl ?_
    refine x_iload_n C d_CellTransport_areShares_16 (i := 0) rfl rfl ?_
    refine x_isub C d_CellTransport_areShares_17 ?_
    refine x_callSi C (c_CellTransport_isBetween _ _ _) mt_CellTransport_isBetween rfl rfl (Nat.le_of_ble_eq_true rfl) (Nat.le_of_ble_eq_true rfl) lk_CellTransport_51 d_CellTransport_areShares_18 ?_
    refine x_if_eq C 28 d_CellTransport_areShares_21 rfl (fun h_21 => ?_) (fun h_21 => ?_)
    · refine x_iconst C (0) d_CellTransport_areShares_28 rfl ?_
      exact x_zret C E (z_b_f (fun q => z_b_0.mp h_21 q.2)).symm rfl rfl d_CellTransport_areShares_29
    · refine x_iconst C (1) d_CellTransport_areShares_24 rfl ?_
      refine x_goto C 29 d_CellTransport_areShares_25 rfl ?_
      exact x_zret C E (z_b_t ⟨z_b_n0.mp h_8, z_b_n0.mp h_21⟩).symm rfl rfl d_CellTransport_areShares_29
theorem c_CellTransport_oneIf {dA : Nat → ClassId} {ad : Nat → Nat} {M : z_M} (b : Int32) : z_CI y_CellTransport_oneIf b_CellTransport_oneIf 1 .int 0 dA ad [.int b] M (z_b (¬ b = 0)) (M) := by
  refine z_ofI [some (.int b)] (by decide) (Nat.le_of_ble_eq_true rfl) rfl (fun k C E => ?_)
  have C : z_C dA ad k b_CellTransport_oneIf "CellTransport" 0 1 := C
  refine x_iload_n C d_CellTransport_oneIf_0 (i := 0) rfl rfl ?_
  refine x_if_eq C 8 d_CellTransport_oneIf_1 rfl (fun h_1 => ?_) (fun h_1 => ?_)
  · refine x_iconst C (0) d_CellTransport_oneIf_8 rfl ?_
    exact x_iret C E (z_b_f (fun q => q h_1)).symm rfl d_CellTransport_oneIf_9
  · refine x_iconst C (1) d_CellTransport_oneIf_4 rfl ?_
    refine x_goto C 9 d_CellTransport_oneIf_5 rfl ?_
    exact x_iret C E (z_b_t h_1).symm rfl d_CellTransport_oneIf_9
theorem z_toInt_ne {x y : Int32} (h : ¬ x = y) : ¬ x.toInt = y.toInt := fun q => h (Int32.toInt_inj.mp q)
theorem z_lk01 {x : Int32} (h0 : ¬ x = 0) (h1 : ¬ x = 1) : Op.lookupswitch.offset ([(0, 27), (1, 56)] : List (Int × Int)) 84 x.toInt = 84 := by
  have e0 := z_toInt_ne h0
  have e1 := z_toInt_ne h1
  have e0 : ¬ x.toInt = 0 := e0
  have e1 : ¬ x.toInt = 1 := e1
  have f0 : ¬ (0 : Int) = x.toInt := fun q => e0 q.symm
  have f1 : ¬ (1 : Int) = x.toInt := fun q => e1 q.symm
  simp [Op.lookupswitch.offset, e0, e1, f0, f1]
theorem c_CellTransport_isSurface {dA : Nat → ClassId} {ad : Nat → Nat} {M : z_M} (kd a b c : Int32) : z_CI y_CellTransport_isSurface b_CellTransport_isSurface 4 .boolean 2 dA ad [.int kd, .int a, .int b, .int c] M (z_b (p_isS kd a b c)) (M) := by
  refine z_ofI [some (.int kd), some (.int a), some (.int b), some (.int c)] (by decide) (Nat.le_of_ble_eq_true rfl) rfl (fun k C E => ?_)
  have C : z_C dA ad k b_CellTransport_isSurface "CellTransport" 2 4 := C
  refine x_iload_n C d_CellTransport_isSurface_0 (i := 0) rfl rfl ?_
  by_cases k0 : kd = 0
  · subst k0
    refine x_lookup C 28 d_CellTransport_isSurface_1 rfl rfl rfl ?_
    refine x_iload_n C d_CellTransport_isSurface_28 (i := 1) rfl rfl ?_
    refine x_iload_n C d_CellTransport_isSurface_29 (i := 2) rfl rfl ?_
    refine x_bipush C (9) d_CellTransport_isSurface_30 rfl ?_
    refine x_callSi C (c_CellTransport_areWithin _ _ _) mt_CellTransport_areWithin rfl rfl (Nat.le_of_ble_eq_true rfl) (Nat.le_of_ble_eq_true rfl) lk_CellTransport_106 d_CellTransport_isSurface_32 ?_
    refine x_if_eq C 55 d_CellTransport_isSurface_35 rfl (fun h_35 => ?_) (fun h_35 => ?_)
    · refine x_iconst C (0) d_CellTransport_isSurface_55 rfl ?_
      exact x_zret C E (z_b_f (fun q => q.elim (fun q => z_b_0.mp h_35 q.2.1) (fun q => absurd q.1 (by decide)))).symm rfl rfl d_CellTransport_isSurface_56
    · refine x_iload_n C d_CellTransport_isSurface_38 (i := 3) rfl rfl ?_
      refine x_sipush C (-9999) d_CellTransport_isSurface_39 rfl ?_
      refine x_sipush C (9999) d_CellTransport_isSurface_42 rfl ?_
      refine x_callSi C (c_CellTransport_isBetween _ _ _) mt_CellTransport_isBetween rfl rfl (Nat.le_of_ble_eq_true rfl) (Nat.le_of_ble_eq_true rfl) lk_CellTransport_51 d_CellTransport_isSurface_45 ?_
      refine x_if_eq C 55 d_CellTransport_isSurface_48 rfl (fun h_48 => ?_) (fun h_48 => ?_)
      · refine x_iconst C (0) d_CellTransport_isSurface_55 rfl ?_
        exact x_zret C E (z_b_f (fun q => q.elim (fun q => z_b_0.mp h_48 q.2.2) (fun q => absurd q.1 (by decide)))).symm rfl rfl d_CellTransport_isSurface_56
      · refine x_iconst C (1) d_CellTransport_isSurface_51 rfl ?_
        refine x_goto C 56 d_CellTransport_isSurface_52 rfl ?_
        exact x_zret C E (z_b_t (Or.inl ⟨rfl, z_b_n0.mp h_35, z_b_n0.mp h_48⟩)).symm rfl rfl d_CellTransport_isSurface_56
  · by_cases k1 : kd = 1
    · subst k1
      refine x_lookup C 57 d_CellTransport_isSurface_1 rfl rfl rfl ?_
      refine x_iload_n C d_CellTransport_isSurface_57 (i := 1) rfl rfl ?_
      refine x_iload_n C d_CellTransport_isSurface_58 (i := 2) rfl rfl ?_
      refine x_sipush C (300) d_CellTransport_isSurface_59 rfl ?_
      refine x_callSi C (c_CellTransport_areWithin _ _ _) mt_CellTransport_areWithin rfl rfl (Nat.le_of_ble_eq_true rfl) (Nat.le_of_ble_eq_true rfl) lk_CellTransport_106 d_CellTransport_isSurface_62 ?_
      refine x_if_eq C 83 d_CellTransport_isSurface_65 rfl (fun h_65 => ?_) (fun h_65 => ?_)
      · refine x_iconst C (0) d_CellTransport_isSurface_83 rfl ?_
        exact x_zret C E (z_b_f (fun q => q.elim (fun q => absurd q.1 (by decide)) (fun q => z_b_0.mp h_65 q.2.1))).symm rfl rfl d_CellTransport_isSurface_84
      · refine x_iload_n C d_CellTransport_isSurface_68 (i := 3) rfl rfl ?_
        refine x_iconst C (0) d_CellTransport_isSurface_69 rfl ?_
        refine x_sipush C (300) d_CellTransport_isSurface_70 rfl ?_
        refine x_callSi C (c_CellTransport_isBetween _ _ _) mt_CellTransport_isBetween rfl rfl (Nat.le_of_ble_eq_true rfl) (Nat.le_of_ble_eq_true rfl) lk_CellTransport_51 d_CellTransport_isSurface_73 ?_
        refine x_if_eq C 83 d_CellTransport_isSurface_76 rfl (fun h_76 => ?_) (fun h_76 => ?_)
        · refine x_iconst C (0) d_CellTransport_isSurface_83 rfl ?_
          exact x_zret C E (z_b_f (fun q => q.elim (fun q => absurd q.1 (by decide)) (fun q => z_b_0.mp h_76 q.2.2))).symm rfl rfl d_CellTransport_isSurface_84
        · refine x_iconst C (1) d_CellTransport_isSurface_79 rfl ?_
          refine x_goto C 84 d_CellTransport_isSurface_80 rfl ?_
          exact x_zret C E (z_b_t (Or.inr ⟨rfl, z_b_n0.mp h_65, z_b_n0.mp h_76⟩)).symm rfl rfl d_CellTransport_isSurface_84
    · refine x_lookup C 85 d_CellTransport_isSurface_1 rfl (z_lk01 k0 k1) rfl ?_
      refine x_iconst C (0) d_CellTransport_isSurface_85 rfl ?_
      exact x_zret C E (z_b_f (fun q => q.elim (fun q => k0 q.1) (fun q => k1 q.1))).symm rfl rfl d_CellTransport_isSurface_86
def f_bec (M : z_M) (j : Nat) (kd a b c : Int32) : z_M := z_sv (z_sv (z_sv (z_sv (z_sv M (i_surf j) 0 1) (i_surf j) 1 kd) (i_surf j) 2 a) (i_surf j) 3 b) (i_surf j) 4 c
theorem c_Surface_become {dA : Nat → ClassId} {ad : Nat → Nat} {M : z_M} {j : Nat} (hj : j < 8) (kd a b c : Int32) : z_CV y_Surface_become b_Surface_become 5 0 dA ad [.ref (ad (i_surf j)), .int kd, .int a, .int b, .int c] M (f_bec M j kd a b c) := by
  refine z_ofV [some (.ref (ad (i_surf j))), some (.int kd), some (.int a), some (.int b), some (.int c)] (by decide) (Nat.le_of_ble_eq_true rfl) rfl (fun k C E => ?_)
  have C : z_C dA ad k b_Surface_become "CellTransport$Surface" 0 5 := C
  refine x_aload_n C d_Surface_become_0 (i := 0) rfl rfl ?_
  refine x_iconst C (1) d_Surface_become_1 rfl ?_
  refine u_Surface_isSet C hj rfl rfl lk_Surface_9 d_Surface_become_2 ?_
  refine x_aload_n C d_Surface_become_5 (i := 0) rfl rfl ?_
  refine x_iload_n C d_Surface_become_6 (i := 1) rfl rfl ?_
  refine u_Surface_kind C hj lk_Surface_15 d_Surface_become_7 ?_
  refine x_aload_n C d_Surface_become_10 (i := 0) rfl rfl ?_
  refine x_iload_n C d_Surface_become_11 (i := 2) rfl rfl ?_
  refine u_Surface_a C hj lk_Surface_19 d_Surface_become_12 ?_
  refine x_aload_n C d_Surface_become_15 (i := 0) rfl rfl ?_
  refine x_iload_n C d_Surface_become_16 (i := 3) rfl rfl ?_
  refine u_Surface_b C hj lk_Surface_22 d_Surface_become_17 ?_
  refine x_aload_n C d_Surface_become_20 (i := 0) rfl rfl ?_
  refine x_iload C d_Surface_become_21 rfl ?_
  refine u_Surface_c C hj lk_Surface_25 d_Surface_become_23 ?_
  exact x_vret C E rfl d_Surface_become_26
abbrev p_sh (f : Nat → Int32) (x y : Int32) : Prop := ¬ f 0 = 0 ∧ (if f 1 = 0 then f 2 * x + f 3 * y ≤ f 4 else (x - f 2) * (x - f 2) + (y - f 3) * (y - f 3) ≤ f 4 * f 4)
theorem c_Surface_holds {dA : Nat → ClassId} {ad : Nat → Nat} {M : z_M} {j : Nat} (hj : j < 8) (x y : Int32) : z_CI y_Surface_holds b_Surface_holds 3 .boolean 0 dA ad [.ref (ad (i_surf j)), .int x, .int y] M (z_b (p_sh (M (i_surf j)) x y)) (M) := by
  refine z_ofI [some (.ref (ad (i_surf j))), some (.int x), some (.int y)] (by decide) (Nat.le_of_ble_eq_true rfl) rfl (fun k C E => ?_)
  have C : z_C dA ad k b_Surface_holds "CellTransport$Surface" 0 3 := C
  refine x_aload_n C d_Surface_holds_0 (i := 0) rfl rfl ?_
  refine g_Surface_isSet C hj lk_Surface_9 d_Surface_holds_1 ?_
  refine x_if_ne C 9 d_Surface_holds_4 rfl (fun h_4 => ?_) (fun h_4 => ?_)
  · refine x_aload_n C d_Surface_holds_9 (i := 0) rfl rfl ?_
    refine g_Surface_kind C hj lk_Surface_15 d_Surface_holds_10 ?_
    refine x_if_ne C 42 d_Surface_holds_13 rfl (fun h_13 => ?_) (fun h_13 => ?_)
    · refine x_iload_n C d_Surface_holds_42 (i := 1) rfl rfl ?_
      refine x_aload_n C d_Surface_holds_43 (i := 0) rfl rfl ?_
      refine g_Surface_a C hj lk_Surface_19 d_Surface_holds_44 ?_
      refine x_isub C d_Surface_holds_47 ?_
      refine x_iload_n C d_Surface_holds_48 (i := 1) rfl rfl ?_
      refine x_aload_n C d_Surface_holds_49 (i := 0) rfl rfl ?_
      refine g_Surface_a C hj lk_Surface_19 d_Surface_holds_50 ?_
      refine x_isub C d_Surface_holds_53 ?_
      refine x_imul C d_Surface_holds_54 ?_
      refine x_iload_n C d_Surface_holds_55 (i := 2) rfl rfl ?_
      refine x_aload_n C d_Surface_holds_56 (i := 0) rfl rfl ?_
      refine g_Surface_b C hj lk_Surface_22 d_Surface_holds_57 ?_
      refine x_isub C d_Surface_holds_60 ?_
      refine x_iload_n C d_Surface_holds_61 (i := 2) rfl rfl ?_
      refine x_aload_n C d_Surface_holds_62 (i := 0) rfl rfl ?_
      refine g_Surface_b C hj lk_Surface_22 d_Surface_holds_63 ?_
      refine x_isub C d_Surface_holds_66 ?_
      refine x_imul C d_Surface_holds_67 ?_
      refine x_iadd C d_Surface_holds_68 ?_
      refine x_aload_n C d_Surface_holds_69 (i := 0) rfl rfl ?_
      refine g_Surface_c C hj lk_Surface_25 d_Surface_holds_70 ?_
      refine x_aload_n C d_Surface_holds_73 (i := 0) rfl rfl ?_
      refine g_Surface_c C hj lk_Surface_25 d_Surface_holds_74 ?_
      refine x_imul C d_Surface_holds_77 ?_
      refine x_icmp_gt C 85 d_Surface_holds_78 rfl (fun h_78 => ?_) (fun h_78 => ?_)
      · refine x_iconst C (0) d_Surface_holds_85 rfl ?_
        exact x_zret C E (z_b_f (fun q => by have q2 := q.2; rw [if_neg h_13] at q2; exact Int32.not_lt.mpr q2 h_78)).symm rfl rfl d_Surface_holds_86
      · refine x_iconst C (1) d_Surface_holds_81 rfl ?_
        refine x_goto C 86 d_Surface_holds_82 rfl ?_
        exact x_zret C E (z_b_t ⟨h_4, by rw [if_neg h_13]; exact z_le h_78⟩).symm rfl rfl d_Surface_holds_86
    · refine x_aload_n C d_Surface_holds_16 (i := 0) rfl rfl ?_
      refine g_Surface_a C hj lk_Surface_19 d_Surface_holds_17 ?_
      refine x_iload_n C d_Surface_holds_20 (i := 1) rfl rfl ?_
      refine x_imul C d_Surface_holds_21 ?_
      refine x_aload_n C d_Surface_holds_22 (i := 0) rfl rfl ?_
      refine g_Surface_b C hj lk_Surface_22 d_Surface_holds_23 ?_
      refine x_iload_n C d_Surface_holds_26 (i := 2) rfl rfl ?_
      refine x_imul C d_Surface_holds_27 ?_
      refine x_iadd C d_Surface_holds_28 ?_
      refine x_aload_n C d_Surface_holds_29 (i := 0) rfl rfl ?_
      refine g_Surface_c C hj lk_Surface_25 d_Surface_holds_30 ?_
      refine x_icmp_gt C 40 d_Surface_holds_33 rfl (fun h_33 => ?_) (fun h_33 => ?_)
      · refine x_iconst C (0) d_Surface_holds_40 rfl ?_
        exact x_zret C E (z_b_f (fun q => by have q2 := q.2; rw [if_pos h_13] at q2; exact Int32.not_lt.mpr q2 h_33)).symm rfl rfl d_Surface_holds_41
      · refine x_iconst C (1) d_Surface_holds_36 rfl ?_
        refine x_goto C 41 d_Surface_holds_37 rfl ?_
        exact x_zret C E (z_b_t ⟨h_4, by rw [if_pos h_13]; exact z_le h_33⟩).symm rfl rfl d_Surface_holds_41
  · refine x_iconst C (0) d_Surface_holds_7 rfl ?_
    exact x_zret C E (z_b_f (fun q => q.1 h_4)).symm rfl rfl d_Surface_holds_8
