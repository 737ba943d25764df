/-! ===== skip: the leap by squares is the draws one by one ===== -/
def h_u (s : Int32) : Nat → Int32
  | 0 => s
  | n + 1 => h_u s n * 1103515245 + 12345
theorem h_u_add (s : Int32) (m : Nat) : ∀ n : Nat, h_u s (m + n) = h_u (h_u s m) n := by
  intro n
  induction n with
  | zero => rfl
  | succ n ih => rw [← Nat.add_assoc, h_u, ih, h_u]
theorem z_af (x f h : Int32) : (x * f + h).toBitVec.toNat % 2147483648 = (x.toBitVec.toNat * f.toBitVec.toNat + h.toBitVec.toNat) % 2147483648 := by
  rw [Int32.toBitVec_add, Int32.toBitVec_mul, BitVec.toNat_add, BitVec.toNat_mul]
  generalize x.toBitVec.toNat * f.toBitVec.toNat = p
  generalize h.toBitVec.toNat = c
  omega
theorem z_mk (x : Int32) : x &&& 2147483647 = nI (x.toBitVec.toNat % 2147483648) := z_mask x
theorem z_m1 (x f h : Int32) : ((x &&& 2147483647) * f + h) &&& 2147483647 = (x * f + h) &&& 2147483647 := by
  rw [z_mk (_ + h), z_mk (x * f + h), z_af, z_af, z_mk x, z_tbN]
  congr 1
  have e : x.toBitVec.toNat % 2147483648 % 2 ^ 32 = x.toBitVec.toNat % 2147483648 := by omega
  rw [e, Nat.add_mod, Nat.mul_mod, Nat.mod_mod, ← Nat.mul_mod, ← Nat.add_mod]
theorem g_it_u {s : Int32} (hs : s &&& 2147483647 = s) : ∀ n : Nat, g_it n s = h_u s n &&& 2147483647 := by
  intro n
  induction n with
  | zero => rw [g_it, h_u, hs]
  | succ n ih => rw [g_it, ih, h_u, f_nx, z_m1]
theorem z_bit {N b : Nat} (hN : N < 2 ^ 31) (hb : b < 32) : ((nI N >>> (nI b &&& 31)) &&& 1 = 1) ↔ N / 2 ^ b % 2 = 1 := by
  have hd : N / 2 ^ b < 2 ^ 31 := Nat.lt_of_le_of_lt (Nat.div_le_self _ _) hN
  rw [pk_shrN hN (nI b &&& 31) b (s_l b hb), pk_andN (m := 1) (by omega) 1 (by decide)]
  have hm : N / 2 ^ b % 2 ^ 1 < 2 := Nat.mod_lt _ (by decide)
  constructor
  · intro h
    exact (nI_eq (a := N / 2 ^ b % 2 ^ 1) (b := 1) (by omega) (by decide)).mp h
  · intro h
    show nI (N / 2 ^ b % 2) = nI 1
    rw [h]
theorem f_lp_u {N : Nat} (hN : N < 2 ^ 31) {s0 : Int32} : ∀ (n b : Nat) (s f h : Int32), b + n = 17 → (∀ x, h_u x (2 ^ b) = x * f + h) → s = h_u s0 (N % 2 ^ b) &&& 2147483647 → f_lp (nI N) n b s f h = h_u s0 (N % 2 ^ 17) &&& 2147483647 := by
  intro n
  induction n with
  | zero =>
    intro b s f h hb _ hs
    rw [f_lp, hs, show b = 17 by omega]
  | succ n ih =>
    intro b s f h hb hu hs
    rw [f_lp]
    have hp : 2 ^ (b + 1) = 2 ^ b * 2 := Nat.pow_succ 2 b
    refine ih (b + 1) _ _ _ (by omega) (fun x => ?_) ?_
    · rw [hp, Nat.mul_two, h_u_add, hu, hu, Int32.add_mul, Int32.mul_assoc, Int32.add_assoc]
    · have hm : N % 2 ^ (b + 1) = N % 2 ^ b + 2 ^ b * (N / 2 ^ b % 2) := by rw [hp, Nat.mod_mul]
      by_cases q : N / 2 ^ b % 2 = 1
      · rw [if_pos ((z_bit hN (by omega)).mpr q), hs, z_m1, hm, q, Nat.mul_one, h_u_add, hu]
      · have q0 : N / 2 ^ b % 2 = 0 := by omega
        rw [if_neg (fun z => q ((z_bit hN (by omega)).mp z)), hs, hm, q0, Nat.mul_zero, Nat.add_zero]
theorem z_skip_eq {N : Nat} (hN : N ≤ 100000) {s : Int32} (hs : ∃ g : Nat, g < 2 ^ 31 ∧ s = nI g) : f_lp (nI N) 17 0 s 1103515245 12345 = g_it N s := by
  obtain ⟨g, h1, h2⟩ := hs
  have hm : s &&& 2147483647 = s := by rw [h2, z_maskN, Nat.mod_eq_of_lt h1]
  rw [g_it_u hm, f_lp_u (by omega) (s0 := s) 17 0 s 1103515245 12345 (by omega) (fun x => by rw [Nat.pow_zero, h_u, h_u]) (by rw [Nat.pow_zero, Nat.mod_one, h_u, hm]), Nat.mod_eq_of_lt (Nat.lt_of_le_of_lt hN (by decide))]
theorem op_skip {dA : Nat → ClassId} {ad : Nat → Nat} {M : z_M} (hI : z_I M) (a : Int32) : ∃ (r : Int32) (M1 M2 : z_M), z_CI y_CellTransport_skip b_CellTransport_skip 2 .int 1 dA ad [.ref (ad 0), .int a] M r M1 ∧ z_CI y_Model_skip b_Model_skip 4 .int 1 dA ad [.ref (ad 53), .int a] M1 r M2 ∧ z_I M2 := by
  by_cases h : p_btw a 0 100000
  · obtain ⟨N, hN, rfl⟩ := z_btwN (n := 100000) (by decide) h
    have e : M 32 0 = M 53 15 := hI.1.at (show z_m 32 0 = some (53, 15) by decide) (by decide)
    have hg : ∃ g : Nat, g < 2 ^ 31 ∧ M 32 0 = nI g := by rw [e]; exact hI.2.2
    have e2 := z_skip_eq hN hg
    have c1 := c_CellTransport_skipY (dA := dA) (ad := ad) (M := M) h
    rw [e2] at c1
    have e3 : z_sv M 32 0 (g_it N (M 32 0)) 53 15 = M 32 0 := (z_sv_get _ _ _ _ _ _ (Or.inl (by decide))).trans e.symm
    have c2 := c_Model_skipY (dA := dA) (ad := ad) (M := z_sv M 32 0 (g_it N (M 32 0))) hN (by rw [e3]; exact hg)
    rw [e3] at c2
    exact ⟨_, _, _, c1, c2, op_gen hI (g_it_n hg N)⟩
  · exact ⟨-1, M, M, c_CellTransport_skipN h, c_Model_skipN h, hI⟩
