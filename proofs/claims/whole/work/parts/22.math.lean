def bt (x : Int32) (i : Nat) : Bool := x.toBitVec.getLsbD i
theorem b_ext {x y : Int32} (h : ∀ i, i < 32 → bt x i = bt y i) : x = y := Int32.toBitVec_inj.mp (BitVec.eq_of_getLsbD_eq (fun i hi => h i hi))
theorem b_or (x y : Int32) (i : Nat) : bt (x ||| y) i = (bt x i || bt y i) := by unfold bt; rw [Int32.toBitVec_or, BitVec.getLsbD_or]
theorem b_and (x y : Int32) (i : Nat) : bt (x &&& y) i = (bt x i && bt y i) := by unfold bt; rw [Int32.toBitVec_and, BitVec.getLsbD_and]
theorem b_xor (x y : Int32) (i : Nat) : bt (x ^^^ y) i = (bt x i ^^ bt y i) := by unfold bt; rw [Int32.toBitVec_xor, BitVec.getLsbD_xor]
theorem b_big {x : Int32} {i : Nat} (h : 32 ≤ i) : bt x i = false := BitVec.getLsbD_of_ge _ _ h
theorem b_255 (i : Nat) : bt 255 i = decide (i < 8) := by
  rcases Nat.lt_or_ge i 32 with h | h
  · exact (by decide +kernel : ∀ i, i < 32 → bt 255 i = decide (i < 8)) i h
  · rw [b_big h, decide_eq_false (by omega)]
theorem b_65535 (i : Nat) : bt 65535 i = decide (i < 16) := by
  rcases Nat.lt_or_ge i 32 with h | h
  · exact (by decide +kernel : ∀ i, i < 32 → bt 65535 i = decide (i < 16)) i h
  · rw [b_big h, decide_eq_false (by omega)]
theorem b_m1 : ∀ i, i < 32 → bt (-1) i = true := by decide +kernel
theorem b_0 (i : Nat) : bt 0 i = false := BitVec.getLsbD_zero
theorem s_l : ∀ n, n < 32 → ((nI n &&& 31).toBitVec.smod 32).toNat = n := by decide +kernel
theorem s_u : ∀ n, n < 32 → (((nI n).toUInt32 &&& Int32.toUInt32 31).toBitVec % 32).toNat = n := by decide +kernel
theorem b_shl (n : Nat) (hn : n < 32) (x : Int32) {i : Nat} (hi : i < 32) : bt (x <<< (nI n &&& 31)) i = (decide (n ≤ i) && bt x (i - n)) := by
  unfold bt
  rw [Int32.toBitVec_shiftLeft]
  show (x.toBitVec <<< ((nI n &&& 31).toBitVec.smod 32).toNat).getLsbD i = _
  rw [s_l n hn, BitVec.getLsbD_shiftLeft]
  rcases Nat.lt_or_ge i n with h | h
  · simp [h, Nat.not_le.mpr h]
  · simp [hi, h, Nat.not_lt.mpr h]
theorem b_ushr (n : Nat) (hn : n < 32) (x : Int32) (i : Nat) : bt ((x.toUInt32 >>> ((nI n).toUInt32 &&& Int32.toUInt32 31)).toInt32) i = bt x (n + i) := by
  show (x.toUInt32 >>> ((nI n).toUInt32 &&& Int32.toUInt32 31)).toBitVec.getLsbD i = x.toUInt32.toBitVec.getLsbD (n + i)
  rw [UInt32.toBitVec_shiftRight]
  show (x.toUInt32.toBitVec >>> (((nI n).toUInt32 &&& Int32.toUInt32 31).toBitVec % 32).toNat).getLsbD i = _
  rw [s_u n hn, BitVec.getLsbD_ushiftRight]
theorem b_sshr (n : Nat) (hn : n < 32) (x : Int32) {i : Nat} (hi : i < 32) : bt (x >>> (nI n &&& 31)) i = if n + i < 32 then bt x (n + i) else bt x 31 := by
  unfold bt
  rw [Int32.toBitVec_shiftRight]
  show (x.toBitVec.sshiftRight ((nI n &&& 31).toBitVec.smod 32).toNat).getLsbD i = _
  rw [s_l n hn, BitVec.getLsbD_sshiftRight, BitVec.msb_eq_getLsbD_last]
  simp [hi]
theorem b_1 : ∀ i, i < 32 → bt 1 i = decide (i = 0) := by decide +kernel
theorem b_m2 : ∀ i, i < 32 → bt (-2) i = decide (i ≠ 0) := by decide +kernel
theorem b_s1 (x : Int32) {i : Nat} (hi : i < 32) : bt (x >>> ((1 : Int32) &&& 31)) i = if 1 + i < 32 then bt x (1 + i) else bt x 31 := b_sshr 1 (by omega) x hi
theorem b_s2 (x : Int32) {i : Nat} (hi : i < 32) : bt (x >>> ((2 : Int32) &&& 31)) i = if 2 + i < 32 then bt x (2 + i) else bt x 31 := b_sshr 2 (by omega) x hi
theorem b_l1 (x : Int32) {i : Nat} (hi : i < 32) : bt (x <<< ((1 : Int32) &&& 31)) i = (decide (1 ≤ i) && bt x (i - 1)) := b_shl 1 (by omega) x hi
theorem z_o1 (o : Int32) : o &&& 1 = 1 ↔ bt o 0 = true := by
  constructor
  · intro h
    have e := congrArg (fun z => bt z 0) h
    simp only [b_and, b_1 0 (by omega)] at e
    simpa using e
  · intro h
    apply b_ext
    intro i hi
    rw [b_and, b_1 i hi]
    by_cases hz : i = 0
    · subst hz; simp [h]
    · simp [hz]
theorem z_hi (o : Int32) {i : Nat} (hi : i < 32) (h0 : i ≠ 0) : bt ((o >>> ((2 : Int32) &&& 31)) <<< ((1 : Int32) &&& 31)) i = bt (o >>> ((1 : Int32) &&& 31)) i := by
  rw [b_l1 _ hi, b_s2 _ (show i - 1 < 32 by omega), b_s1 _ hi, show 2 + (i - 1) = 1 + i by omega]
  have : 1 ≤ i := by omega
  simp [this]
theorem z_lo (o : Int32) : bt ((o >>> ((2 : Int32) &&& 31)) <<< ((1 : Int32) &&& 31)) 0 = false := by
  rw [b_l1 _ (by omega)]
  simp
theorem z_band (o : Int32) : ((o >>> ((2 : Int32) &&& 31)) <<< ((1 : Int32) &&& 31)) ||| ((o &&& 1) &&& ((o >>> ((1 : Int32) &&& 31)) &&& 1)) = if o &&& 1 = 1 then o >>> ((1 : Int32) &&& 31) else (o >>> ((1 : Int32) &&& 31)) &&& (-2) := by
  apply b_ext
  intro i hi
  rw [b_or, b_and, b_and, b_and, b_1 i hi]
  by_cases hz : i = 0
  · subst hz
    rw [z_lo]
    by_cases h : o &&& 1 = 1
    · rw [if_pos h, (z_o1 o).mp h]; simp
    · rw [if_neg h, b_and, b_m2 0 (by omega)]
      have : bt o 0 = false := by
        cases q : bt o 0 with
        | false => rfl
        | true => exact absurd ((z_o1 o).mpr q) h
      simp [this]
  · rw [z_hi o hi hz]
    by_cases h : o &&& 1 = 1
    · rw [if_pos h]; simp [hz]
    · rw [if_neg h, b_and, b_m2 i hi]; simp [hz]
theorem z_bor (o : Int32) : ((o >>> ((2 : Int32) &&& 31)) <<< ((1 : Int32) &&& 31)) ||| ((o &&& 1) ||| ((o >>> ((1 : Int32) &&& 31)) &&& 1)) = (o >>> ((1 : Int32) &&& 31)) ||| (o &&& 1) := by
  apply b_ext
  intro i hi
  rw [b_or, b_or, b_or, b_and, b_and, b_1 i hi]
  by_cases hz : i = 0
  · subst hz
    rw [z_lo]
    simp [Bool.or_comm]
  · rw [z_hi o hi hz]
    simp [hz]
theorem z_bx0 (o : Int32) : o * 2 = o <<< ((1 : Int32) &&& 31) := by
  apply Int32.toBitVec_inj.mp
  rw [Int32.toBitVec_shiftLeft]
  show o.toBitVec * 2#32 = o.toBitVec <<< (((1 : Int32) &&& 31).toBitVec.smod 32).toNat
  rw [show (((1 : Int32) &&& 31).toBitVec.smod 32).toNat = 1 by decide +kernel, BitVec.shiftLeft_eq_mul_twoPow]
  rfl
theorem z_bxz (o : Int32) : o * 2 + 0 = (o <<< ((1 : Int32) &&& 31)) ||| 0 := by
  rw [z_bx0]
  apply b_ext
  intro i hi
  rw [b_or, b_0, Int32.add_zero]
  simp
theorem z_bx1 (o : Int32) : o * 2 + 1 = (o <<< ((1 : Int32) &&& 31)) ||| 1 := by
  rw [z_bx0]
  have h : (o <<< ((1 : Int32) &&& 31)) &&& 1 = 0 := by
    apply b_ext
    intro i hi
    rw [b_and, b_1 i hi, b_l1 o hi, b_0]
    by_cases hz : i = 0
    · subst hz; simp
    · simp [hz]
  apply Int32.toBitVec_inj.mp
  have h2 := congrArg Int32.toBitVec h
  exact BitVec.add_eq_or_of_and_eq_zero _ _ h2
/-! the generator -/
theorem z_tbN (X : Nat) : (nI X).toBitVec.toNat = X % 2 ^ 32 := BitVec.toNat_ofNat X 32
theorem z_mask (x : Int32) : x &&& 2147483647 = nI (x.toBitVec.toNat % 2 ^ 31) := pk_and x 31 (by decide)
theorem z_maskN (X : Nat) : nI X &&& 2147483647 = nI (X % 2 ^ 31) := by
  rw [z_mask, z_tbN, Nat.mod_mod_of_dvd _ (by decide)]
theorem z_fnx (n : Nat) : f_nx (nI n) = nI ((n * 1103515245 + 12345) % 2 ^ 31) := by
  unfold f_nx
  show (nI n * nI 1103515245 + nI 12345) &&& 2147483647 = _
  rw [pk_mul, nI_add, z_maskN]
theorem z_dr1 {g : Int32} {n : Nat} (hn : n < 2 ^ 31) (e : g = nI n) : (g.toInt64 * 1103515245 + 12345) - (g.toInt64 * 1103515245 + 12345) / 2147483648 * 2147483648 = (f_nx g).toInt64 := by
  subst e
  rw [z_fnx, nI_l hn, nI_l (Nat.mod_lt _ (by decide))]
  have e1 : (1103515245 : Int64) = lN 1103515245 := by decide
  have e2 : (12345 : Int64) = lN 12345 := by decide
  have e3 : (2147483648 : Int64) = lN (2 ^ 31) := by decide
  rw [e1, e2, e3, lN_mul, lN_add, pk_lRem (by omega) (by decide) (by decide)]
theorem z_dr2 {s : Int32} {m k : Nat} (hm : m < 2 ^ 31) (e : s = nI m) (h0 : 0 < k) (hk : k < 2 ^ 31) : (s.toInt64 / 256 - s.toInt64 / 256 / (nI k).toInt64 * (nI k).toInt64).toInt32 = z_rm (s / 256) (nI k) := by
  subst e
  have hb : m / 256 < 2 ^ 31 := Nat.lt_of_le_of_lt (Nat.div_le_self _ _) hm
  rw [nI_l hm, nI_l hk]
  show (lN m / lN 256 - lN m / lN 256 / lN k * lN k).toInt32 = nI m / nI 256 - nI m / nI 256 / nI k * nI k
  rw [pk_lDiv (by omega) (by decide) (by decide), pk_lRem (by omega) h0 (by omega), lN_i, pk_div hm (by decide) (by decide), pk_rem hb h0 hk]
theorem z_kne {k : Nat} (h0 : 0 < k) (hk : k < 2 ^ 31) : ¬ (nI k).toInt64 = 0 := by
  rw [nI_l hk]
  intro q
  have := (lN_eq hk (by decide)).mp (show lN k = lN 0 from q)
  omega
theorem z_sd1 {v : Int32} (h : 0 ≤ v) : v.toInt64 = (v &&& 2147483647).toInt64 := by
  obtain ⟨n, hn, e⟩ := nI_of (x := v) (Int32.not_lt.mpr h)
  subst e
  rw [z_maskN, Nat.mod_eq_of_lt hn]
theorem z_sd2 {v : Int32} (h : ¬ 0 ≤ v) : v.toInt64 + 2147483648 = (v &&& 2147483647).toInt64 := by
  have h1 : v.toInt < 0 := by
    have := Int32.not_le.mp h
    rw [Int32.lt_iff_toInt_lt] at this
    exact this
  have h2 : v.toInt = (v.toBitVec.toNat : Int) - 2 ^ 32 := by
    have e : v.toInt = v.toBitVec.toInt := rfl
    rw [e, BitVec.toInt_eq_toNat_cond] at h1 ⊢
    split
    · rename_i q; rw [if_pos q] at h1; omega
    · rfl
  have h3 : v.toBitVec.toNat < 2 ^ 32 := v.toBitVec.isLt
  have h4 : -(2 ^ 31) ≤ v.toInt := Int32.le_toInt v
  have h5 : v.toBitVec.toNat % 2 ^ 31 = v.toBitVec.toNat - 2 ^ 31 := by omega
  rw [z_mask, nI_l (Nat.mod_lt _ (by decide)), h5]
  apply Int64.toInt_inj.mp
  rw [Int64.toInt_add, Int32.toInt_toInt64, show (2147483648 : Int64).toInt = 2147483648 by decide, h2, lN_toInt (by omega)]
  rw [Int.bmod_eq_of_le (by omega) (by omega)]
  omega
theorem z_l2i (x : Int32) : x.toInt64.toInt32 = x := Int32.toInt32_toInt64 x
def g_it : Nat → Int32 → Int32
  | 0, s => s
  | n + 1, s => f_nx (g_it n s)
