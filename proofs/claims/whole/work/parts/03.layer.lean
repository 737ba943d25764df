
/-! ===== THE LAYER: one memory of ints for all cells (class and reference), fixed shape z_c; the judgement z_X; a row an instruction ===== -/
abbrev z_M : Type := Nat → Nat → Int32
def z_sv (M : z_M) (k j : Nat) (v : Int32) : z_M := va_up M k (upd (M k) j v)
theorem z_sv_self (M : z_M) (k j : Nat) (v : Int32) : z_sv M k j v k j = v := by simp [z_sv, va_up, upd]
theorem z_sv_row (M : z_M) {k a : Nat} (j : Nat) (v : Int32) (h : a ≠ k) : z_sv M k j v a = M a := by simp [z_sv, va_up, h]
theorem z_sv_at (M : z_M) (k j a b : Nat) (v : Int32) : z_sv M k j v a b = if a = k ∧ b = j then v else M a b := by
  by_cases h : a = k
  · subst h
    by_cases h2 : b = j <;> simp [z_sv, va_up, upd, h2]
  · simp [z_sv, va_up, h]
def z_W (dA : Nat → ClassId) (ad : Nat → Nat) (M : z_M) : va_W := (List.range z_N).map (fun k => (ad k, z_c dA ad k (M k)))
theorem z_W_get {dA : Nat → ClassId} {ad : Nat → Nat} {M : z_M} {i : Nat} (hi : i < z_N) : (z_W dA ad M)[i]? = some (ad i, z_c dA ad i (M i)) := by
  simp [z_W, hi]
theorem z_W_out {dA : Nat → ClassId} {ad : Nat → Nat} {M : z_M} {i : Nat} {q : Nat × va_E} (h : (z_W dA ad M)[i]? = some q) : i < z_N ∧ q = (ad i, z_c dA ad i (M i)) := by
  have hl : i < z_N := by
    have := (List.getElem?_eq_some_iff.mp h).1
    simpa [z_W] using this
  rw [z_W_get hl] at h
  exact ⟨hl, (Option.some.inj h).symm⟩
theorem z_W_set {dA : Nat → ClassId} {ad : Nat → Nat} {M M1 : z_M} {i : Nat} {e : va_E} (h0 : z_c dA ad i (M1 i) = e) (h1 : ∀ a, a ≠ i → M1 a = M a) : (z_W dA ad M).set i (ad i, e) = z_W dA ad M1 := by
  apply List.ext_getElem?
  intro n
  rw [List.getElem?_set]
  by_cases hn : i = n
  · subst hn
    by_cases hl : i < z_N
    · simp [z_W, hl, h0]
    · simp [z_W, hl]
  · rw [if_neg hn]
    by_cases hl : n < z_N
    · rw [z_W_get hl, z_W_get hl, h1 n (fun q => hn q.symm)]
    · simp [z_W, hl]
def z_apart (ad : Nat → Nat) (base : Nat) : Prop := (∀ i j, i < z_N → j < z_N → ad i = ad j → i = j) ∧ ∀ i, i < z_N → base ≤ ad i
theorem z_W_D {dA : Nat → ClassId} {ad : Nat → Nat} {M : z_M} {base : Nat} (h : z_apart ad base) : va_D (z_A base) (z_W dA ad M) := by
  refine ⟨fun i j x y hi hj hxy => ?_, fun k q hk => ?_⟩
  · obtain ⟨h1, rfl⟩ := z_W_out hi
    obtain ⟨h2, rfl⟩ := z_W_out hj
    exact h.1 i j h1 h2 hxy
  · obtain ⟨h1, rfl⟩ := z_W_out hk
    exact h.2 k h1
-- locals
def z_rd (lv : List (Option Value)) (i : Nat) : Option Value := match lv[i]? with
  | some o => o
  | none => none
def z_l (lv : List (Option Value)) : List (Nat × Value) := (List.range lv.length).filterMap (fun i => (z_rd lv i).map (fun v => (i, v)))
theorem z_l_mem {lv : List (Option Value)} {q : Nat × Value} : q ∈ z_l lv ↔ z_rd lv q.1 = some q.2 := by
  unfold z_l
  rw [List.mem_filterMap]
  constructor
  · rintro ⟨i, -, h⟩
    cases hr : z_rd lv i with
    | none => rw [hr] at h; cases h
    | some v => rw [hr] at h; cases h; exact hr
  · intro h
    refine ⟨q.1, ?_, by rw [h]; rfl⟩
    rw [List.mem_range]
    refine Nat.lt_of_not_le fun hle => ?_
    simp [z_rd, List.getElem?_eq_none hle] at h
theorem z_at {ls : Array Slot} {nL : Nat} {lv : List (Option Value)} (h : lv_has ls nL (z_l lv)) {i : Nat} {v : Value} (hv : z_rd lv i = some v) : ls[i]? = some (.val v) := h.2.2 (i, v) (z_l_mem.mpr hv)
def z_ok (lv : List (Option Value)) (i : Nat) : Bool := match i with
  | 0 => true
  | j + 1 => match z_rd lv j with
    | some v => v.category == 1
    | none => true
theorem z_l_store {ls : Array Slot} {nL : Nat} {lv : List (Option Value)} {i : Nat} {v : Value} (hi : i < lv.length) (hok : z_ok lv i = true)
    (h : lv_has ls nL ((i, v) :: (z_l lv).filter (fun q => !(q.1 == i) && !(q.1 + 1 == i && q.2.category == 2)))) : lv_has ls nL (z_l (lv.set i (some v))) := by
  refine ⟨h.1, h.2.1, fun q hq => h.2.2 q ?_⟩
  rw [z_l_mem] at hq
  obtain ⟨a, w⟩ := q
  by_cases e : a = i
  · subst e
    simp [z_rd, List.getElem?_set, hi] at hq
    subst hq
    exact List.mem_cons_self
  · refine List.mem_cons_of_mem _ (List.mem_filter.mpr ⟨z_l_mem.mpr ?_, ?_⟩)
    · have e2 : ¬ i = a := fun q => e q.symm
      simpa [z_rd, List.getElem?_set, e2] using hq
    · have e2 : ¬ i = a := fun q => e q.symm
      have hr : z_rd lv a = some w := by simpa [z_rd, List.getElem?_set, e2] using hq
      by_cases e3 : a + 1 = i
      · subst e3
        have hc : w.category = 1 := by simpa [z_ok, hr] using hok
        simp [hc]
      · simp [e, e3]
def z_bd (lv : List (Option Value)) (i n : Nat) : Bool := Nat.blt i n && (Nat.blt i lv.length && z_ok lv i)
theorem z_bd_of {lv : List (Option Value)} {i n : Nat} (h : z_bd lv i n = true) : i < n ∧ i < lv.length ∧ z_ok lv i = true := by
  unfold z_bd at h
  rw [Bool.and_eq_true, Bool.and_eq_true] at h
  exact ⟨Nat.lt_of_lt_of_le (Nat.lt_succ_self i) (Nat.le_of_ble_eq_true h.1), Nat.lt_of_lt_of_le (Nat.lt_succ_self i) (Nat.le_of_ble_eq_true h.2.1), h.2.2⟩
-- the environment, at a state
def z_use (w : Cond) : Bool := w.onTables && w.keepsH
def z_T : List Cond := lw_tbl.filter z_use
theorem z_T_mem {w : Cond} (h : w ∈ lw_tbl) (hu : z_use w = true) : w ∈ z_T := List.mem_filter.mpr ⟨h, hu⟩
def z_E (dA : Nat → ClassId) (ad : Nat → Nat) (D : va_G) (base : Nat) (U : State) : Prop :=
  va_K D z_cl (z_tys dA) U ∧ z_apart ad base ∧ base ≤ U.heap.size ∧ (∀ w ∈ z_T, va_Nw w U) ∧ z_Z base U
theorem z_E_same {dA : Nat → ClassId} {ad : Nat → Nat} {D : va_G} {base : Nat} {U U' : State} (hh : U'.heap = U.heap) (hv : U.vm = U'.vm) (h : z_E dA ad D base U) : z_E dA ad D base U' := by
  obtain ⟨h1, h2, h3, h4, h5⟩ := h
  have ha : U.vm.Alike U'.vm := hv ▸ Vm.Alike.refl U.vm
  refine ⟨va_K.moved ha h1, h2, by rw [hh]; exact h3, fun w hw => ?_, z_Z_moved ha (fun a _ _ => by rw [hh]) h5⟩
  have hu := (List.mem_filter.mp hw).2
  unfold z_use at hu
  rw [Bool.and_eq_true] at hu
  exact va_Nw.same hu.1 hv (h4 w hw)
theorem z_E_warm {dA : Nat → ClassId} {ad : Nat → Nat} {D : va_G} {base : Nat} {s U : State} {H : Heap} {locs : List Loc} (h : z_E dA ad D base s) (hU : U.heap = H) (hS : va_S (z_A base) s.heap H locs) (hW : s.WarmedH U.vm) : z_E dA ad D base U := by
  obtain ⟨h1, h2, h3, h4, h5⟩ := h
  refine ⟨va_K.moved hW.alike h1, h2, by rw [hU]; exact Nat.le_trans h3 hS.1, fun w hw => ?_, z_Z_moved hW.alike (fun a h1 h2 => by rw [hU]; exact hS.2.1 a h1 h2) h5⟩
  have hu := (List.mem_filter.mp hw).2
  unfold z_use at hu
  rw [Bool.and_eq_true] at hu
  exact Cond.onTables_warmH (T := U) hW hu.1 hu.2 (h4 w hw)
theorem z_w {dA : Nat → ClassId} {ad : Nat → Nat} {D : va_G} {base : Nat} {s : State} (h : z_E dA ad D base s) {w : Cond} (hw : w ∈ z_T) {args : Array Value} : w.before args s = true := by
  have hu := (List.mem_filter.mp hw).2
  unfold z_use at hu
  rw [Bool.and_eq_true] at hu
  exact va_Nw.use hu.1 (h.2.2.2.1 w hw)
abbrev z_K : Type := Program × Launch × Env × Room × State × MethodId × Array Value × List Frame × Method × Code × va_G × Nat × Nat × Nat × Nat × (State → Prop)
def z_X (dA : Nat → ClassId) (ad : Nat → Nat) (k : z_K) (pc : Nat) (lv : List (Option Value)) (st : List Value) (M : z_M) : Prop := match k with
  | (p, l, e, R, s, m, args, below, meth, c, D, base, nL, cells, slots, Q) => ∀ (H : Heap) (locs : List Loc) (ls : Array Slot), va_P D z_cl (z_W dA ad M) H → va_S (z_A base) s.heap H locs → lv_has ls nL (z_l lv) → W p l e R s m args below meth c H locs cells slots Q (F0 m pc ls st)
def z_C (dA : Nat → ClassId) (ad : Nat → Nat) (k : z_K) (cc : ByteArray) (own : String) (d n : Nat) : Prop := match k with
  | (p, l, e, R, s, m, args, below, meth, c, D, base, nL, cells, slots, Q) => p.tables.exec = Jvm.exec ∧ c.code = cc ∧ (c.maxLocals = nL ∧ nL = n) ∧ s.vm.findClass own = some m.cls ∧ meth.locks = false ∧ (d ≤ R.frames ∧ 40 * d ≤ R.locals ∧ cells ≤ R.cells ∧ slots ≤ R.slots) ∧ z_E dA ad D base s
section ZL
variable {dA : Nat → ClassId} {ad : Nat → Nat} {k : z_K} {cc : ByteArray} {own : String} {d n pc : Nat} {lv : List (Option Value)} {st : List Value} {M : z_M}

theorem x_iconst (C : z_C dA ad k cc own d n) {n : Int} (v : Int32) (hdg : decode cc pc = .ok (.iconst n, 1)) (hv : Int32.ofInt n = v) (kk : z_X dA ad k (pc + 1) lv (.int v :: st) M) : z_X dA ad k pc lv (st) M := by
  obtain ⟨p, l, e, R, s, m, args, below, meth, c, D, base, nL, cells, slots, Q⟩ := k
  obtain ⟨hx, hb, ⟨hml, rfl⟩, hown, hlk, hrm, hE⟩ := C
  intro H locs ls hP hS hl
  exact lv_iconst hx hb hdg hv (kk H locs ls hP hS hl)

theorem x_bipush (C : z_C dA ad k cc own d n) {n : Int} (v : Int32) (hdg : decode cc pc = .ok (.bipush n, 2)) (hv : (Int8.ofInt n).toInt32 = v) (kk : z_X dA ad k (pc + 2) lv (.int v :: st) M) : z_X dA ad k pc lv (st) M := by
  obtain ⟨p, l, e, R, s, m, args, below, meth, c, D, base, nL, cells, slots, Q⟩ := k
  obtain ⟨hx, hb, ⟨hml, rfl⟩, hown, hlk, hrm, hE⟩ := C
  intro H locs ls hP hS hl
  exact lv_bipush hx hb hdg hv (kk H locs ls hP hS hl)

theorem x_sipush (C : z_C dA ad k cc own d n) {n : Int} (v : Int32) (hdg : decode cc pc = .ok (.sipush n, 3)) (hv : (Int16.ofInt n).toInt32 = v) (kk : z_X dA ad k (pc + 3) lv (.int v :: st) M) : z_X dA ad k pc lv (st) M := by
  obtain ⟨p, l, e, R, s, m, args, below, meth, c, D, base, nL, cells, slots, Q⟩ := k
  obtain ⟨hx, hb, ⟨hml, rfl⟩, hown, hlk, hrm, hE⟩ := C
  intro H locs ls hP hS hl
  exact lv_sipush hx hb hdg hv (kk H locs ls hP hS hl)

theorem x_ldc (C : z_C dA ad k cc own d n) {index : Nat} (v : Int32) (hdg : decode cc pc = .ok (.ldc index, 2)) (hw : Cond.constant own index v ∈ z_T) (kk : z_X dA ad k (pc + 2) lv (.int v :: st) M) : z_X dA ad k pc lv (st) M := by
  obtain ⟨p, l, e, R, s, m, args, below, meth, c, D, base, nL, cells, slots, Q⟩ := k
  obtain ⟨hx, hb, ⟨hml, rfl⟩, hown, hlk, hrm, hE⟩ := C
  intro H locs ls hP hS hl
  exact lv_ldc hx hb hown (z_w hE hw) hdg (kk H locs ls hP hS hl)

theorem x_iload_n (C : z_C dA ad k cc own d n) {n4 : Fin 4} {i : Nat} {x : Int32} (hdg : decode cc pc = .ok (.iload_n n4, 1)) (hi : (n4 : Nat) = i) (hv : z_rd lv i = some (.int x)) (kk : z_X dA ad k (pc + 1) lv (.int x :: st) M) : z_X dA ad k pc lv (st) M := by
  obtain ⟨p, l, e, R, s, m, args, below, meth, c, D, base, nL, cells, slots, Q⟩ := k
  obtain ⟨hx, hb, ⟨hml, rfl⟩, hown, hlk, hrm, hE⟩ := C
  intro H locs ls hP hS hl
  exact lv_iload_n hx hb hdg hi (z_at hl hv) (kk H locs ls hP hS hl)

theorem x_iload (C : z_C dA ad k cc own d n) {i : Nat} {x : Int32} (hdg : decode cc pc = .ok (.iload i, 2)) (hv : z_rd lv i = some (.int x)) (kk : z_X dA ad k (pc + 2) lv (.int x :: st) M) : z_X dA ad k pc lv (st) M := by
  obtain ⟨p, l, e, R, s, m, args, below, meth, c, D, base, nL, cells, slots, Q⟩ := k
  obtain ⟨hx, hb, ⟨hml, rfl⟩, hown, hlk, hrm, hE⟩ := C
  intro H locs ls hP hS hl
  exact lv_iload hx hb hdg (z_at hl hv) (kk H locs ls hP hS hl)

theorem x_istore_n (C : z_C dA ad k cc own d n) {n4 : Fin 4} {i : Nat} {x : Int32} (hdg : decode cc pc = .ok (.istore_n n4, 1)) (hi : (n4 : Nat) = i) (hbd : z_bd lv i n = true) (kk : z_X dA ad k (pc + 1) (lv.set i (some (.int x))) (st) M) : z_X dA ad k pc lv (.int x :: st) M := by
  obtain ⟨p, l, e, R, s, m, args, below, meth, c, D, base, nL, cells, slots, Q⟩ := k
  obtain ⟨hx, hb, ⟨hml, rfl⟩, hown, hlk, hrm, hE⟩ := C
  intro H locs ls hP hS hl
  exact lv_istore_n hx hb hdg hi hl (z_bd_of hbd).1 rfl (fun ls2 hl2 => kk H locs ls2 hP hS (z_l_store (z_bd_of hbd).2.1 (z_bd_of hbd).2.2 hl2))

theorem x_istore (C : z_C dA ad k cc own d n) {i : Nat} {x : Int32} (hdg : decode cc pc = .ok (.istore i, 2)) (hbd : z_bd lv i n = true) (kk : z_X dA ad k (pc + 2) (lv.set i (some (.int x))) (st) M) : z_X dA ad k pc lv (.int x :: st) M := by
  obtain ⟨p, l, e, R, s, m, args, below, meth, c, D, base, nL, cells, slots, Q⟩ := k
  obtain ⟨hx, hb, ⟨hml, rfl⟩, hown, hlk, hrm, hE⟩ := C
  intro H locs ls hP hS hl
  exact lv_istore hx hb hdg hl (z_bd_of hbd).1 rfl (fun ls2 hl2 => kk H locs ls2 hP hS (z_l_store (z_bd_of hbd).2.1 (z_bd_of hbd).2.2 hl2))

theorem x_aload_n (C : z_C dA ad k cc own d n) {n4 : Fin 4} {i : Nat} {x : Nat} (hdg : decode cc pc = .ok (.aload_n n4, 1)) (hi : (n4 : Nat) = i) (hv : z_rd lv i = some (.ref x)) (kk : z_X dA ad k (pc + 1) lv (.ref x :: st) M) : z_X dA ad k pc lv (st) M := by
  obtain ⟨p, l, e, R, s, m, args, below, meth, c, D, base, nL, cells, slots, Q⟩ := k
  obtain ⟨hx, hb, ⟨hml, rfl⟩, hown, hlk, hrm, hE⟩ := C
  intro H locs ls hP hS hl
  exact lv_aload_n hx hb hdg hi (z_at hl hv) (kk H locs ls hP hS hl)

theorem x_aload (C : z_C dA ad k cc own d n) {i : Nat} {x : Nat} (hdg : decode cc pc = .ok (.aload i, 2)) (hv : z_rd lv i = some (.ref x)) (kk : z_X dA ad k (pc + 2) lv (.ref x :: st) M) : z_X dA ad k pc lv (st) M := by
  obtain ⟨p, l, e, R, s, m, args, below, meth, c, D, base, nL, cells, slots, Q⟩ := k
  obtain ⟨hx, hb, ⟨hml, rfl⟩, hown, hlk, hrm, hE⟩ := C
  intro H locs ls hP hS hl
  exact lv_aload hx hb hdg (z_at hl hv) (kk H locs ls hP hS hl)

theorem x_astore_n (C : z_C dA ad k cc own d n) {n4 : Fin 4} {i : Nat} {x : Nat} (hdg : decode cc pc = .ok (.astore_n n4, 1)) (hi : (n4 : Nat) = i) (hbd : z_bd lv i n = true) (kk : z_X dA ad k (pc + 1) (lv.set i (some (.ref x))) (st) M) : z_X dA ad k pc lv (.ref x :: st) M := by
  obtain ⟨p, l, e, R, s, m, args, below, meth, c, D, base, nL, cells, slots, Q⟩ := k
  obtain ⟨hx, hb, ⟨hml, rfl⟩, hown, hlk, hrm, hE⟩ := C
  intro H locs ls hP hS hl
  exact lv_astore_n hx hb hdg hi hl (z_bd_of hbd).1 rfl (fun ls2 hl2 => kk H locs ls2 hP hS (z_l_store (z_bd_of hbd).2.1 (z_bd_of hbd).2.2 hl2))

theorem x_astore (C : z_C dA ad k cc own d n) {i : Nat} {x : Nat} (hdg : decode cc pc = .ok (.astore i, 2)) (hbd : z_bd lv i n = true) (kk : z_X dA ad k (pc + 2) (lv.set i (some (.ref x))) (st) M) : z_X dA ad k pc lv (.ref x :: st) M := by
  obtain ⟨p, l, e, R, s, m, args, below, meth, c, D, base, nL, cells, slots, Q⟩ := k
  obtain ⟨hx, hb, ⟨hml, rfl⟩, hown, hlk, hrm, hE⟩ := C
  intro H locs ls hP hS hl
  exact lv_astore hx hb hdg hl (z_bd_of hbd).1 rfl (fun ls2 hl2 => kk H locs ls2 hP hS (z_l_store (z_bd_of hbd).2.1 (z_bd_of hbd).2.2 hl2))

theorem z_place {lv : List (Option Value)} {i : Nat} {v : Value} (h : z_rd lv i = some v) : ∃ q : Nat, (z_l lv)[q]? = some (i, v) := List.getElem?_of_mem (z_l_mem.mpr h)

theorem x_iinc (C : z_C dA ad k cc own d n) {i : Nat} {z : Int} {x : Int32} (v : Int32) (hdg : decode cc pc = .ok (.iinc i z, 3)) (hr : z_rd lv i = some (.int x)) (hv : x + Int32.ofInt z = v) (hbd : z_bd lv i n = true) (kk : z_X dA ad k (pc + 3) (lv.set i (some (.int v))) (st) M) : z_X dA ad k pc lv (st) M := by
  obtain ⟨p, l, e, R, s, m, args, below, meth, c, D, base, nL, cells, slots, Q⟩ := k
  obtain ⟨hx, hb, ⟨hml, rfl⟩, hown, hlk, hrm, hE⟩ := C
  intro H locs ls hP hS hl
  obtain ⟨q, hq⟩ := z_place hr
  exact lv_iinc hx hb hdg hl hq hv (z_bd_of hbd).1 rfl (fun ls2 hl2 => kk H locs ls2 hP hS (z_l_store (z_bd_of hbd).2.1 (z_bd_of hbd).2.2 hl2))

theorem x_iadd (C : z_C dA ad k cc own d n) {x y : Int32} (hdg : decode cc pc = .ok (.iadd, 1)) (kk : z_X dA ad k (pc + 1) lv (.int (x + y) :: st) M) : z_X dA ad k pc lv (.int y :: .int x :: st) M := by
  obtain ⟨p, l, e, R, s, m, args, below, meth, c, D, base, nL, cells, slots, Q⟩ := k
  obtain ⟨hx, hb, ⟨hml, rfl⟩, hown, hlk, hrm, hE⟩ := C
  intro H locs ls hP hS hl
  exact lv_iadd hx hb hdg (kk H locs ls hP hS hl)

theorem x_isub (C : z_C dA ad k cc own d n) {x y : Int32} (hdg : decode cc pc = .ok (.isub, 1)) (kk : z_X dA ad k (pc + 1) lv (.int (x - y) :: st) M) : z_X dA ad k pc lv (.int y :: .int x :: st) M := by
  obtain ⟨p, l, e, R, s, m, args, below, meth, c, D, base, nL, cells, slots, Q⟩ := k
  obtain ⟨hx, hb, ⟨hml, rfl⟩, hown, hlk, hrm, hE⟩ := C
  intro H locs ls hP hS hl
  exact lv_isub hx hb hdg (kk H locs ls hP hS hl)

theorem x_imul (C : z_C dA ad k cc own d n) {x y : Int32} (hdg : decode cc pc = .ok (.imul, 1)) (kk : z_X dA ad k (pc + 1) lv (.int (x * y) :: st) M) : z_X dA ad k pc lv (.int y :: .int x :: st) M := by
  obtain ⟨p, l, e, R, s, m, args, below, meth, c, D, base, nL, cells, slots, Q⟩ := k
  obtain ⟨hx, hb, ⟨hml, rfl⟩, hown, hlk, hrm, hE⟩ := C
  intro H locs ls hP hS hl
  exact lv_imul hx hb hdg (kk H locs ls hP hS hl)

theorem x_iand (C : z_C dA ad k cc own d n) {x y : Int32} (hdg : decode cc pc = .ok (.iand, 1)) (kk : z_X dA ad k (pc + 1) lv (.int (x &&& y) :: st) M) : z_X dA ad k pc lv (.int y :: .int x :: st) M := by
  obtain ⟨p, l, e, R, s, m, args, below, meth, c, D, base, nL, cells, slots, Q⟩ := k
  obtain ⟨hx, hb, ⟨hml, rfl⟩, hown, hlk, hrm, hE⟩ := C
  intro H locs ls hP hS hl
  exact lv_iand hx hb hdg (kk H locs ls hP hS hl)

theorem x_ior (C : z_C dA ad k cc own d n) {x y : Int32} (hdg : decode cc pc = .ok (.ior, 1)) (kk : z_X dA ad k (pc + 1) lv (.int (x ||| y) :: st) M) : z_X dA ad k pc lv (.int y :: .int x :: st) M := by
  obtain ⟨p, l, e, R, s, m, args, below, meth, c, D, base, nL, cells, slots, Q⟩ := k
  obtain ⟨hx, hb, ⟨hml, rfl⟩, hown, hlk, hrm, hE⟩ := C
  intro H locs ls hP hS hl
  exact lv_ior hx hb hdg (kk H locs ls hP hS hl)

theorem x_ixor (C : z_C dA ad k cc own d n) {x y : Int32} (hdg : decode cc pc = .ok (.ixor, 1)) (kk : z_X dA ad k (pc + 1) lv (.int (x ^^^ y) :: st) M) : z_X dA ad k pc lv (.int y :: .int x :: st) M := by
  obtain ⟨p, l, e, R, s, m, args, below, meth, c, D, base, nL, cells, slots, Q⟩ := k
  obtain ⟨hx, hb, ⟨hml, rfl⟩, hown, hlk, hrm, hE⟩ := C
  intro H locs ls hP hS hl
  exact lv_ixor hx hb hdg (kk H locs ls hP hS hl)

theorem x_idiv (C : z_C dA ad k cc own d n) {x y : Int32} (hdg : decode cc pc = .ok (.idiv, 1)) (hne : ¬ y = 0) (kk : z_X dA ad k (pc + 1) lv (.int (x / y) :: st) M) : z_X dA ad k pc lv (.int y :: .int x :: st) M := by
  obtain ⟨p, l, e, R, s, m, args, below, meth, c, D, base, nL, cells, slots, Q⟩ := k
  obtain ⟨hx, hb, ⟨hml, rfl⟩, hown, hlk, hrm, hE⟩ := C
  intro H locs ls hP hS hl
  exact lv_idiv hx hb hdg hne (kk H locs ls hP hS hl)

theorem x_irem (C : z_C dA ad k cc own d n) {x y : Int32} (hdg : decode cc pc = .ok (.irem, 1)) (hne : ¬ y = 0) (kk : z_X dA ad k (pc + 1) lv (.int (x - x / y * y) :: st) M) : z_X dA ad k pc lv (.int y :: .int x :: st) M := by
  obtain ⟨p, l, e, R, s, m, args, below, meth, c, D, base, nL, cells, slots, Q⟩ := k
  obtain ⟨hx, hb, ⟨hml, rfl⟩, hown, hlk, hrm, hE⟩ := C
  intro H locs ls hP hS hl
  exact lv_irem hx hb hdg hne (kk H locs ls hP hS hl)

theorem x_ineg (C : z_C dA ad k cc own d n) {x : Int32} (hdg : decode cc pc = .ok (.ineg, 1)) (kk : z_X dA ad k (pc + 1) lv (.int (-x) :: st) M) : z_X dA ad k pc lv (.int x :: st) M := by
  obtain ⟨p, l, e, R, s, m, args, below, meth, c, D, base, nL, cells, slots, Q⟩ := k
  obtain ⟨hx, hb, ⟨hml, rfl⟩, hown, hlk, hrm, hE⟩ := C
  intro H locs ls hP hS hl
  exact lv_ineg hx hb hdg (kk H locs ls hP hS hl)

theorem x_ishl (C : z_C dA ad k cc own d n) {x y : Int32} (hdg : decode cc pc = .ok (.ishl, 1)) (kk : z_X dA ad k (pc + 1) lv (.int (x <<< (y &&& 31)) :: st) M) : z_X dA ad k pc lv (.int y :: .int x :: st) M := by
  obtain ⟨p, l, e, R, s, m, args, below, meth, c, D, base, nL, cells, slots, Q⟩ := k
  obtain ⟨hx, hb, ⟨hml, rfl⟩, hown, hlk, hrm, hE⟩ := C
  intro H locs ls hP hS hl
  exact lv_ishl hx hb hdg (kk H locs ls hP hS hl)

theorem x_ishr (C : z_C dA ad k cc own d n) {x y : Int32} (hdg : decode cc pc = .ok (.ishr, 1)) (kk : z_X dA ad k (pc + 1) lv (.int (x >>> (y &&& 31)) :: st) M) : z_X dA ad k pc lv (.int y :: .int x :: st) M := by
  obtain ⟨p, l, e, R, s, m, args, below, meth, c, D, base, nL, cells, slots, Q⟩ := k
  obtain ⟨hx, hb, ⟨hml, rfl⟩, hown, hlk, hrm, hE⟩ := C
  intro H locs ls hP hS hl
  exact lv_ishr hx hb hdg (kk H locs ls hP hS hl)

theorem x_dup (C : z_C dA ad k cc own d n) {va : Value} (hdg : decode cc pc = .ok (.dup, 1)) (hva : va.category = 1) (kk : z_X dA ad k (pc + 1) lv (va :: va :: st) M) : z_X dA ad k pc lv (va :: st) M := by
  obtain ⟨p, l, e, R, s, m, args, below, meth, c, D, base, nL, cells, slots, Q⟩ := k
  obtain ⟨hx, hb, ⟨hml, rfl⟩, hown, hlk, hrm, hE⟩ := C
  intro H locs ls hP hS hl
  exact lv_dup hx hb hdg hva (kk H locs ls hP hS hl)

theorem x_pop (C : z_C dA ad k cc own d n) {va : Value} (hdg : decode cc pc = .ok (.pop, 1)) (hva : va.category = 1) (kk : z_X dA ad k (pc + 1) lv (st) M) : z_X dA ad k pc lv (va :: st) M := by
  obtain ⟨p, l, e, R, s, m, args, below, meth, c, D, base, nL, cells, slots, Q⟩ := k
  obtain ⟨hx, hb, ⟨hml, rfl⟩, hown, hlk, hrm, hE⟩ := C
  intro H locs ls hP hS hl
  exact lv_pop hx hb hdg hva (kk H locs ls hP hS hl)

theorem x_dup_x1 (C : z_C dA ad k cc own d n) {va vb : Value} (hdg : decode cc pc = .ok (.dup_x1, 1)) (hva : va.category = 1) (hvb : vb.category = 1) (kk : z_X dA ad k (pc + 1) lv (va :: vb :: va :: st) M) : z_X dA ad k pc lv (va :: vb :: st) M := by
  obtain ⟨p, l, e, R, s, m, args, below, meth, c, D, base, nL, cells, slots, Q⟩ := k
  obtain ⟨hx, hb, ⟨hml, rfl⟩, hown, hlk, hrm, hE⟩ := C
  intro H locs ls hP hS hl
  exact lv_dup_x1 hx hb hdg hva hvb (kk H locs ls hP hS hl)

theorem x_dup2 (C : z_C dA ad k cc own d n) {va vb : Value} (hdg : decode cc pc = .ok (.dup2, 1)) (hva : va.category = 1) (hvb : vb.category = 1) (kk : z_X dA ad k (pc + 1) lv (va :: vb :: va :: vb :: st) M) : z_X dA ad k pc lv (va :: vb :: st) M := by
  obtain ⟨p, l, e, R, s, m, args, below, meth, c, D, base, nL, cells, slots, Q⟩ := k
  obtain ⟨hx, hb, ⟨hml, rfl⟩, hown, hlk, hrm, hE⟩ := C
  intro H locs ls hP hS hl
  exact lv_dup2_11 hx hb hdg hva hvb (kk H locs ls hP hS hl)

theorem x_ladd (C : z_C dA ad k cc own d n) {x y : Int64} (hdg : decode cc pc = .ok (.ladd, 1)) (kk : z_X dA ad k (pc + 1) lv (.long (x + y) :: st) M) : z_X dA ad k pc lv (.long y :: .long x :: st) M := by
  obtain ⟨p, l, e, R, s, m, args, below, meth, c, D, base, nL, cells, slots, Q⟩ := k
  obtain ⟨hx, hb, ⟨hml, rfl⟩, hown, hlk, hrm, hE⟩ := C
  intro H locs ls hP hS hl
  exact lv_ladd hx hb hdg (kk H locs ls hP hS hl)

theorem x_lmul (C : z_C dA ad k cc own d n) {x y : Int64} (hdg : decode cc pc = .ok (.lmul, 1)) (kk : z_X dA ad k (pc + 1) lv (.long (x * y) :: st) M) : z_X dA ad k pc lv (.long y :: .long x :: st) M := by
  obtain ⟨p, l, e, R, s, m, args, below, meth, c, D, base, nL, cells, slots, Q⟩ := k
  obtain ⟨hx, hb, ⟨hml, rfl⟩, hown, hlk, hrm, hE⟩ := C
  intro H locs ls hP hS hl
  exact lv_lmul hx hb hdg (kk H locs ls hP hS hl)

theorem x_ldiv (C : z_C dA ad k cc own d n) {x y : Int64} (hdg : decode cc pc = .ok (.ldiv, 1)) (hne : ¬ y = 0) (kk : z_X dA ad k (pc + 1) lv (.long (x / y) :: st) M) : z_X dA ad k pc lv (.long y :: .long x :: st) M := by
  obtain ⟨p, l, e, R, s, m, args, below, meth, c, D, base, nL, cells, slots, Q⟩ := k
  obtain ⟨hx, hb, ⟨hml, rfl⟩, hown, hlk, hrm, hE⟩ := C
  intro H locs ls hP hS hl
  exact lv_ldiv hx hb hdg hne (kk H locs ls hP hS hl)

theorem x_lrem (C : z_C dA ad k cc own d n) {x y : Int64} (hdg : decode cc pc = .ok (.lrem, 1)) (hne : ¬ y = 0) (kk : z_X dA ad k (pc + 1) lv (.long (x - x / y * y) :: st) M) : z_X dA ad k pc lv (.long y :: .long x :: st) M := by
  obtain ⟨p, l, e, R, s, m, args, below, meth, c, D, base, nL, cells, slots, Q⟩ := k
  obtain ⟨hx, hb, ⟨hml, rfl⟩, hown, hlk, hrm, hE⟩ := C
  intro H locs ls hP hS hl
  exact lv_lrem hx hb hdg hne (kk H locs ls hP hS hl)

theorem x_i2l (C : z_C dA ad k cc own d n) {x : Int32} (hdg : decode cc pc = .ok (.i2l, 1)) (kk : z_X dA ad k (pc + 1) lv (.long x.toInt64 :: st) M) : z_X dA ad k pc lv (.int x :: st) M := by
  obtain ⟨p, l, e, R, s, m, args, below, meth, c, D, base, nL, cells, slots, Q⟩ := k
  obtain ⟨hx, hb, ⟨hml, rfl⟩, hown, hlk, hrm, hE⟩ := C
  intro H locs ls hP hS hl
  exact lv_i2l hx hb hdg rfl (kk H locs ls hP hS hl)

theorem x_l2i (C : z_C dA ad k cc own d n) {x : Int64} (v : Int32) (hdg : decode cc pc = .ok (.l2i, 1)) (hv : x.toInt32 = v) (kk : z_X dA ad k (pc + 1) lv (.int v :: st) M) : z_X dA ad k pc lv (.long x :: st) M := by
  obtain ⟨p, l, e, R, s, m, args, below, meth, c, D, base, nL, cells, slots, Q⟩ := k
  obtain ⟨hx, hb, ⟨hml, rfl⟩, hown, hlk, hrm, hE⟩ := C
  intro H locs ls hP hS hl
  exact lv_l2i hx hb hdg hv (kk H locs ls hP hS hl)

theorem x_ldc2 (C : z_C dA ad k cc own d n) {index : Nat} (v : Int64) (hdg : decode cc pc = .ok (.ldc2_w index, 3)) (hw : Cond.constantLong own index v ∈ z_T) (kk : z_X dA ad k (pc + 3) lv (.long v :: st) M) : z_X dA ad k pc lv (st) M := by
  obtain ⟨p, l, e, R, s, m, args, below, meth, c, D, base, nL, cells, slots, Q⟩ := k
  obtain ⟨hx, hb, ⟨hml, rfl⟩, hown, hlk, hrm, hE⟩ := C
  intro H locs ls hP hS hl
  exact lv_ldc2 hx hb hown (z_w hE hw) hdg (kk H locs ls hP hS hl)

theorem x_if_eq (C : z_C dA ad k cc own d n) {x : Int32} {off : Int} (tgt : Nat) (hdg : decode cc pc = .ok (.ifCond .eq off, 3)) (ht : (pc : Int) + off = (tgt : Int)) (kt : x = 0 → z_X dA ad k tgt lv (st) M) (kf : ¬ x = 0 → z_X dA ad k (pc + 3) lv (st) M) : z_X dA ad k pc lv (.int x :: st) M := by
  obtain ⟨p, l, e, R, s, m, args, below, meth, c, D, base, nL, cells, slots, Q⟩ := k
  obtain ⟨hx, hb, ⟨hml, rfl⟩, hown, hlk, hrm, hE⟩ := C
  intro H locs ls hP hS hl
  exact lv_if_eq hx hb hdg ht (fun q => kt q H locs ls hP hS hl) (fun q => kf q H locs ls hP hS hl)

theorem x_if_ne (C : z_C dA ad k cc own d n) {x : Int32} {off : Int} (tgt : Nat) (hdg : decode cc pc = .ok (.ifCond .ne off, 3)) (ht : (pc : Int) + off = (tgt : Int)) (kt : ¬ x = 0 → z_X dA ad k tgt lv (st) M) (kf : x = 0 → z_X dA ad k (pc + 3) lv (st) M) : z_X dA ad k pc lv (.int x :: st) M := by
  obtain ⟨p, l, e, R, s, m, args, below, meth, c, D, base, nL, cells, slots, Q⟩ := k
  obtain ⟨hx, hb, ⟨hml, rfl⟩, hown, hlk, hrm, hE⟩ := C
  intro H locs ls hP hS hl
  exact lv_if_ne hx hb hdg ht (fun q => kt q H locs ls hP hS hl) (fun q => kf q H locs ls hP hS hl)

theorem x_if_lt (C : z_C dA ad k cc own d n) {x : Int32} {off : Int} (tgt : Nat) (hdg : decode cc pc = .ok (.ifCond .lt off, 3)) (ht : (pc : Int) + off = (tgt : Int)) (kt : x < 0 → z_X dA ad k tgt lv (st) M) (kf : ¬ x < 0 → z_X dA ad k (pc + 3) lv (st) M) : z_X dA ad k pc lv (.int x :: st) M := by
  obtain ⟨p, l, e, R, s, m, args, below, meth, c, D, base, nL, cells, slots, Q⟩ := k
  obtain ⟨hx, hb, ⟨hml, rfl⟩, hown, hlk, hrm, hE⟩ := C
  intro H locs ls hP hS hl
  exact lv_if_lt hx hb hdg ht (fun q => kt q H locs ls hP hS hl) (fun q => kf q H locs ls hP hS hl)

theorem x_if_ge (C : z_C dA ad k cc own d n) {x : Int32} {off : Int} (tgt : Nat) (hdg : decode cc pc = .ok (.ifCond .ge off, 3)) (ht : (pc : Int) + off = (tgt : Int)) (kt : 0 ≤ x → z_X dA ad k tgt lv (st) M) (kf : ¬ 0 ≤ x → z_X dA ad k (pc + 3) lv (st) M) : z_X dA ad k pc lv (.int x :: st) M := by
  obtain ⟨p, l, e, R, s, m, args, below, meth, c, D, base, nL, cells, slots, Q⟩ := k
  obtain ⟨hx, hb, ⟨hml, rfl⟩, hown, hlk, hrm, hE⟩ := C
  intro H locs ls hP hS hl
  exact lv_if_ge hx hb hdg ht (fun q => kt q H locs ls hP hS hl) (fun q => kf q H locs ls hP hS hl)

theorem x_if_gt (C : z_C dA ad k cc own d n) {x : Int32} {off : Int} (tgt : Nat) (hdg : decode cc pc = .ok (.ifCond .gt off, 3)) (ht : (pc : Int) + off = (tgt : Int)) (kt : 0 < x → z_X dA ad k tgt lv (st) M) (kf : ¬ 0 < x → z_X dA ad k (pc + 3) lv (st) M) : z_X dA ad k pc lv (.int x :: st) M := by
  obtain ⟨p, l, e, R, s, m, args, below, meth, c, D, base, nL, cells, slots, Q⟩ := k
  obtain ⟨hx, hb, ⟨hml, rfl⟩, hown, hlk, hrm, hE⟩ := C
  intro H locs ls hP hS hl
  exact lv_if_gt hx hb hdg ht (fun q => kt q H locs ls hP hS hl) (fun q => kf q H locs ls hP hS hl)

theorem x_if_le (C : z_C dA ad k cc own d n) {x : Int32} {off : Int} (tgt : Nat) (hdg : decode cc pc = .ok (.ifCond .le off, 3)) (ht : (pc : Int) + off = (tgt : Int)) (kt : x ≤ 0 → z_X dA ad k tgt lv (st) M) (kf : ¬ x ≤ 0 → z_X dA ad k (pc + 3) lv (st) M) : z_X dA ad k pc lv (.int x :: st) M := by
  obtain ⟨p, l, e, R, s, m, args, below, meth, c, D, base, nL, cells, slots, Q⟩ := k
  obtain ⟨hx, hb, ⟨hml, rfl⟩, hown, hlk, hrm, hE⟩ := C
  intro H locs ls hP hS hl
  exact lv_if_le hx hb hdg ht (fun q => kt q H locs ls hP hS hl) (fun q => kf q H locs ls hP hS hl)

theorem x_icmp_eq (C : z_C dA ad k cc own d n) {x y : Int32} {off : Int} (tgt : Nat) (hdg : decode cc pc = .ok (.if_icmp .eq off, 3)) (ht : (pc : Int) + off = (tgt : Int)) (kt : x = y → z_X dA ad k tgt lv (st) M) (kf : ¬ x = y → z_X dA ad k (pc + 3) lv (st) M) : z_X dA ad k pc lv (.int y :: .int x :: st) M := by
  obtain ⟨p, l, e, R, s, m, args, below, meth, c, D, base, nL, cells, slots, Q⟩ := k
  obtain ⟨hx, hb, ⟨hml, rfl⟩, hown, hlk, hrm, hE⟩ := C
  intro H locs ls hP hS hl
  exact lv_icmp_eq hx hb hdg ht (fun q => kt q H locs ls hP hS hl) (fun q => kf q H locs ls hP hS hl)

theorem x_icmp_ne (C : z_C dA ad k cc own d n) {x y : Int32} {off : Int} (tgt : Nat) (hdg : decode cc pc = .ok (.if_icmp .ne off, 3)) (ht : (pc : Int) + off = (tgt : Int)) (kt : ¬ x = y → z_X dA ad k tgt lv (st) M) (kf : x = y → z_X dA ad k (pc + 3) lv (st) M) : z_X dA ad k pc lv (.int y :: .int x :: st) M := by
  obtain ⟨p, l, e, R, s, m, args, below, meth, c, D, base, nL, cells, slots, Q⟩ := k
  obtain ⟨hx, hb, ⟨hml, rfl⟩, hown, hlk, hrm, hE⟩ := C
  intro H locs ls hP hS hl
  exact lv_icmp_ne hx hb hdg ht (fun q => kt q H locs ls hP hS hl) (fun q => kf q H locs ls hP hS hl)

theorem x_icmp_lt (C : z_C dA ad k cc own d n) {x y : Int32} {off : Int} (tgt : Nat) (hdg : decode cc pc = .ok (.if_icmp .lt off, 3)) (ht : (pc : Int) + off = (tgt : Int)) (kt : x < y → z_X dA ad k tgt lv (st) M) (kf : ¬ x < y → z_X dA ad k (pc + 3) lv (st) M) : z_X dA ad k pc lv (.int y :: .int x :: st) M := by
  obtain ⟨p, l, e, R, s, m, args, below, meth, c, D, base, nL, cells, slots, Q⟩ := k
  obtain ⟨hx, hb, ⟨hml, rfl⟩, hown, hlk, hrm, hE⟩ := C
  intro H locs ls hP hS hl
  exact lv_icmp_lt hx hb hdg ht (fun q => kt q H locs ls hP hS hl) (fun q => kf q H locs ls hP hS hl)

theorem x_icmp_ge (C : z_C dA ad k cc own d n) {x y : Int32} {off : Int} (tgt : Nat) (hdg : decode cc pc = .ok (.if_icmp .ge off, 3)) (ht : (pc : Int) + off = (tgt : Int)) (kt : y ≤ x → z_X dA ad k tgt lv (st) M) (kf : ¬ y ≤ x → z_X dA ad k (pc + 3) lv (st) M) : z_X dA ad k pc lv (.int y :: .int x :: st) M := by
  obtain ⟨p, l, e, R, s, m, args, below, meth, c, D, base, nL, cells, slots, Q⟩ := k
  obtain ⟨hx, hb, ⟨hml, rfl⟩, hown, hlk, hrm, hE⟩ := C
  intro H locs ls hP hS hl
  exact lv_icmp_ge hx hb hdg ht (fun q => kt q H locs ls hP hS hl) (fun q => kf q H locs ls hP hS hl)

theorem x_icmp_gt (C : z_C dA ad k cc own d n) {x y : Int32} {off : Int} (tgt : Nat) (hdg : decode cc pc = .ok (.if_icmp .gt off, 3)) (ht : (pc : Int) + off = (tgt : Int)) (kt : y < x → z_X dA ad k tgt lv (st) M) (kf : ¬ y < x → z_X dA ad k (pc + 3) lv (st) M) : z_X dA ad k pc lv (.int y :: .int x :: st) M := by
  obtain ⟨p, l, e, R, s, m, args, below, meth, c, D, base, nL, cells, slots, Q⟩ := k
  obtain ⟨hx, hb, ⟨hml, rfl⟩, hown, hlk, hrm, hE⟩ := C
  intro H locs ls hP hS hl
  exact lv_icmp_gt hx hb hdg ht (fun q => kt q H locs ls hP hS hl) (fun q => kf q H locs ls hP hS hl)

theorem x_icmp_le (C : z_C dA ad k cc own d n) {x y : Int32} {off : Int} (tgt : Nat) (hdg : decode cc pc = .ok (.if_icmp .le off, 3)) (ht : (pc : Int) + off = (tgt : Int)) (kt : x ≤ y → z_X dA ad k tgt lv (st) M) (kf : ¬ x ≤ y → z_X dA ad k (pc + 3) lv (st) M) : z_X dA ad k pc lv (.int y :: .int x :: st) M := by
  obtain ⟨p, l, e, R, s, m, args, below, meth, c, D, base, nL, cells, slots, Q⟩ := k
  obtain ⟨hx, hb, ⟨hml, rfl⟩, hown, hlk, hrm, hE⟩ := C
  intro H locs ls hP hS hl
  exact lv_icmp_le hx hb hdg ht (fun q => kt q H locs ls hP hS hl) (fun q => kf q H locs ls hP hS hl)

theorem x_goto (C : z_C dA ad k cc own d n) {off : Int} (tgt : Nat) (hdg : decode cc pc = .ok (.goto off, 3)) (ht : (pc : Int) + off = (tgt : Int)) (kk : z_X dA ad k tgt lv (st) M) : z_X dA ad k pc lv (st) M := by
  obtain ⟨p, l, e, R, s, m, args, below, meth, c, D, base, nL, cells, slots, Q⟩ := k
  obtain ⟨hx, hb, ⟨hml, rfl⟩, hown, hlk, hrm, hE⟩ := C
  intro H locs ls hP hS hl
  exact lv_goto hx hb hdg ht (kk H locs ls hP hS hl)

theorem x_lookup (C : z_C dA ad k cc own d n) {dflt : Int} {ps : Array (Int × Int)} {len : Nat} {x : Int32} {off : Int} (tgt : Nat) (hdg : decode cc pc = .ok (.lookupswitch dflt ps, len)) (hp : (ps.toList.zip (ps.toList.drop 1)).all (fun (a, next) => a.1 < next.1) = true) (ho : Op.lookupswitch.offset ps.toList dflt x.toInt = off) (ht : (pc : Int) + off = (tgt : Int)) (kk : z_X dA ad k tgt lv (st) M) : z_X dA ad k pc lv (.int x :: st) M := by
  obtain ⟨p, l, e, R, s, m, args, below, meth, c, D, base, nL, cells, slots, Q⟩ := k
  obtain ⟨hx, hb, ⟨hml, rfl⟩, hown, hlk, hrm, hE⟩ := C
  intro H locs ls hP hS hl
  exact lv_lookup hx hb hdg hp ho ht (kk H locs ls hP hS hl)

theorem x_tableOut (C : z_C dA ad k cc own d n) {dflt lo hi : Int} {offs : Array Int} {len : Nat} {x : Int32} (tgt : Nat) (hdg : decode cc pc = .ok (.tableswitch dflt lo hi offs, len)) (h : x.toInt < lo ∨ hi < x.toInt) (ht : (pc : Int) + dflt = (tgt : Int)) (kk : z_X dA ad k tgt lv (st) M) : z_X dA ad k pc lv (.int x :: st) M := by
  obtain ⟨p, l, e, R, s, m, args, below, meth, c, D, base, nL, cells, slots, Q⟩ := k
  obtain ⟨hx, hb, ⟨hml, rfl⟩, hown, hlk, hrm, hE⟩ := C
  intro H locs ls hP hS hl
  exact lv_tableOut hx hb hdg h ht (kk H locs ls hP hS hl)

theorem x_tableIn (C : z_C dA ad k cc own d n) {dflt lo hi : Int} {offs : Array Int} {len : Nat} {x : Int32} {off : Int} (tgt : Nat) (hdg : decode cc pc = .ok (.tableswitch dflt lo hi offs, len)) (h1 : ¬ x.toInt < lo) (h2 : ¬ hi < x.toInt) (ho : offs[(x.toInt - lo).toNat]? = some off) (ht : (pc : Int) + off = (tgt : Int)) (kk : z_X dA ad k tgt lv (st) M) : z_X dA ad k pc lv (.int x :: st) M := by
  obtain ⟨p, l, e, R, s, m, args, below, meth, c, D, base, nL, cells, slots, Q⟩ := k
  obtain ⟨hx, hb, ⟨hml, rfl⟩, hown, hlk, hrm, hE⟩ := C
  intro H locs ls hP hS hl
  exact lv_tableIn hx hb hdg h1 h2 ho ht (kk H locs ls hP hS hl)

theorem x_topi {x : Int32} (kk : ∀ y : Int32, y = x → z_X dA ad k pc lv (.int y :: st) M) : z_X dA ad k pc lv (.int x :: st) M := kk x rfl

theorem x_get (C : z_C dA ad k cc own d n) {i ci j index N : Nat} {fs : List Value} {Cn ref : String} {T : u_T} {v : Value} (hi : i < z_N) (hc : z_c dA ad i (M i) = .inr (ci, fs)) (hcl : z_cl[ci]? = some (Cn, T, N)) (hlay : ∀ w ∈ u_ws Cn T N, w ∈ z_T) (hj : j < N) (href : (T j).1 = ref) (hlink : Cond.fieldLink own index ref (T j).2.1 (T j).2.2.1 ∈ z_T) (hv : fs[j]? = some v) (hdg : decode cc pc = .ok (.getfield index, 3)) (kk : z_X dA ad k (pc + 3) lv (v :: st) M) : z_X dA ad k pc lv (.ref (ad i) :: st) M := by
  obtain ⟨p, l, e, R, s, m, args, below, meth, c, D, base, nL, cells, slots, Q⟩ := k
  obtain ⟨hx, hb, ⟨hml, rfl⟩, hown, hlk, hrm, hE⟩ := C
  intro H locs ls hP hS hl
  exact va_get (D := D) (cl := z_cl) (tys := z_tys dA) (ws := z_W dA ad M) (Ts := z_T) hx hb (fun w hw => z_w hE hw) hlay hown hE.1 hP i (by rw [z_W_get hi, hc]) hcl j hj (z_w hE hlink) (fun _ h9 => by rw [← href]; exact h9) hv hdg (kk H locs ls hP hS hl)

theorem x_getN (C : z_C dA ad k cc own d n) {i ci j index N : Nat} {fs : List Value} {Cn ref : String} {T : u_T} {v : Value} {host : String} (hi : i < z_N) (hc : z_c dA ad i (M i) = .inr (ci, fs)) (hcl : z_cl[ci]? = some (Cn, T, N)) (hlay : ∀ w ∈ u_ws Cn T N, w ∈ z_T) (hj : j < N) (href : (T j).1 = ref) (hlink : Cond.fieldLinkNest own index ref (T j).2.1 (T j).2.2.1 host ∈ z_T) (hv : fs[j]? = some v) (hdg : decode cc pc = .ok (.getfield index, 3)) (kk : z_X dA ad k (pc + 3) lv (v :: st) M) : z_X dA ad k pc lv (.ref (ad i) :: st) M := by
  obtain ⟨p, l, e, R, s, m, args, below, meth, c, D, base, nL, cells, slots, Q⟩ := k
  obtain ⟨hx, hb, ⟨hml, rfl⟩, hown, hlk, hrm, hE⟩ := C
  intro H locs ls hP hS hl
  exact va_getN (D := D) (cl := z_cl) (tys := z_tys dA) (ws := z_W dA ad M) (Ts := z_T) hx hb (fun w hw => z_w hE hw) hlay hown hE.1 hP i (by rw [z_W_get hi, hc]) hcl j hj (z_w hE hlink) (fun _ h9 => by rw [← href]; exact h9) hv hdg (kk H locs ls hP hS hl)

theorem x_put (C : z_C dA ad k cc own d n) {i ci j index N : Nat} {fs : List Value} {Cn ref : String} {T : u_T} {x : Int32} {v : Value} (hi : i < z_N) (hc : z_c dA ad i (M i) = .inr (ci, fs)) (hcl : z_cl[ci]? = some (Cn, T, N)) (hlay : ∀ w ∈ u_ws Cn T N, w ∈ z_T) (hj : j < N) (href : (T j).1 = ref) (ty0 : Nat → FieldType) (hty : ∀ q, q < N → parseFieldDescriptor (T q).2.2.1 = some (ty0 q)) (hnm : ∀ a, a < N → ∀ b, b < N → a ≠ b → (T a).2.1 ≠ (T b).2.1) (hfin : (T j).2.2.2 = false) (hn : narrow (ty0 j) v = v) (hfit : fits (ty0 j) v = true) (hln : j < fs.length) (hset : z_c dA ad i (upd (M i) j x) = .inr (ci, fs.set j v)) (hlink : Cond.fieldLink own index ref (T j).2.1 (T j).2.2.1 ∈ z_T) (hdg : decode cc pc = .ok (.putfield index, 3)) (kk : z_X dA ad k (pc + 3) lv (st) (z_sv M i j x)) : z_X dA ad k pc lv (v :: .ref (ad i) :: st) M := by
  obtain ⟨p, l, e, R, s, m, args, below, meth, c, D, base, nL, cells, slots, Q⟩ := k
  obtain ⟨hx, hb, ⟨hml, rfl⟩, hown, hlk, hrm, hE⟩ := C
  intro H locs ls hP hS hl
  refine va_put (D := D) (cl := z_cl) (tys := z_tys dA) (ws := z_W dA ad M) (Ts := z_T) (A := z_A base) hx hb (fun w hw => z_w hE hw) hlay ty0 hty hnm hown hE.1 hP (z_W_D hE.2.1) hS i (by rw [z_W_get hi, hc]) hcl j hj (z_w hE hlink) (fun _ h9 => by rw [← href]; exact h9) hfin (hty j hj) hn hfit hln hdg (fun H1 locs1 hP1 hD1 hS1 => ?_)
  rw [z_W_set (M1 := z_sv M i j x) (by rw [← hset]; simp [z_sv, va_up]) (fun a ha => z_sv_row M j x ha)] at hP1
  exact kk H1 locs1 ls hP1 hS1 hl

theorem x_putN (C : z_C dA ad k cc own d n) {i ci j index N : Nat} {fs : List Value} {Cn ref : String} {T : u_T} {x : Int32} {v : Value} {host : String} (hi : i < z_N) (hc : z_c dA ad i (M i) = .inr (ci, fs)) (hcl : z_cl[ci]? = some (Cn, T, N)) (hlay : ∀ w ∈ u_ws Cn T N, w ∈ z_T) (hj : j < N) (href : (T j).1 = ref) (ty0 : Nat → FieldType) (hty : ∀ q, q < N → parseFieldDescriptor (T q).2.2.1 = some (ty0 q)) (hnm : ∀ a, a < N → ∀ b, b < N → a ≠ b → (T a).2.1 ≠ (T b).2.1) (hfin : (T j).2.2.2 = false) (hn : narrow (ty0 j) v = v) (hfit : fits (ty0 j) v = true) (hln : j < fs.length) (hset : z_c dA ad i (upd (M i) j x) = .inr (ci, fs.set j v)) (hlink : Cond.fieldLinkNest own index ref (T j).2.1 (T j).2.2.1 host ∈ z_T) (hdg : decode cc pc = .ok (.putfield index, 3)) (kk : z_X dA ad k (pc + 3) lv (st) (z_sv M i j x)) : z_X dA ad k pc lv (v :: .ref (ad i) :: st) M := by
  obtain ⟨p, l, e, R, s, m, args, below, meth, c, D, base, nL, cells, slots, Q⟩ := k
  obtain ⟨hx, hb, ⟨hml, rfl⟩, hown, hlk, hrm, hE⟩ := C
  intro H locs ls hP hS hl
  refine va_putN (D := D) (cl := z_cl) (tys := z_tys dA) (ws := z_W dA ad M) (Ts := z_T) (A := z_A base) hx hb (fun w hw => z_w hE hw) hlay ty0 hty hnm hown hE.1 hP (z_W_D hE.2.1) hS i (by rw [z_W_get hi, hc]) hcl j hj (z_w hE hlink) (fun _ h9 => by rw [← href]; exact h9) hfin (hty j hj) hn hfit hln hdg (fun H1 locs1 hP1 hD1 hS1 => ?_)
  rw [z_W_set (M1 := z_sv M i j x) (by rw [← hset]; simp [z_sv, va_up]) (fun a ha => z_sv_row M j x ha)] at hP1
  exact kk H1 locs1 ls hP1 hS1 hl

theorem x_iald (C : z_C dA ad k cc own d n) {q t0 nn : Nat} {cA : ClassId} {i : Int32} (hq : q < z_N) (hc : z_c dA ad q (M q) = .inl (cA, nn, .inl (M q))) (ht : (z_tys dA)[t0]? = some (cA, .int)) (hin : vp_in i nn) (hdg : decode cc pc = .ok (.iaload, 1)) (kk : z_X dA ad k (pc + 1) lv (.int (M q i.toNatClampNeg) :: st) M) : z_X dA ad k pc lv (.int i :: .ref (ad q) :: st) M := by
  obtain ⟨p, l, e, R, s, m, args, below, meth, c, D, base, nL, cells, slots, Q⟩ := k
  obtain ⟨hx, hb, ⟨hml, rfl⟩, hown, hlk, hrm, hE⟩ := C
  intro H locs ls hP hS hl
  exact va_iald hx hb hE.1 hP q t0 (by rw [z_W_get hq, hc]) ht hin hdg (kk H locs ls hP hS hl)

theorem x_iast (C : z_C dA ad k cc own d n) {q t0 nn : Nat} {cA : ClassId} {i x : Int32} (hq : q < z_N) (hc : ∀ f : Nat → Int32, z_c dA ad q f = .inl (cA, nn, .inl f)) (ht : (z_tys dA)[t0]? = some (cA, .int)) (hin : vp_in i nn) (hdg : decode cc pc = .ok (.iastore, 1)) (kk : z_X dA ad k (pc + 1) lv (st) (z_sv M q i.toNatClampNeg x)) : z_X dA ad k pc lv (.int x :: .int i :: .ref (ad q) :: st) M := by
  obtain ⟨p, l, e, R, s, m, args, below, meth, c, D, base, nL, cells, slots, Q⟩ := k
  obtain ⟨hx, hb, ⟨hml, rfl⟩, hown, hlk, hrm, hE⟩ := C
  intro H locs ls hP hS hl
  refine va_iast hx hb hE.1 hP (z_W_D (base := base) hE.2.1) hS q t0 (by rw [z_W_get hq, hc]) ht hin hdg (fun H1 locs1 hP1 hD1 hS1 => ?_)
  rw [z_W_set (M1 := z_sv M q i.toNatClampNeg x) (by rw [hc]; simp [z_sv, va_up]) (fun a ha => z_sv_row M _ x ha)] at hP1
  exact kk H1 locs1 ls hP1 hS1 hl

theorem x_zald (C : z_C dA ad k cc own d n) {q t0 nn : Nat} {cA : ClassId} {i : Int32} (hq : q < z_N) (hc : z_c dA ad q (M q) = .inl (cA, nn, .inl (M q))) (ht : (z_tys dA)[t0]? = some (cA, .boolean)) (hin : vp_in i nn) (hdg : decode cc pc = .ok (.baload, 1)) (kk : z_X dA ad k (pc + 1) lv (.int (M q i.toNatClampNeg) :: st) M) : z_X dA ad k pc lv (.int i :: .ref (ad q) :: st) M := by
  obtain ⟨p, l, e, R, s, m, args, below, meth, c, D, base, nL, cells, slots, Q⟩ := k
  obtain ⟨hx, hb, ⟨hml, rfl⟩, hown, hlk, hrm, hE⟩ := C
  intro H locs ls hP hS hl
  exact va_zald hx hb hE.1 hP q t0 (by rw [z_W_get hq, hc]) ht hin hdg (kk H locs ls hP hS hl)

theorem x_zast (C : z_C dA ad k cc own d n) {q t0 nn : Nat} {cA : ClassId} {i x : Int32} (hq : q < z_N) (hc : ∀ f : Nat → Int32, z_c dA ad q f = .inl (cA, nn, .inl f)) (ht : (z_tys dA)[t0]? = some (cA, .boolean)) (hin : vp_in i nn) (hnr : vp_nar .boolean x = x) (hdg : decode cc pc = .ok (.bastore, 1)) (kk : z_X dA ad k (pc + 1) lv (st) (z_sv M q i.toNatClampNeg x)) : z_X dA ad k pc lv (.int x :: .int i :: .ref (ad q) :: st) M := by
  obtain ⟨p, l, e, R, s, m, args, below, meth, c, D, base, nL, cells, slots, Q⟩ := k
  obtain ⟨hx, hb, ⟨hml, rfl⟩, hown, hlk, hrm, hE⟩ := C
  intro H locs ls hP hS hl
  refine va_zast hx hb hE.1 hP (z_W_D (base := base) hE.2.1) hS q t0 (by rw [z_W_get hq, hc]) ht hin hdg (fun H1 locs1 hP1 hD1 hS1 => ?_)
  rw [hnr] at hP1
  rw [z_W_set (M1 := z_sv M q i.toNatClampNeg x) (by rw [hc]; simp [z_sv, va_up]) (fun a ha => z_sv_row M _ x ha)] at hP1
  exact kk H1 locs1 ls hP1 hS1 hl

theorem x_alen (C : z_C dA ad k cc own d n) {q t0 : Nat} {cA : ClassId} {ar : vp_A} {ty : FieldType} (v : Int32) (hq : q < z_N) (hc : z_c dA ad q (M q) = .inl (cA, ar)) (ht : (z_tys dA)[t0]? = some (cA, ty)) (hv : Int32.ofNat ar.1 = v) (hdg : decode cc pc = .ok (.arraylength, 1)) (kk : z_X dA ad k (pc + 1) lv (.int v :: st) M) : z_X dA ad k pc lv (.ref (ad q) :: st) M := by
  obtain ⟨p, l, e, R, s, m, args, below, meth, c, D, base, nL, cells, slots, Q⟩ := k
  obtain ⟨hx, hb, ⟨hml, rfl⟩, hown, hlk, hrm, hE⟩ := C
  intro H locs ls hP hS hl
  exact va_alen hx hb hE.1 hP q t0 (by rw [z_W_get hq, hc]) ht hv hdg (kk H locs ls hP hS hl)

theorem x_aald (C : z_C dA ad k cc own d n) {q t0 nn : Nat} {cA : ClassId} {Cx : String} {g : Nat → Nat} {i : Int32} (hq : q < z_N) (hc : z_c dA ad q (M q) = .inl (cA, nn, .inr (.inr (.inr (.inr (fun j => some (ad (g j)))))))) (ht : (z_tys dA)[t0]? = some (cA, .object Cx)) (hin : vp_in i nn) (hdg : decode cc pc = .ok (.aaload, 1)) (kk : z_X dA ad k (pc + 1) lv (.ref (ad (g i.toNatClampNeg)) :: st) M) : z_X dA ad k pc lv (.int i :: .ref (ad q) :: st) M := by
  obtain ⟨p, l, e, R, s, m, args, below, meth, c, D, base, nL, cells, slots, Q⟩ := k
  obtain ⟨hx, hb, ⟨hml, rfl⟩, hown, hlk, hrm, hE⟩ := C
  intro H locs ls hP hS hl
  exact va_aldq (f := fun j => some (ad (g j))) hx hb hE.1 hP q t0 (by rw [z_W_get hq, hc]) ht hin hdg (kk H locs ls hP hS hl)

theorem x_aaldA (C : z_C dA ad k cc own d n) {q t0 nn : Nat} {cA : ClassId} {tx : FieldType} {g : Nat → Nat} {i : Int32} (hq : q < z_N) (hc : z_c dA ad q (M q) = .inl (cA, nn, .inr (.inr (.inr (.inr (fun j => some (ad (g j)))))))) (ht : (z_tys dA)[t0]? = some (cA, .array tx)) (hin : vp_in i nn) (hdg : decode cc pc = .ok (.aaload, 1)) (kk : z_X dA ad k (pc + 1) lv (.ref (ad (g i.toNatClampNeg)) :: st) M) : z_X dA ad k pc lv (.int i :: .ref (ad q) :: st) M := by
  obtain ⟨p, l, e, R, s, m, args, below, meth, c, D, base, nL, cells, slots, Q⟩ := k
  obtain ⟨hx, hb, ⟨hml, rfl⟩, hown, hlk, hrm, hE⟩ := C
  intro H locs ls hP hS hl
  exact z_aldqA (f := fun j => some (ad (g j))) hx hb hE.1 hP q t0 (by rw [z_W_get hq, hc]) ht hin hdg (kk H locs ls hP hS hl)

theorem x_copy (C : z_C dA ad k cc own d n) {q0 q1 t0 nn0 nn1 index : Nat} {c0 : ClassId} {sp dp nc : Int32} (hq0 : q0 < z_N) (hq1 : q1 < z_N) (hc0 : ∀ f : Nat → Int32, z_c dA ad q0 f = .inl (c0, nn0, .inl f)) (hc1 : ∀ f : Nat → Int32, z_c dA ad q1 f = .inl (c0, nn1, .inl f)) (ht : (z_tys dA)[t0]? = some (c0, .int)) (h1 : ¬ sp < 0) (h2 : ¬ dp < 0) (h3 : ¬ nc < 0) (h4 : sp.toNatClampNeg + nc.toNatClampNeg ≤ nn0) (h5 : dp.toNatClampNeg + nc.toNatClampNeg ≤ nn1) (hd : 1 ≤ d) (hlo : (st.map fun v => v.category).sum + (nativeFrameWords "java/lang/System" "arraycopy" 5 + 11) ≤ 40) (hl1 : Cond.methodLink own index arraycopyName ∈ z_T) (hl2 : Cond.native arraycopyName ∈ z_T) (hl3 : Cond.static arraycopyName ∈ z_T) (hl4 : Cond.initialized "java/lang/System" ∈ z_T) (hdg : decode cc pc = .ok (.invokestatic index, 3)) (kk : z_X dA ad k (pc + 3) lv (st) (va_up M q1 (va_cpy (M q0) (M q1) sp.toNatClampNeg dp.toNatClampNeg nc.toNatClampNeg))) : z_X dA ad k pc lv (.int nc :: .int dp :: .ref (ad q1) :: .int sp :: .ref (ad q0) :: st) M := by
  obtain ⟨p, l, e, R, s, m, args, below, meth, c, D, base, nL, cells, slots, Q⟩ := k
  obtain ⟨hx, hb, ⟨hml, rfl⟩, hown, hlk, hrm, hE⟩ := C
  intro H locs ls hP hS hl
  refine va_copyi hx hb (hml.trans hl.1.symm) hown (z_w hE hl1) (z_w hE hl2) (z_w hE hl3) (z_w hE hl4) hE.1 hP (z_W_D (base := base) hE.2.1) hS q0 q1 t0 t0 (by rw [z_W_get hq0, hc0]) (by rw [z_W_get hq1, hc1]) ht ht rfl h1 h2 h3 h4 h5 (fun _ _ => rfl) (by have := hrm.1; omega) (by have := hrm.2.1; omega) hdg (fun H1 locs1 hP1 hD1 hS1 => ?_)
  rw [z_W_set (M1 := va_up M q1 (va_cpy (M q0) (M q1) sp.toNatClampNeg dp.toNatClampNeg nc.toNatClampNeg)) (by rw [hc1]; simp [va_up]) (fun a ha => by simp [va_up, ha])] at hP1
  exact kk H1 locs1 ls hP1 hS1 hl

/-- what a method must end with: an int r0 (of the type rt) and the memory M1 -/
def z_RI (dA : Nat → ClassId) (ad : Nat → Nat) (k : z_K) (rt : FieldType) (r0 : Int32) (M1 : z_M) : Prop := match k with
  | (_, _, _, _, s, _, args, below, meth, _, D, base, _, cells, slots, Q) => meth.sig.returnType = some rt ∧ cells = 0 ∧ slots = 0 ∧ Q = MQ below (va_Qi (fun (r : Int32) (M2 : z_M) => r = r0 ∧ M2 = M1) (fun M2 t => va_P D z_cl (z_W dA ad M2) t.heap) (z_A base)) args s 0 0 (z_A base)
def z_RV (dA : Nat → ClassId) (ad : Nat → Nat) (k : z_K) (M1 : z_M) : Prop := match k with
  | (_, _, _, _, s, _, args, below, meth, _, D, base, _, cells, slots, Q) => meth.sig.returnType = none ∧ cells = 0 ∧ slots = 0 ∧ Q = MQ below (va_Qv (fun (M2 : z_M) => M2 = M1) (fun M2 t => va_P D z_cl (z_W dA ad M2) t.heap) (z_A base)) args s 0 0 (z_A base)

/-- the contract of a method that answers an int: it answers r0 and leaves the memory M1 -/
def z_CI (y : MethodName) (bytes : ByteArray) (mx : Nat) (rt : FieldType) (d : Nat) (dA : Nat → ClassId) (ad : Nat → Nat) (av : List Value) (M : z_M) (r0 : Int32) (M1 : z_M) : Prop :=
  ∀ (l : Launch) (D : va_G) (base : Nat), Met l y [Cond.code y bytes mx (some rt)] { frames := d, cells := 0, slots := 0, locals := 40 * d } (va_Pc av (fun U => va_P D z_cl (z_W dA ad M) U.heap ∧ z_E dA ad D base U)) (va_Qi (fun (r : Int32) (M2 : z_M) => r = r0 ∧ M2 = M1) (fun M2 t => va_P D z_cl (z_W dA ad M2) t.heap) (z_A base)) 0 0 (z_A base)
def z_CV (y : MethodName) (bytes : ByteArray) (mx : Nat) (d : Nat) (dA : Nat → ClassId) (ad : Nat → Nat) (av : List Value) (M M1 : z_M) : Prop :=
  ∀ (l : Launch) (D : va_G) (base : Nat), Met l y [Cond.code y bytes mx none] { frames := d, cells := 0, slots := 0, locals := 40 * d } (va_Pc av (fun U => va_P D z_cl (z_W dA ad M) U.heap ∧ z_E dA ad D base U)) (va_Qv (fun (M2 : z_M) => M2 = M1) (fun M2 t => va_P D z_cl (z_W dA ad M2) t.heap) (z_A base)) 0 0 (z_A base)
theorem z_blind {av : List Value} {D : va_G} {base : Nat} : FrameBlind (va_Pc av (fun U => va_P D z_cl (z_W dA ad M) U.heap ∧ z_E dA ad D base U)) := by
  intro a U g mk q
  obtain ⟨q0, q1, q2⟩ := q
  exact ⟨q0, q1, z_E_same (U := U) rfl rfl q2⟩
/-- what the tables say of a method: static; of an instance -/
def z_ms (y : MethodName) (bytes : ByteArray) (mx : Nat) (rt : Option FieldType) (na : Nat) : Prop := Cond.static y ∈ z_T ∧ Cond.initialized y.cls ∈ z_T ∧ Cond.code y bytes mx rt ∈ z_T ∧ (y.cls ≠ "java/lang/invoke/MethodHandle" ∧ y.cls ≠ "java/lang/invoke/VarHandle") ∧ (parseMethodDescriptor y.desc).map (fun q => q.parameters.length) = some na ∧ mx ≤ 21
def z_mv (y : MethodName) (bytes : ByteArray) (mx : Nat) (rt : Option FieldType) (na : Nat) : Prop := (Cond.instanceMethod y ∈ z_T ∧ Cond.selects y.cls y y ∈ z_T) ∧ Cond.initialized y.cls ∈ z_T ∧ Cond.code y bytes mx rt ∈ z_T ∧ (y.cls ≠ "java/lang/invoke/MethodHandle" ∧ y.cls ≠ "java/lang/invoke/VarHandle") ∧ (parseMethodDescriptor y.desc).map (fun q => q.parameters.length) = some na ∧ mx ≤ 21
theorem z_na {y : MethodName} {na : Nat} (h : (parseMethodDescriptor y.desc).map (fun q => q.parameters.length) = some na) : ∀ sig, parseMethodDescriptor y.desc = some sig → na = sig.parameters.length := by
  intro sig h2
  rw [h2] at h
  exact (Option.some.inj h).symm
/-- entry: a method's contract by its walk -/
theorem z_ofI {y : MethodName} {bytes : ByteArray} {mx : Nat} {rt : FieldType} {av : List Value} {r0 : Int32} {M1 : z_M} (lv0 : List (Option Value)) (hy : plainName y.cls = true) (hlen : (lg_sl av).length ≤ mx) (hlv : lv_args 0 av = z_l lv0)
    (body : ∀ k : z_K, z_C dA ad k bytes y.cls d mx → z_RI dA ad k rt r0 M1 → z_X dA ad k 0 lv0 [] M) : z_CI y bytes mx rt d dA ad av M r0 M1 := by
  intro l D base
  refine Met.ofW (cc := bytes) (maxL := mx) (ret := some rt) hy rfl ?_
  intro p e s m args below meth c s₁ B hml hv
  obtain ⟨rfl, hP, hE⟩ := hv
  have hl := lv_entry av (n := mx) hlen
  rw [lg_entry_eq]
  rw [hlv] at hl
  refine body (p, l, e, _, s, m, _, below, meth, c, D, base, mx, 0, 0, _) ⟨B.exec, B.bytes, ⟨hml, rfl⟩, findClass_of_methodNamed B.named, B.notSynchronized, ⟨Nat.le_refl _, Nat.le_refl _, Nat.zero_le _, Nat.zero_le _⟩, hE⟩ ⟨B.returns, rfl, rfl, rfl⟩ s.heap [] _ hP va_S.rf hl
theorem z_ofV {y : MethodName} {bytes : ByteArray} {mx : Nat} {av : List Value} {M1 : z_M} (lv0 : List (Option Value)) (hy : plainName y.cls = true) (hlen : (lg_sl av).length ≤ mx) (hlv : lv_args 0 av = z_l lv0)
    (body : ∀ k : z_K, z_C dA ad k bytes y.cls d mx → z_RV dA ad k M1 → z_X dA ad k 0 lv0 [] M) : z_CV y bytes mx d dA ad av M M1 := by
  intro l D base
  refine Met.ofW (cc := bytes) (maxL := mx) (ret := none) hy rfl ?_
  intro p e s m args below meth c s₁ B hml hv
  obtain ⟨rfl, hP, hE⟩ := hv
  have hl := lv_entry av (n := mx) hlen
  rw [lg_entry_eq]
  rw [hlv] at hl
  refine body (p, l, e, _, s, m, _, below, meth, c, D, base, mx, 0, 0, _) ⟨B.exec, B.bytes, ⟨hml, rfl⟩, findClass_of_methodNamed B.named, B.notSynchronized, ⟨Nat.le_refl _, Nat.le_refl _, Nat.zero_le _, Nat.zero_le _⟩, hE⟩ ⟨B.returns, rfl, rfl, rfl⟩ s.heap [] _ hP va_S.rf hl

theorem x_iret (C : z_C dA ad k cc own d n) {r r0 : Int32} {M1 : z_M} (E : z_RI dA ad k .int r0 M1) (hr0 : r = r0) (hM : M = M1) (hdg : decode cc pc = .ok (.ireturn, 1))  : z_X dA ad k pc lv [.int r] M := by
  obtain ⟨p, l, e, R, s, m, args, below, meth, c, D, base, nL, cells, slots, Q⟩ := k
  obtain ⟨hx, hb, ⟨hml, rfl⟩, hown, hlk, hrm, hE⟩ := C
  intro H locs ls hP hS hl
  obtain ⟨hr, rfl, rfl, rfl⟩ := E
  exact W.iret hx hb hr (fun t ht hW => ⟨⟨r, M, rfl, ⟨hr0, hM⟩, by show va_P D z_cl (z_W dA ad M) t.heap; rw [ht]; exact hP⟩, hS.F ht⟩) hS.2.2 hdg hlk

theorem x_zret (C : z_C dA ad k cc own d n) {r r0 : Int32} {M1 : z_M} (E : z_RI dA ad k .boolean r0 M1) (hr0 : r = r0) (hM : M = M1) (hnr : narrow .boolean (.int r) = .int r) (hdg : decode cc pc = .ok (.ireturn, 1))  : z_X dA ad k pc lv [.int r] M := by
  obtain ⟨p, l, e, R, s, m, args, below, meth, c, D, base, nL, cells, slots, Q⟩ := k
  obtain ⟨hx, hb, ⟨hml, rfl⟩, hown, hlk, hrm, hE⟩ := C
  intro H locs ls hP hS hl
  obtain ⟨hr, rfl, rfl, rfl⟩ := E
  exact W.zret hx hb hr hnr (fun t ht hW => ⟨⟨r, M, rfl, ⟨hr0, hM⟩, by show va_P D z_cl (z_W dA ad M) t.heap; rw [ht]; exact hP⟩, hS.F ht⟩) hS.2.2 hdg hlk

theorem x_vret (C : z_C dA ad k cc own d n) {M1 : z_M} (E : z_RV dA ad k M1) (hM : M = M1) (hdg : decode cc pc = .ok (.return_, 1))  : z_X dA ad k pc lv [] M := by
  obtain ⟨p, l, e, R, s, m, args, below, meth, c, D, base, nL, cells, slots, Q⟩ := k
  obtain ⟨hx, hb, ⟨hml, rfl⟩, hown, hlk, hrm, hE⟩ := C
  intro H locs ls hP hS hl
  obtain ⟨hr, rfl, rfl, rfl⟩ := E
  exact W.vret hx hb hr (fun t ht hW => ⟨⟨M, rfl, hM, by show va_P D z_cl (z_W dA ad M) t.heap; rw [ht]; exact hP⟩, hS.F ht⟩) hS.2.2 hdg hlk

theorem x_callSi (C : z_C dA ad k cc own d n) {y : MethodName} {bytes : ByteArray} {mx d2 na index : Nat} {av st0 : List Value} {M1 : z_M} {rt : FieldType} {r0 : Int32} (hM : z_CI y bytes mx rt d2 dA ad av M r0 M1) (hm : z_ms y bytes mx (some rt) na) (hna : av.length = na) (hst : st0 = av.reverse ++ st) (hcat : (st.map fun v => v.category).sum ≤ 8) (hd : d2 + 1 ≤ d) (hlink : Cond.methodLink own index y ∈ z_T) (hdg : decode cc pc = .ok (.invokestatic index, 3)) (kk : z_X dA ad k (pc + 3) lv (.int r0 :: st) M1) : z_X dA ad k pc lv (st0) M := by
  obtain ⟨p, l, e, R, s, m, args, below, meth, c, D, base, nL, cells, slots, Q⟩ := k
  obtain ⟨hx, hb, ⟨hml, rfl⟩, hown, hlk, hrm, hE⟩ := C
  intro H locs ls hP hS hl
  obtain ⟨hstt, hini, hcd, hcn, hpa, hmx⟩ := hm
  refine va_calli (va_runS (Ts := []) (As := av) (rest := st) (n := na) ⟨hx, hb, hml, hown, fun w hw => by cases hw⟩ (hM l D base) ⟨⟨rfl, rfl, by have := hrm.1; show d2 + 1 ≤ R.frames; omega, by have := hrm.2.1; have := hmx; show 8 + (mx + 11) + 40 * d2 ≤ R.locals; omega, fun w hw a2 U hW => by rw [List.mem_singleton.mp hw]; exact word_at hW (Or.inl rfl) (z_w (args := #[]) hE hcd), List.mem_singleton.mpr rfl, z_w hE hcd, z_w hE hini, hcn, z_na hpa, z_w hE hlink⟩, z_w hE hstt⟩ ⟨z_blind, fun U hU hW => ⟨rfl, by rw [hU]; exact hP, z_E_warm hE hU hS hW⟩⟩ rfl hna hl.1 hst (lv_room hcat) hdg ⟨hrm.2.2.1, hrm.2.2.2⟩) hS (fun q _ h => h) (fun q h => h) (fun r u t H1 locs1 ht hvm hw hB hz1 hk1 hS1 => ?_)
  obtain ⟨rfl, rfl⟩ := hw
  have hB : va_P D z_cl (z_W dA ad _) t.heap := hB
  rw [ht] at hB
  exact kk H1 locs1 ls hB hS1 hl

theorem x_callSv (C : z_C dA ad k cc own d n) {y : MethodName} {bytes : ByteArray} {mx d2 na index : Nat} {av st0 : List Value} {M1 : z_M}  (hM : z_CV y bytes mx d2 dA ad av M M1) (hm : z_ms y bytes mx none na) (hna : av.length = na) (hst : st0 = av.reverse ++ st) (hcat : (st.map fun v => v.category).sum ≤ 8) (hd : d2 + 1 ≤ d) (hlink : Cond.methodLink own index y ∈ z_T) (hdg : decode cc pc = .ok (.invokestatic index, 3)) (kk : z_X dA ad k (pc + 3) lv (st) M1) : z_X dA ad k pc lv (st0) M := by
  obtain ⟨p, l, e, R, s, m, args, below, meth, c, D, base, nL, cells, slots, Q⟩ := k
  obtain ⟨hx, hb, ⟨hml, rfl⟩, hown, hlk, hrm, hE⟩ := C
  intro H locs ls hP hS hl
  obtain ⟨hstt, hini, hcd, hcn, hpa, hmx⟩ := hm
  refine va_callv (va_runS (Ts := []) (As := av) (rest := st) (n := na) ⟨hx, hb, hml, hown, fun w hw => by cases hw⟩ (hM l D base) ⟨⟨rfl, rfl, by have := hrm.1; show d2 + 1 ≤ R.frames; omega, by have := hrm.2.1; have := hmx; show 8 + (mx + 11) + 40 * d2 ≤ R.locals; omega, fun w hw a2 U hW => by rw [List.mem_singleton.mp hw]; exact word_at hW (Or.inl rfl) (z_w (args := #[]) hE hcd), List.mem_singleton.mpr rfl, z_w hE hcd, z_w hE hini, hcn, z_na hpa, z_w hE hlink⟩, z_w hE hstt⟩ ⟨z_blind, fun U hU hW => ⟨rfl, by rw [hU]; exact hP, z_E_warm hE hU hS hW⟩⟩ rfl hna hl.1 hst (lv_room hcat) hdg ⟨hrm.2.2.1, hrm.2.2.2⟩) hS (fun q _ h => h) (fun q h => h) (fun u t H1 locs1 ht hvm hw hB hz1 hk1 hS1 => ?_)
  subst hw
  have hB : va_P D z_cl (z_W dA ad _) t.heap := hB
  rw [ht] at hB
  exact kk H1 locs1 ls hB hS1 hl

theorem x_callSNi (C : z_C dA ad k cc own d n) {y : MethodName} {bytes : ByteArray} {mx d2 na index : Nat} {av st0 : List Value} {M1 : z_M} {rt : FieldType} {r0 : Int32} {host : String} (hM : z_CI y bytes mx rt d2 dA ad av M r0 M1) (hm : z_ms y bytes mx (some rt) na) (hna : av.length = na) (hst : st0 = av.reverse ++ st) (hcat : (st.map fun v => v.category).sum ≤ 8) (hd : d2 + 1 ≤ d) (hlink : Cond.methodLinkNest own index y host ∈ z_T) (hdg : decode cc pc = .ok (.invokestatic index, 3)) (kk : z_X dA ad k (pc + 3) lv (.int r0 :: st) M1) : z_X dA ad k pc lv (st0) M := by
  obtain ⟨p, l, e, R, s, m, args, below, meth, c, D, base, nL, cells, slots, Q⟩ := k
  obtain ⟨hx, hb, ⟨hml, rfl⟩, hown, hlk, hrm, hE⟩ := C
  intro H locs ls hP hS hl
  obtain ⟨hstt, hini, hcd, hcn, hpa, hmx⟩ := hm
  refine va_calli (va_runSN (Ts := []) (As := av) (rest := st) (n := na) ⟨hx, hb, hml, hown, fun w hw => by cases hw⟩ (hM l D base) ⟨⟨⟨rfl, rfl, by have := hrm.1; show d2 + 1 ≤ R.frames; omega, by have := hrm.2.1; have := hmx; show 8 + (mx + 11) + 40 * d2 ≤ R.locals; omega, fun w hw a2 U hW => by rw [List.mem_singleton.mp hw]; exact word_at hW (Or.inl rfl) (z_w (args := #[]) hE hcd), List.mem_singleton.mpr rfl⟩, z_w hE hcd, z_w hE hini, hcn, z_na hpa, z_w hE hlink⟩, z_w hE hstt, trivial⟩ ⟨z_blind, fun U hU hW => ⟨rfl, by rw [hU]; exact hP, z_E_warm hE hU hS hW⟩⟩ rfl hna hl.1 hst (lv_room hcat) hdg ⟨hrm.2.2.1, hrm.2.2.2⟩) hS (fun q _ h => h) (fun q h => h) (fun r u t H1 locs1 ht hvm hw hB hz1 hk1 hS1 => ?_)
  obtain ⟨rfl, rfl⟩ := hw
  have hB : va_P D z_cl (z_W dA ad _) t.heap := hB
  rw [ht] at hB
  exact kk H1 locs1 ls hB hS1 hl

theorem x_callSNv (C : z_C dA ad k cc own d n) {y : MethodName} {bytes : ByteArray} {mx d2 na index : Nat} {av st0 : List Value} {M1 : z_M}  {host : String} (hM : z_CV y bytes mx d2 dA ad av M M1) (hm : z_ms y bytes mx none na) (hna : av.length = na) (hst : st0 = av.reverse ++ st) (hcat : (st.map fun v => v.category).sum ≤ 8) (hd : d2 + 1 ≤ d) (hlink : Cond.methodLinkNest own index y host ∈ z_T) (hdg : decode cc pc = .ok (.invokestatic index, 3)) (kk : z_X dA ad k (pc + 3) lv (st) M1) : z_X dA ad k pc lv (st0) M := by
  obtain ⟨p, l, e, R, s, m, args, below, meth, c, D, base, nL, cells, slots, Q⟩ := k
  obtain ⟨hx, hb, ⟨hml, rfl⟩, hown, hlk, hrm, hE⟩ := C
  intro H locs ls hP hS hl
  obtain ⟨hstt, hini, hcd, hcn, hpa, hmx⟩ := hm
  refine va_callv (va_runSN (Ts := []) (As := av) (rest := st) (n := na) ⟨hx, hb, hml, hown, fun w hw => by cases hw⟩ (hM l D base) ⟨⟨⟨rfl, rfl, by have := hrm.1; show d2 + 1 ≤ R.frames; omega, by have := hrm.2.1; have := hmx; show 8 + (mx + 11) + 40 * d2 ≤ R.locals; omega, fun w hw a2 U hW => by rw [List.mem_singleton.mp hw]; exact word_at hW (Or.inl rfl) (z_w (args := #[]) hE hcd), List.mem_singleton.mpr rfl⟩, z_w hE hcd, z_w hE hini, hcn, z_na hpa, z_w hE hlink⟩, z_w hE hstt, trivial⟩ ⟨z_blind, fun U hU hW => ⟨rfl, by rw [hU]; exact hP, z_E_warm hE hU hS hW⟩⟩ rfl hna hl.1 hst (lv_room hcat) hdg ⟨hrm.2.2.1, hrm.2.2.2⟩) hS (fun q _ h => h) (fun q h => h) (fun u t H1 locs1 ht hvm hw hB hz1 hk1 hS1 => ?_)
  subst hw
  have hB : va_P D z_cl (z_W dA ad _) t.heap := hB
  rw [ht] at hB
  exact kk H1 locs1 ls hB hS1 hl

theorem x_callVi (C : z_C dA ad k cc own d n) {y : MethodName} {bytes : ByteArray} {mx d2 na index : Nat} {av st0 : List Value} {M1 : z_M} {rt : FieldType} {r0 : Int32} {i ci N : Nat} {fs : List Value} {T : u_T} (hM : z_CI y bytes mx rt d2 dA ad (.ref (ad i) :: av) M r0 M1) (hm : z_mv y bytes mx (some rt) na) (hi : i < z_N) (hc : z_c dA ad i (M i) = .inr (ci, fs)) (hcl : z_cl[ci]? = some (y.cls, T, N)) (hna : av.length = na) (hst : st0 = av.reverse ++ .ref (ad i) :: st) (hcat : (st.map fun v => v.category).sum ≤ 8) (hd : d2 + 1 ≤ d) (hlink : Cond.methodLink own index y ∈ z_T) (hdg : decode cc pc = .ok (.invokevirtual index, 3)) (kk : z_X dA ad k (pc + 3) lv (.int r0 :: st) M1) : z_X dA ad k pc lv (st0) M := by
  obtain ⟨p, l, e, R, s, m, args, below, meth, c, D, base, nL, cells, slots, Q⟩ := k
  obtain ⟨hx, hb, ⟨hml, rfl⟩, hown, hlk, hrm, hE⟩ := C
  intro H locs ls hP hS hl
  obtain ⟨⟨hins, hsel⟩, hini, hcd, hcn, hpa, hmx⟩ := hm
  refine va_calli (va_runV (Ts := []) (As := av) (rest := st) (n := na) (C := y.cls) ⟨hx, hb, hml, hown, fun w hw => by cases hw⟩ (hM l D base) ⟨⟨rfl, rfl, by have := hrm.1; show d2 + 1 ≤ R.frames; omega, by have := hrm.2.1; have := hmx; show 8 + (mx + 11) + 40 * d2 ≤ R.locals; omega, fun w hw a2 U hW => by rw [List.mem_singleton.mp hw]; exact word_at hW (Or.inl rfl) (z_w (args := #[]) hE hcd), List.mem_singleton.mpr rfl, z_w hE hcd, z_w hE hini, hcn, z_na hpa, z_w hE hlink⟩, z_w hE hins, z_w hE hsel⟩ ⟨z_blind, va_recv (q := (y.cls, T, N)) hE.1 hP hcl (by rw [z_W_get hi, hc]), fun U hU hW => ⟨rfl, by rw [hU]; exact hP, z_E_warm hE hU hS hW⟩⟩ rfl hna hl.1 hst (lv_room hcat) hdg ⟨hrm.2.2.1, hrm.2.2.2⟩) hS (fun q _ h => h) (fun q h => h) (fun r u t H1 locs1 ht hvm hw hB hz1 hk1 hS1 => ?_)
  obtain ⟨rfl, rfl⟩ := hw
  have hB : va_P D z_cl (z_W dA ad _) t.heap := hB
  rw [ht] at hB
  exact kk H1 locs1 ls hB hS1 hl

theorem x_callVv (C : z_C dA ad k cc own d n) {y : MethodName} {bytes : ByteArray} {mx d2 na index : Nat} {av st0 : List Value} {M1 : z_M}  {i ci N : Nat} {fs : List Value} {T : u_T} (hM : z_CV y bytes mx d2 dA ad (.ref (ad i) :: av) M M1) (hm : z_mv y bytes mx none na) (hi : i < z_N) (hc : z_c dA ad i (M i) = .inr (ci, fs)) (hcl : z_cl[ci]? = some (y.cls, T, N)) (hna : av.length = na) (hst : st0 = av.reverse ++ .ref (ad i) :: st) (hcat : (st.map fun v => v.category).sum ≤ 8) (hd : d2 + 1 ≤ d) (hlink : Cond.methodLink own index y ∈ z_T) (hdg : decode cc pc = .ok (.invokevirtual index, 3)) (kk : z_X dA ad k (pc + 3) lv (st) M1) : z_X dA ad k pc lv (st0) M := by
  obtain ⟨p, l, e, R, s, m, args, below, meth, c, D, base, nL, cells, slots, Q⟩ := k
  obtain ⟨hx, hb, ⟨hml, rfl⟩, hown, hlk, hrm, hE⟩ := C
  intro H locs ls hP hS hl
  obtain ⟨⟨hins, hsel⟩, hini, hcd, hcn, hpa, hmx⟩ := hm
  refine va_callv (va_runV (Ts := []) (As := av) (rest := st) (n := na) (C := y.cls) ⟨hx, hb, hml, hown, fun w hw => by cases hw⟩ (hM l D base) ⟨⟨rfl, rfl, by have := hrm.1; show d2 + 1 ≤ R.frames; omega, by have := hrm.2.1; have := hmx; show 8 + (mx + 11) + 40 * d2 ≤ R.locals; omega, fun w hw a2 U hW => by rw [List.mem_singleton.mp hw]; exact word_at hW (Or.inl rfl) (z_w (args := #[]) hE hcd), List.mem_singleton.mpr rfl, z_w hE hcd, z_w hE hini, hcn, z_na hpa, z_w hE hlink⟩, z_w hE hins, z_w hE hsel⟩ ⟨z_blind, va_recv (q := (y.cls, T, N)) hE.1 hP hcl (by rw [z_W_get hi, hc]), fun U hU hW => ⟨rfl, by rw [hU]; exact hP, z_E_warm hE hU hS hW⟩⟩ rfl hna hl.1 hst (lv_room hcat) hdg ⟨hrm.2.2.1, hrm.2.2.2⟩) hS (fun q _ h => h) (fun q h => h) (fun u t H1 locs1 ht hvm hw hB hz1 hk1 hS1 => ?_)
  subst hw
  have hB : va_P D z_cl (z_W dA ad _) t.heap := hB
  rw [ht] at hB
  exact kk H1 locs1 ls hB hS1 hl

theorem x_callVNi (C : z_C dA ad k cc own d n) {y : MethodName} {bytes : ByteArray} {mx d2 na index : Nat} {av st0 : List Value} {M1 : z_M} {rt : FieldType} {r0 : Int32} {i ci N : Nat} {fs : List Value} {T : u_T} {host : String} (hM : z_CI y bytes mx rt d2 dA ad (.ref (ad i) :: av) M r0 M1) (hm : z_mv y bytes mx (some rt) na) (hi : i < z_N) (hc : z_c dA ad i (M i) = .inr (ci, fs)) (hcl : z_cl[ci]? = some (y.cls, T, N)) (hna : av.length = na) (hst : st0 = av.reverse ++ .ref (ad i) :: st) (hcat : (st.map fun v => v.category).sum ≤ 8) (hd : d2 + 1 ≤ d) (hlink : Cond.methodLinkNest own index y host ∈ z_T) (hdg : decode cc pc = .ok (.invokevirtual index, 3)) (kk : z_X dA ad k (pc + 3) lv (.int r0 :: st) M1) : z_X dA ad k pc lv (st0) M := by
  obtain ⟨p, l, e, R, s, m, args, below, meth, c, D, base, nL, cells, slots, Q⟩ := k
  obtain ⟨hx, hb, ⟨hml, rfl⟩, hown, hlk, hrm, hE⟩ := C
  intro H locs ls hP hS hl
  obtain ⟨⟨hins, hsel⟩, hini, hcd, hcn, hpa, hmx⟩ := hm
  refine va_calli (va_runVN (Ts := []) (As := av) (rest := st) (n := na) (C := y.cls) ⟨hx, hb, hml, hown, fun w hw => by cases hw⟩ (hM l D base) ⟨⟨⟨rfl, rfl, by have := hrm.1; show d2 + 1 ≤ R.frames; omega, by have := hrm.2.1; have := hmx; show 8 + (mx + 11) + 40 * d2 ≤ R.locals; omega, fun w hw a2 U hW => by rw [List.mem_singleton.mp hw]; exact word_at hW (Or.inl rfl) (z_w (args := #[]) hE hcd), List.mem_singleton.mpr rfl⟩, z_w hE hcd, z_w hE hini, hcn, z_na hpa, z_w hE hlink⟩, z_w hE hins, z_w hE hsel⟩ ⟨z_blind, va_recv (q := (y.cls, T, N)) hE.1 hP hcl (by rw [z_W_get hi, hc]), fun U hU hW => ⟨rfl, by rw [hU]; exact hP, z_E_warm hE hU hS hW⟩⟩ rfl hna hl.1 hst (lv_room hcat) hdg ⟨hrm.2.2.1, hrm.2.2.2⟩) hS (fun q _ h => h) (fun q h => h) (fun r u t H1 locs1 ht hvm hw hB hz1 hk1 hS1 => ?_)
  obtain ⟨rfl, rfl⟩ := hw
  have hB : va_P D z_cl (z_W dA ad _) t.heap := hB
  rw [ht] at hB
  exact kk H1 locs1 ls hB hS1 hl

theorem x_callVNv (C : z_C dA ad k cc own d n) {y : MethodName} {bytes : ByteArray} {mx d2 na index : Nat} {av st0 : List Value} {M1 : z_M}  {i ci N : Nat} {fs : List Value} {T : u_T} {host : String} (hM : z_CV y bytes mx d2 dA ad (.ref (ad i) :: av) M M1) (hm : z_mv y bytes mx none na) (hi : i < z_N) (hc : z_c dA ad i (M i) = .inr (ci, fs)) (hcl : z_cl[ci]? = some (y.cls, T, N)) (hna : av.length = na) (hst : st0 = av.reverse ++ .ref (ad i) :: st) (hcat : (st.map fun v => v.category).sum ≤ 8) (hd : d2 + 1 ≤ d) (hlink : Cond.methodLinkNest own index y host ∈ z_T) (hdg : decode cc pc = .ok (.invokevirtual index, 3)) (kk : z_X dA ad k (pc + 3) lv (st) M1) : z_X dA ad k pc lv (st0) M := by
  obtain ⟨p, l, e, R, s, m, args, below, meth, c, D, base, nL, cells, slots, Q⟩ := k
  obtain ⟨hx, hb, ⟨hml, rfl⟩, hown, hlk, hrm, hE⟩ := C
  intro H locs ls hP hS hl
  obtain ⟨⟨hins, hsel⟩, hini, hcd, hcn, hpa, hmx⟩ := hm
  refine va_callv (va_runVN (Ts := []) (As := av) (rest := st) (n := na) (C := y.cls) ⟨hx, hb, hml, hown, fun w hw => by cases hw⟩ (hM l D base) ⟨⟨⟨rfl, rfl, by have := hrm.1; show d2 + 1 ≤ R.frames; omega, by have := hrm.2.1; have := hmx; show 8 + (mx + 11) + 40 * d2 ≤ R.locals; omega, fun w hw a2 U hW => by rw [List.mem_singleton.mp hw]; exact word_at hW (Or.inl rfl) (z_w (args := #[]) hE hcd), List.mem_singleton.mpr rfl⟩, z_w hE hcd, z_w hE hini, hcn, z_na hpa, z_w hE hlink⟩, z_w hE hins, z_w hE hsel⟩ ⟨z_blind, va_recv (q := (y.cls, T, N)) hE.1 hP hcl (by rw [z_W_get hi, hc]), fun U hU hW => ⟨rfl, by rw [hU]; exact hP, z_E_warm hE hU hS hW⟩⟩ rfl hna hl.1 hst (lv_room hcat) hdg ⟨hrm.2.2.1, hrm.2.2.2⟩) hS (fun q _ h => h) (fun q h => h) (fun u t H1 locs1 ht hvm hw hB hz1 hk1 hS1 => ?_)
  subst hw
  have hB : va_P D z_cl (z_W dA ad _) t.heap := hB
  rw [ht] at hB
  exact kk H1 locs1 ls hB hS1 hl

end ZL
