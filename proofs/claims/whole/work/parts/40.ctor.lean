/-! ===== constructors: worlds that grow ===== -/
def z_AC (U : State) : Prop := (Cond.arrayClass .int).before #[] U = true ∧ (Cond.arrayClass .boolean).before #[] U = true ∧ va_AO "CellTransport$Surface" U ∧ va_AO "CellTransport$Cell" U ∧ (Cond.arrayOver (.array .int)).before #[] U = true
theorem z_AC_warm {s U : State} (hW : s.WarmedH U.vm) (h : z_AC s) : z_AC U := by
  obtain ⟨h1, h2, h3, h4, h5⟩ := h
  refine ⟨word_at hW (Or.inr ⟨_, rfl⟩) h1, word_at hW (Or.inr ⟨_, rfl⟩) h2, va_AO.moved hW.alike h3, va_AO.moved hW.alike h4, ?_⟩
  exact over_moved hW.alike h5
def z_E0 (dA : Nat → ClassId) (D : va_G) (U : State) : Prop := va_K D z_cl (z_tys dA) U ∧ (∀ w ∈ z_T, va_Nw w U) ∧ z_AC U
theorem z_E0_warm {dA : Nat → ClassId} {D : va_G} {s U : State} (h : z_E0 dA D s) (hW : s.WarmedH U.vm) : z_E0 dA D U := by
  refine ⟨va_K.moved hW.alike h.1, fun w hw => ?_, z_AC_warm hW h.2.2⟩
  have hu := (List.mem_filter.mp hw).2
  unfold z_use at hu
  rw [Bool.and_eq_true] at hu
  exact Cond.onTables_warmH (T := U) hW hu.1 hu.2 (h.2.1 w hw)
theorem z_E0_same {dA : Nat → ClassId} {D : va_G} {U U2 : State} (hv : U.vm = U2.vm) (h : z_E0 dA D U) : z_E0 dA D U2 := by
  have ha : U.vm.Alike U2.vm := hv ▸ Vm.Alike.refl U.vm
  obtain ⟨h1, h2, h3, h4, h5, h6, h7⟩ := h
  refine ⟨va_K.moved ha h1, fun w hw => ?_, ?_, ?_, va_AO.moved ha h5, va_AO.moved ha h6, ?_⟩
  · have hu := (List.mem_filter.mp hw).2
    unfold z_use at hu
    rw [Bool.and_eq_true] at hu
    exact va_Nw.same hu.1 hv (h2 w hw)
  · have e : ∀ V : Vm, (Cond.arrayClass .int).before #[] (U.setVm V) = (Cond.arrayClass .int).before #[] (U2.setVm V) := fun V => rfl
    have e2 := e U.vm
    have f1 : U.setVm U.vm = U := rfl
    have f2 : U2.setVm U.vm = U2 := by rw [hv]; rfl
    rw [f1, f2] at e2
    rw [← e2]; exact h3
  · have e : ∀ V : Vm, (Cond.arrayClass .boolean).before #[] (U.setVm V) = (Cond.arrayClass .boolean).before #[] (U2.setVm V) := fun V => rfl
    have e2 := e U.vm
    have f1 : U.setVm U.vm = U := rfl
    have f2 : U2.setVm U.vm = U2 := by rw [hv]; rfl
    rw [f1, f2] at e2
    rw [← e2]; exact h4
  · exact over_moved ha h7
theorem z_w0 {dA : Nat → ClassId} {D : va_G} {s : State} (h : z_E0 dA D s) {w : Cond} (hw : w ∈ z_T) {args : Array Value} : w.before args s = true := by
  have hu := (List.mem_filter.mp hw).2
  unfold z_use at hu
  rw [Bool.and_eq_true] at hu
  exact va_Nw.use hu.1 (h.2.1 w hw)
def y_X (k : z_K) (A : Nat → Prop) (pc : Nat) (lv : List (Option Value)) (st : List Value) (ws : va_W) (c0 s0 : Nat) : Prop := match k with
  | (p, l, e, R, s, m, args, below, meth, c, D, _, nL, _, _, Q) => ∀ (H : Heap) (locs : List Loc) (ls : Array Slot), va_P D z_cl ws H → va_D A ws → va_S A s.heap H locs → lv_has ls nL (z_l lv) → W p l e R s m args below meth c H locs c0 s0 Q (F0 m pc ls st)
def y_C (dA : Nat → ClassId) (k : z_K) (A : Nat → Prop) (cc : ByteArray) (own : String) (d n mc ms : Nat) : Prop := match k with
  | (p, l, e, R, s, m, args, below, meth, c, D, _, nL, _, _, Q) => p.tables.exec = Jvm.exec ∧ c.code = cc ∧ (c.maxLocals = nL ∧ nL = n) ∧ s.vm.findClass own = some m.cls ∧ meth.locks = false ∧ (d ≤ R.frames ∧ 40 * d ≤ R.locals ∧ mc ≤ R.cells ∧ ms ≤ R.slots) ∧ z_E0 dA D s ∧ (∀ q, s.heap.size ≤ q → A q)
def y_init (k : z_K) : Prop := match k with
  | (_, _, _, _, _, _, _, _, meth, _, _, _, _, _, _, _) => meth.name = "<init>"
theorem y_join {A0 : Nat → Prop} {D : va_G} {wr w1 : va_W} {q : Nat} {e : va_E} {H H1 : Heap} (hP : va_P D z_cl (wr ++ [(q, e)]) H) (hD : va_D A0 (wr ++ [(q, e)])) (hk : ∀ x : Nat, x < H.size → ¬ va_A [(q, e)] H.size x → H1[x]? = H[x]?) (hF : ∀ x, va_A [(q, e)] H.size x → A0 x) (hP1 : va_P D z_cl w1 H1) (hD1 : va_D (va_A [(q, e)] H.size) w1) : va_P D z_cl (wr ++ w1) H1 ∧ va_D A0 (wr ++ w1) := by
  have left : ∀ (i : Nat) (x : Nat × va_E), wr[i]? = some x → i < wr.length ∧ (wr ++ [(q, e)])[i]? = some x := by
    intro i x hx
    have hl := (List.getElem?_eq_some_iff.mp hx).1
    exact ⟨hl, by rw [List.getElem?_append_left hl]; exact hx⟩
  have last : (wr ++ [(q, e)])[wr.length]? = some (q, e) := by simp
  have apart : ∀ (i : Nat) (x : Nat × va_E), wr[i]? = some x → x.1 < H.size ∧ ¬ va_A [(q, e)] H.size x.1 := by
    intro i x hx
    obtain ⟨hl, h2⟩ := left i x hx
    have hlt := (hP i x h2).lt
    refine ⟨hlt, fun h => ?_⟩
    rcases h with ⟨k2, e2, h⟩ | h
    · have hk2 : k2 < 1 := (List.getElem?_eq_some_iff.mp h).1
      rw [show k2 = 0 by omega] at h
      have hq : q = x.1 := congrArg Prod.fst (Option.some.inj h)
      have := hD.1 i wr.length x (q, e) h2 last hq.symm
      omega
    · omega
  refine ⟨va_P.app (fun i x hx => ?_) hP1, va_D.app ⟨fun i j x y hx hy hxy => hD.1 i j x y (left i x hx).2 (left j y hy).2 hxy, fun i x hx => hD.2 i x (left i x hx).2⟩ (hD1.weaken (fun i x _ h => hF x.1 h)) (fun i j x y hx hy hxy => ?_)⟩
  · obtain ⟨g1, g2⟩ := apart i x hx
    exact (hP i x (left i x hx).2).kept (hk x.1 g1 g2)
  · exact (apart i x hx).2 (by rw [hxy]; exact hD1.2 j y hy)
/-- a constructor's contract: from one cell with its defaults to the cells that it leaves -/
def z_CT (y : MethodName) (bytes : ByteArray) (mx d mc ms : Nat) (dA : Nat → ClassId) (dflt : va_E) {S : Type} (res : Nat → S → va_W) : Prop :=
  ∀ (l : Launch) (D : va_G) (h0 sz : Nat), Met l y [Cond.code y bytes mx none] { frames := d, cells := mc, slots := ms, locals := 40 * d } (va_Pc [.ref h0] (fun U => U.heap.size = sz ∧ va_P D z_cl [(h0, dflt)] U.heap ∧ z_E0 dA D U)) (va_Qv (fun (_ : S) => True) (fun u t => va_P D z_cl (res h0 u) t.heap ∧ va_D (va_A [(h0, dflt)] sz) (res h0 u)) (va_A [(h0, dflt)] sz)) mc ms (va_A [(h0, dflt)] sz)
def y_R {S : Type} (k : z_K) (A : Nat → Prop) (res : S → va_W) (mc ms : Nat) : Prop := match k with
  | (_, _, _, _, s, _, args, below, meth, _, D, _, _, _, _, Q) => meth.sig.returnType = none ∧ Q = MQ below (va_Qv (fun (_ : S) => True) (fun u t => va_P D z_cl (res u) t.heap ∧ va_D A (res u)) A) args s mc ms A
theorem y_of {y : MethodName} {bytes : ByteArray} {mx d mc ms : Nat} {dA : Nat → ClassId} {dflt : va_E} {S : Type} {res : Nat → S → va_W} (hy : plainName y.cls = true) (hnm : y.name = "<init>") (h1 : 1 ≤ mx) (lv0 : List (Option Value)) (hlv : ∀ h0 : Nat, lv_args 0 [.ref h0] = z_l (some (.ref h0) :: lv0))
    (body : ∀ (k : z_K) (A : Nat → Prop) (h0 : Nat), y_C dA k A bytes y.cls d mx mc ms → y_init k → y_R k A (res h0) mc ms → y_X k A 0 (some (.ref h0) :: lv0) [] [(h0, dflt)] 0 0) : z_CT y bytes mx d mc ms dA dflt res := by
  intro l D h0 sz
  refine Met.ofW (cc := bytes) (maxL := mx) (ret := none) hy rfl ?_
  intro p e s m args below meth c s₁ B hml hv
  obtain ⟨rfl, hsz, hP, hE⟩ := hv
  subst hsz
  have hl := lv_entry [.ref h0] (n := mx) h1
  rw [lg_entry_eq]
  rw [hlv h0] at hl
  have hD : va_D (va_A [(h0, dflt)] s.heap.size) [(h0, dflt)] := by
    refine ⟨fun i j x y hx hy _ => ?_, fun i x hx => va_A.in hx⟩
    have a1 : i < 1 := (List.getElem?_eq_some_iff.mp hx).1
    have a2 : j < 1 := (List.getElem?_eq_some_iff.mp hy).1
    omega
  exact body (p, l, e, _, s, m, _, below, meth, c, D, 0, mx, 0, 0, _) (va_A [(h0, dflt)] s.heap.size) h0 ⟨B.exec, B.bytes, ⟨hml, rfl⟩, findClass_of_methodNamed B.named, B.notSynchronized, ⟨Nat.le_refl _, Nat.le_refl _, Nat.le_refl _, Nat.le_refl _⟩, hE, fun q h => Or.inr h⟩ ((name_of_methodNamed B.named B.method).1.trans hnm) ⟨B.returns, rfl⟩ s.heap [] _ hP hD va_S.rf hl
section YL
variable {dA : Nat → ClassId} {k : z_K} {A : Nat → Prop} {cc : ByteArray} {own : String} {d n mc ms pc c0 s0 : Nat} {lv : List (Option Value)} {st : List Value} {ws : va_W}
theorem y_iconst (C : y_C dA k A cc own d n mc ms) {n2 : Int} (v : Int32) (hdg : decode cc pc = .ok (.iconst n2, 1)) (hv : Int32.ofInt n2 = v) (kk : y_X k A (pc + 1) lv (.int v :: st) (ws) c0 s0) : y_X k A pc lv (st) (ws) c0 s0 := by
  obtain ⟨p, l, e, R, s, m, args, below, meth, c, D, base, nL, cells, slots, Q⟩ := k
  obtain ⟨hx, hb, ⟨hml, rfl⟩, hown, hlk, hrm, hE, hA⟩ := C
  intro H locs ls hP hD hS hl
  exact lv_iconst hx hb hdg hv (kk H locs ls hP hD hS hl)

theorem y_bipush (C : y_C dA k A cc own d n mc ms) {n2 : Int} (v : Int32) (hdg : decode cc pc = .ok (.bipush n2, 2)) (hv : (Int8.ofInt n2).toInt32 = v) (kk : y_X k A (pc + 2) lv (.int v :: st) (ws) c0 s0) : y_X k A pc lv (st) (ws) c0 s0 := by
  obtain ⟨p, l, e, R, s, m, args, below, meth, c, D, base, nL, cells, slots, Q⟩ := k
  obtain ⟨hx, hb, ⟨hml, rfl⟩, hown, hlk, hrm, hE, hA⟩ := C
  intro H locs ls hP hD hS hl
  exact lv_bipush hx hb hdg hv (kk H locs ls hP hD hS hl)

theorem y_lconst (C : y_C dA k A cc own d n mc ms) {n2 : Fin 2} (v : Int64) (hdg : decode cc pc = .ok (.lconst n2, 1)) (hv : Int64.ofNat (n2 : Nat) = v) (kk : y_X k A (pc + 1) lv (.long v :: st) (ws) c0 s0) : y_X k A pc lv (st) (ws) c0 s0 := by
  obtain ⟨p, l, e, R, s, m, args, below, meth, c, D, base, nL, cells, slots, Q⟩ := k
  obtain ⟨hx, hb, ⟨hml, rfl⟩, hown, hlk, hrm, hE, hA⟩ := C
  intro H locs ls hP hD hS hl
  exact lv_lconst hx hb hdg hv (kk H locs ls hP hD hS hl)

theorem y_iload_n (C : y_C dA k A cc own d n mc ms) {n4 : Fin 4} {i : Nat} {x : Int32} (hdg : decode cc pc = .ok (.iload_n n4, 1)) (hi : (n4 : Nat) = i) (hv : z_rd lv i = some (.int x)) (kk : y_X k A (pc + 1) lv (.int x :: st) (ws) c0 s0) : y_X k A pc lv (st) (ws) c0 s0 := by
  obtain ⟨p, l, e, R, s, m, args, below, meth, c, D, base, nL, cells, slots, Q⟩ := k
  obtain ⟨hx, hb, ⟨hml, rfl⟩, hown, hlk, hrm, hE, hA⟩ := C
  intro H locs ls hP hD hS hl
  exact lv_iload_n hx hb hdg hi (z_at hl hv) (kk H locs ls hP hD hS hl)

theorem y_istore_n (C : y_C dA k A cc own d n mc ms) {n4 : Fin 4} {i : Nat} {x : Int32} (hdg : decode cc pc = .ok (.istore_n n4, 1)) (hi : (n4 : Nat) = i) (hbd : z_bd lv i n = true) (kk : y_X k A (pc + 1) (lv.set i (some (.int x))) (st) (ws) c0 s0) : y_X k A pc lv (.int x :: st) (ws) c0 s0 := by
  obtain ⟨p, l, e, R, s, m, args, below, meth, c, D, base, nL, cells, slots, Q⟩ := k
  obtain ⟨hx, hb, ⟨hml, rfl⟩, hown, hlk, hrm, hE, hA⟩ := C
  intro H locs ls hP hD hS hl
  exact lv_istore_n hx hb hdg hi hl (z_bd_of hbd).1 rfl (fun ls2 hl2 => kk H locs ls2 hP hD hS (z_l_store (z_bd_of hbd).2.1 (z_bd_of hbd).2.2 hl2))

theorem y_aload_n (C : y_C dA k A cc own d n mc ms) {n4 : Fin 4} {i : Nat} {x : Nat} (hdg : decode cc pc = .ok (.aload_n n4, 1)) (hi : (n4 : Nat) = i) (hv : z_rd lv i = some (.ref x)) (kk : y_X k A (pc + 1) lv (.ref x :: st) (ws) c0 s0) : y_X k A pc lv (st) (ws) c0 s0 := by
  obtain ⟨p, l, e, R, s, m, args, below, meth, c, D, base, nL, cells, slots, Q⟩ := k
  obtain ⟨hx, hb, ⟨hml, rfl⟩, hown, hlk, hrm, hE, hA⟩ := C
  intro H locs ls hP hD hS hl
  exact lv_aload_n hx hb hdg hi (z_at hl hv) (kk H locs ls hP hD hS hl)

theorem y_astore_n (C : y_C dA k A cc own d n mc ms) {n4 : Fin 4} {i : Nat} {x : Nat} (hdg : decode cc pc = .ok (.astore_n n4, 1)) (hi : (n4 : Nat) = i) (hbd : z_bd lv i n = true) (kk : y_X k A (pc + 1) (lv.set i (some (.ref x))) (st) (ws) c0 s0) : y_X k A pc lv (.ref x :: st) (ws) c0 s0 := by
  obtain ⟨p, l, e, R, s, m, args, below, meth, c, D, base, nL, cells, slots, Q⟩ := k
  obtain ⟨hx, hb, ⟨hml, rfl⟩, hown, hlk, hrm, hE, hA⟩ := C
  intro H locs ls hP hD hS hl
  exact lv_astore_n hx hb hdg hi hl (z_bd_of hbd).1 rfl (fun ls2 hl2 => kk H locs ls2 hP hD hS (z_l_store (z_bd_of hbd).2.1 (z_bd_of hbd).2.2 hl2))

theorem y_iinc (C : y_C dA k A cc own d n mc ms) {i : Nat} {z : Int} {x : Int32} (v : Int32) (hdg : decode cc pc = .ok (.iinc i z, 3)) (hr : z_rd lv i = some (.int x)) (hv : x + Int32.ofInt z = v) (hbd : z_bd lv i n = true) (kk : y_X k A (pc + 3) (lv.set i (some (.int v))) (st) (ws) c0 s0) : y_X k A pc lv (st) (ws) c0 s0 := by
  obtain ⟨p, l, e, R, s, m, args, below, meth, c, D, base, nL, cells, slots, Q⟩ := k
  obtain ⟨hx, hb, ⟨hml, rfl⟩, hown, hlk, hrm, hE, hA⟩ := C
  intro H locs ls hP hD hS hl
  obtain ⟨q, hq⟩ := z_place hr
  exact lv_iinc hx hb hdg hl hq hv (z_bd_of hbd).1 rfl (fun ls2 hl2 => kk H locs ls2 hP hD hS (z_l_store (z_bd_of hbd).2.1 (z_bd_of hbd).2.2 hl2))

theorem y_dup (C : y_C dA k A cc own d n mc ms) {va : Value} (hdg : decode cc pc = .ok (.dup, 1)) (hva : va.category = 1) (kk : y_X k A (pc + 1) lv (va :: va :: st) (ws) c0 s0) : y_X k A pc lv (va :: st) (ws) c0 s0 := by
  obtain ⟨p, l, e, R, s, m, args, below, meth, c, D, base, nL, cells, slots, Q⟩ := k
  obtain ⟨hx, hb, ⟨hml, rfl⟩, hown, hlk, hrm, hE, hA⟩ := C
  intro H locs ls hP hD hS hl
  exact lv_dup hx hb hdg hva (kk H locs ls hP hD hS hl)

theorem y_goto (C : y_C dA k A cc own d n mc ms) {off : Int} (tgt : Nat) (hdg : decode cc pc = .ok (.goto off, 3)) (ht : (pc : Int) + off = (tgt : Int)) (kk : y_X k A tgt lv (st) (ws) c0 s0) : y_X k A pc lv (st) (ws) c0 s0 := by
  obtain ⟨p, l, e, R, s, m, args, below, meth, c, D, base, nL, cells, slots, Q⟩ := k
  obtain ⟨hx, hb, ⟨hml, rfl⟩, hown, hlk, hrm, hE, hA⟩ := C
  intro H locs ls hP hD hS hl
  exact lv_goto hx hb hdg ht (kk H locs ls hP hD hS hl)

theorem y_icmp_ge (C : y_C dA k A cc own d n mc ms) {x y : Int32} {off : Int} (tgt : Nat) (hdg : decode cc pc = .ok (.if_icmp .ge off, 3)) (ht : (pc : Int) + off = (tgt : Int)) (kt : y ≤ x → y_X k A tgt lv (st) (ws) c0 s0) (kf : ¬ y ≤ x → y_X k A (pc + 3) lv (st) (ws) c0 s0) : y_X k A pc lv (.int y :: .int x :: st) (ws) c0 s0 := by
  obtain ⟨p, l, e, R, s, m, args, below, meth, c, D, base, nL, cells, slots, Q⟩ := k
  obtain ⟨hx, hb, ⟨hml, rfl⟩, hown, hlk, hrm, hE, hA⟩ := C
  intro H locs ls hP hD hS hl
  exact lv_icmp_ge hx hb hdg ht (fun q => kt q H locs ls hP hD hS hl) (fun q => kf q H locs ls hP hD hS hl)

theorem y_obj (C : y_C dA k A cc own d n mc ms) {idx a : Nat} (hl1 : Cond.methodLink own idx Lib.objectInit ∈ z_T) (hl2 : Cond.instanceMethod Lib.objectInit ∈ z_T) (hl3 : Cond.code Lib.objectInit ⟨#[0xb1]⟩ 1 none ∈ z_T) (hd : 1 ≤ d) (hcat : (st.map fun v => v.category).sum ≤ 8) (hdg : decode cc pc = .ok (.invokespecial idx, 3)) (kk : y_X k A (pc + 3) lv (st) (ws) c0 s0) : y_X k A pc lv (.ref a :: st) (ws) c0 s0 := by
  obtain ⟨p, l, e, R, s, m, args, below, meth, c, D, base, nL, cells, slots, Q⟩ := k
  obtain ⟨hx, hb, ⟨hml, rfl⟩, hown, hlk, hrm, hE, hA⟩ := C
  intro H locs ls hP hD hS hl
  have hr := lv_room (m := m) (pc := pc) (ls := ls) (rest := .ref a :: st) hcat
  exact W.objInit hx hb hown (z_w0 hE hl1) (z_w0 hE hl2) (z_w0 hE hl3) (g := F0 m pc ls (.ref a :: st)) rfl (hl.1.trans hml.symm) rfl hdg (by have := hrm.1; omega) (by have := hrm.2.1; omega) (kk H locs ls hP hD hS hl)

theorem y_new (C : y_C dA k A cc own d n mc ms) {ci index N : Nat} {Cn : String} {T : u_T} (ty0 : Nat → FieldType) (fs : List Value) (hcl : z_cl[ci]? = some (Cn, T, N)) (hlay : ∀ w ∈ u_ws Cn T N, w ∈ z_T) (hty : ∀ q, q < N → parseFieldDescriptor (T q).2.2.1 = some (ty0 q)) (hl1 : Cond.classLink own index Cn ∈ z_T) (hl2 : Cond.instantiable Cn N ∈ z_T) (hl3 : Cond.initialized Cn ∈ z_T) (hfs : ∀ j, j < N → defaultValue (ty0 j) = vp_V fs j) (hc : c0 + 1 ≤ mc) (hs : s0 + N ≤ ms) (hdg : decode cc pc = .ok (.new index, 3)) (kk : ∀ q : Nat, y_X k A (pc + 3) lv (.ref q :: st) (ws ++ [(q, .inr (ci, fs))]) (c0 + 1) (s0 + N)) : y_X k A pc lv (st) (ws) c0 s0 := by
  obtain ⟨p, l, e, R, s, m, args, below, meth, c, D, base, nL, cells, slots, Q⟩ := k
  obtain ⟨hx, hb, ⟨hml, rfl⟩, hown, hlk, hrm, hE, hA⟩ := C
  intro H locs ls hP hD hS hl
  exact va_new (Ts := z_T) hx hb (fun w hw => z_w0 hE hw) hlay ty0 hty hown (z_w0 hE hl1) (z_w0 hE hl2) (z_w0 hE hl3) hE.1 hP hD hS hA hcl hfs (by have := hrm.2.2.1; omega) (by have := hrm.2.2.2; omega) hdg (fun q H1 hP1 hD1 hS1 => kk q H1 locs ls hP1 hD1 hS1 hl)

theorem y_newi (C : y_C dA k A cc own d n mc ms) {nn : Int32} (N : Nat) (hn : ¬ nn < 0) (hN : nn.toNatClampNeg = N) (hbt : N * 4 ≤ 536870912) (hc : c0 + 1 ≤ mc) (hs : s0 + N ≤ ms) (hdg : decode cc pc = .ok (.newarray .int, 2)) (kk : ∀ q : Nat, y_X k A (pc + 2) lv (.ref q :: st) (ws ++ [(q, .inl (dA 0, N, .inl (fun _ => 0)))]) (c0 + 1) (s0 + N)) : y_X k A pc lv (.int nn :: st) (ws) c0 s0 := by
  obtain ⟨p, l, e, R, s, m, args, below, meth, c, D, base, nL, cells, slots, Q⟩ := k
  obtain ⟨hx, hb, ⟨hml, rfl⟩, hown, hlk, hrm, hE, hA⟩ := C
  intro H locs ls hP hD hS hl
  have r1 : c0 + 1 ≤ R.cells := by have := hrm.2.2.1; omega
  have r2 : s0 + N ≤ R.slots := by have := hrm.2.2.2; omega
  refine va_newa (atype := .int) (ty := .int) (a0 := (N, .inl (fun _ => 0))) hx hb (show (Cond.arrayClass .int).before args s = true from hE.2.2.1) rfl hE.1 hP hD hS hA (fun cA => rfl) hn hN (by show N * 4 ≤ 536870912; omega) r1 r2 hdg (fun q cA H1 hK1 hP1 hD1 hS1 => ?_)
  have e1 := (hK1.2 (z_tys dA).length (cA, .int) (by simp)).2
  have e2 := (hE.1.2 0 (dA 0, .int) rfl).2
  have e : cA = dA 0 := Option.some.inj (e1.symm.trans e2)
  subst e
  exact kk q H1 locs ls hP1 hD1 hS1 hl

theorem y_newz (C : y_C dA k A cc own d n mc ms) {nn : Int32} (N : Nat) (hn : ¬ nn < 0) (hN : nn.toNatClampNeg = N) (hbt : N * 4 ≤ 536870912) (hc : c0 + 1 ≤ mc) (hs : s0 + N ≤ ms) (hdg : decode cc pc = .ok (.newarray .boolean, 2)) (kk : ∀ q : Nat, y_X k A (pc + 2) lv (.ref q :: st) (ws ++ [(q, .inl (dA 4, N, .inl (fun _ => 0)))]) (c0 + 1) (s0 + N)) : y_X k A pc lv (.int nn :: st) (ws) c0 s0 := by
  obtain ⟨p, l, e, R, s, m, args, below, meth, c, D, base, nL, cells, slots, Q⟩ := k
  obtain ⟨hx, hb, ⟨hml, rfl⟩, hown, hlk, hrm, hE, hA⟩ := C
  intro H locs ls hP hD hS hl
  have r1 : c0 + 1 ≤ R.cells := by have := hrm.2.2.1; omega
  have r2 : s0 + N ≤ R.slots := by have := hrm.2.2.2; omega
  refine va_newa (atype := .boolean) (ty := .boolean) (a0 := (N, .inl (fun _ => 0))) hx hb (show (Cond.arrayClass .boolean).before args s = true from hE.2.2.2.1) rfl hE.1 hP hD hS hA (fun cA => rfl) hn hN (by show N * 1 ≤ 536870912; omega) r1 r2 hdg (fun q cA H1 hK1 hP1 hD1 hS1 => ?_)
  have e1 := (hK1.2 (z_tys dA).length (cA, .boolean) (by simp)).2
  have e2 := (hE.1.2 4 (dA 4, .boolean) rfl).2
  have e : cA = dA 4 := Option.some.inj (e1.symm.trans e2)
  subst e
  exact kk q H1 locs ls hP1 hD1 hS1 hl

theorem y_newS (C : y_C dA k A cc own d n mc ms) {nn : Int32} {index : Nat} (N : Nat) (hn : ¬ nn < 0) (hN : nn.toNatClampNeg = N) (hbt : N * 4 ≤ 536870912) (hc : c0 + 1 ≤ mc) (hs : s0 + N ≤ ms) (hl1 : Cond.classLink own index "CellTransport$Surface" ∈ z_T) (hdg : decode cc pc = .ok (.anewarray index, 3)) (kk : ∀ q : Nat, y_X k A (pc + 3) lv (.ref q :: st) (ws ++ [(q, .inl (dA 1, N, .inr (.inr (.inr (.inr (fun _ => none))))))]) (c0 + 1) (s0 + N)) : y_X k A pc lv (.int nn :: st) (ws) c0 s0 := by
  obtain ⟨p, l, e, R, s, m, args, below, meth, c, D, base, nL, cells, slots, Q⟩ := k
  obtain ⟨hx, hb, ⟨hml, rfl⟩, hown, hlk, hrm, hE, hA⟩ := C
  intro H locs ls hP hD hS hl
  have r1 : c0 + 1 ≤ R.cells := by have := hrm.2.2.1; omega
  have r2 : s0 + N ≤ R.slots := by have := hrm.2.2.2; omega
  refine va_newq hx hb hown (z_w0 hE hl1) hE.2.2.2.2.1 hE.1 hP hD hS hA hn hN hbt r1 r2 hdg (fun q cA H1 hK1 hP1 hD1 hS1 => ?_)
  obtain ⟨_, _, _, _, _, e1⟩ := (hK1.2 (z_tys dA).length (cA, .object "CellTransport$Surface") (by simp)).2
  obtain ⟨_, _, _, _, _, e2⟩ := (hE.1.2 1 (dA 1, .object "CellTransport$Surface") rfl).2
  have e : cA = dA 1 := Option.some.inj (e1.symm.trans e2)
  subst e
  exact kk q H1 locs ls hP1 hD1 hS1 hl

theorem y_newC (C : y_C dA k A cc own d n mc ms) {nn : Int32} {index : Nat} (N : Nat) (hn : ¬ nn < 0) (hN : nn.toNatClampNeg = N) (hbt : N * 4 ≤ 536870912) (hc : c0 + 1 ≤ mc) (hs : s0 + N ≤ ms) (hl1 : Cond.classLink own index "CellTransport$Cell" ∈ z_T) (hdg : decode cc pc = .ok (.anewarray index, 3)) (kk : ∀ q : Nat, y_X k A (pc + 3) lv (.ref q :: st) (ws ++ [(q, .inl (dA 2, N, .inr (.inr (.inr (.inr (fun _ => none))))))]) (c0 + 1) (s0 + N)) : y_X k A pc lv (.int nn :: st) (ws) c0 s0 := by
  obtain ⟨p, l, e, R, s, m, args, below, meth, c, D, base, nL, cells, slots, Q⟩ := k
  obtain ⟨hx, hb, ⟨hml, rfl⟩, hown, hlk, hrm, hE, hA⟩ := C
  intro H locs ls hP hD hS hl
  have r1 : c0 + 1 ≤ R.cells := by have := hrm.2.2.1; omega
  have r2 : s0 + N ≤ R.slots := by have := hrm.2.2.2; omega
  refine va_newq hx hb hown (z_w0 hE hl1) hE.2.2.2.2.2.1 hE.1 hP hD hS hA hn hN hbt r1 r2 hdg (fun q cA H1 hK1 hP1 hD1 hS1 => ?_)
  obtain ⟨_, _, _, _, _, e1⟩ := (hK1.2 (z_tys dA).length (cA, .object "CellTransport$Cell") (by simp)).2
  obtain ⟨_, _, _, _, _, e2⟩ := (hE.1.2 2 (dA 2, .object "CellTransport$Cell") rfl).2
  have e : cA = dA 2 := Option.some.inj (e1.symm.trans e2)
  subst e
  exact kk q H1 locs ls hP1 hD1 hS1 hl

theorem y_put (C : y_C dA k A cc own d n mc ms) {ci j index N a : Nat} {fs : List Value} {Cn ref : String} {T : u_T} {v : Value} (i : Nat) (hi : ws[i]? = some (a, .inr (ci, fs))) (hcl : z_cl[ci]? = some (Cn, T, N)) (hlay : ∀ w ∈ u_ws Cn T N, w ∈ z_T) (hj : j < N) (href : (T j).1 = ref) (ty0 : Nat → FieldType) (hty : ∀ q, q < N → parseFieldDescriptor (T q).2.2.1 = some (ty0 q)) (hnm : ∀ a, a < N → ∀ b, b < N → a ≠ b → (T a).2.1 ≠ (T b).2.1) (hn : narrow (ty0 j) v = v) (hfit : fits (ty0 j) v = true) (hln : j < fs.length) (hlink : Cond.fieldLink own index ref (T j).2.1 (T j).2.2.1 ∈ z_T) (hdg : decode cc pc = .ok (.putfield index, 3)) (hfin : (T j).2.2.2 = false) (kk : y_X k A (pc + 3) lv (st) (ws.set i (a, .inr (ci, fs.set j v))) c0 s0) : y_X k A pc lv (v :: .ref a :: st) (ws) c0 s0 := by
  obtain ⟨p, l, e, R, s, m, args, below, meth, c, D, base, nL, cells, slots, Q⟩ := k
  obtain ⟨hx, hb, ⟨hml, rfl⟩, hown, hlk, hrm, hE, hA⟩ := C
  intro H locs ls hP hD hS hl
  exact va_put (Ts := z_T) hx hb (fun w hw => z_w0 hE hw) hlay ty0 hty hnm hown hE.1 hP hD hS i hi hcl j hj (z_w0 hE hlink) (fun _ h9 => by rw [← href]; exact h9) hfin (hty j hj) hn hfit hln hdg (fun H1 locs1 hP1 hD1 hS1 => kk H1 locs1 ls hP1 hD1 hS1 hl)

theorem y_putF (C : y_C dA k A cc own d n mc ms) {ci j index N a : Nat} {fs : List Value} {Cn ref : String} {T : u_T} {v : Value} (i : Nat) (hi : ws[i]? = some (a, .inr (ci, fs))) (hcl : z_cl[ci]? = some (Cn, T, N)) (hlay : ∀ w ∈ u_ws Cn T N, w ∈ z_T) (hj : j < N) (href : (T j).1 = ref) (ty0 : Nat → FieldType) (hty : ∀ q, q < N → parseFieldDescriptor (T q).2.2.1 = some (ty0 q)) (hnm : ∀ a, a < N → ∀ b, b < N → a ≠ b → (T a).2.1 ≠ (T b).2.1) (hn : narrow (ty0 j) v = v) (hfit : fits (ty0 j) v = true) (hln : j < fs.length) (hlink : Cond.fieldLink own index ref (T j).2.1 (T j).2.2.1 ∈ z_T) (hdg : decode cc pc = .ok (.putfield index, 3)) (hfin : (T j).2.2.2 = true) (hin : y_init k) (hdecl : (T j).1 = own) (kk : y_X k A (pc + 3) lv (st) (ws.set i (a, .inr (ci, fs.set j v))) c0 s0) : y_X k A pc lv (v :: .ref a :: st) (ws) c0 s0 := by
  obtain ⟨p, l, e, R, s, m, args, below, meth, c, D, base, nL, cells, slots, Q⟩ := k
  obtain ⟨hx, hb, ⟨hml, rfl⟩, hown, hlk, hrm, hE, hA⟩ := C
  intro H locs ls hP hD hS hl
  exact va_putF (Ts := z_T) hx hb (fun w hw => z_w0 hE hw) hlay ty0 hty hnm hown hE.1 hP hD hS i hi hcl j hj (z_w0 hE hlink) (fun _ h9 => by rw [← href]; exact h9) hfin hin hdecl (hty j hj) hn hfit hln hdg (fun H1 locs1 hP1 hD1 hS1 => kk H1 locs1 ls hP1 hD1 hS1 hl)

theorem y_get (C : y_C dA k A cc own d n mc ms) {ci j index N a : Nat} {fs : List Value} {Cn ref : String} {T : u_T} {v : Value} (i : Nat) (hi : ws[i]? = some (a, .inr (ci, fs))) (hcl : z_cl[ci]? = some (Cn, T, N)) (hlay : ∀ w ∈ u_ws Cn T N, w ∈ z_T) (hj : j < N) (href : (T j).1 = ref) (hlink : Cond.fieldLink own index ref (T j).2.1 (T j).2.2.1 ∈ z_T) (hv : fs[j]? = some v) (hdg : decode cc pc = .ok (.getfield index, 3)) (kk : y_X k A (pc + 3) lv (v :: st) (ws) c0 s0) : y_X k A pc lv (.ref a :: st) (ws) c0 s0 := by
  obtain ⟨p, l, e, R, s, m, args, below, meth, c, D, base, nL, cells, slots, Q⟩ := k
  obtain ⟨hx, hb, ⟨hml, rfl⟩, hown, hlk, hrm, hE, hA⟩ := C
  intro H locs ls hP hD hS hl
  exact va_get (Ts := z_T) hx hb (fun w hw => z_w0 hE hw) hlay hown hE.1 hP i hi hcl j hj (z_w0 hE hlink) (fun _ h9 => by rw [← href]; exact h9) hv hdg (kk H locs ls hP hD hS hl)

theorem y_ast (C : y_C dA k A cc own d n mc ms) {t0 ci N a v : Nat} {cA : ClassId} {r : vw_C} {vs : List Value} {f : Nat → Option Nat} {x : Int32} (i qk : Nat) (hi : ws[i]? = some (a, .inl (cA, N, .inr (.inr (.inr (.inr f)))))) (ht : (z_tys dA)[t0]? = some (cA, .object r.1)) (hv : ws[qk]? = some (v, .inr (ci, vs))) (hc : z_cl[ci]? = some r) (hin : vp_in x N) (hdg : decode cc pc = .ok (.aastore, 1)) (kk : y_X k A (pc + 1) lv (st) (ws.set i (a, .inl (cA, N, .inr (.inr (.inr (.inr (va_up f x.toNatClampNeg (some v)))))))) c0 s0) : y_X k A pc lv (.ref v :: .int x :: .ref a :: st) (ws) c0 s0 := by
  obtain ⟨p, l, e, R, s, m, args, below, meth, c, D, base, nL, cells, slots, Q⟩ := k
  obtain ⟨hx, hb, ⟨hml, rfl⟩, hown, hlk, hrm, hE, hA⟩ := C
  intro H locs ls hP hD hS hl
  exact va_astq hx hb hE.1 hP hD hS i t0 qk ci hi ht hv hc hin hdg (fun H1 locs1 hP1 hD1 hS1 => kk H1 locs1 ls hP1 hD1 hS1 hl)

theorem y_eqw (C : y_C dA k A cc own d n mc ms) {ws2 : va_W} (he : ws = ws2) (kk : y_X k A pc lv (st) (ws2) c0 s0) : y_X k A pc lv (st) (ws) c0 s0 := by
  obtain ⟨p, l, e, R, s, m, args, below, meth, c, D, base, nL, cells, slots, Q⟩ := k
  obtain ⟨hx, hb, ⟨hml, rfl⟩, hown, hlk, hrm, hE, hA⟩ := C
  intro H locs ls hP hD hS hl
  subst he
  exact kk H locs ls hP hD hS hl

theorem y_ret (C : y_C dA k A cc own d n mc ms) {S : Type} {res : S → va_W} (u : S) (E : y_R k A res c0 s0) (hw : ws = res u) (hdg : decode cc pc = .ok (.return_, 1))  : y_X k A pc lv [] (ws) c0 s0 := by
  obtain ⟨p, l, e, R, s, m, args, below, meth, c, D, base, nL, cells, slots, Q⟩ := k
  obtain ⟨hx, hb, ⟨hml, rfl⟩, hown, hlk, hrm, hE, hA⟩ := C
  intro H locs ls hP hD hS hl
  obtain ⟨hr, rfl⟩ := E
  subst hw
  exact W.vret hx hb hr (fun t ht hW => ⟨⟨u, rfl, trivial, by show va_P D z_cl (res u) t.heap; rw [ht]; exact hP, hD⟩, hS.F ht⟩) hS.2.2 hdg hlk

theorem y_ctorN (C : y_C dA k A cc own d n mc ms) {y : MethodName} {bytes : ByteArray} {mx d2 mc2 ms2 index q : Nat} {dflt : va_E} {S : Type} {res : Nat → S → va_W} {wr : va_W} {host : String} (hM : z_CT y bytes mx d2 mc2 ms2 dA dflt res) (hyn : y.name = "<init>") (hins : Cond.instanceMethod y ∈ z_T) (hini : Cond.initialized y.cls ∈ z_T) (hcd : Cond.code y bytes mx none ∈ z_T) (hcn : y.cls ≠ "java/lang/invoke/MethodHandle" ∧ y.cls ≠ "java/lang/invoke/VarHandle") (hpa : (parseMethodDescriptor y.desc).map (fun q => q.parameters.length) = some 0) (hmx : mx ≤ 21) (hd : d2 + 1 ≤ d) (hc : c0 + mc2 ≤ mc) (hs : s0 + ms2 ≤ ms) (hcat : (st.map fun v => v.category).sum ≤ 8) (hlink : Cond.methodLinkNest own index y host ∈ z_T) (hdg : decode cc pc = .ok (.invokespecial index, 3)) (kk : ∀ u : S, y_X k A (pc + 3) lv (st) (wr ++ res q u) (c0 + mc2) (s0 + ms2)) : y_X k A pc lv (.ref q :: st) (wr ++ [(q, dflt)]) c0 s0 := by
  obtain ⟨p, l, e, R, s, m, args, below, meth, c, D, base, nL, cells, slots, Q⟩ := k
  obtain ⟨hx, hb, ⟨hml, rfl⟩, hown, hlk, hrm, hE, hA⟩ := C
  intro H locs ls hP hD hS hl
  have hPq : va_P D z_cl [(q, dflt)] H := fun i x hx => hP (wr.length + i) x (by rw [List.getElem?_append_right (by omega), Nat.add_sub_cancel_left]; exact hx)
  have hFc : ∀ x, va_A [(q, dflt)] H.size x → A x := by
    intro x hx
    rcases hx with ⟨k2, e2, hx⟩ | hx
    · exact hD.2 (wr.length + k2) (x, e2) (by rw [List.getElem?_append_right (by omega), Nat.add_sub_cancel_left]; exact hx)
    · exact hA x (Nat.le_trans hS.1 hx)
  refine va_callv (va_runIN (Ts := []) (As := []) (rest := st) (n := 0) ⟨hx, hb, hml, hown, fun w hw => by cases hw⟩ (hM l D q H.size) ⟨⟨⟨rfl, rfl, by have := hrm.1; show d2 + 1 ≤ R.frames; omega, by have := hrm.2.1; show 8 + (mx + 11) + 40 * d2 ≤ R.locals; omega, fun w hw a2 U hW => by rw [List.mem_singleton.mp hw]; exact word_at hW (Or.inl rfl) (z_w0 (args := #[]) hE hcd), List.mem_singleton.mpr rfl⟩, z_w0 hE hcd, z_w0 hE hini, hcn, z_na hpa, z_w0 hE hlink⟩, hyn, z_w0 hE hins⟩ ⟨fun a U g mk z => ⟨z.1, z.2.1, z.2.2.1, z_E0_same (U := U) rfl z.2.2.2⟩, fun U hU hW => ⟨rfl, by rw [hU], by rw [hU]; exact hPq, z_E0_warm hE hW⟩⟩ rfl rfl hl.1 rfl (lv_room hcat) hdg ⟨by have := hrm.2.2.1; omega, by have := hrm.2.2.2; omega⟩) hS (fun x _ h => hFc x h) hFc (fun u t H1 locs1 ht hvm hw hB hz1 hk1 hS1 => ?_)
  obtain ⟨hP1, hD1⟩ := hB
  rw [ht] at hP1
  obtain ⟨hP2, hD2⟩ := y_join hP hD hk1 hFc hP1 hD1
  exact kk u H1 locs1 ls hP2 hD2 hS1 hl

theorem y_ctor (C : y_C dA k A cc own d n mc ms) {y : MethodName} {bytes : ByteArray} {mx d2 mc2 ms2 index q : Nat} {dflt : va_E} {S : Type} {res : Nat → S → va_W} {wr : va_W} (hM : z_CT y bytes mx d2 mc2 ms2 dA dflt res) (hyn : y.name = "<init>") (hins : Cond.instanceMethod y ∈ z_T) (hini : Cond.initialized y.cls ∈ z_T) (hcd : Cond.code y bytes mx none ∈ z_T) (hcn : y.cls ≠ "java/lang/invoke/MethodHandle" ∧ y.cls ≠ "java/lang/invoke/VarHandle") (hpa : (parseMethodDescriptor y.desc).map (fun q => q.parameters.length) = some 0) (hmx : mx ≤ 21) (hd : d2 + 1 ≤ d) (hc : c0 + mc2 ≤ mc) (hs : s0 + ms2 ≤ ms) (hcat : (st.map fun v => v.category).sum ≤ 8) (hlink : Cond.methodLink own index y ∈ z_T) (hdg : decode cc pc = .ok (.invokespecial index, 3)) (kk : ∀ u : S, y_X k A (pc + 3) lv (st) (wr ++ res q u) (c0 + mc2) (s0 + ms2)) : y_X k A pc lv (.ref q :: st) (wr ++ [(q, dflt)]) c0 s0 := by
  obtain ⟨p, l, e, R, s, m, args, below, meth, c, D, base, nL, cells, slots, Q⟩ := k
  obtain ⟨hx, hb, ⟨hml, rfl⟩, hown, hlk, hrm, hE, hA⟩ := C
  intro H locs ls hP hD hS hl
  have hPq : va_P D z_cl [(q, dflt)] H := fun i x hx => hP (wr.length + i) x (by rw [List.getElem?_append_right (by omega), Nat.add_sub_cancel_left]; exact hx)
  have hFc : ∀ x, va_A [(q, dflt)] H.size x → A x := by
    intro x hx
    rcases hx with ⟨k2, e2, hx⟩ | hx
    · exact hD.2 (wr.length + k2) (x, e2) (by rw [List.getElem?_append_right (by omega), Nat.add_sub_cancel_left]; exact hx)
    · exact hA x (Nat.le_trans hS.1 hx)
  refine va_callv (va_runI (Ts := []) (As := []) (rest := st) (n := 0) ⟨hx, hb, hml, hown, fun w hw => by cases hw⟩ (hM l D q H.size) ⟨⟨rfl, rfl, by have := hrm.1; show d2 + 1 ≤ R.frames; omega, by have := hrm.2.1; show 8 + (mx + 11) + 40 * d2 ≤ R.locals; omega, fun w hw a2 U hW => by rw [List.mem_singleton.mp hw]; exact word_at hW (Or.inl rfl) (z_w0 (args := #[]) hE hcd), List.mem_singleton.mpr rfl, z_w0 hE hcd, z_w0 hE hini, hcn, z_na hpa, z_w0 hE hlink⟩, hyn, z_w0 hE hins⟩ ⟨fun a U g mk z => ⟨z.1, z.2.1, z.2.2.1, z_E0_same (U := U) rfl z.2.2.2⟩, fun U hU hW => ⟨rfl, by rw [hU], by rw [hU]; exact hPq, z_E0_warm hE hW⟩⟩ rfl rfl hl.1 rfl (lv_room hcat) hdg ⟨by have := hrm.2.2.1; omega, by have := hrm.2.2.2; omega⟩) hS (fun x _ h => hFc x h) hFc (fun u t H1 locs1 ht hvm hw hB hz1 hk1 hS1 => ?_)
  obtain ⟨hP1, hD1⟩ := hB
  rw [ht] at hP1
  obtain ⟨hP2, hD2⟩ := y_join hP hD hk1 hFc hP1 hD1
  exact kk u H1 locs1 ls hP2 hD2 hS1 hl

end YL
