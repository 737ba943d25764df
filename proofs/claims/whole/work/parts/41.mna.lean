/-! a table of ints made by one instruction: the outer array first, then row behind row, each laid into its place -/
def y_rw (h i : Nat) : Nat → Value := fun j => if j < i then .ref (h + 1 + j) else .null
theorem y_rw_up (h i : Nat) : updV (y_rw h i) i (.ref (h + 1 + i)) = y_rw h (i + 1) := by
  funext j
  unfold updV y_rw
  by_cases hj : j = i
  · subst hj
    rw [if_pos rfl, if_pos (Nat.lt_succ_self j)]
  · rw [if_neg hj]
    by_cases h1 : j < i
    · rw [if_pos h1, if_pos (by omega)]
    · rw [if_neg h1, if_neg (by omega)]
def y_tb (T : State) (cA cI : ClassId) (N K : Nat) : Nat → State
  | 0 => T.pushCell (arrV cA N (y_rw T.heap.size 0))
  | i + 1 => ((y_tb T cA cI N K i).pushCell (arrV cI K (fun _ => .int 0))).setCell T.heap.size (arrV cA N (y_rw T.heap.size (i + 1)))
theorem y_tb_top (T : State) (f : JFrame) (cA cI : ClassId) (N K : Nat) (i : Nat) : y_tb (T.setTop f) cA cI N K i = (y_tb T cA cI N K i).setTop f := by
  induction i with
  | zero => rfl
  | succ i ih => simp only [y_tb, ih, State.heap_setTop, State.pushCell_setTop, State.setCell_setTop]
theorem y_tb_ok (T : State) (cA cI : ClassId) (N K : Nat) (i : Nat) : ((y_tb T cA cI N K i).heap.size = T.heap.size + 1 + i ∧ (y_tb T cA cI N K i).vm = T.vm ∧ (y_tb T cA cI N K i).slotsUsed = T.slotsUsed + N + i * K) ∧ (y_tb T cA cI N K i).heap[T.heap.size]? = some (arrV cA N (y_rw T.heap.size i)) ∧ (∀ x : Nat, x < T.heap.size → (y_tb T cA cI N K i).heap[x]? = T.heap[x]?) ∧ ∀ j, j < i → (y_tb T cA cI N K i).heap[T.heap.size + 1 + j]? = some (arrV cI K (fun _ => .int 0)) := by
  induction i with
  | zero => exact ⟨⟨by simp [y_tb], rfl, by simp [y_tb, arrV]⟩, by simp [y_tb], fun x hx => State.heap_pushCell_of_lt _ _ hx, fun j hj => absurd hj (Nat.not_lt_zero j)⟩
  | succ i ih =>
    obtain ⟨⟨h1, h2, h3⟩, h4, h5, h6⟩ := ih
    have hlt : T.heap.size < (y_tb T cA cI N K i).heap.size := by rw [h1]; omega
    have ho : ((y_tb T cA cI N K i).pushCell (arrV cI K (fun _ => .int 0))).heap[T.heap.size]? = some (arrV cA N (y_rw T.heap.size i)) := (State.heap_pushCell_of_lt _ _ hlt).trans h4
    have hne : ∀ x : Nat, x ≠ T.heap.size → (y_tb T cA cI N K (i + 1)).heap[x]? = ((y_tb T cA cI N K i).pushCell (arrV cI K (fun _ => .int 0))).heap[x]? := fun x hx => State.heap_setCell_other (Ne.symm hx)
    refine ⟨⟨?_, ?_, ?_⟩, State.heap_setCell_self ho, fun x hx => ?_, fun j hj => ?_⟩
    · simp [y_tb, State.setCell, h1]
      omega
    · simp [y_tb, h2]
    · simp [y_tb, h3, arrV, Nat.succ_mul]
      omega
    · rw [hne x (by omega), State.heap_pushCell_of_lt _ _ (show x < (y_tb T cA cI N K i).heap.size by rw [h1]; omega)]
      exact h5 x hx
    · rw [hne _ (by omega)]
      by_cases hji : j < i
      · rw [State.heap_pushCell_of_lt _ _ (show T.heap.size + 1 + j < (y_tb T cA cI N K i).heap.size by rw [h1]; omega)]
        exact h6 j hji
      · have e : T.heap.size + 1 + j = (y_tb T cA cI N K i).heap.size := by rw [h1]; omega
        rw [e]
        exact State.heap_pushCell_size _ _
theorem y_tb_st {p : Program} {l : Launch} {e : Env} {R : Room} {s : State} {m : MethodId} {args : Array Value} {below : List Frame} {meth : Method} {c : Code} {T : State} {locs : List Loc} {cells slots : Nat} (X : Stand p l e R s m args below meth c T locs cells slots) (cA cI : ClassId) (N K : Nat) (i : Nat) : Stand p l e R s m args below meth c (y_tb T cA cI N K i) locs (cells + 1 + i) (slots + N + i * K) := by
  induction i with
  | zero =>
    have h := X.pushed (arrV cA N (y_rw T.heap.size 0))
    rw [arrV_size] at h
    rw [Nat.zero_mul]
    exact h
  | succ i ih =>
    obtain ⟨⟨h1, h2, h3⟩, h4, h5, h6⟩ := y_tb_ok T cA cI N K i
    have hlt : T.heap.size < (y_tb T cA cI N K i).heap.size := by rw [h1]; omega
    have ho : ((y_tb T cA cI N K i).pushCell (arrV cI K (fun _ => .int 0))).heap[T.heap.size]? = some (arrV cA N (y_rw T.heap.size i)) := (State.heap_pushCell_of_lt _ _ hlt).trans h4
    have h := (ih.pushed (arrV cI K (fun _ => .int 0))).stored ho i (.ref (T.heap.size + 1 + i))
    rw [arrV_size, arrV_store, y_rw_up] at h
    have h7 := Stand.forget h (fun y hy => by rw [List.mem_singleton.mp hy]; exact X.same.2.1)
    have e1 : slots + N + (i + 1) * K = slots + N + i * K + K := by rw [Nat.succ_mul]; omega
    rw [e1]
    exact h7
section YW
variable {E : CtlPost} {e : Env} {d : Bool} {acts : List Action} {s : State}
theorem y_wpa {c comp : ClassId} {k : Class} {ty : FieldType} {len : Nat} {v : Value} (hk : s.vm.classes[c]? = some k) (hkind : k.kind = .array comp ty) (hlim : len ≤ e.platform.arrayLengthLimit) (hhp : len * componentBytes ty ≤ e.platform.maxHeapBytes) (hfit : fits ty v = true) (hdef : v.isDefault = true) (h1 : s.heap.size < e.platform.maxCells) (h2 : s.slotsUsed + len ≤ e.platform.maxSlots) {Q : Addr → Pre} (hq : Q s.heap.size d acts (s.pushCell (arrV c len (fun _ => v)))) : wp (Jvm.newArray c len v) Q E e d acts s := by
  rw [← arrV_new] at hq
  have g1 : ¬ len > e.platform.arrayLengthLimit := by omega
  have g2 : ¬ len * componentBytes ty > e.platform.maxHeapBytes := by omega
  have g3 : ¬ len > e.platform.maxSlots := by omega
  have g4 : allocActs (Array.replicate len v) s.heap.size acts = acts := by
    unfold allocActs
    rw [if_pos]
    rw [Array.all_replicate]
    split
    · rfl
    · exact hdef
  have g5 : ∀ i w, (Array.replicate len v)[i]? = some w → s.fitsSlot c .none i w = true := by
    intro i w hw
    rw [Array.getElem?_replicate] at hw
    by_cases hi : i < len
    · rw [if_pos hi] at hw
      cases hw
      simp [State.fitsSlot, State.slotType?, hk, hkind, hfit]
    · rw [if_neg hi] at hw
      cases hw
  simp only [Jvm.newArray, Jvm.arrayFits, wp_bind', W.ask, W.ite, g1, g3, if_false, wp_pure', W.theClass, hk, hkind, g2, W.alloc, W.stop, Option.some.injEq, exists_eq_left', Array.size_replicate, g4]
  exact ⟨h1, h2, g5, hq⟩
theorem y_wpm {cA cI cE : ClassId} {kA kI : Class} {n k : Int32} (hkA : s.vm.classes[cA]? = some kA) (hA : kA.kind = .array cI (.array .int)) (hkI : s.vm.classes[cI]? = some kI) (hI : kI.kind = .array cE .int) (hn : ¬ n < 0) (hk : ¬ k < 0) (hl1 : n.toNatClampNeg ≤ e.platform.arrayLengthLimit) (hl2 : k.toNatClampNeg ≤ e.platform.arrayLengthLimit) (hh1 : n.toNatClampNeg * 4 ≤ e.platform.maxHeapBytes) (hh2 : k.toNatClampNeg * 4 ≤ e.platform.maxHeapBytes)
    (hc : s.heap.size + (1 + n.toNatClampNeg) ≤ e.platform.maxCells) (hs : s.slotsUsed + (n.toNatClampNeg + n.toNatClampNeg * k.toNatClampNeg) ≤ e.platform.maxSlots) {Q : Addr → Pre} (hq : ∀ d2 acts2, Q s.heap.size d2 acts2 (y_tb s cA cI n.toNatClampNeg k.toNatClampNeg n.toNatClampNeg)) : wp (multianewarray.make cA [n, k]) Q E e d acts s := by
  have hb : ∀ i, i < n.toNatClampNeg → i * k.toNatClampNeg + k.toNatClampNeg ≤ n.toNatClampNeg * k.toNatClampNeg := fun i hi => by
    have := Nat.mul_le_mul_right k.toNatClampNeg (Nat.succ_le_of_lt hi)
    rw [Nat.succ_mul] at this
    exact this
  have hf : List.find? (fun x => decide (x < 0)) [k] = none := by simp [hk]
  unfold multianewarray.make
  simp only [wp_bind', W.ite, hn, if_false, wp_pure', W.theClass, hkA, hA, Option.some.injEq, exists_eq_left']
  refine y_wpa hkA hA hl1 hh1 rfl rfl (by omega) (by omega) ?_
  simp only [hf]
  rw [ite_self, wp_bind', Std.Legacy.Range.forIn_eq_forIn_range']
  have hz : ([:n.toNatClampNeg] : Std.Legacy.Range).size = n.toNatClampNeg := by simp [Std.Legacy.Range.size]
  rw [hz]
  refine wp_forIn_inv (fun todo u => ∃ i, i + todo.length = n.toNatClampNeg ∧ todo = List.range' i todo.length ∧ u = y_tb s cA cI n.toNatClampNeg k.toNatClampNeg i) _ _ ⟨0, by rw [Nat.zero_add, List.length_range'], by rw [List.length_range'], rfl⟩ ?_ ?_
  · intro x todo u d2 acts2 Q2 hinv hnext
    obtain ⟨i, hi, hl, rfl⟩ := hinv
    rw [List.length_cons] at hi hl
    rw [List.range'_succ] at hl
    obtain ⟨rfl, hl2'⟩ := List.cons.inj hl
    have hlt : x < n.toNatClampNeg := by omega
    obtain ⟨⟨f1, f2, f3⟩, f4, -, -⟩ := y_tb_ok s cA cI n.toNatClampNeg k.toNatClampNeg x
    have hb1 := hb x hlt
    have hin : s.heap.size < (y_tb s cA cI n.toNatClampNeg k.toNatClampNeg x).heap.size := by rw [f1]; omega
    simp only [wp_bind']
    unfold multianewarray.make
    simp only [wp_bind', W.ite, hk, if_false, wp_pure', W.theClass, f2, hkI, hI, Option.some.injEq, exists_eq_left']
    refine y_wpa (by rw [f2]; exact hkI) hI hl2 hh2 rfl rfl (by rw [f1]; omega) (by rw [f3]; omega) ?_
    simp only [wp_bind', W.writeLoc, wp_pure']
    refine ⟨arrV cA n.toNatClampNeg (y_rw s.heap.size x), (State.heap_pushCell_of_lt _ _ hin).trans f4, (fun h => by cases h), by rw [arrV_size]; exact hlt, ?_, hnext _ _ _ ⟨x + 1, by omega, hl2', ?_⟩⟩
    · simp [State.fitsSlot, State.slotType?, arrV, f2, hkA, hA, fits]
    · rw [arrV_store, f1, y_rw_up]
      rfl
  · intro u d2 acts2 hinv
    obtain ⟨i, hi, -, rfl⟩ := hinv
    have e1 : i = n.toNatClampNeg := hi
    rw [e1]
    simp only [wp_pure']
    exact hq d2 acts2
end YW
theorem y_pushes {D : va_G} {A : Nat → Prop} {ws w2 : va_W} {H H1 : Heap} (hP : va_P D z_cl ws H) (hD : va_D A ws) (hold : ∀ x : Nat, x < H.size → H1[x]? = H[x]?) (h2 : va_P D z_cl w2 H1) (hnd : ∀ (i j : Nat) (p q : Nat × va_E), w2[i]? = some p → w2[j]? = some q → p.1 = q.1 → i = j) (hlo : ∀ (i : Nat) (p : Nat × va_E), w2[i]? = some p → H.size ≤ p.1) (hA : ∀ q, H.size ≤ q → A q) : va_P D z_cl (ws ++ w2) H1 ∧ va_D A (ws ++ w2) := by
  refine ⟨va_P.app (hP.kept (fun k x hx => hold x.1 ((hP k x hx).lt))) h2, va_D.app hD ⟨hnd, fun k q hq => hA _ (hlo k q hq)⟩ (fun i j p q hp hq hpq => ?_)⟩
  have e1 := (hP i p hp).lt
  have e2 := hlo j q hq
  omega
theorem y_arrq (k : z_K) {A : Nat → Prop} {pc c0 s0 : Nat} {lv : List (Option Value)} {st : List Value} {ws : va_W} {a N : Nat} {cA : ClassId} {f : Nat → Option Nat} (g : Nat → Option Nat) (i : Nat) (hi : ws[i]? = some (a, .inl (cA, N, .inr (.inr (.inr (.inr f)))))) (hfg : ∀ j, j < N → f j = g j) (kk : y_X k A pc lv st (ws.set i (a, .inl (cA, N, .inr (.inr (.inr (.inr g)))))) c0 s0) : y_X k A pc lv st ws c0 s0 := by
  obtain ⟨p, l, e, R, s, m, args, below, meth, c, D, base, nL, cells, slots, Q⟩ := k
  intro H locs ls hP hD hS hl
  have he : vp_cell cA (N, .inr (.inr (.inr (.inr f)))) = vp_cell cA (N, .inr (.inr (.inr (.inr g)))) := by
    rw [vp_cell_q, vp_cell_q]
    unfold arrV
    have : (fun j : Fin N => va_rf (f j.val)) = (fun j : Fin N => va_rf (g j.val)) := funext (fun j => by rw [hfg j.val j.isLt])
    rw [this]
  have h0 : H[a]? = some (vp_cell cA (N, .inr (.inr (.inr (.inr f))))) := hP i _ hi
  exact kk H locs ls (hP.set hD hi (show H[a]? = some (vp_cell cA (N, .inr (.inr (.inr (.inr g))))) by rw [h0, he]) (fun q _ => rfl)) (hD.set hi) hS hl
section YM
variable {dA : Nat → ClassId} {k : z_K} {A : Nat → Prop} {cc : ByteArray} {own : String} {d n mc ms pc c0 s0 : Nat} {lv : List (Option Value)} {st : List Value} {ws : va_W}
theorem y_mna (C : y_C dA k A cc own d n mc ms) {index : Nat} {nn kn : Int32} (N K : Nat) (hn : ¬ nn < 0) (hk : ¬ kn < 0) (hN : nn.toNatClampNeg = N) (hK : kn.toNatClampNeg = K) (hb1 : N * 4 ≤ 536870912) (hb2 : K * 4 ≤ 536870912) (hc : c0 + (1 + N) ≤ mc) (hs : s0 + (N + N * K) ≤ ms) (hl1 : Cond.classLink own index "[[I" ∈ z_T) (hdg : decode cc pc = .ok (.multianewarray index 2, 4)) (kk : ∀ (q : Nat) (r : Nat → Nat), y_X k A (pc + 4) lv (.ref q :: st) (ws ++ ((q, .inl (dA 3, N, .inr (.inr (.inr (.inr (fun i => some (r i))))))) :: (List.range N).map (fun i => (r i, .inl (dA 0, K, .inl (fun _ => 0)))))) (c0 + (1 + N)) (s0 + (N + N * K))) : y_X k A pc lv (.int kn :: .int nn :: st) ws c0 s0 := by
  obtain ⟨p, l, e, R, s, m, args, below, meth, c, D, base, nL, cells, slots, Q⟩ := k
  obtain ⟨hx, hb, ⟨hml, rfl⟩, hown, hlk, hrm, hE, hA⟩ := C
  intro H locs ls hP hD hS hl
  subst hN
  subst hK
  have r1 : c0 + (1 + nn.toNatClampNeg) ≤ R.cells := by have := hrm.2.2.1; omega
  have r2 : s0 + (nn.toNatClampNeg + nn.toNatClampNeg * kn.toNatClampNeg) ≤ R.slots := Nat.le_trans hs hrm.2.2.2
  intro T hT Xs
  have w1 : (Cond.classLink own index "[[I").before args s = true := z_w0 hE hl1
  have w2 : (Cond.arrayOver (.array .int)).before args s = true := hE.2.2.2.2.2.2
  have w3 : (Cond.arrayClass .int).before args s = true := hE.2.2.1
  subst hb
  have hpl : e.platform.magicAccessors = ({} : Platform).magicAccessors := by rw [Xs.admits.platform]
  obtain ⟨cI, cA, kA, hfI, -, hkA, hkindA, hfA⟩ := arrayOverA_spec w2
  obtain ⟨cI2, kI, cE, hfI2, hkI, hkindI⟩ := Cond.arrayClass_spec w3
  have e1 : s.vm.findClass ("[" ++ (FieldType.array .int).toString) = some (dA 3) := (hE.1.2 3 (dA 3, .array .int) rfl).2
  have e2 : s.vm.findClass ("[" ++ FieldType.int.toString) = some (dA 0) := (hE.1.2 0 (dA 0, .int) rfl).2
  have ea : dA 3 = cA := Option.some.inj (e1.symm.trans hfA)
  have eb : dA 0 = cI := Option.some.inj (e2.symm.trans hfI)
  have ec : dA 0 = cI2 := Option.some.inj (e2.symm.trans hfI2)
  subst ea
  subst eb
  subst ec
  obtain ⟨cL, hfL, hcl⟩ := Cond.classLink_spec hown w1 e.platform hpl
  have ed : dA 3 = cL := Option.some.inj (e1.symm.trans hfL)
  subst ed
  obtain ⟨hg1, hwarm, hready⟩ := State.classEntry (e := e) Xs.warmed hcl
  generalize T.vm.noted m.cls index (.cls (dA 3)) = vm1 at hg1 hwarm hready
  obtain ⟨kA1, hkA1, heA⟩ := hwarm.alike.2.2 _ _ hkA
  obtain ⟨kI1, hkI1, heI⟩ := hwarm.alike.2.2 _ _ hkI
  have hkindA1 : kA1.kind = .array (dA 0) (.array .int) := by rw [heA]; exact hkindA
  have hkindI1 : kI1.kind = .array cE .int := by rw [heI]; exact hkindI
  obtain ⟨hr1, hr2⟩ := Xs.roomAbove r1 r2
  have X1 := y_tb_st (Xs.noted hwarm) (dA 3) (dA 0) nn.toNatClampNeg kn.toNatClampNeg nn.toNatClampNeg
  have hTh : (T.setVm vm1).heap = H := hT
  obtain ⟨⟨f1, -, -⟩, f2, hold, hrow⟩ := y_tb_ok (T.setVm vm1) (dA 3) (dA 0) nn.toNatClampNeg kn.toNatClampNeg nn.toNatClampNeg
  rw [hTh] at f1 f2 hold hrow
  have step : ∀ t, Steps p.tables e below ((y_tb (T.setVm vm1) (dA 3) (dA 0) nn.toNatClampNeg kn.toNatClampNeg nn.toNatClampNeg).setTop (F0 m (pc + 4) ls (.ref T.heap.size :: st))) t → Steps p.tables e below (T.setTop (F0 m pc ls (.int kn :: .int nn :: st))) t := by
    intro t hgo
    have q1 : nn.toNatClampNeg ≤ e.platform.arrayLengthLimit := by rw [Launch.admits_arrayLengthLimit Xs.admits]; omega
    have q2 : kn.toNatClampNeg ≤ e.platform.arrayLengthLimit := by rw [Launch.admits_arrayLengthLimit Xs.admits]; omega
    have q3 : nn.toNatClampNeg * 4 ≤ e.platform.maxHeapBytes := by rw [Launch.admits_maxHeapBytes Xs.admits]; exact hb1
    have q4 : kn.toNatClampNeg * 4 ≤ e.platform.maxHeapBytes := by rw [Launch.admits_maxHeapBytes Xs.admits]; exact hb2
    have hd0 : decode c.code (F0 m pc ls (.int kn :: .int nn :: st)).pc = .ok (.multianewarray index 2, 4) := hdg
    jvm_step Xs.here [hx, hd0]
    simp only [multianewarray.sem, wp_bind', W.resolveClassAt_links (t := T.setTop (F0 m pc ls (.int kn :: .int nn :: st))) (mm := m) (vm' := vm1) (State.method?_setTop (F0 m pc ls (.int kn :: .int nn :: st)) Xs.here.top) hg1]
    rw [W.popN, if_neg (by decide)]
    refine ⟨_, State.topJava?_setTop' (s := T.setVm vm1) _ Xs.here.top, [.int nn, .int kn], st, rfl, rfl, ?_⟩
    simp only [List.mapM_cons, List.mapM_nil, wp_bind', wp_pure']
    have eS : ((T.setTop (F0 m pc ls (.int kn :: .int nn :: st))).setVm vm1).setTop { method := m, pc := pc, locals := ls, stack := st, locked := none } = (T.setVm vm1).setTop (F0 m pc ls st) := State.setTop_setTop (T.setVm vm1) _ _
    rw [eS]
    refine y_wpm (s := (T.setVm vm1).setTop (F0 m pc ls st)) hkA1 hkindA1 hkI1 hkindI1 hn hk q1 q2 q3 q4 hr1 hr2 (fun d2 acts2 => ?_)
    rw [y_tb_top]
    simp only [wp_bind', W.mark, W.pushRef, State.topJava?_setTop' _ X1.here.top, Option.some.injEq, exists_eq_left', State.setTop_setTop, State.heap_setTop]
    intro acts3
    simp [jvm, X1.here.top]
    exact hgo
  generalize y_tb (T.setVm vm1) (dA 3) (dA 0) nn.toNatClampNeg kn.toNatClampNeg nn.toNatClampNeg = F at X1 step f1 f2 hold hrow
  have f2 : F.heap[H.size]? = some (vp_cell (dA 3) (nn.toNatClampNeg, .inr (.inr (.inr (.inr (fun i => some (H.size + 1 + i))))))) := by
    rw [f2, vp_cell_q]
    unfold arrV
    have : (fun j : Fin nn.toNatClampNeg => y_rw H.size nn.toNatClampNeg j.val) = (fun j : Fin nn.toNatClampNeg => va_rf (some (H.size + 1 + j.val))) := funext (fun j => if_pos j.isLt)
    rw [this]
  have hget : ∀ (i : Nat) (q : Nat × va_E), ((H.size, .inl (dA 3, nn.toNatClampNeg, .inr (.inr (.inr (.inr (fun i => some (H.size + 1 + i))))))) :: (List.range nn.toNatClampNeg).map (fun i => (H.size + 1 + i, .inl (dA 0, kn.toNatClampNeg, .inl (fun _ => 0)))) : va_W)[i]? = some q → q.1 = H.size + i ∧ va_at D z_cl q F.heap := by
    intro i q hq
    cases i with
    | zero =>
      have : q = _ := (Option.some.inj hq).symm
      subst this
      exact ⟨rfl, f2⟩
    | succ i =>
      rw [List.getElem?_cons_succ, List.getElem?_map] at hq
      obtain ⟨i2, hi2, rfl⟩ := Option.map_eq_some_iff.mp hq
      obtain ⟨hlt, hi3⟩ := List.getElem?_eq_some_iff.mp hi2
      rw [List.getElem_range] at hi3
      subst hi3
      rw [List.length_range] at hlt
      exact ⟨by show H.size + 1 + i = _; omega, hrow i hlt⟩
  obtain ⟨hP1, hD1⟩ := y_pushes (w2 := ((H.size, .inl (dA 3, nn.toNatClampNeg, .inr (.inr (.inr (.inr (fun i => some (H.size + 1 + i))))))) :: (List.range nn.toNatClampNeg).map (fun i => (H.size + 1 + i, .inl (dA 0, kn.toNatClampNeg, .inl (fun _ => 0)))) : va_W)) hP hD hold (fun i q hq => (hget i q hq).2) (fun i j p q hp hq hpq => by have a1 := (hget i p hp).1; have a2 := (hget j q hq).1; omega) (fun i p hp => by have := (hget i p hp).1; omega) (fun q hq => hA q (Nat.le_trans hS.1 hq))
  have k2 := kk H.size (fun i => H.size + 1 + i) F.heap locs ls hP1 hD1 ⟨by rw [f1]; have := hS.1; omega, fun x h1 h2 => (hold x (Nat.lt_of_lt_of_le h1 hS.1)).trans (hS.2.1 x h1 h2), hS.2.2⟩ hl
  rw [Nat.add_assoc c0 1, Nat.add_assoc s0] at X1
  obtain ⟨t, a1, b1⟩ := k2 F rfl X1
  refine ⟨t, step t ?_, b1⟩
  rw [show T.heap.size = H.size by rw [← hT]]
  exact a1
end YM
