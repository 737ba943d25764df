theorem y_outer (cA : ClassId) (N h : Nat) : Jvm.Free.Multi.outerC cA N h N = arrV cA N (fun j => va_rf (some (h + 1 + j))) := by
  obtain ⟨a, b, d⟩ := Jvm.Free.Multi.outerC_facts cA N h N
  obtain ⟨e, f⟩ := Jvm.Free.Multi.outerC_plain cA N h N
  have hs := Jvm.Free.Multi.outerC_slot cA N h N
  generalize Jvm.Free.Multi.outerC cA N h N = X at a b d e f hs
  obtain ⟨x1, x2, x3, x4, x5⟩ := X
  simp only at a b d e f hs
  subst a b e f
  have h2 : x2 = Array.ofFn (n := N) fun j => va_rf (some (h + 1 + j.val)) := by
    refine Array.ext (by simp [d]) (fun i h1 h2 => ?_)
    have hi : i < N := by omega
    have g := hs i hi
    rw [if_pos hi] at g
    rw [Array.getElem?_eq_getElem h1] at g
    rw [Option.some.inj g]
    simp [va_rf]
  subst h2
  rfl
theorem y_pushes {D : va_G} {A : Nat → Prop} {ws w2 : va_W} {H H1 : Heap} (hP : va_P D z_cl ws H) (hD : va_D A ws) (hold : ∀ x : Nat, x < H.size → H1[x]? = H[x]?) (h2 : va_P D z_cl w2 H1) (hnd : ∀ (i j : Nat) (p q : Nat × va_E), w2[i]? = some p → w2[j]? = some q → p.1 = q.1 → i = j) (hlo : ∀ (i : Nat) (p : Nat × va_E), w2[i]? = some p → H.size ≤ p.1) (hA : ∀ q, H.size ≤ q → A q) : va_P D z_cl (ws ++ w2) H1 ∧ va_D A (ws ++ w2) := by
  refine ⟨va_P.app (hP.kept (fun k x hx => hold x.1 ((hP k x hx).lt))) h2, va_D.app hD ⟨hnd, fun k q hq => hA _ (hlo k q hq)⟩ (fun i j p q hp hq hpq => ?_)⟩
  have e1 := (hP i p hp).lt
  have e2 := hlo j q hq
  omega
theorem y_arrq (k : z_K) {A : Nat → Prop} {pc c0 s0 : Nat} {lv : List (Option Value)} {st : List Value} {ws : va_W} {a N : Nat} {cA : ClassId} {f : Nat → Option Nat} (g : Nat → Option Nat) (i : Nat) (hi : ws[i]? = some (a, .inl (cA, N, .inr (.inr (.inr (.inr f)))))) (hfg : ∀ j, j < N → f j = g j) (kk : y_X k A pc lv st (ws.set i (a, .inl (cA, N, .inr (.inr (.inr (.inr g)))))) c0 s0) : y_X k A pc lv st ws c0 s0 := by
  obtain ⟨p, l, e, R, s, m, args, below, meth, c, D, base, nL, cells, slots, Q⟩ := k
  intro H locs ls hP hD hS hl
  have he : vp_cell cA (N, .inr (.inr (.inr (.inr f)))) = vp_cell cA (N, .inr (.inr (.inr (.inr g)))) := by
    rw [vp_cell_q, vp_cell_q]
    unfold arrV
    have : (fun j : Fin N => va_rf (f j.val)) = (fun j : Fin N => va_rf (g j.val)) := funext (fun j => by rw [hfg j.val j.isLt])
    rw [this]
  have h0 : H[a]? = some (vp_cell cA (N, .inr (.inr (.inr (.inr f))))) := hP i _ hi
  exact kk H locs ls (hP.set hD hi (show H[a]? = some (vp_cell cA (N, .inr (.inr (.inr (.inr g))))) by rw [h0, he]) (fun q _ => rfl)) (hD.set hi) hS hl
section YM
variable {dA : Nat → ClassId} {k : z_K} {A : Nat → Prop} {cc : ByteArray} {own : String} {d n mc ms pc c0 s0 : Nat} {lv : List (Option Value)} {st : List Value} {ws : va_W}
theorem y_mna (C : y_C dA k A cc own d n mc ms) {index : Nat} {nn kn : Int32} (N K : Nat) (hn : ¬ nn < 0) (hk : ¬ kn < 0) (hN : nn.toNatClampNeg = N) (hK : kn.toNatClampNeg = K) (hb1 : N * 4 ≤ 536870912) (hb2 : K * 4 ≤ 536870912) (hc : c0 + (1 + N) ≤ mc) (hs : s0 + (N + N * K) ≤ ms) (hl1 : Cond.classLink own index "[[I" ∈ z_T) (hdg : decode cc pc = .ok (.multianewarray index 2, 4)) (kk : ∀ (q : Nat) (r : Nat → Nat), y_X k A (pc + 4) lv (.ref q :: st) (ws ++ ((q, .inl (dA 3, N, .inr (.inr (.inr (.inr (fun i => some (r i))))))) :: (List.range N).map (fun i => (r i, .inl (dA 0, K, .inl (fun _ => 0)))))) (c0 + (1 + N)) (s0 + (N + N * K))) : y_X k A pc lv (.int kn :: .int nn :: st) ws c0 s0 := by
  obtain ⟨p, l, e, R, s, m, args, below, meth, c, D, base, nL, cells, slots, Q⟩ := k
  obtain ⟨hx, hb, ⟨hml, rfl⟩, hown, hlk, hrm, hE, hA⟩ := C
  intro H locs ls hP hD hS hl
  subst hN
  subst hK
  have r1 : c0 + (1 + nn.toNatClampNeg) ≤ R.cells := by have := hrm.2.2.1; omega
  have r2 : s0 + (nn.toNatClampNeg + nn.toNatClampNeg * kn.toNatClampNeg) ≤ R.slots := Nat.le_trans hs hrm.2.2.2
  intro T hT Xs
  have w1 : (Cond.classLink own index "[[I").before args s = true := z_w0 hE hl1
  have w2 : (Cond.arrayOver (.array .int)).before args s = true := hE.2.2.2.2.2.2
  have w3 : (Cond.arrayClass .int).before args s = true := hE.2.2.1
  obtain ⟨vm₁, cA, comp, -, fA, fC, -, -, X', step⟩ := Xs.multianewarray2F hx (own := own) (index := index) (ty := .int) hown w1 w2 w3 (g := F0 m pc ls (.int kn :: .int nn :: st)) rfl (by rw [hb]; exact hdg) rfl hn hk hb1 (show kn.toNatClampNeg * 4 ≤ 536870912 from hb2) (by omega) rfl rfl r1 r2
  have e1 : s.vm.findClass ("[" ++ (FieldType.array .int).toString) = some (dA 3) := (hE.1.2 3 (dA 3, .array .int) rfl).2
  have e2 : s.vm.findClass ("[" ++ FieldType.int.toString) = some (dA 0) := (hE.1.2 0 (dA 0, .int) rfl).2
  have ea : some (dA 3) = some cA := e1.symm.trans fA
  have eb : some (dA 0) = some comp := e2.symm.trans fC
  cases ea
  cases eb
  generalize hF : Jvm.Free.Multi.fill (T.setVm vm₁) (dA 3) (dA 0) nn.toNatClampNeg kn.toNatClampNeg (defaultValue .int) nn.toNatClampNeg = F at X' step
  have hTh : (T.setVm vm₁).heap = H := hT
  obtain ⟨f1, f2, -, -⟩ := Jvm.Free.Multi.fill_facts (T.setVm vm₁) (dA 3) (dA 0) nn.toNatClampNeg kn.toNatClampNeg (defaultValue .int) nn.toNatClampNeg
  rw [hF, hTh] at f1 f2
  have hold : ∀ x : Nat, x < H.size → F.heap[x]? = H[x]? := fun x hx => by
    have := Jvm.Free.Multi.fill_old (T.setVm vm₁) (dA 3) (dA 0) nn.toNatClampNeg kn.toNatClampNeg (defaultValue .int) (a := x) (by rw [hTh]; exact hx) nn.toNatClampNeg
    rw [hF, hTh] at this
    exact this
  have hrow : ∀ j : Nat, j < nn.toNatClampNeg → F.heap[H.size + 1 + j]? = some (vp_cell (dA 0) (kn.toNatClampNeg, .inl (fun _ => 0))) := fun j hj => by
    have := Jvm.Free.Multi.fill_inner (T.setVm vm₁) (dA 3) (dA 0) nn.toNatClampNeg kn.toNatClampNeg (defaultValue .int) nn.toNatClampNeg j hj
    rw [hF, hTh] at this
    rw [this]
    exact congrArg some (arrV_new (dA 0) kn.toNatClampNeg (.int 0))
  rw [y_outer] at f2
  have hget : ∀ (i : Nat) (q : Nat × va_E), ((H.size, .inl (dA 3, nn.toNatClampNeg, .inr (.inr (.inr (.inr (fun i => some (H.size + 1 + i))))))) :: (List.range nn.toNatClampNeg).map (fun i => (H.size + 1 + i, .inl (dA 0, kn.toNatClampNeg, .inl (fun _ => 0)))) : va_W)[i]? = some q → q.1 = H.size + i ∧ va_at D z_cl q F.heap := by
    intro i q hq
    cases i with
    | zero =>
      have : q = _ := (Option.some.inj hq).symm
      subst this
      exact ⟨rfl, f2⟩
    | succ i =>
      rw [List.getElem?_cons_succ, List.getElem?_map] at hq
      obtain ⟨i2, hi2, rfl⟩ := Option.map_eq_some_iff.mp hq
      obtain ⟨hlt, hi3⟩ := List.getElem?_eq_some_iff.mp hi2
      rw [List.getElem_range] at hi3
      subst hi3
      rw [List.length_range] at hlt
      exact ⟨by show H.size + 1 + i = _; omega, hrow i hlt⟩
  obtain ⟨hP1, hD1⟩ := y_pushes (w2 := ((H.size, .inl (dA 3, nn.toNatClampNeg, .inr (.inr (.inr (.inr (fun i => some (H.size + 1 + i))))))) :: (List.range nn.toNatClampNeg).map (fun i => (H.size + 1 + i, .inl (dA 0, kn.toNatClampNeg, .inl (fun _ => 0)))) : va_W)) hP hD hold (fun i q hq => (hget i q hq).2) (fun i j p q hp hq hpq => by have a1 := (hget i p hp).1; have a2 := (hget j q hq).1; omega) (fun i p hp => by have := (hget i p hp).1; omega) (fun q hq => hA q (Nat.le_trans hS.1 hq))
  have k2 := kk H.size (fun i => H.size + 1 + i) F.heap locs ls hP1 hD1 ⟨by rw [f1]; have := hS.1; omega, fun x h1 h2 => (hold x (Nat.lt_of_lt_of_le h1 hS.1)).trans (hS.2.1 x h1 h2), hS.2.2⟩ hl
  rw [Nat.add_assoc c0 1, Nat.add_assoc s0] at X'
  obtain ⟨t, a1, b1⟩ := k2 F rfl X'
  refine ⟨t, step t ?_, b1⟩
  rw [show T.heap.size = H.size by rw [← hT]]
  exact a1
end YM
