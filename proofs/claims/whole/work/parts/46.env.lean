/-! ===== the law's environment at its entry ===== -/
theorem law_K {args : Array Value} {s : State} (hz : ∀ w ∈ z_T, w.before args s = true) : ∃ D : va_G, ∀ (c : Nat) (q : vw_C), z_cl[c]? = some q → u_Kn s q.1 q.2.1 q.2.2 (D.1 c) (D.2 c) := by
  obtain ⟨c0, i0, h0⟩ := u_known (C := R_CellTransport) (T := F_CellTransport) (N := 8) (n := 8) hz lay_CellTransport (hz _ wi_CellTransport)
  obtain ⟨c1, i1, h1⟩ := u_known (C := R_Geometry) (T := F_Geometry) (N := 2) (n := 2) hz lay_Geometry (hz _ wi_Geometry)
  obtain ⟨c2, i2, h2⟩ := u_known (C := R_Surface) (T := F_Surface) (N := 5) (n := 5) hz lay_Surface (hz _ wi_Surface)
  obtain ⟨c3, i3, h3⟩ := u_known (C := R_Cell) (T := F_Cell) (N := 5) (n := 5) hz lay_Cell (hz _ wi_Cell)
  obtain ⟨c4, i4, h4⟩ := u_known (C := R_Region) (T := F_Region) (N := 2) (n := 2) hz lay_Region (hz _ wi_Region)
  obtain ⟨c5, i5, h5⟩ := u_known (C := R_Generator) (T := F_Generator) (N := 1) (n := 1) hz lay_Generator (hz _ wi_Generator)
  obtain ⟨c6, i6, h6⟩ := u_known (C := R_Counts) (T := F_Counts) (N := 3) (n := 3) hz lay_Counts (hz _ wi_Counts)
  obtain ⟨c7, i7, h7⟩ := u_known (C := R_Line) (T := F_Line) (N := 4) (n := 4) hz lay_Line (hz _ wi_Line)
  obtain ⟨c8, i8, h8⟩ := u_known (C := R_Particle) (T := F_Particle) (N := 5) (n := 5) hz lay_Particle (hz _ wi_Particle)
  obtain ⟨c9, i9, h9⟩ := u_known (C := R_Model) (T := F_Model) (N := 27) (n := 27) hz lay_Model (hz _ wi_Model)
  refine ⟨(fun k => ([c0, c1, c2, c3, c4, c5, c6, c7, c8, c9] : List ClassId).getD k 0, fun k => ([i0, i1, i2, i3, i4, i5, i6, i7, i8, i9] : List (Nat → Nat)).getD k (fun _ => 0)), ?_⟩
  intro c q hq
  match c, hq with
  | 0, hq => cases hq; exact h0
  | 1, hq => cases hq; exact h1
  | 2, hq => cases hq; exact h2
  | 3, hq => cases hq; exact h3
  | 4, hq => cases hq; exact h4
  | 5, hq => cases hq; exact h5
  | 6, hq => cases hq; exact h6
  | 7, hq => cases hq; exact h7
  | 8, hq => cases hq; exact h8
  | 9, hq => cases hq; exact h9
  | c + 10, hq => simp [z_cl] at hq
theorem law_tab {args : Array Value} {s : State} {nm : String} {g : Nat → Int32} (hl : (Cond.laysStatic "CellTransport" nm "[I").before args s = true) (hini : (Cond.initialized "CellTransport").before args s = true) (harr : (Cond.arrayOf (.static "CellTransport" nm "[I") .int).before args s = true) (hlen : (Cond.eq (.length (.static "CellTransport" nm "[I")) (.int 8)).before args s = true) (hel : ∀ j : Nat, j < 8 → (Cond.eq (.elem (.static "CellTransport" nm "[I") (.int (Int32.ofNat j))) (.int (g j))).before args s = true) : z_tab nm g s.heap.size s := by
  have hA : ∀ a : Nat, a < s.heap.size → ¬ z_A s.heap.size a := fun a h => Nat.not_le.mpr h
  obtain ⟨t, h1, h2⟩ := va_Tof (N := 8) (f := fun j => .int (g j)) (A := z_A s.heap.size) (by decide) harr (va_eqt hlen) (fun j hj => va_eqt (hel j hj)) hA
  exact ⟨t, va_Zof hl hini h1 hA, h2⟩
theorem law_env {b : Nat} {s : State} (hts : ∀ w ∈ lw_tbl, w.before #[Value.ref b] s = true) (hgv : (Jvm.Cond.and given_1 narrow_1).before #[Value.ref b] s = true) : ∃ (dA : Nat → ClassId) (D : va_G), z_E0 dA D s ∧ z_Z s.heap.size s := by
  have hz : ∀ w ∈ z_T, w.before #[Value.ref b] s = true := fun w hw => hts w (List.mem_filter.mp hw).1
  have hs := flat_of_before _ hgv
  obtain ⟨D, hKc⟩ := law_K hz
  have hI : (Cond.arrayClass .int).before #[Value.ref b] s = true := hts (Cond.arrayClass .int) (List.mem_append_right _ (List.mem_of_getElem? (i := 72) (by decide +kernel)))
  have hZ : (Cond.arrayClass .boolean).before #[Value.ref b] s = true := hts (Cond.arrayClass .boolean) (List.mem_append_right _ (List.mem_of_getElem? (i := 489) (by decide +kernel)))
  have hS : (Cond.arrayOver (.object "CellTransport$Surface")).before #[Value.ref b] s = true := hts (Cond.arrayOver (.object "CellTransport$Surface")) (List.mem_append_right _ (List.mem_of_getElem? (i := 28) (by decide +kernel)))
  have hC : (Cond.arrayOver (.object "CellTransport$Cell")).before #[Value.ref b] s = true := hts (Cond.arrayOver (.object "CellTransport$Cell")) (List.mem_append_right _ (List.mem_of_getElem? (i := 30) (by decide +kernel)))
  have hII : (Cond.arrayOver (.array .int)).before #[Value.ref b] s = true := hts (Cond.arrayOver (.array .int)) (List.mem_append_right _ (List.mem_of_getElem? (i := 124) (by decide +kernel)))
  have hLX : (Cond.laysStatic "CellTransport" "STEP_X" "[I").before #[Value.ref b] s = true := hts (Cond.laysStatic "CellTransport" "STEP_X" "[I") (List.mem_append_right _ (List.mem_of_getElem? (i := 348) (by decide +kernel)))
  have hLY : (Cond.laysStatic "CellTransport" "STEP_Y" "[I").before #[Value.ref b] s = true := hts (Cond.laysStatic "CellTransport" "STEP_Y" "[I") (List.mem_append_right _ (List.mem_of_getElem? (i := 350) (by decide +kernel)))
  obtain ⟨a0, k0, p0, f0, g0, e0⟩ := Cond.arrayClass_spec hI
  obtain ⟨a4, k4, p4, f4, g4, e4⟩ := Cond.arrayClass_spec hZ
  obtain ⟨p1, a1, k1, m1, -, g1, e1, f1⟩ := Cond.arrayOver_spec hS
  obtain ⟨p2, a2, k2, m2, -, g2, e2, f2⟩ := Cond.arrayOver_spec hC
  obtain ⟨p3, a3, k3, m3, -, g3, e3, f3⟩ := arrayOverA_spec hII
  refine ⟨fun k => ([a0, a1, a2, a3, a4] : List ClassId).getD k 0, D, ⟨⟨hKc, fun k q hq => ?_⟩, fun w hw => ?_, hI, hZ, va_AO.of hS, va_AO.of hC, hII⟩, ?_, ?_⟩
  · match k, hq with
    | 0, hq => cases hq; exact ⟨fun n z => ⟨fun k h => (by cases h), k0, g0, p0, e0⟩, f0⟩
    | 1, hq => cases hq; exact ⟨fun n z => ⟨fun k h => (by cases h), k1, g1, p1, e1⟩, k1, p1, g1, e1, m1, f1⟩
    | 2, hq => cases hq; exact ⟨fun n z => ⟨fun k h => (by cases h), k2, g2, p2, e2⟩, k2, p2, g2, e2, m2, f2⟩
    | 3, hq => cases hq; exact ⟨fun n z => ⟨fun k h => (by cases h), k3, g3, p3, e3⟩, f3⟩
    | 4, hq => cases hq; exact ⟨fun n z => ⟨fun k h => (by cases h), k4, g4, p4, e4⟩, f4⟩
    | k + 5, hq => simp [z_tys] at hq
  · have hu := (List.mem_filter.mp hw).2
    unfold z_use at hu
    rw [Bool.and_eq_true] at hu
    exact va_Nw.of hu.1 (hz w hw)
  · refine law_tab hLX (hz _ wn_CellTransport) (hs _ (by decide +kernel)) (hs _ (by decide +kernel)) (fun j hj => ?_)
    match j, hj with
    | 0, _ => exact hs (Cond.eq (.elem (.static "CellTransport" "STEP_X" "[I") (.int 0)) (.int (1))) (by decide +kernel)
    | 1, _ => exact hs (Cond.eq (.elem (.static "CellTransport" "STEP_X" "[I") (.int 1)) (.int (1))) (by decide +kernel)
    | 2, _ => exact hs (Cond.eq (.elem (.static "CellTransport" "STEP_X" "[I") (.int 2)) (.int (0))) (by decide +kernel)
    | 3, _ => exact hs (Cond.eq (.elem (.static "CellTransport" "STEP_X" "[I") (.int 3)) (.int (-1))) (by decide +kernel)
    | 4, _ => exact hs (Cond.eq (.elem (.static "CellTransport" "STEP_X" "[I") (.int 4)) (.int (-1))) (by decide +kernel)
    | 5, _ => exact hs (Cond.eq (.elem (.static "CellTransport" "STEP_X" "[I") (.int 5)) (.int (-1))) (by decide +kernel)
    | 6, _ => exact hs (Cond.eq (.elem (.static "CellTransport" "STEP_X" "[I") (.int 6)) (.int (0))) (by decide +kernel)
    | 7, _ => exact hs (Cond.eq (.elem (.static "CellTransport" "STEP_X" "[I") (.int 7)) (.int (1))) (by decide +kernel)
    | j + 8, h => exact absurd h (by omega)
  · refine law_tab hLY (hz _ wn_CellTransport) (hs _ (by decide +kernel)) (hs _ (by decide +kernel)) (fun j hj => ?_)
    match j, hj with
    | 0, _ => exact hs (Cond.eq (.elem (.static "CellTransport" "STEP_Y" "[I") (.int 0)) (.int (0))) (by decide +kernel)
    | 1, _ => exact hs (Cond.eq (.elem (.static "CellTransport" "STEP_Y" "[I") (.int 1)) (.int (1))) (by decide +kernel)
    | 2, _ => exact hs (Cond.eq (.elem (.static "CellTransport" "STEP_Y" "[I") (.int 2)) (.int (1))) (by decide +kernel)
    | 3, _ => exact hs (Cond.eq (.elem (.static "CellTransport" "STEP_Y" "[I") (.int 3)) (.int (1))) (by decide +kernel)
    | 4, _ => exact hs (Cond.eq (.elem (.static "CellTransport" "STEP_Y" "[I") (.int 4)) (.int (0))) (by decide +kernel)
    | 5, _ => exact hs (Cond.eq (.elem (.static "CellTransport" "STEP_Y" "[I") (.int 5)) (.int (-1))) (by decide +kernel)
    | 6, _ => exact hs (Cond.eq (.elem (.static "CellTransport" "STEP_Y" "[I") (.int 6)) (.int (-1))) (by decide +kernel)
    | 7, _ => exact hs (Cond.eq (.elem (.static "CellTransport" "STEP_Y" "[I") (.int 7)) (.int (-1))) (by decide +kernel)
    | j + 8, h => exact absurd h (by omega)
