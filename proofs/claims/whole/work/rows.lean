section
-- ===== PART A: goes FIRST, ahead of the names: the tables' words, and 'selects' of the private methods out of them =====
/-- a private method of a class that the tables say can be made, by its rows of tables_1 -/
def lw_okq (q : MethodName × Nat) : Prop := (q.1.cls ≠ "java/lang/invoke/MethodHandle" ∧ q.1.cls ≠ "java/lang/invoke/VarHandle") ∧ Cond.instantiable q.1.cls q.2 ∈ tables_1 ∧ Cond.privateMethod q.1 ∈ tables_1 ∧ Cond.instanceMethod q.1 ∈ tables_1
theorem lw_p0 : lw_okq (⟨"CellTransport$Surface", "become", "(IIII)V"⟩, 5) := ⟨⟨by decide +kernel, by decide +kernel⟩, List.mem_of_getElem? (i := 31) (by decide +kernel), List.mem_of_getElem? (i := 227) (by decide +kernel), List.mem_of_getElem? (i := 228) (by decide +kernel)⟩
theorem lw_p1 : lw_okq (⟨"CellTransport$Region", "add", "(I)V"⟩, 2) := ⟨⟨by decide +kernel, by decide +kernel⟩, List.mem_of_getElem? (i := 59) (by decide +kernel), List.mem_of_getElem? (i := 235) (by decide +kernel), List.mem_of_getElem? (i := 236) (by decide +kernel)⟩
theorem lw_p2 : lw_okq (⟨"CellTransport$Region", "isWhole", "()Z"⟩, 2) := ⟨⟨by decide +kernel, by decide +kernel⟩, List.mem_of_getElem? (i := 59) (by decide +kernel), List.mem_of_getElem? (i := 246) (by decide +kernel), List.mem_of_getElem? (i := 247) (by decide +kernel)⟩
theorem lw_p3 : lw_okq (⟨"CellTransport$Cell", "define", "(LCellTransport$Region;III)V"⟩, 5) := ⟨⟨by decide +kernel, by decide +kernel⟩, List.mem_of_getElem? (i := 53) (by decide +kernel), List.mem_of_getElem? (i := 253) (by decide +kernel), List.mem_of_getElem? (i := 254) (by decide +kernel)⟩
theorem lw_p4 : lw_okq (⟨"CellTransport$Region", "copyFrom", "(LCellTransport$Region;)V"⟩, 2) := ⟨⟨by decide +kernel, by decide +kernel⟩, List.mem_of_getElem? (i := 59) (by decide +kernel), List.mem_of_getElem? (i := 257) (by decide +kernel), List.mem_of_getElem? (i := 258) (by decide +kernel)⟩
theorem lw_p5 : lw_okq (⟨"CellTransport$Generator", "start", "(I)V"⟩, 1) := ⟨⟨by decide +kernel, by decide +kernel⟩, List.mem_of_getElem? (i := 107) (by decide +kernel), List.mem_of_getElem? (i := 276) (by decide +kernel), List.mem_of_getElem? (i := 277) (by decide +kernel)⟩
theorem lw_p6 : lw_okq (⟨"CellTransport$Generator", "leap", "(I)V"⟩, 1) := ⟨⟨by decide +kernel, by decide +kernel⟩, List.mem_of_getElem? (i := 107) (by decide +kernel), List.mem_of_getElem? (i := 286) (by decide +kernel), List.mem_of_getElem? (i := 287) (by decide +kernel)⟩
theorem lw_p7 : lw_okq (⟨"CellTransport", "playHistory", "()I"⟩, 8) := ⟨⟨by decide +kernel, by decide +kernel⟩, List.mem_of_getElem? (i := 14) (by decide +kernel), List.mem_of_getElem? (i := 299) (by decide +kernel), List.mem_of_getElem? (i := 300) (by decide +kernel)⟩
theorem lw_p8 : lw_okq (⟨"CellTransport$Line", "empty", "()V"⟩, 4) := ⟨⟨by decide +kernel, by decide +kernel⟩, List.mem_of_getElem? (i := 139) (by decide +kernel), List.mem_of_getElem? (i := 303) (by decide +kernel), List.mem_of_getElem? (i := 304) (by decide +kernel)⟩
theorem lw_p9 : lw_okq (⟨"CellTransport$Line", "join", "(II)Z"⟩, 4) := ⟨⟨by decide +kernel, by decide +kernel⟩, List.mem_of_getElem? (i := 139) (by decide +kernel), List.mem_of_getElem? (i := 307) (by decide +kernel), List.mem_of_getElem? (i := 308) (by decide +kernel)⟩
theorem lw_p10 : lw_okq (⟨"CellTransport$Line", "sendLast", "(LCellTransport$Particle;)V"⟩, 4) := ⟨⟨by decide +kernel, by decide +kernel⟩, List.mem_of_getElem? (i := 139) (by decide +kernel), List.mem_of_getElem? (i := 311) (by decide +kernel), List.mem_of_getElem? (i := 312) (by decide +kernel)⟩
theorem lw_p11 : lw_okq (⟨"CellTransport", "fly", "()V"⟩, 8) := ⟨⟨by decide +kernel, by decide +kernel⟩, List.mem_of_getElem? (i := 14) (by decide +kernel), List.mem_of_getElem? (i := 315) (by decide +kernel), List.mem_of_getElem? (i := 316) (by decide +kernel)⟩
theorem lw_p12 : lw_okq (⟨"CellTransport$Geometry", "cellAt", "(II)I"⟩, 2) := ⟨⟨by decide +kernel, by decide +kernel⟩, List.mem_of_getElem? (i := 22) (by decide +kernel), List.mem_of_getElem? (i := 319) (by decide +kernel), List.mem_of_getElem? (i := 320) (by decide +kernel)⟩
theorem lw_p13 : lw_okq (⟨"CellTransport$Region", "holds", "([LCellTransport$Surface;II)Z"⟩, 2) := ⟨⟨by decide +kernel, by decide +kernel⟩, List.mem_of_getElem? (i := 59) (by decide +kernel), List.mem_of_getElem? (i := 323) (by decide +kernel), List.mem_of_getElem? (i := 324) (by decide +kernel)⟩
theorem lw_p14 : lw_okq (⟨"CellTransport$Surface", "holds", "(II)Z"⟩, 5) := ⟨⟨by decide +kernel, by decide +kernel⟩, List.mem_of_getElem? (i := 31) (by decide +kernel), List.mem_of_getElem? (i := 327) (by decide +kernel), List.mem_of_getElem? (i := 328) (by decide +kernel)⟩
theorem lw_p15 : lw_okq (⟨"CellTransport", "aim", "()V"⟩, 8) := ⟨⟨by decide +kernel, by decide +kernel⟩, List.mem_of_getElem? (i := 14) (by decide +kernel), List.mem_of_getElem? (i := 332) (by decide +kernel), List.mem_of_getElem? (i := 333) (by decide +kernel)⟩
def lw_privs_1 : List (MethodName × Nat) := [(⟨"CellTransport$Surface", "become", "(IIII)V"⟩, 5), (⟨"CellTransport$Region", "add", "(I)V"⟩, 2), (⟨"CellTransport$Region", "isWhole", "()Z"⟩, 2), (⟨"CellTransport$Cell", "define", "(LCellTransport$Region;III)V"⟩, 5), (⟨"CellTransport$Region", "copyFrom", "(LCellTransport$Region;)V"⟩, 2), (⟨"CellTransport$Generator", "start", "(I)V"⟩, 1), (⟨"CellTransport$Generator", "leap", "(I)V"⟩, 1), (⟨"CellTransport", "playHistory", "()I"⟩, 8), (⟨"CellTransport$Line", "empty", "()V"⟩, 4), (⟨"CellTransport$Line", "join", "(II)Z"⟩, 4), (⟨"CellTransport$Line", "sendLast", "(LCellTransport$Particle;)V"⟩, 4), (⟨"CellTransport", "fly", "()V"⟩, 8), (⟨"CellTransport$Geometry", "cellAt", "(II)I"⟩, 2), (⟨"CellTransport$Region", "holds", "([LCellTransport$Surface;II)Z"⟩, 2), (⟨"CellTransport$Surface", "holds", "(II)Z"⟩, 5), (⟨"CellTransport", "aim", "()V"⟩, 8)]
theorem lw_r1 : ∀ q ∈ lw_privs_1, lw_okq q := List.forall_mem_cons.mpr ⟨lw_p0, List.forall_mem_cons.mpr ⟨lw_p1, List.forall_mem_cons.mpr ⟨lw_p2, List.forall_mem_cons.mpr ⟨lw_p3, List.forall_mem_cons.mpr ⟨lw_p4, List.forall_mem_cons.mpr ⟨lw_p5, List.forall_mem_cons.mpr ⟨lw_p6, List.forall_mem_cons.mpr ⟨lw_p7, List.forall_mem_cons.mpr ⟨lw_p8, List.forall_mem_cons.mpr ⟨lw_p9, List.forall_mem_cons.mpr ⟨lw_p10, List.forall_mem_cons.mpr ⟨lw_p11, List.forall_mem_cons.mpr ⟨lw_p12, List.forall_mem_cons.mpr ⟨lw_p13, List.forall_mem_cons.mpr ⟨lw_p14, List.forall_mem_cons.mpr ⟨lw_p15, fun _ h => absurd h List.not_mem_nil⟩⟩⟩⟩⟩⟩⟩⟩⟩⟩⟩⟩⟩⟩⟩⟩
theorem lw_p16 : lw_okq (⟨"CellTransport$Generator", "draw", "()I"⟩, 1) := ⟨⟨by decide +kernel, by decide +kernel⟩, List.mem_of_getElem? (i := 107) (by decide +kernel), List.mem_of_getElem? (i := 336) (by decide +kernel), List.mem_of_getElem? (i := 337) (by decide +kernel)⟩
theorem lw_p17 : lw_okq (⟨"CellTransport", "survivesStep", "()Z"⟩, 8) := ⟨⟨by decide +kernel, by decide +kernel⟩, List.mem_of_getElem? (i := 14) (by decide +kernel), List.mem_of_getElem? (i := 340) (by decide +kernel), List.mem_of_getElem? (i := 341) (by decide +kernel)⟩
theorem lw_p18 : lw_okq (⟨"CellTransport$Particle", "move", "()V"⟩, 5) := ⟨⟨by decide +kernel, by decide +kernel⟩, List.mem_of_getElem? (i := 159) (by decide +kernel), List.mem_of_getElem? (i := 344) (by decide +kernel), List.mem_of_getElem? (i := 345) (by decide +kernel)⟩
theorem lw_p19 : lw_okq (⟨"CellTransport$Counts", "addTrack", "(II)V"⟩, 3) := ⟨⟨by decide +kernel, by decide +kernel⟩, List.mem_of_getElem? (i := 118) (by decide +kernel), List.mem_of_getElem? (i := 352) (by decide +kernel), List.mem_of_getElem? (i := 353) (by decide +kernel)⟩
theorem lw_p20 : lw_okq (⟨"CellTransport", "survivesCollision", "(LCellTransport$Cell;)Z"⟩, 8) := ⟨⟨by decide +kernel, by decide +kernel⟩, List.mem_of_getElem? (i := 14) (by decide +kernel), List.mem_of_getElem? (i := 356) (by decide +kernel), List.mem_of_getElem? (i := 357) (by decide +kernel)⟩
theorem lw_p21 : lw_okq (⟨"CellTransport", "split", "()V"⟩, 8) := ⟨⟨by decide +kernel, by decide +kernel⟩, List.mem_of_getElem? (i := 14) (by decide +kernel), List.mem_of_getElem? (i := 360) (by decide +kernel), List.mem_of_getElem? (i := 361) (by decide +kernel)⟩
theorem lw_p22 : lw_okq (⟨"CellTransport$Geometry", "definedCells", "()I"⟩, 2) := ⟨⟨by decide +kernel, by decide +kernel⟩, List.mem_of_getElem? (i := 22) (by decide +kernel), List.mem_of_getElem? (i := 386) (by decide +kernel), List.mem_of_getElem? (i := 387) (by decide +kernel)⟩
theorem lw_p23 : lw_okq (⟨"CellTransport$Counts", "reset", "()V"⟩, 3) := ⟨⟨by decide +kernel, by decide +kernel⟩, List.mem_of_getElem? (i := 118) (by decide +kernel), List.mem_of_getElem? (i := 395) (by decide +kernel), List.mem_of_getElem? (i := 396) (by decide +kernel)⟩
theorem lw_p24 : lw_okq (⟨"CellTransportModel", "told", "()Z"⟩, 27) := ⟨⟨by decide +kernel, by decide +kernel⟩, List.mem_of_getElem? (i := 402) (by decide +kernel), List.mem_of_getElem? (i := 506) (by decide +kernel), List.mem_of_getElem? (i := 507) (by decide +kernel)⟩
theorem lw_p25 : lw_okq (⟨"CellTransportModel", "draw", "(I)I"⟩, 27) := ⟨⟨by decide +kernel, by decide +kernel⟩, List.mem_of_getElem? (i := 402) (by decide +kernel), List.mem_of_getElem? (i := 528) (by decide +kernel), List.mem_of_getElem? (i := 529) (by decide +kernel)⟩
theorem lw_p26 : lw_okq (⟨"CellTransportModel", "at", "(II)I"⟩, 27) := ⟨⟨by decide +kernel, by decide +kernel⟩, List.mem_of_getElem? (i := 402) (by decide +kernel), List.mem_of_getElem? (i := 543) (by decide +kernel), List.mem_of_getElem? (i := 544) (by decide +kernel)⟩
theorem lw_p27 : lw_okq (⟨"CellTransportModel", "inside", "(III)Z"⟩, 27) := ⟨⟨by decide +kernel, by decide +kernel⟩, List.mem_of_getElem? (i := 402) (by decide +kernel), List.mem_of_getElem? (i := 547) (by decide +kernel), List.mem_of_getElem? (i := 548) (by decide +kernel)⟩
theorem lw_p28 : lw_okq (⟨"CellTransportModel", "holds", "(III)Z"⟩, 27) := ⟨⟨by decide +kernel, by decide +kernel⟩, List.mem_of_getElem? (i := 402) (by decide +kernel), List.mem_of_getElem? (i := 551) (by decide +kernel), List.mem_of_getElem? (i := 552) (by decide +kernel)⟩
theorem lw_p29 : lw_okq (⟨"CellTransportModel", "history", "()I"⟩, 27) := ⟨⟨by decide +kernel, by decide +kernel⟩, List.mem_of_getElem? (i := 402) (by decide +kernel), List.mem_of_getElem? (i := 569) (by decide +kernel), List.mem_of_getElem? (i := 570) (by decide +kernel)⟩
theorem lw_p30 : lw_okq (⟨"CellTransportModel", "fly", "()V"⟩, 27) := ⟨⟨by decide +kernel, by decide +kernel⟩, List.mem_of_getElem? (i := 402) (by decide +kernel), List.mem_of_getElem? (i := 573) (by decide +kernel), List.mem_of_getElem? (i := 574) (by decide +kernel)⟩
theorem lw_p31 : lw_okq (⟨"CellTransportModel", "turn", "()V"⟩, 27) := ⟨⟨by decide +kernel, by decide +kernel⟩, List.mem_of_getElem? (i := 402) (by decide +kernel), List.mem_of_getElem? (i := 577) (by decide +kernel), List.mem_of_getElem? (i := 578) (by decide +kernel)⟩
def lw_privs_2 : List (MethodName × Nat) := [(⟨"CellTransport$Generator", "draw", "()I"⟩, 1), (⟨"CellTransport", "survivesStep", "()Z"⟩, 8), (⟨"CellTransport$Particle", "move", "()V"⟩, 5), (⟨"CellTransport$Counts", "addTrack", "(II)V"⟩, 3), (⟨"CellTransport", "survivesCollision", "(LCellTransport$Cell;)Z"⟩, 8), (⟨"CellTransport", "split", "()V"⟩, 8), (⟨"CellTransport$Geometry", "definedCells", "()I"⟩, 2), (⟨"CellTransport$Counts", "reset", "()V"⟩, 3), (⟨"CellTransportModel", "told", "()Z"⟩, 27), (⟨"CellTransportModel", "draw", "(I)I"⟩, 27), (⟨"CellTransportModel", "at", "(II)I"⟩, 27), (⟨"CellTransportModel", "inside", "(III)Z"⟩, 27), (⟨"CellTransportModel", "holds", "(III)Z"⟩, 27), (⟨"CellTransportModel", "history", "()I"⟩, 27), (⟨"CellTransportModel", "fly", "()V"⟩, 27), (⟨"CellTransportModel", "turn", "()V"⟩, 27)]
theorem lw_r2 : ∀ q ∈ lw_privs_2, lw_okq q := List.forall_mem_cons.mpr ⟨lw_p16, List.forall_mem_cons.mpr ⟨lw_p17, List.forall_mem_cons.mpr ⟨lw_p18, List.forall_mem_cons.mpr ⟨lw_p19, List.forall_mem_cons.mpr ⟨lw_p20, List.forall_mem_cons.mpr ⟨lw_p21, List.forall_mem_cons.mpr ⟨lw_p22, List.forall_mem_cons.mpr ⟨lw_p23, List.forall_mem_cons.mpr ⟨lw_p24, List.forall_mem_cons.mpr ⟨lw_p25, List.forall_mem_cons.mpr ⟨lw_p26, List.forall_mem_cons.mpr ⟨lw_p27, List.forall_mem_cons.mpr ⟨lw_p28, List.forall_mem_cons.mpr ⟨lw_p29, List.forall_mem_cons.mpr ⟨lw_p30, List.forall_mem_cons.mpr ⟨lw_p31, fun _ h => absurd h List.not_mem_nil⟩⟩⟩⟩⟩⟩⟩⟩⟩⟩⟩⟩⟩⟩⟩⟩
theorem lw_p32 : lw_okq (⟨"CellTransportModel", "collide", "(I)Z"⟩, 27) := ⟨⟨by decide +kernel, by decide +kernel⟩, List.mem_of_getElem? (i := 402) (by decide +kernel), List.mem_of_getElem? (i := 581) (by decide +kernel), List.mem_of_getElem? (i := 582) (by decide +kernel)⟩
theorem lw_p33 : lw_okq (⟨"CellTransportModel", "join", "()V"⟩, 27) := ⟨⟨by decide +kernel, by decide +kernel⟩, List.mem_of_getElem? (i := 402) (by decide +kernel), List.mem_of_getElem? (i := 585) (by decide +kernel), List.mem_of_getElem? (i := 586) (by decide +kernel)⟩
def lw_privs_3 : List (MethodName × Nat) := [(⟨"CellTransportModel", "collide", "(I)Z"⟩, 27), (⟨"CellTransportModel", "join", "()V"⟩, 27)]
theorem lw_r3 : ∀ q ∈ lw_privs_3, lw_okq q := List.forall_mem_cons.mpr ⟨lw_p32, List.forall_mem_cons.mpr ⟨lw_p33, fun _ h => absurd h List.not_mem_nil⟩⟩
def lw_privs : List (MethodName × Nat) := lw_privs_1 ++ (lw_privs_2 ++ (lw_privs_3))
def lw_tbl : List Cond := k2_sels lw_privs ++ tables_1
theorem lw_privs_ok : ∀ q ∈ lw_privs, lw_okq q := by
  show ∀ q ∈ lw_privs_1 ++ (lw_privs_2 ++ (lw_privs_3)), lw_okq q
  exact List.forall_mem_append.mpr ⟨lw_r1, List.forall_mem_append.mpr ⟨lw_r2, lw_r3⟩⟩
end
section
abbrev b_CellTransport_init : ByteArray := prog_1_method_1_code
def y_CellTransport_init : MethodName := ⟨"CellTransport", "<init>", "()V"⟩
abbrev b_CellTransport_surface : ByteArray := prog_1_method_2_code
def y_CellTransport_surface : MethodName := ⟨"CellTransport", "surface", "(IIIII)I"⟩
abbrev b_CellTransport_token : ByteArray := prog_1_method_3_code
def y_CellTransport_token : MethodName := ⟨"CellTransport", "token", "(I)I"⟩
abbrev b_CellTransport_cell : ByteArray := prog_1_method_4_code
def y_CellTransport_cell : MethodName := ⟨"CellTransport", "cell", "(IIII)I"⟩
abbrev b_CellTransport_undefine : ByteArray := prog_1_method_5_code
def y_CellTransport_undefine : MethodName := ⟨"CellTransport", "undefine", "(I)I"⟩
abbrev b_CellTransport_source : ByteArray := prog_1_method_6_code
def y_CellTransport_source : MethodName := ⟨"CellTransport", "source", "(II)I"⟩
abbrev b_CellTransport_seed : ByteArray := prog_1_method_7_code
def y_CellTransport_seed : MethodName := ⟨"CellTransport", "seed", "(I)V"⟩
abbrev b_CellTransport_skip : ByteArray := prog_1_method_8_code
def y_CellTransport_skip : MethodName := ⟨"CellTransport", "skip", "(I)I"⟩
abbrev b_CellTransport_state : ByteArray := prog_1_method_9_code
def y_CellTransport_state : MethodName := ⟨"CellTransport", "state", "()I"⟩
abbrev b_CellTransport_run : ByteArray := prog_1_method_10_code
def y_CellTransport_run : MethodName := ⟨"CellTransport", "run", "(I)I"⟩
abbrev b_CellTransport_where : ByteArray := prog_1_method_11_code
def y_CellTransport_where : MethodName := ⟨"CellTransport", "where", "(II)I"⟩
abbrev b_CellTransport_reach : ByteArray := prog_1_method_12_code
def y_CellTransport_reach : MethodName := ⟨"CellTransport", "reach", "(III)I"⟩
abbrev b_CellTransport_tally : ByteArray := prog_1_method_13_code
def y_CellTransport_tally : MethodName := ⟨"CellTransport", "tally", "(II)I"⟩
abbrev b_CellTransport_crossed : ByteArray := prog_1_method_14_code
def y_CellTransport_crossed : MethodName := ⟨"CellTransport", "crossed", "(II)I"⟩
abbrev b_CellTransport_count : ByteArray := prog_1_method_15_code
def y_CellTransport_count : MethodName := ⟨"CellTransport", "count", "(I)I"⟩
abbrev b_CellTransport_clear : ByteArray := prog_1_method_16_code
def y_CellTransport_clear : MethodName := ⟨"CellTransport", "clear", "()V"⟩
abbrev b_CellTransport_isBetween : ByteArray := prog_1_method_17_code
def y_CellTransport_isBetween : MethodName := ⟨"CellTransport", "isBetween", "(III)Z"⟩
abbrev b_CellTransport_areWithin : ByteArray := prog_1_method_18_code
def y_CellTransport_areWithin : MethodName := ⟨"CellTransport", "areWithin", "(III)Z"⟩
abbrev b_CellTransport_isSurface : ByteArray := prog_1_method_19_code
def y_CellTransport_isSurface : MethodName := ⟨"CellTransport", "isSurface", "(IIII)Z"⟩
abbrev b_CellTransport_areShares : ByteArray := prog_1_method_20_code
def y_CellTransport_areShares : MethodName := ⟨"CellTransport", "areShares", "(II)Z"⟩
abbrev b_CellTransport_oneIf : ByteArray := prog_1_method_21_code
def y_CellTransport_oneIf : MethodName := ⟨"CellTransport", "oneIf", "(Z)I"⟩
abbrev b_CellTransport_playHistory : ByteArray := prog_1_method_22_code
def y_CellTransport_playHistory : MethodName := ⟨"CellTransport", "playHistory", "()I"⟩
abbrev b_CellTransport_fly : ByteArray := prog_1_method_23_code
def y_CellTransport_fly : MethodName := ⟨"CellTransport", "fly", "()V"⟩
abbrev b_CellTransport_aim : ByteArray := prog_1_method_24_code
def y_CellTransport_aim : MethodName := ⟨"CellTransport", "aim", "()V"⟩
abbrev b_CellTransport_survivesStep : ByteArray := prog_1_method_25_code
def y_CellTransport_survivesStep : MethodName := ⟨"CellTransport", "survivesStep", "()Z"⟩
abbrev b_CellTransport_survivesCollision : ByteArray := prog_1_method_26_code
def y_CellTransport_survivesCollision : MethodName := ⟨"CellTransport", "survivesCollision", "(LCellTransport$Cell;)Z"⟩
abbrev b_CellTransport_split : ByteArray := prog_1_method_27_code
def y_CellTransport_split : MethodName := ⟨"CellTransport", "split", "()V"⟩
abbrev b_Model_init : ByteArray := prog_11_method_1_code
def y_Model_init : MethodName := ⟨"CellTransportModel", "<init>", "()V"⟩
abbrev b_Model_out : ByteArray := prog_11_method_2_code
def y_Model_out : MethodName := ⟨"CellTransportModel", "out", "(III)Z"⟩
abbrev b_Model_surface : ByteArray := prog_11_method_3_code
def y_Model_surface : MethodName := ⟨"CellTransportModel", "surface", "(IIIII)I"⟩
abbrev b_Model_token : ByteArray := prog_11_method_4_code
def y_Model_token : MethodName := ⟨"CellTransportModel", "token", "(I)I"⟩
abbrev b_Model_told : ByteArray := prog_11_method_5_code
def y_Model_told : MethodName := ⟨"CellTransportModel", "told", "()Z"⟩
abbrev b_Model_cell : ByteArray := prog_11_method_6_code
def y_Model_cell : MethodName := ⟨"CellTransportModel", "cell", "(IIII)I"⟩
abbrev b_Model_undefine : ByteArray := prog_11_method_7_code
def y_Model_undefine : MethodName := ⟨"CellTransportModel", "undefine", "(I)I"⟩
abbrev b_Model_source : ByteArray := prog_11_method_8_code
def y_Model_source : MethodName := ⟨"CellTransportModel", "source", "(II)I"⟩
abbrev b_Model_seed : ByteArray := prog_11_method_9_code
def y_Model_seed : MethodName := ⟨"CellTransportModel", "seed", "(I)V"⟩
abbrev b_Model_draw : ByteArray := prog_11_method_10_code
def y_Model_draw : MethodName := ⟨"CellTransportModel", "draw", "(I)I"⟩
abbrev b_Model_skip : ByteArray := prog_11_method_11_code
def y_Model_skip : MethodName := ⟨"CellTransportModel", "skip", "(I)I"⟩
abbrev b_Model_state : ByteArray := prog_11_method_12_code
def y_Model_state : MethodName := ⟨"CellTransportModel", "state", "()I"⟩
abbrev b_Model_holds : ByteArray := prog_11_method_13_code
def y_Model_holds : MethodName := ⟨"CellTransportModel", "holds", "(III)Z"⟩
abbrev b_Model_inside : ByteArray := prog_11_method_14_code
def y_Model_inside : MethodName := ⟨"CellTransportModel", "inside", "(III)Z"⟩
abbrev b_Model_at : ByteArray := prog_11_method_15_code
def y_Model_at : MethodName := ⟨"CellTransportModel", "at", "(II)I"⟩
abbrev b_Model_stepX : ByteArray := prog_11_method_16_code
def y_Model_stepX : MethodName := ⟨"CellTransportModel", "stepX", "(I)I"⟩
abbrev b_Model_stepY : ByteArray := prog_11_method_17_code
def y_Model_stepY : MethodName := ⟨"CellTransportModel", "stepY", "(I)I"⟩
abbrev b_Model_where : ByteArray := prog_11_method_18_code
def y_Model_where : MethodName := ⟨"CellTransportModel", "where", "(II)I"⟩
abbrev b_Model_reach : ByteArray := prog_11_method_19_code
def y_Model_reach : MethodName := ⟨"CellTransportModel", "reach", "(III)I"⟩
abbrev b_Model_turn : ByteArray := prog_11_method_20_code
def y_Model_turn : MethodName := ⟨"CellTransportModel", "turn", "()V"⟩
abbrev b_Model_join : ByteArray := prog_11_method_21_code
def y_Model_join : MethodName := ⟨"CellTransportModel", "join", "()V"⟩
abbrev b_Model_collide : ByteArray := prog_11_method_22_code
def y_Model_collide : MethodName := ⟨"CellTransportModel", "collide", "(I)Z"⟩
abbrev b_Model_fly : ByteArray := prog_11_method_23_code
def y_Model_fly : MethodName := ⟨"CellTransportModel", "fly", "()V"⟩
abbrev b_Model_history : ByteArray := prog_11_method_24_code
def y_Model_history : MethodName := ⟨"CellTransportModel", "history", "()I"⟩
abbrev b_Model_run : ByteArray := prog_11_method_25_code
def y_Model_run : MethodName := ⟨"CellTransportModel", "run", "(I)I"⟩
abbrev b_Model_tally : ByteArray := prog_11_method_26_code
def y_Model_tally : MethodName := ⟨"CellTransportModel", "tally", "(II)I"⟩
abbrev b_Model_crossed : ByteArray := prog_11_method_27_code
def y_Model_crossed : MethodName := ⟨"CellTransportModel", "crossed", "(II)I"⟩
abbrev b_Model_count : ByteArray := prog_11_method_28_code
def y_Model_count : MethodName := ⟨"CellTransportModel", "count", "(I)I"⟩
abbrev b_Model_clear : ByteArray := prog_11_method_29_code
def y_Model_clear : MethodName := ⟨"CellTransportModel", "clear", "()V"⟩
abbrev b_Cell_init : ByteArray := prog_2_method_1_code
def y_Cell_init : MethodName := ⟨"CellTransport$Cell", "<init>", "()V"⟩
abbrev b_Cell_define : ByteArray := prog_2_method_2_code
def y_Cell_define : MethodName := ⟨"CellTransport$Cell", "define", "(LCellTransport$Region;III)V"⟩
abbrev b_Counts_init : ByteArray := prog_3_method_1_code
def y_Counts_init : MethodName := ⟨"CellTransport$Counts", "<init>", "()V"⟩
abbrev b_Counts_addTrack : ByteArray := prog_3_method_2_code
def y_Counts_addTrack : MethodName := ⟨"CellTransport$Counts", "addTrack", "(II)V"⟩
abbrev b_Counts_reset : ByteArray := prog_3_method_3_code
def y_Counts_reset : MethodName := ⟨"CellTransport$Counts", "reset", "()V"⟩
abbrev b_Generator_init : ByteArray := prog_4_method_1_code
def y_Generator_init : MethodName := ⟨"CellTransport$Generator", "<init>", "()V"⟩
abbrev b_Generator_start : ByteArray := prog_4_method_2_code
def y_Generator_start : MethodName := ⟨"CellTransport$Generator", "start", "(I)V"⟩
abbrev b_Generator_draw : ByteArray := prog_4_method_3_code
def y_Generator_draw : MethodName := ⟨"CellTransport$Generator", "draw", "()I"⟩
abbrev b_Generator_leap : ByteArray := prog_4_method_4_code
def y_Generator_leap : MethodName := ⟨"CellTransport$Generator", "leap", "(I)V"⟩
abbrev b_Geometry_init : ByteArray := prog_5_method_1_code
def y_Geometry_init : MethodName := ⟨"CellTransport$Geometry", "<init>", "()V"⟩
abbrev b_Geometry_cellAt : ByteArray := prog_5_method_2_code
def y_Geometry_cellAt : MethodName := ⟨"CellTransport$Geometry", "cellAt", "(II)I"⟩
abbrev b_Geometry_definedCells : ByteArray := prog_5_method_3_code
def y_Geometry_definedCells : MethodName := ⟨"CellTransport$Geometry", "definedCells", "()I"⟩
abbrev b_Line_init : ByteArray := prog_6_method_1_code
def y_Line_init : MethodName := ⟨"CellTransport$Line", "<init>", "()V"⟩
abbrev b_Line_empty : ByteArray := prog_6_method_2_code
def y_Line_empty : MethodName := ⟨"CellTransport$Line", "empty", "()V"⟩
abbrev b_Line_join : ByteArray := prog_6_method_3_code
def y_Line_join : MethodName := ⟨"CellTransport$Line", "join", "(II)Z"⟩
abbrev b_Line_sendLast : ByteArray := prog_6_method_4_code
def y_Line_sendLast : MethodName := ⟨"CellTransport$Line", "sendLast", "(LCellTransport$Particle;)V"⟩
abbrev b_Particle_init : ByteArray := prog_7_method_1_code
def y_Particle_init : MethodName := ⟨"CellTransport$Particle", "<init>", "()V"⟩
abbrev b_Particle_move : ByteArray := prog_7_method_2_code
def y_Particle_move : MethodName := ⟨"CellTransport$Particle", "move", "()V"⟩
abbrev b_Region_init : ByteArray := prog_8_method_1_code
def y_Region_init : MethodName := ⟨"CellTransport$Region", "<init>", "()V"⟩
abbrev b_Region_add : ByteArray := prog_8_method_2_code
def y_Region_add : MethodName := ⟨"CellTransport$Region", "add", "(I)V"⟩
abbrev b_Region_copyFrom : ByteArray := prog_8_method_3_code
def y_Region_copyFrom : MethodName := ⟨"CellTransport$Region", "copyFrom", "(LCellTransport$Region;)V"⟩
abbrev b_Region_isWhole : ByteArray := prog_8_method_4_code
def y_Region_isWhole : MethodName := ⟨"CellTransport$Region", "isWhole", "()Z"⟩
abbrev b_Region_operandsOf : ByteArray := prog_8_method_5_code
def y_Region_operandsOf : MethodName := ⟨"CellTransport$Region", "operandsOf", "(I)I"⟩
abbrev b_Region_holds : ByteArray := prog_8_method_6_code
def y_Region_holds : MethodName := ⟨"CellTransport$Region", "holds", "([LCellTransport$Surface;II)Z"⟩
abbrev b_Surface_init : ByteArray := prog_9_method_1_code
def y_Surface_init : MethodName := ⟨"CellTransport$Surface", "<init>", "()V"⟩
abbrev b_Surface_become : ByteArray := prog_9_method_2_code
def y_Surface_become : MethodName := ⟨"CellTransport$Surface", "become", "(IIII)V"⟩
abbrev b_Surface_holds : ByteArray := prog_9_method_3_code
def y_Surface_holds : MethodName := ⟨"CellTransport$Surface", "holds", "(II)Z"⟩
abbrev b_Arrays_fill : ByteArray := prog_13_method_103_code
def y_Arrays_fill : MethodName := ⟨"java/util/Arrays", "fill", "([II)V"⟩
def i_surf (j : Nat) : Nat := 4 + j
def i_cell (j : Nat) : Nat := 12 + j
def i_reg (j : Nat) : Nat := 18 + j
def i_tok (j : Nat) : Nat := 25 + j
def i_talr (j : Nat) : Nat := 36 + j
def i_cror (j : Nat) : Nat := 43 + j
def R_CellTransport : String := "CellTransport"
def F_CellTransport : u_T := fun k => match k with
  | 0 => ("CellTransport", "geometry", "LCellTransport$Geometry;", true)
  | 1 => ("CellTransport", "buffer", "LCellTransport$Region;", true)
  | 2 => ("CellTransport", "generator", "LCellTransport$Generator;", true)
  | 3 => ("CellTransport", "counts", "LCellTransport$Counts;", true)
  | 4 => ("CellTransport", "line", "LCellTransport$Line;", true)
  | 5 => ("CellTransport", "particle", "LCellTransport$Particle;", true)
  | 6 => ("CellTransport", "sourceX", "I", false)
  | _ => ("CellTransport", "sourceY", "I", false)
def t_CellTransport : Nat → FieldType := fun k => match k with
  | 0 => .object "CellTransport$Geometry"
  | 1 => .object "CellTransport$Region"
  | 2 => .object "CellTransport$Generator"
  | 3 => .object "CellTransport$Counts"
  | 4 => .object "CellTransport$Line"
  | 5 => .object "CellTransport$Particle"
  | 6 => .int
  | _ => .int
theorem n_CellTransport : ∀ a, a < 8 → ∀ b, b < 8 → a ≠ b → (F_CellTransport a).2.1 ≠ (F_CellTransport b).2.1 := by decide +kernel
theorem t_CellTransport_ok : ∀ k, k < 8 → parseFieldDescriptor (F_CellTransport k).2.2.1 = some (t_CellTransport k) := by decide +kernel
def R_Geometry : String := "CellTransport$Geometry"
def F_Geometry : u_T := fun k => match k with
  | 0 => ("CellTransport$Geometry", "surfaces", "[LCellTransport$Surface;", true)
  | _ => ("CellTransport$Geometry", "cells", "[LCellTransport$Cell;", true)
def t_Geometry : Nat → FieldType := fun k => match k with
  | 0 => .array (.object "CellTransport$Surface")
  | _ => .array (.object "CellTransport$Cell")
theorem n_Geometry : ∀ a, a < 2 → ∀ b, b < 2 → a ≠ b → (F_Geometry a).2.1 ≠ (F_Geometry b).2.1 := by decide +kernel
theorem t_Geometry_ok : ∀ k, k < 2 → parseFieldDescriptor (F_Geometry k).2.2.1 = some (t_Geometry k) := by decide +kernel
def R_Surface : String := "CellTransport$Surface"
def F_Surface : u_T := fun k => match k with
  | 0 => ("CellTransport$Surface", "isSet", "Z", false)
  | 1 => ("CellTransport$Surface", "kind", "I", false)
  | 2 => ("CellTransport$Surface", "a", "I", false)
  | 3 => ("CellTransport$Surface", "b", "I", false)
  | _ => ("CellTransport$Surface", "c", "I", false)
def t_Surface : Nat → FieldType := fun k => match k with
  | 0 => .boolean
  | 1 => .int
  | 2 => .int
  | 3 => .int
  | _ => .int
theorem n_Surface : ∀ a, a < 5 → ∀ b, b < 5 → a ≠ b → (F_Surface a).2.1 ≠ (F_Surface b).2.1 := by decide +kernel
theorem t_Surface_ok : ∀ k, k < 5 → parseFieldDescriptor (F_Surface k).2.2.1 = some (t_Surface k) := by decide +kernel
def R_Cell : String := "CellTransport$Cell"
def F_Cell : u_T := fun k => match k with
  | 0 => ("CellTransport$Cell", "region", "LCellTransport$Region;", true)
  | 1 => ("CellTransport$Cell", "isDefined", "Z", false)
  | 2 => ("CellTransport$Cell", "density", "I", false)
  | 3 => ("CellTransport$Cell", "absorption", "I", false)
  | _ => ("CellTransport$Cell", "fission", "I", false)
def t_Cell : Nat → FieldType := fun k => match k with
  | 0 => .object "CellTransport$Region"
  | 1 => .boolean
  | 2 => .int
  | 3 => .int
  | _ => .int
theorem n_Cell : ∀ a, a < 5 → ∀ b, b < 5 → a ≠ b → (F_Cell a).2.1 ≠ (F_Cell b).2.1 := by decide +kernel
theorem t_Cell_ok : ∀ k, k < 5 → parseFieldDescriptor (F_Cell k).2.2.1 = some (t_Cell k) := by decide +kernel
def R_Region : String := "CellTransport$Region"
def F_Region : u_T := fun k => match k with
  | 0 => ("CellTransport$Region", "tokens", "[I", true)
  | _ => ("CellTransport$Region", "size", "I", false)
def t_Region : Nat → FieldType := fun k => match k with
  | 0 => .array (.int)
  | _ => .int
theorem n_Region : ∀ a, a < 2 → ∀ b, b < 2 → a ≠ b → (F_Region a).2.1 ≠ (F_Region b).2.1 := by decide +kernel
theorem t_Region_ok : ∀ k, k < 2 → parseFieldDescriptor (F_Region k).2.2.1 = some (t_Region k) := by decide +kernel
def R_Generator : String := "CellTransport$Generator"
def F_Generator : u_T := fun k => match k with
  | _ => ("CellTransport$Generator", "state", "I", false)
def t_Generator : Nat → FieldType := fun k => match k with
  | _ => .int
theorem n_Generator : ∀ a, a < 1 → ∀ b, b < 1 → a ≠ b → (F_Generator a).2.1 ≠ (F_Generator b).2.1 := by decide +kernel
theorem t_Generator_ok : ∀ k, k < 1 → parseFieldDescriptor (F_Generator k).2.2.1 = some (t_Generator k) := by decide +kernel
def R_Counts : String := "CellTransport$Counts"
def F_Counts : u_T := fun k => match k with
  | 0 => ("CellTransport$Counts", "totals", "[I", true)
  | 1 => ("CellTransport$Counts", "tallies", "[[I", true)
  | _ => ("CellTransport$Counts", "crossings", "[[I", true)
def t_Counts : Nat → FieldType := fun k => match k with
  | 0 => .array (.int)
  | 1 => .array (.array (.int))
  | _ => .array (.array (.int))
theorem n_Counts : ∀ a, a < 3 → ∀ b, b < 3 → a ≠ b → (F_Counts a).2.1 ≠ (F_Counts b).2.1 := by decide +kernel
theorem t_Counts_ok : ∀ k, k < 3 → parseFieldDescriptor (F_Counts k).2.2.1 = some (t_Counts k) := by decide +kernel
def R_Line : String := "CellTransport$Line"
def F_Line : u_T := fun k => match k with
  | 0 => ("CellTransport$Line", "placesX", "[I", true)
  | 1 => ("CellTransport$Line", "placesY", "[I", true)
  | 2 => ("CellTransport$Line", "waiting", "I", false)
  | _ => ("CellTransport$Line", "joined", "I", false)
def t_Line : Nat → FieldType := fun k => match k with
  | 0 => .array (.int)
  | 1 => .array (.int)
  | 2 => .int
  | _ => .int
theorem n_Line : ∀ a, a < 4 → ∀ b, b < 4 → a ≠ b → (F_Line a).2.1 ≠ (F_Line b).2.1 := by decide +kernel
theorem t_Line_ok : ∀ k, k < 4 → parseFieldDescriptor (F_Line k).2.2.1 = some (t_Line k) := by decide +kernel
def R_Particle : String := "CellTransport$Particle"
def F_Particle : u_T := fun k => match k with
  | 0 => ("CellTransport$Particle", "x", "I", false)
  | 1 => ("CellTransport$Particle", "y", "I", false)
  | 2 => ("CellTransport$Particle", "cell", "I", false)
  | 3 => ("CellTransport$Particle", "direction", "I", false)
  | _ => ("CellTransport$Particle", "budget", "I", false)
def t_Particle : Nat → FieldType := fun k => match k with
  | 0 => .int
  | 1 => .int
  | 2 => .int
  | 3 => .int
  | _ => .int
theorem n_Particle : ∀ a, a < 5 → ∀ b, b < 5 → a ≠ b → (F_Particle a).2.1 ≠ (F_Particle b).2.1 := by decide +kernel
theorem t_Particle_ok : ∀ k, k < 5 → parseFieldDescriptor (F_Particle k).2.2.1 = some (t_Particle k) := by decide +kernel
def R_Model : String := "CellTransportModel"
def F_Model : u_T := fun k => match k with
  | 0 => ("CellTransportModel", "kind", "[I", true)
  | 1 => ("CellTransportModel", "sa", "[I", true)
  | 2 => ("CellTransportModel", "sb", "[I", true)
  | 3 => ("CellTransportModel", "sc", "[I", true)
  | 4 => ("CellTransportModel", "set", "[Z", true)
  | 5 => ("CellTransportModel", "buffer", "[I", true)
  | 6 => ("CellTransportModel", "held", "I", false)
  | 7 => ("CellTransportModel", "region", "[I", true)
  | 8 => ("CellTransportModel", "tokens", "[I", true)
  | 9 => ("CellTransportModel", "defined", "[Z", true)
  | 10 => ("CellTransportModel", "density", "[I", true)
  | 11 => ("CellTransportModel", "absorbs", "[I", true)
  | 12 => ("CellTransportModel", "splits", "[I", true)
  | 13 => ("CellTransportModel", "sourceX", "I", false)
  | 14 => ("CellTransportModel", "sourceY", "I", false)
  | 15 => ("CellTransportModel", "generator", "J", false)
  | 16 => ("CellTransportModel", "tallies", "[I", true)
  | 17 => ("CellTransportModel", "crossings", "[I", true)
  | 18 => ("CellTransportModel", "counts", "[I", true)
  | 19 => ("CellTransportModel", "px", "[I", true)
  | 20 => ("CellTransportModel", "py", "[I", true)
  | 21 => ("CellTransportModel", "waiting", "I", false)
  | 22 => ("CellTransportModel", "particles", "I", false)
  | 23 => ("CellTransportModel", "x", "I", false)
  | 24 => ("CellTransportModel", "y", "I", false)
  | 25 => ("CellTransportModel", "direction", "I", false)
  | _ => ("CellTransportModel", "budget", "I", false)
def t_Model : Nat → FieldType := fun k => match k with
  | 0 => .array (.int)
  | 1 => .array (.int)
  | 2 => .array (.int)
  | 3 => .array (.int)
  | 4 => .array (.boolean)
  | 5 => .array (.int)
  | 6 => .int
  | 7 => .array (.int)
  | 8 => .array (.int)
  | 9 => .array (.boolean)
  | 10 => .array (.int)
  | 11 => .array (.int)
  | 12 => .array (.int)
  | 13 => .int
  | 14 => .int
  | 15 => .long
  | 16 => .array (.int)
  | 17 => .array (.int)
  | 18 => .array (.int)
  | 19 => .array (.int)
  | 20 => .array (.int)
  | 21 => .int
  | 22 => .int
  | 23 => .int
  | 24 => .int
  | 25 => .int
  | _ => .int
theorem n_Model : ∀ a, a < 27 → ∀ b, b < 27 → a ≠ b → (F_Model a).2.1 ≠ (F_Model b).2.1 := by decide +kernel
theorem t_Model_ok : ∀ k, k < 27 → parseFieldDescriptor (F_Model k).2.2.1 = some (t_Model k) := by decide +kernel
abbrev z_cl : List vw_C := [(R_CellTransport, F_CellTransport, 8), (R_Geometry, F_Geometry, 2), (R_Surface, F_Surface, 5), (R_Cell, F_Cell, 5), (R_Region, F_Region, 2), (R_Generator, F_Generator, 1), (R_Counts, F_Counts, 3), (R_Line, F_Line, 4), (R_Particle, F_Particle, 5), (R_Model, F_Model, 27)]
def z_N : Nat := 71
def z_tys (dA : Nat → ClassId) : List (ClassId × FieldType) := [(dA 0, .int), (dA 1, .object "CellTransport$Surface"), (dA 2, .object "CellTransport$Cell"), (dA 3, .array .int), (dA 4, .boolean)]
def z_c (dA : Nat → ClassId) (ad : Nat → Nat) (k : Nat) (f : Nat → Int32) : va_E :=
  if k = 0 then .inr (0, [.ref (ad 1), .ref (ad (i_reg 6)), .ref (ad 32), .ref (ad 33), .ref (ad 49), .ref (ad 52), .int (f 6), .int (f 7)]) else
  if k = 1 then .inr (1, [.ref (ad 2), .ref (ad 3)]) else
  if k = 2 then .inl (dA 1, 8, .inr (.inr (.inr (.inr (fun j => some (ad (i_surf j))))))) else
  if k = 3 then .inl (dA 2, 6, .inr (.inr (.inr (.inr (fun j => some (ad (i_cell j))))))) else
  if k < 12 then .inr (2, [.int (f 0), .int (f 1), .int (f 2), .int (f 3), .int (f 4)]) else
  if k < 18 then .inr (3, [.ref (ad (i_reg (k - 12))), .int (f 1), .int (f 2), .int (f 3), .int (f 4)]) else
  if k < 25 then .inr (4, [.ref (ad (i_tok (k - 18))), .int (f 1)]) else
  if k < 32 then .inl (dA 0, 8, .inl f) else
  if k = 32 then .inr (5, [.int (f 0)]) else
  if k = 33 then .inr (6, [.ref (ad 34), .ref (ad 35), .ref (ad 42)]) else
  if k = 34 then .inl (dA 0, 5, .inl f) else
  if k = 35 then .inl (dA 3, 6, .inr (.inr (.inr (.inr (fun j => some (ad (i_talr j))))))) else
  if k < 42 then .inl (dA 0, 4, .inl f) else
  if k = 42 then .inl (dA 3, 6, .inr (.inr (.inr (.inr (fun j => some (ad (i_cror j))))))) else
  if k < 49 then .inl (dA 0, 6, .inl f) else
  if k = 49 then .inr (7, [.ref (ad 50), .ref (ad 51), .int (f 2), .int (f 3)]) else
  if k = 50 then .inl (dA 0, 12, .inl f) else
  if k = 51 then .inl (dA 0, 12, .inl f) else
  if k = 52 then .inr (8, [.int (f 0), .int (f 1), .int (f 2), .int (f 3), .int (f 4)]) else
  if k = 53 then .inr (9, [.ref (ad 54), .ref (ad 55), .ref (ad 56), .ref (ad 57), .ref (ad 58), .ref (ad 59), .int (f 6), .ref (ad 60), .ref (ad 61), .ref (ad 62), .ref (ad 63), .ref (ad 64), .ref (ad 65), .int (f 13), .int (f 14), .long (f 15).toInt64, .ref (ad 66), .ref (ad 67), .ref (ad 68), .ref (ad 69), .ref (ad 70), .int (f 21), .int (f 22), .int (f 23), .int (f 24), .int (f 25), .int (f 26)]) else
  if k = 54 then .inl (dA 0, 8, .inl f) else
  if k = 55 then .inl (dA 0, 8, .inl f) else
  if k = 56 then .inl (dA 0, 8, .inl f) else
  if k = 57 then .inl (dA 0, 8, .inl f) else
  if k = 58 then .inl (dA 4, 8, .inl f) else
  if k = 59 then .inl (dA 0, 8, .inl f) else
  if k = 60 then .inl (dA 0, 48, .inl f) else
  if k = 61 then .inl (dA 0, 6, .inl f) else
  if k = 62 then .inl (dA 4, 6, .inl f) else
  if k = 63 then .inl (dA 0, 6, .inl f) else
  if k = 64 then .inl (dA 0, 6, .inl f) else
  if k = 65 then .inl (dA 0, 6, .inl f) else
  if k = 66 then .inl (dA 0, 24, .inl f) else
  if k = 67 then .inl (dA 0, 36, .inl f) else
  if k = 68 then .inl (dA 0, 5, .inl f) else
  if k = 69 then .inl (dA 0, 12, .inl f) else
  if k = 70 then .inl (dA 0, 12, .inl f) else
  .inl (dA 0, 0, .inl f)
theorem zl_CellTransport : 0 < z_N := by decide
theorem zc_CellTransport {dA : Nat → ClassId} {ad : Nat → Nat} (f : Nat → Int32) : z_c dA ad 0 f = .inr (0, [.ref (ad 1), .ref (ad (i_reg 6)), .ref (ad 32), .ref (ad 33), .ref (ad 49), .ref (ad 52), .int (f 6), .int (f 7)]) := rfl
theorem zl_Geometry : 1 < z_N := by decide
theorem zc_Geometry {dA : Nat → ClassId} {ad : Nat → Nat} (f : Nat → Int32) : z_c dA ad 1 f = .inr (1, [.ref (ad 2), .ref (ad 3)]) := rfl
theorem zl_surfaces : 2 < z_N := by decide
theorem zc_surfaces {dA : Nat → ClassId} {ad : Nat → Nat} (f : Nat → Int32) : z_c dA ad 2 f = .inl (dA 1, 8, .inr (.inr (.inr (.inr (fun j => some (ad (i_surf j))))))) := rfl
theorem zl_cells : 3 < z_N := by decide
theorem zc_cells {dA : Nat → ClassId} {ad : Nat → Nat} (f : Nat → Int32) : z_c dA ad 3 f = .inl (dA 2, 6, .inr (.inr (.inr (.inr (fun j => some (ad (i_cell j))))))) := rfl
theorem zl_Surface {j : Nat} (hj : j < 8) : (i_surf j) < z_N := by unfold i_surf z_N; omega
theorem zc_Surface {dA : Nat → ClassId} {ad : Nat → Nat} {j : Nat} (hj : j < 8) (f : Nat → Int32) : z_c dA ad (i_surf j) f = .inr (2, [.int (f 0), .int (f 1), .int (f 2), .int (f 3), .int (f 4)]) := by
  unfold z_c
  rw [if_neg (show ¬ i_surf j = 0 by unfold i_surf; omega), if_neg (show ¬ i_surf j = 1 by unfold i_surf; omega), if_neg (show ¬ i_surf j = 2 by unfold i_surf; omega), if_neg (show ¬ i_surf j = 3 by unfold i_surf; omega), if_pos (show i_surf j < 12 by unfold i_surf; omega)]
theorem zl_Cell {j : Nat} (hj : j < 6) : (i_cell j) < z_N := by unfold i_cell z_N; omega
theorem zc_Cell {dA : Nat → ClassId} {ad : Nat → Nat} {j : Nat} (hj : j < 6) (f : Nat → Int32) : z_c dA ad (i_cell j) f = .inr (3, [.ref (ad (i_reg j)), .int (f 1), .int (f 2), .int (f 3), .int (f 4)]) := by
  unfold z_c
  rw [if_neg (show ¬ i_cell j = 0 by unfold i_cell; omega), if_neg (show ¬ i_cell j = 1 by unfold i_cell; omega), if_neg (show ¬ i_cell j = 2 by unfold i_cell; omega), if_neg (show ¬ i_cell j = 3 by unfold i_cell; omega), if_neg (show ¬ i_cell j < 12 by unfold i_cell; omega), if_pos (show i_cell j < 18 by unfold i_cell; omega)]
  rw [show i_cell j - 12 = j by unfold i_cell; omega]
theorem zl_Region {j : Nat} (hj : j < 7) : (i_reg j) < z_N := by unfold i_reg z_N; omega
theorem zc_Region {dA : Nat → ClassId} {ad : Nat → Nat} {j : Nat} (hj : j < 7) (f : Nat → Int32) : z_c dA ad (i_reg j) f = .inr (4, [.ref (ad (i_tok j)), .int (f 1)]) := by
  unfold z_c
  rw [if_neg (show ¬ i_reg j = 0 by unfold i_reg; omega), if_neg (show ¬ i_reg j = 1 by unfold i_reg; omega), if_neg (show ¬ i_reg j = 2 by unfold i_reg; omega), if_neg (show ¬ i_reg j = 3 by unfold i_reg; omega), if_neg (show ¬ i_reg j < 12 by unfold i_reg; omega), if_neg (show ¬ i_reg j < 18 by unfold i_reg; omega), if_pos (show i_reg j < 25 by unfold i_reg; omega)]
  rw [show i_reg j - 18 = j by unfold i_reg; omega]
theorem zl_tokens {j : Nat} (hj : j < 7) : (i_tok j) < z_N := by unfold i_tok z_N; omega
theorem zc_tokens {dA : Nat → ClassId} {ad : Nat → Nat} {j : Nat} (hj : j < 7) (f : Nat → Int32) : z_c dA ad (i_tok j) f = .inl (dA 0, 8, .inl f) := by
  unfold z_c
  rw [if_neg (show ¬ i_tok j = 0 by unfold i_tok; omega), if_neg (show ¬ i_tok j = 1 by unfold i_tok; omega), if_neg (show ¬ i_tok j = 2 by unfold i_tok; omega), if_neg (show ¬ i_tok j = 3 by unfold i_tok; omega), if_neg (show ¬ i_tok j < 12 by unfold i_tok; omega), if_neg (show ¬ i_tok j < 18 by unfold i_tok; omega), if_neg (show ¬ i_tok j < 25 by unfold i_tok; omega), if_pos (show i_tok j < 32 by unfold i_tok; omega)]
theorem zl_Generator : 32 < z_N := by decide
theorem zc_Generator {dA : Nat → ClassId} {ad : Nat → Nat} (f : Nat → Int32) : z_c dA ad 32 f = .inr (5, [.int (f 0)]) := rfl
theorem zl_Counts : 33 < z_N := by decide
theorem zc_Counts {dA : Nat → ClassId} {ad : Nat → Nat} (f : Nat → Int32) : z_c dA ad 33 f = .inr (6, [.ref (ad 34), .ref (ad 35), .ref (ad 42)]) := rfl
theorem zl_totals : 34 < z_N := by decide
theorem zc_totals {dA : Nat → ClassId} {ad : Nat → Nat} (f : Nat → Int32) : z_c dA ad 34 f = .inl (dA 0, 5, .inl f) := rfl
theorem zl_tallies : 35 < z_N := by decide
theorem zc_tallies {dA : Nat → ClassId} {ad : Nat → Nat} (f : Nat → Int32) : z_c dA ad 35 f = .inl (dA 3, 6, .inr (.inr (.inr (.inr (fun j => some (ad (i_talr j))))))) := rfl
theorem zl_talrow {j : Nat} (hj : j < 6) : (i_talr j) < z_N := by unfold i_talr z_N; omega
theorem zc_talrow {dA : Nat → ClassId} {ad : Nat → Nat} {j : Nat} (hj : j < 6) (f : Nat → Int32) : z_c dA ad (i_talr j) f = .inl (dA 0, 4, .inl f) := by
  unfold z_c
  rw [if_neg (show ¬ i_talr j = 0 by unfold i_talr; omega), if_neg (show ¬ i_talr j = 1 by unfold i_talr; omega), if_neg (show ¬ i_talr j = 2 by unfold i_talr; omega), if_neg (show ¬ i_talr j = 3 by unfold i_talr; omega), if_neg (show ¬ i_talr j < 12 by unfold i_talr; omega), if_neg (show ¬ i_talr j < 18 by unfold i_talr; omega), if_neg (show ¬ i_talr j < 25 by unfold i_talr; omega), if_neg (show ¬ i_talr j < 32 by unfold i_talr; omega), if_neg (show ¬ i_talr j = 32 by unfold i_talr; omega), if_neg (show ¬ i_talr j = 33 by unfold i_talr; omega), if_neg (show ¬ i_talr j = 34 by unfold i_talr; omega), if_neg (show ¬ i_talr j = 35 by unfold i_talr; omega), if_pos (show i_talr j < 42 by unfold i_talr; omega)]
theorem zl_crossings : 42 < z_N := by decide
theorem zc_crossings {dA : Nat → ClassId} {ad : Nat → Nat} (f : Nat → Int32) : z_c dA ad 42 f = .inl (dA 3, 6, .inr (.inr (.inr (.inr (fun j => some (ad (i_cror j))))))) := rfl
theorem zl_crorow {j : Nat} (hj : j < 6) : (i_cror j) < z_N := by unfold i_cror z_N; omega
theorem zc_crorow {dA : Nat → ClassId} {ad : Nat → Nat} {j : Nat} (hj : j < 6) (f : Nat → Int32) : z_c dA ad (i_cror j) f = .inl (dA 0, 6, .inl f) := by
  unfold z_c
  rw [if_neg (show ¬ i_cror j = 0 by unfold i_cror; omega), if_neg (show ¬ i_cror j = 1 by unfold i_cror; omega), if_neg (show ¬ i_cror j = 2 by unfold i_cror; omega), if_neg (show ¬ i_cror j = 3 by unfold i_cror; omega), if_neg (show ¬ i_cror j < 12 by unfold i_cror; omega), if_neg (show ¬ i_cror j < 18 by unfold i_cror; omega), if_neg (show ¬ i_cror j < 25 by unfold i_cror; omega), if_neg (show ¬ i_cror j < 32 by unfold i_cror; omega), if_neg (show ¬ i_cror j = 32 by unfold i_cror; omega), if_neg (show ¬ i_cror j = 33 by unfold i_cror; omega), if_neg (show ¬ i_cror j = 34 by unfold i_cror; omega), if_neg (show ¬ i_cror j = 35 by unfold i_cror; omega), if_neg (show ¬ i_cror j < 42 by unfold i_cror; omega), if_neg (show ¬ i_cror j = 42 by unfold i_cror; omega), if_pos (show i_cror j < 49 by unfold i_cror; omega)]
theorem zl_Line : 49 < z_N := by decide
theorem zc_Line {dA : Nat → ClassId} {ad : Nat → Nat} (f : Nat → Int32) : z_c dA ad 49 f = .inr (7, [.ref (ad 50), .ref (ad 51), .int (f 2), .int (f 3)]) := rfl
theorem zl_placesX : 50 < z_N := by decide
theorem zc_placesX {dA : Nat → ClassId} {ad : Nat → Nat} (f : Nat → Int32) : z_c dA ad 50 f = .inl (dA 0, 12, .inl f) := rfl
theorem zl_placesY : 51 < z_N := by decide
theorem zc_placesY {dA : Nat → ClassId} {ad : Nat → Nat} (f : Nat → Int32) : z_c dA ad 51 f = .inl (dA 0, 12, .inl f) := rfl
theorem zl_Particle : 52 < z_N := by decide
theorem zc_Particle {dA : Nat → ClassId} {ad : Nat → Nat} (f : Nat → Int32) : z_c dA ad 52 f = .inr (8, [.int (f 0), .int (f 1), .int (f 2), .int (f 3), .int (f 4)]) := rfl
theorem zl_Model : 53 < z_N := by decide
theorem zc_Model {dA : Nat → ClassId} {ad : Nat → Nat} (f : Nat → Int32) : z_c dA ad 53 f = .inr (9, [.ref (ad 54), .ref (ad 55), .ref (ad 56), .ref (ad 57), .ref (ad 58), .ref (ad 59), .int (f 6), .ref (ad 60), .ref (ad 61), .ref (ad 62), .ref (ad 63), .ref (ad 64), .ref (ad 65), .int (f 13), .int (f 14), .long (f 15).toInt64, .ref (ad 66), .ref (ad 67), .ref (ad 68), .ref (ad 69), .ref (ad 70), .int (f 21), .int (f 22), .int (f 23), .int (f 24), .int (f 25), .int (f 26)]) := rfl
theorem zl_m_kind : 54 < z_N := by decide
theorem zc_m_kind {dA : Nat → ClassId} {ad : Nat → Nat} (f : Nat → Int32) : z_c dA ad 54 f = .inl (dA 0, 8, .inl f) := rfl
theorem zl_m_sa : 55 < z_N := by decide
theorem zc_m_sa {dA : Nat → ClassId} {ad : Nat → Nat} (f : Nat → Int32) : z_c dA ad 55 f = .inl (dA 0, 8, .inl f) := rfl
theorem zl_m_sb : 56 < z_N := by decide
theorem zc_m_sb {dA : Nat → ClassId} {ad : Nat → Nat} (f : Nat → Int32) : z_c dA ad 56 f = .inl (dA 0, 8, .inl f) := rfl
theorem zl_m_sc : 57 < z_N := by decide
theorem zc_m_sc {dA : Nat → ClassId} {ad : Nat → Nat} (f : Nat → Int32) : z_c dA ad 57 f = .inl (dA 0, 8, .inl f) := rfl
theorem zl_m_set : 58 < z_N := by decide
theorem zc_m_set {dA : Nat → ClassId} {ad : Nat → Nat} (f : Nat → Int32) : z_c dA ad 58 f = .inl (dA 4, 8, .inl f) := rfl
theorem zl_m_buffer : 59 < z_N := by decide
theorem zc_m_buffer {dA : Nat → ClassId} {ad : Nat → Nat} (f : Nat → Int32) : z_c dA ad 59 f = .inl (dA 0, 8, .inl f) := rfl
theorem zl_m_region : 60 < z_N := by decide
theorem zc_m_region {dA : Nat → ClassId} {ad : Nat → Nat} (f : Nat → Int32) : z_c dA ad 60 f = .inl (dA 0, 48, .inl f) := rfl
theorem zl_m_tokens : 61 < z_N := by decide
theorem zc_m_tokens {dA : Nat → ClassId} {ad : Nat → Nat} (f : Nat → Int32) : z_c dA ad 61 f = .inl (dA 0, 6, .inl f) := rfl
theorem zl_m_defined : 62 < z_N := by decide
theorem zc_m_defined {dA : Nat → ClassId} {ad : Nat → Nat} (f : Nat → Int32) : z_c dA ad 62 f = .inl (dA 4, 6, .inl f) := rfl
theorem zl_m_density : 63 < z_N := by decide
theorem zc_m_density {dA : Nat → ClassId} {ad : Nat → Nat} (f : Nat → Int32) : z_c dA ad 63 f = .inl (dA 0, 6, .inl f) := rfl
theorem zl_m_absorbs : 64 < z_N := by decide
theorem zc_m_absorbs {dA : Nat → ClassId} {ad : Nat → Nat} (f : Nat → Int32) : z_c dA ad 64 f = .inl (dA 0, 6, .inl f) := rfl
theorem zl_m_splits : 65 < z_N := by decide
theorem zc_m_splits {dA : Nat → ClassId} {ad : Nat → Nat} (f : Nat → Int32) : z_c dA ad 65 f = .inl (dA 0, 6, .inl f) := rfl
theorem zl_m_tallies : 66 < z_N := by decide
theorem zc_m_tallies {dA : Nat → ClassId} {ad : Nat → Nat} (f : Nat → Int32) : z_c dA ad 66 f = .inl (dA 0, 24, .inl f) := rfl
theorem zl_m_crossings : 67 < z_N := by decide
theorem zc_m_crossings {dA : Nat → ClassId} {ad : Nat → Nat} (f : Nat → Int32) : z_c dA ad 67 f = .inl (dA 0, 36, .inl f) := rfl
theorem zl_m_counts : 68 < z_N := by decide
theorem zc_m_counts {dA : Nat → ClassId} {ad : Nat → Nat} (f : Nat → Int32) : z_c dA ad 68 f = .inl (dA 0, 5, .inl f) := rfl
theorem zl_m_px : 69 < z_N := by decide
theorem zc_m_px {dA : Nat → ClassId} {ad : Nat → Nat} (f : Nat → Int32) : z_c dA ad 69 f = .inl (dA 0, 12, .inl f) := rfl
theorem zl_m_py : 70 < z_N := by decide
theorem zc_m_py {dA : Nat → ClassId} {ad : Nat → Nat} (f : Nat → Int32) : z_c dA ad 70 f = .inl (dA 0, 12, .inl f) := rfl
/-! the static tables of the class, which nobody writes -/
def z_A (base : Nat) : Nat → Prop := fun q => base ≤ q
def z_sX (j : Nat) : Int32 := [1, 1, 0, -1, -1, -1, 0, 1].getD j 0
def z_sY (j : Nat) : Int32 := [0, 1, 1, 1, 0, -1, -1, -1].getD j 0
def z_tab (nm : String) (g : Nat → Int32) (base : Nat) (U : State) : Prop := ∃ t : Nat, va_Z "CellTransport" nm "[I" (.ref t) (z_A base) U U.heap ∧ va_T .int t 8 (fun j => .int (g j)) (z_A base) U U.heap
def z_Z (base : Nat) (U : State) : Prop := z_tab "STEP_X" z_sX base U ∧ z_tab "STEP_Y" z_sY base U
theorem z_tab_moved {nm : String} {g : Nat → Int32} {base : Nat} {u U : State} (ha : u.vm.Alike U.vm) (hq : ∀ a : Nat, a < u.heap.size → ¬ z_A base a → U.heap[a]? = u.heap[a]?) (h : z_tab nm g base u) : z_tab nm g base U := by
  obtain ⟨t, h1, h2⟩ := h
  exact ⟨t, (va_Z.moved ha h1).kept hq, (va_T.moved ha h2).kept hq⟩
theorem z_Z_moved {base : Nat} {u U : State} (ha : u.vm.Alike U.vm) (hq : ∀ a : Nat, a < u.heap.size → ¬ z_A base a → U.heap[a]? = u.heap[a]?) (h : z_Z base u) : z_Z base U := ⟨z_tab_moved ha hq h.1, z_tab_moved ha hq h.2⟩
section ZN
variable {p : Program} {l : Launch} {e : Env} {R : Room} {s : State} {m : MethodId} {args : Array Value} {below : List Frame} {meth : Method} {c : Code} {H : Heap} {locs : List Loc} {cells slots : Nat} {Q : State → Prop}
variable {cc : ByteArray} {pc : Nat} {ls : Array Slot} {rest : List Value} {D : va_G} {cl : List vw_C} {A : Nat → Prop} {a : Nat} {tys : List (ClassId × FieldType)} {ws : va_W}
/-- aaload out of an array of arrays -/
theorem z_aldqA (hx : p.tables.exec = Jvm.exec) (hb : c.code = cc) (hK : va_K D cl tys s) (hP : va_P D cl ws H) (q0 t0 : Nat) {cA : ClassId} {tx : FieldType} {n : Nat} {f : Nat → Option Nat} (ha : ws[q0]? = some (a, .inl (cA, n, .inr (.inr (.inr (.inr f)))))) (ht : tys[t0]? = some (cA, .array tx)) {i : Int32} (hin : vp_in i n) (hdg : decode cc pc = .ok (.aaload, 1))
    (kk : W p l e R s m args below meth c H locs cells slots Q (F0 m (pc + 1) ls (va_rf (f i.toNatClampNeg) :: rest))) : W p l e R s m args below meth c H locs cells slots Q (F0 m pc ls (.int i :: .ref a :: rest)) := by
  have hlt : i.toNatClampNeg < n := Nat.not_le.mp fun q => hin (Or.inr q)
  refine W.aald (v := va_rf (f i.toNatClampNeg)) (ty := .array tx) hx hb (hP q0 _ ha) ((hK.2 t0 _ ht).1 n (fun j => va_rf (f j))) rfl (fun q => by cases q) ?_ ?_ rfl rfl hdg kk
  · show ¬ (i < 0 ∨ (arrV _ _ _).slots.size ≤ _)
    rw [arrV_size]
    exact hin
  · show (arrV _ _ _).slots[_]? = _
    rw [arrV_read _ _ hlt]
/-- getstatic of a private static of the nest's host -/
theorem z_getsN (hx : p.tables.exec = Jvm.exec) (hb : c.code = cc) {C n d own host : String} {v : Value} {index : Nat} (hZ : va_Z C n d v A s s.heap) (hS : va_S A s.heap H locs) (hown : s.vm.findClass own = some m.cls) (hlink : (Cond.fieldLinkNest own index C n d host).before args s = true) (hdg : decode cc pc = .ok (.getstatic index, 3))
    (kk : W p l e R s m args below meth c H locs cells slots Q (F0 m (pc + 3) ls (v :: rest))) : W p l e R s m args below meth c H locs cells slots Q (F0 m pc ls rest) := by
  obtain ⟨cf, kf, fi, f, a, cell, h1, h2, h3, h4, h5, h6, h7, h8⟩ := hZ
  intro T hT X
  have hcell : T.heap[a]? = some cell := by
    rw [hT, hS.2.1 a (Array.getElem?_eq_some_iff.mp h5).1 h8]
    exact h5
  obtain ⟨vm2, X2, st2⟩ := X.getstaticNest hx hown hlink h1 h2 h3 h4 hcell (fun e => by rw [e] at h6; cases h6) h7 (g := F0 m pc ls rest) rfl (by rw [hb]; exact hdg)
  obtain ⟨t, a1, b1⟩ := kk (T.setVm vm2) hT X2
  exact ⟨t, st2 t a1, b1⟩
end ZN
end
section

/-! ===== THE LAYER: one memory of ints for all cells (class and reference), fixed shape z_c; the judgement z_X; a row an instruction ===== -/
abbrev z_M : Type := Nat → Nat → Int32
def z_sv (M : z_M) (k j : Nat) (v : Int32) : z_M := va_up M k (upd (M k) j v)
theorem z_sv_self (M : z_M) (k j : Nat) (v : Int32) : z_sv M k j v k j = v := by simp [z_sv, va_up, upd]
theorem z_sv_row (M : z_M) {k a : Nat} (j : Nat) (v : Int32) (h : a ≠ k) : z_sv M k j v a = M a := by simp [z_sv, va_up, h]
theorem z_sv_at (M : z_M) (k j a b : Nat) (v : Int32) : z_sv M k j v a b = if a = k ∧ b = j then v else M a b := by
  by_cases h : a = k
  · subst h
    by_cases h2 : b = j <;> simp [z_sv, va_up, upd, h2]
  · simp [z_sv, va_up, h]
def z_W (dA : Nat → ClassId) (ad : Nat → Nat) (M : z_M) : va_W := (List.range z_N).map (fun k => (ad k, z_c dA ad k (M k)))
theorem z_W_get {dA : Nat → ClassId} {ad : Nat → Nat} {M : z_M} {i : Nat} (hi : i < z_N) : (z_W dA ad M)[i]? = some (ad i, z_c dA ad i (M i)) := by
  simp [z_W, hi]
theorem z_W_out {dA : Nat → ClassId} {ad : Nat → Nat} {M : z_M} {i : Nat} {q : Nat × va_E} (h : (z_W dA ad M)[i]? = some q) : i < z_N ∧ q = (ad i, z_c dA ad i (M i)) := by
  have hl : i < z_N := by
    have := (List.getElem?_eq_some_iff.mp h).1
    simpa [z_W] using this
  rw [z_W_get hl] at h
  exact ⟨hl, (Option.some.inj h).symm⟩
theorem z_W_set {dA : Nat → ClassId} {ad : Nat → Nat} {M M1 : z_M} {i : Nat} {e : va_E} (h0 : z_c dA ad i (M1 i) = e) (h1 : ∀ a, a ≠ i → M1 a = M a) : (z_W dA ad M).set i (ad i, e) = z_W dA ad M1 := by
  apply List.ext_getElem?
  intro n
  rw [List.getElem?_set]
  by_cases hn : i = n
  · subst hn
    by_cases hl : i < z_N
    · simp [z_W, hl, h0]
    · simp [z_W, hl]
  · rw [if_neg hn]
    by_cases hl : n < z_N
    · rw [z_W_get hl, z_W_get hl, h1 n (fun q => hn q.symm)]
    · simp [z_W, hl]
def z_apart (ad : Nat → Nat) (base : Nat) : Prop := (∀ i j, i < z_N → j < z_N → ad i = ad j → i = j) ∧ ∀ i, i < z_N → base ≤ ad i
theorem z_W_D {dA : Nat → ClassId} {ad : Nat → Nat} {M : z_M} {base : Nat} (h : z_apart ad base) : va_D (z_A base) (z_W dA ad M) := by
  refine ⟨fun i j x y hi hj hxy => ?_, fun k q hk => ?_⟩
  · obtain ⟨h1, rfl⟩ := z_W_out hi
    obtain ⟨h2, rfl⟩ := z_W_out hj
    exact h.1 i j h1 h2 hxy
  · obtain ⟨h1, rfl⟩ := z_W_out hk
    exact h.2 k h1
-- locals
def z_rd (lv : List (Option Value)) (i : Nat) : Option Value := match lv[i]? with
  | some o => o
  | none => none
def z_l (lv : List (Option Value)) : List (Nat × Value) := (List.range lv.length).filterMap (fun i => (z_rd lv i).map (fun v => (i, v)))
theorem z_l_mem {lv : List (Option Value)} {q : Nat × Value} : q ∈ z_l lv ↔ z_rd lv q.1 = some q.2 := by
  unfold z_l
  rw [List.mem_filterMap]
  constructor
  · rintro ⟨i, -, h⟩
    cases hr : z_rd lv i with
    | none => rw [hr] at h; cases h
    | some v => rw [hr] at h; cases h; exact hr
  · intro h
    refine ⟨q.1, ?_, by rw [h]; rfl⟩
    rw [List.mem_range]
    refine Nat.lt_of_not_le fun hle => ?_
    simp [z_rd, List.getElem?_eq_none hle] at h
theorem z_at {ls : Array Slot} {nL : Nat} {lv : List (Option Value)} (h : lv_has ls nL (z_l lv)) {i : Nat} {v : Value} (hv : z_rd lv i = some v) : ls[i]? = some (.val v) := h.2.2 (i, v) (z_l_mem.mpr hv)
def z_ok (lv : List (Option Value)) (i : Nat) : Bool := match i with
  | 0 => true
  | j + 1 => match z_rd lv j with
    | some v => v.category == 1
    | none => true
theorem z_l_store {ls : Array Slot} {nL : Nat} {lv : List (Option Value)} {i : Nat} {v : Value} (hi : i < lv.length) (hok : z_ok lv i = true)
    (h : lv_has ls nL ((i, v) :: (z_l lv).filter (fun q => !(q.1 == i) && !(q.1 + 1 == i && q.2.category == 2)))) : lv_has ls nL (z_l (lv.set i (some v))) := by
  refine ⟨h.1, h.2.1, fun q hq => h.2.2 q ?_⟩
  rw [z_l_mem] at hq
  obtain ⟨a, w⟩ := q
  by_cases e : a = i
  · subst e
    simp [z_rd, List.getElem?_set, hi] at hq
    subst hq
    exact List.mem_cons_self
  · refine List.mem_cons_of_mem _ (List.mem_filter.mpr ⟨z_l_mem.mpr ?_, ?_⟩)
    · have e2 : ¬ i = a := fun q => e q.symm
      simpa [z_rd, List.getElem?_set, e2] using hq
    · have e2 : ¬ i = a := fun q => e q.symm
      have hr : z_rd lv a = some w := by simpa [z_rd, List.getElem?_set, e2] using hq
      by_cases e3 : a + 1 = i
      · subst e3
        have hc : w.category = 1 := by simpa [z_ok, hr] using hok
        simp [hc]
      · simp [e, e3]
def z_bd (lv : List (Option Value)) (i n : Nat) : Bool := Nat.blt i n && (Nat.blt i lv.length && z_ok lv i)
theorem z_bd_of {lv : List (Option Value)} {i n : Nat} (h : z_bd lv i n = true) : i < n ∧ i < lv.length ∧ z_ok lv i = true := by
  unfold z_bd at h
  rw [Bool.and_eq_true, Bool.and_eq_true] at h
  exact ⟨Nat.lt_of_lt_of_le (Nat.lt_succ_self i) (Nat.le_of_ble_eq_true h.1), Nat.lt_of_lt_of_le (Nat.lt_succ_self i) (Nat.le_of_ble_eq_true h.2.1), h.2.2⟩
-- the environment, at a state
def z_use (w : Cond) : Bool := w.onTables && w.keepsH
def z_T : List Cond := lw_tbl.filter z_use
theorem z_T_mem {w : Cond} (h : w ∈ lw_tbl) (hu : z_use w = true) : w ∈ z_T := List.mem_filter.mpr ⟨h, hu⟩
def z_E (dA : Nat → ClassId) (ad : Nat → Nat) (D : va_G) (base : Nat) (U : State) : Prop :=
  va_K D z_cl (z_tys dA) U ∧ z_apart ad base ∧ base ≤ U.heap.size ∧ (∀ w ∈ z_T, va_Nw w U) ∧ z_Z base U
theorem z_E_same {dA : Nat → ClassId} {ad : Nat → Nat} {D : va_G} {base : Nat} {U U' : State} (hh : U'.heap = U.heap) (hv : U.vm = U'.vm) (h : z_E dA ad D base U) : z_E dA ad D base U' := by
  obtain ⟨h1, h2, h3, h4, h5⟩ := h
  have ha : U.vm.Alike U'.vm := hv ▸ Vm.Alike.refl U.vm
  refine ⟨va_K.moved ha h1, h2, by rw [hh]; exact h3, fun w hw => ?_, z_Z_moved ha (fun a _ _ => by rw [hh]) h5⟩
  have hu := (List.mem_filter.mp hw).2
  unfold z_use at hu
  rw [Bool.and_eq_true] at hu
  exact va_Nw.same hu.1 hv (h4 w hw)
theorem z_E_warm {dA : Nat → ClassId} {ad : Nat → Nat} {D : va_G} {base : Nat} {s U : State} {H : Heap} {locs : List Loc} (h : z_E dA ad D base s) (hU : U.heap = H) (hS : va_S (z_A base) s.heap H locs) (hW : s.WarmedH U.vm) : z_E dA ad D base U := by
  obtain ⟨h1, h2, h3, h4, h5⟩ := h
  refine ⟨va_K.moved hW.alike h1, h2, by rw [hU]; exact Nat.le_trans h3 hS.1, fun w hw => ?_, z_Z_moved hW.alike (fun a h1 h2 => by rw [hU]; exact hS.2.1 a h1 h2) h5⟩
  have hu := (List.mem_filter.mp hw).2
  unfold z_use at hu
  rw [Bool.and_eq_true] at hu
  exact Cond.onTables_warmH (T := U) hW hu.1 hu.2 (h4 w hw)
theorem z_w {dA : Nat → ClassId} {ad : Nat → Nat} {D : va_G} {base : Nat} {s : State} (h : z_E dA ad D base s) {w : Cond} (hw : w ∈ z_T) {args : Array Value} : w.before args s = true := by
  have hu := (List.mem_filter.mp hw).2
  unfold z_use at hu
  rw [Bool.and_eq_true] at hu
  exact va_Nw.use hu.1 (h.2.2.2.1 w hw)
abbrev z_K : Type := Program × Launch × Env × Room × State × MethodId × Array Value × List Frame × Method × Code × va_G × Nat × Nat × Nat × Nat × (State → Prop)
def z_X (dA : Nat → ClassId) (ad : Nat → Nat) (k : z_K) (pc : Nat) (lv : List (Option Value)) (st : List Value) (M : z_M) : Prop := match k with
  | (p, l, e, R, s, m, args, below, meth, c, D, base, nL, cells, slots, Q) => ∀ (H : Heap) (locs : List Loc) (ls : Array Slot), va_P D z_cl (z_W dA ad M) H → va_S (z_A base) s.heap H locs → lv_has ls nL (z_l lv) → W p l e R s m args below meth c H locs cells slots Q (F0 m pc ls st)
def z_C (dA : Nat → ClassId) (ad : Nat → Nat) (k : z_K) (cc : ByteArray) (own : String) (d n : Nat) : Prop := match k with
  | (p, l, e, R, s, m, args, below, meth, c, D, base, nL, cells, slots, Q) => p.tables.exec = Jvm.exec ∧ c.code = cc ∧ (c.maxLocals = nL ∧ nL = n) ∧ s.vm.findClass own = some m.cls ∧ meth.locks = false ∧ (d ≤ R.frames ∧ 40 * d ≤ R.locals ∧ cells ≤ R.cells ∧ slots ≤ R.slots) ∧ z_E dA ad D base s
section ZL
variable {dA : Nat → ClassId} {ad : Nat → Nat} {k : z_K} {cc : ByteArray} {own : String} {d n pc : Nat} {lv : List (Option Value)} {st : List Value} {M : z_M}

theorem x_iconst (C : z_C dA ad k cc own d n) {n : Int} (v : Int32) (hdg : decode cc pc = .ok (.iconst n, 1)) (hv : Int32.ofInt n = v) (kk : z_X dA ad k (pc + 1) lv (.int v :: st) M) : z_X dA ad k pc lv (st) M := by
  obtain ⟨p, l, e, R, s, m, args, below, meth, c, D, base, nL, cells, slots, Q⟩ := k
  obtain ⟨hx, hb, ⟨hml, rfl⟩, hown, hlk, hrm, hE⟩ := C
  intro H locs ls hP hS hl
  exact lv_iconst hx hb hdg hv (kk H locs ls hP hS hl)

theorem x_bipush (C : z_C dA ad k cc own d n) {n : Int} (v : Int32) (hdg : decode cc pc = .ok (.bipush n, 2)) (hv : (Int8.ofInt n).toInt32 = v) (kk : z_X dA ad k (pc + 2) lv (.int v :: st) M) : z_X dA ad k pc lv (st) M := by
  obtain ⟨p, l, e, R, s, m, args, below, meth, c, D, base, nL, cells, slots, Q⟩ := k
  obtain ⟨hx, hb, ⟨hml, rfl⟩, hown, hlk, hrm, hE⟩ := C
  intro H locs ls hP hS hl
  exact lv_bipush hx hb hdg hv (kk H locs ls hP hS hl)

theorem x_sipush (C : z_C dA ad k cc own d n) {n : Int} (v : Int32) (hdg : decode cc pc = .ok (.sipush n, 3)) (hv : (Int16.ofInt n).toInt32 = v) (kk : z_X dA ad k (pc + 3) lv (.int v :: st) M) : z_X dA ad k pc lv (st) M := by
  obtain ⟨p, l, e, R, s, m, args, below, meth, c, D, base, nL, cells, slots, Q⟩ := k
  obtain ⟨hx, hb, ⟨hml, rfl⟩, hown, hlk, hrm, hE⟩ := C
  intro H locs ls hP hS hl
  exact lv_sipush hx hb hdg hv (kk H locs ls hP hS hl)

theorem x_ldc (C : z_C dA ad k cc own d n) {index : Nat} (v : Int32) (hdg : decode cc pc = .ok (.ldc index, 2)) (hw : Cond.constant own index v ∈ z_T) (kk : z_X dA ad k (pc + 2) lv (.int v :: st) M) : z_X dA ad k pc lv (st) M := by
  obtain ⟨p, l, e, R, s, m, args, below, meth, c, D, base, nL, cells, slots, Q⟩ := k
  obtain ⟨hx, hb, ⟨hml, rfl⟩, hown, hlk, hrm, hE⟩ := C
  intro H locs ls hP hS hl
  exact lv_ldc hx hb hown (z_w hE hw) hdg (kk H locs ls hP hS hl)

theorem x_iload_n (C : z_C dA ad k cc own d n) {n4 : Fin 4} {i : Nat} {x : Int32} (hdg : decode cc pc = .ok (.iload_n n4, 1)) (hi : (n4 : Nat) = i) (hv : z_rd lv i = some (.int x)) (kk : z_X dA ad k (pc + 1) lv (.int x :: st) M) : z_X dA ad k pc lv (st) M := by
  obtain ⟨p, l, e, R, s, m, args, below, meth, c, D, base, nL, cells, slots, Q⟩ := k
  obtain ⟨hx, hb, ⟨hml, rfl⟩, hown, hlk, hrm, hE⟩ := C
  intro H locs ls hP hS hl
  exact lv_iload_n hx hb hdg hi (z_at hl hv) (kk H locs ls hP hS hl)

theorem x_iload (C : z_C dA ad k cc own d n) {i : Nat} {x : Int32} (hdg : decode cc pc = .ok (.iload i, 2)) (hv : z_rd lv i = some (.int x)) (kk : z_X dA ad k (pc + 2) lv (.int x :: st) M) : z_X dA ad k pc lv (st) M := by
  obtain ⟨p, l, e, R, s, m, args, below, meth, c, D, base, nL, cells, slots, Q⟩ := k
  obtain ⟨hx, hb, ⟨hml, rfl⟩, hown, hlk, hrm, hE⟩ := C
  intro H locs ls hP hS hl
  exact lv_iload hx hb hdg (z_at hl hv) (kk H locs ls hP hS hl)

theorem x_istore_n (C : z_C dA ad k cc own d n) {n4 : Fin 4} {i : Nat} {x : Int32} (hdg : decode cc pc = .ok (.istore_n n4, 1)) (hi : (n4 : Nat) = i) (hbd : z_bd lv i n = true) (kk : z_X dA ad k (pc + 1) (lv.set i (some (.int x))) (st) M) : z_X dA ad k pc lv (.int x :: st) M := by
  obtain ⟨p, l, e, R, s, m, args, below, meth, c, D, base, nL, cells, slots, Q⟩ := k
  obtain ⟨hx, hb, ⟨hml, rfl⟩, hown, hlk, hrm, hE⟩ := C
  intro H locs ls hP hS hl
  exact lv_istore_n hx hb hdg hi hl (z_bd_of hbd).1 rfl (fun ls2 hl2 => kk H locs ls2 hP hS (z_l_store (z_bd_of hbd).2.1 (z_bd_of hbd).2.2 hl2))

theorem x_istore (C : z_C dA ad k cc own d n) {i : Nat} {x : Int32} (hdg : decode cc pc = .ok (.istore i, 2)) (hbd : z_bd lv i n = true) (kk : z_X dA ad k (pc + 2) (lv.set i (some (.int x))) (st) M) : z_X dA ad k pc lv (.int x :: st) M := by
  obtain ⟨p, l, e, R, s, m, args, below, meth, c, D, base, nL, cells, slots, Q⟩ := k
  obtain ⟨hx, hb, ⟨hml, rfl⟩, hown, hlk, hrm, hE⟩ := C
  intro H locs ls hP hS hl
  exact lv_istore hx hb hdg hl (z_bd_of hbd).1 rfl (fun ls2 hl2 => kk H locs ls2 hP hS (z_l_store (z_bd_of hbd).2.1 (z_bd_of hbd).2.2 hl2))

theorem x_aload_n (C : z_C dA ad k cc own d n) {n4 : Fin 4} {i : Nat} {x : Nat} (hdg : decode cc pc = .ok (.aload_n n4, 1)) (hi : (n4 : Nat) = i) (hv : z_rd lv i = some (.ref x)) (kk : z_X dA ad k (pc + 1) lv (.ref x :: st) M) : z_X dA ad k pc lv (st) M := by
  obtain ⟨p, l, e, R, s, m, args, below, meth, c, D, base, nL, cells, slots, Q⟩ := k
  obtain ⟨hx, hb, ⟨hml, rfl⟩, hown, hlk, hrm, hE⟩ := C
  intro H locs ls hP hS hl
  exact lv_aload_n hx hb hdg hi (z_at hl hv) (kk H locs ls hP hS hl)

theorem x_aload (C : z_C dA ad k cc own d n) {i : Nat} {x : Nat} (hdg : decode cc pc = .ok (.aload i, 2)) (hv : z_rd lv i = some (.ref x)) (kk : z_X dA ad k (pc + 2) lv (.ref x :: st) M) : z_X dA ad k pc lv (st) M := by
  obtain ⟨p, l, e, R, s, m, args, below, meth, c, D, base, nL, cells, slots, Q⟩ := k
  obtain ⟨hx, hb, ⟨hml, rfl⟩, hown, hlk, hrm, hE⟩ := C
  intro H locs ls hP hS hl
  exact lv_aload hx hb hdg (z_at hl hv) (kk H locs ls hP hS hl)

theorem x_astore_n (C : z_C dA ad k cc own d n) {n4 : Fin 4} {i : Nat} {x : Nat} (hdg : decode cc pc = .ok (.astore_n n4, 1)) (hi : (n4 : Nat) = i) (hbd : z_bd lv i n = true) (kk : z_X dA ad k (pc + 1) (lv.set i (some (.ref x))) (st) M) : z_X dA ad k pc lv (.ref x :: st) M := by
  obtain ⟨p, l, e, R, s, m, args, below, meth, c, D, base, nL, cells, slots, Q⟩ := k
  obtain ⟨hx, hb, ⟨hml, rfl⟩, hown, hlk, hrm, hE⟩ := C
  intro H locs ls hP hS hl
  exact lv_astore_n hx hb hdg hi hl (z_bd_of hbd).1 rfl (fun ls2 hl2 => kk H locs ls2 hP hS (z_l_store (z_bd_of hbd).2.1 (z_bd_of hbd).2.2 hl2))

theorem x_astore (C : z_C dA ad k cc own d n) {i : Nat} {x : Nat} (hdg : decode cc pc = .ok (.astore i, 2)) (hbd : z_bd lv i n = true) (kk : z_X dA ad k (pc + 2) (lv.set i (some (.ref x))) (st) M) : z_X dA ad k pc lv (.ref x :: st) M := by
  obtain ⟨p, l, e, R, s, m, args, below, meth, c, D, base, nL, cells, slots, Q⟩ := k
  obtain ⟨hx, hb, ⟨hml, rfl⟩, hown, hlk, hrm, hE⟩ := C
  intro H locs ls hP hS hl
  exact lv_astore hx hb hdg hl (z_bd_of hbd).1 rfl (fun ls2 hl2 => kk H locs ls2 hP hS (z_l_store (z_bd_of hbd).2.1 (z_bd_of hbd).2.2 hl2))

theorem z_place {lv : List (Option Value)} {i : Nat} {v : Value} (h : z_rd lv i = some v) : ∃ q : Nat, (z_l lv)[q]? = some (i, v) := List.getElem?_of_mem (z_l_mem.mpr h)

theorem x_iinc (C : z_C dA ad k cc own d n) {i : Nat} {z : Int} {x : Int32} (v : Int32) (hdg : decode cc pc = .ok (.iinc i z, 3)) (hr : z_rd lv i = some (.int x)) (hv : x + Int32.ofInt z = v) (hbd : z_bd lv i n = true) (kk : z_X dA ad k (pc + 3) (lv.set i (some (.int v))) (st) M) : z_X dA ad k pc lv (st) M := by
  obtain ⟨p, l, e, R, s, m, args, below, meth, c, D, base, nL, cells, slots, Q⟩ := k
  obtain ⟨hx, hb, ⟨hml, rfl⟩, hown, hlk, hrm, hE⟩ := C
  intro H locs ls hP hS hl
  obtain ⟨q, hq⟩ := z_place hr
  exact lv_iinc hx hb hdg hl hq hv (z_bd_of hbd).1 rfl (fun ls2 hl2 => kk H locs ls2 hP hS (z_l_store (z_bd_of hbd).2.1 (z_bd_of hbd).2.2 hl2))

theorem x_iadd (C : z_C dA ad k cc own d n) {x y : Int32} (hdg : decode cc pc = .ok (.iadd, 1)) (kk : z_X dA ad k (pc + 1) lv (.int (x + y) :: st) M) : z_X dA ad k pc lv (.int y :: .int x :: st) M := by
  obtain ⟨p, l, e, R, s, m, args, below, meth, c, D, base, nL, cells, slots, Q⟩ := k
  obtain ⟨hx, hb, ⟨hml, rfl⟩, hown, hlk, hrm, hE⟩ := C
  intro H locs ls hP hS hl
  exact lv_iadd hx hb hdg (kk H locs ls hP hS hl)

theorem x_isub (C : z_C dA ad k cc own d n) {x y : Int32} (hdg : decode cc pc = .ok (.isub, 1)) (kk : z_X dA ad k (pc + 1) lv (.int (x - y) :: st) M) : z_X dA ad k pc lv (.int y :: .int x :: st) M := by
  obtain ⟨p, l, e, R, s, m, args, below, meth, c, D, base, nL, cells, slots, Q⟩ := k
  obtain ⟨hx, hb, ⟨hml, rfl⟩, hown, hlk, hrm, hE⟩ := C
  intro H locs ls hP hS hl
  exact lv_isub hx hb hdg (kk H locs ls hP hS hl)

theorem x_imul (C : z_C dA ad k cc own d n) {x y : Int32} (hdg : decode cc pc = .ok (.imul, 1)) (kk : z_X dA ad k (pc + 1) lv (.int (x * y) :: st) M) : z_X dA ad k pc lv (.int y :: .int x :: st) M := by
  obtain ⟨p, l, e, R, s, m, args, below, meth, c, D, base, nL, cells, slots, Q⟩ := k
  obtain ⟨hx, hb, ⟨hml, rfl⟩, hown, hlk, hrm, hE⟩ := C
  intro H locs ls hP hS hl
  exact lv_imul hx hb hdg (kk H locs ls hP hS hl)

theorem x_iand (C : z_C dA ad k cc own d n) {x y : Int32} (hdg : decode cc pc = .ok (.iand, 1)) (kk : z_X dA ad k (pc + 1) lv (.int (x &&& y) :: st) M) : z_X dA ad k pc lv (.int y :: .int x :: st) M := by
  obtain ⟨p, l, e, R, s, m, args, below, meth, c, D, base, nL, cells, slots, Q⟩ := k
  obtain ⟨hx, hb, ⟨hml, rfl⟩, hown, hlk, hrm, hE⟩ := C
  intro H locs ls hP hS hl
  exact lv_iand hx hb hdg (kk H locs ls hP hS hl)

theorem x_ior (C : z_C dA ad k cc own d n) {x y : Int32} (hdg : decode cc pc = .ok (.ior, 1)) (kk : z_X dA ad k (pc + 1) lv (.int (x ||| y) :: st) M) : z_X dA ad k pc lv (.int y :: .int x :: st) M := by
  obtain ⟨p, l, e, R, s, m, args, below, meth, c, D, base, nL, cells, slots, Q⟩ := k
  obtain ⟨hx, hb, ⟨hml, rfl⟩, hown, hlk, hrm, hE⟩ := C
  intro H locs ls hP hS hl
  exact lv_ior hx hb hdg (kk H locs ls hP hS hl)

theorem x_ixor (C : z_C dA ad k cc own d n) {x y : Int32} (hdg : decode cc pc = .ok (.ixor, 1)) (kk : z_X dA ad k (pc + 1) lv (.int (x ^^^ y) :: st) M) : z_X dA ad k pc lv (.int y :: .int x :: st) M := by
  obtain ⟨p, l, e, R, s, m, args, below, meth, c, D, base, nL, cells, slots, Q⟩ := k
  obtain ⟨hx, hb, ⟨hml, rfl⟩, hown, hlk, hrm, hE⟩ := C
  intro H locs ls hP hS hl
  exact lv_ixor hx hb hdg (kk H locs ls hP hS hl)

theorem x_idiv (C : z_C dA ad k cc own d n) {x y : Int32} (hdg : decode cc pc = .ok (.idiv, 1)) (hne : ¬ y = 0) (kk : z_X dA ad k (pc + 1) lv (.int (x / y) :: st) M) : z_X dA ad k pc lv (.int y :: .int x :: st) M := by
  obtain ⟨p, l, e, R, s, m, args, below, meth, c, D, base, nL, cells, slots, Q⟩ := k
  obtain ⟨hx, hb, ⟨hml, rfl⟩, hown, hlk, hrm, hE⟩ := C
  intro H locs ls hP hS hl
  exact lv_idiv hx hb hdg hne (kk H locs ls hP hS hl)

theorem x_irem (C : z_C dA ad k cc own d n) {x y : Int32} (hdg : decode cc pc = .ok (.irem, 1)) (hne : ¬ y = 0) (kk : z_X dA ad k (pc + 1) lv (.int (x - x / y * y) :: st) M) : z_X dA ad k pc lv (.int y :: .int x :: st) M := by
  obtain ⟨p, l, e, R, s, m, args, below, meth, c, D, base, nL, cells, slots, Q⟩ := k
  obtain ⟨hx, hb, ⟨hml, rfl⟩, hown, hlk, hrm, hE⟩ := C
  intro H locs ls hP hS hl
  exact lv_irem hx hb hdg hne (kk H locs ls hP hS hl)

theorem x_ineg (C : z_C dA ad k cc own d n) {x : Int32} (hdg : decode cc pc = .ok (.ineg, 1)) (kk : z_X dA ad k (pc + 1) lv (.int (-x) :: st) M) : z_X dA ad k pc lv (.int x :: st) M := by
  obtain ⟨p, l, e, R, s, m, args, below, meth, c, D, base, nL, cells, slots, Q⟩ := k
  obtain ⟨hx, hb, ⟨hml, rfl⟩, hown, hlk, hrm, hE⟩ := C
  intro H locs ls hP hS hl
  exact lv_ineg hx hb hdg (kk H locs ls hP hS hl)

theorem x_ishl (C : z_C dA ad k cc own d n) {x y : Int32} (hdg : decode cc pc = .ok (.ishl, 1)) (kk : z_X dA ad k (pc + 1) lv (.int (x <<< (y &&& 31)) :: st) M) : z_X dA ad k pc lv (.int y :: .int x :: st) M := by
  obtain ⟨p, l, e, R, s, m, args, below, meth, c, D, base, nL, cells, slots, Q⟩ := k
  obtain ⟨hx, hb, ⟨hml, rfl⟩, hown, hlk, hrm, hE⟩ := C
  intro H locs ls hP hS hl
  exact lv_ishl hx hb hdg (kk H locs ls hP hS hl)

theorem x_ishr (C : z_C dA ad k cc own d n) {x y : Int32} (hdg : decode cc pc = .ok (.ishr, 1)) (kk : z_X dA ad k (pc + 1) lv (.int (x >>> (y &&& 31)) :: st) M) : z_X dA ad k pc lv (.int y :: .int x :: st) M := by
  obtain ⟨p, l, e, R, s, m, args, below, meth, c, D, base, nL, cells, slots, Q⟩ := k
  obtain ⟨hx, hb, ⟨hml, rfl⟩, hown, hlk, hrm, hE⟩ := C
  intro H locs ls hP hS hl
  exact lv_ishr hx hb hdg (kk H locs ls hP hS hl)

theorem x_dup (C : z_C dA ad k cc own d n) {va : Value} (hdg : decode cc pc = .ok (.dup, 1)) (hva : va.category = 1) (kk : z_X dA ad k (pc + 1) lv (va :: va :: st) M) : z_X dA ad k pc lv (va :: st) M := by
  obtain ⟨p, l, e, R, s, m, args, below, meth, c, D, base, nL, cells, slots, Q⟩ := k
  obtain ⟨hx, hb, ⟨hml, rfl⟩, hown, hlk, hrm, hE⟩ := C
  intro H locs ls hP hS hl
  exact lv_dup hx hb hdg hva (kk H locs ls hP hS hl)

theorem x_pop (C : z_C dA ad k cc own d n) {va : Value} (hdg : decode cc pc = .ok (.pop, 1)) (hva : va.category = 1) (kk : z_X dA ad k (pc + 1) lv (st) M) : z_X dA ad k pc lv (va :: st) M := by
  obtain ⟨p, l, e, R, s, m, args, below, meth, c, D, base, nL, cells, slots, Q⟩ := k
  obtain ⟨hx, hb, ⟨hml, rfl⟩, hown, hlk, hrm, hE⟩ := C
  intro H locs ls hP hS hl
  exact lv_pop hx hb hdg hva (kk H locs ls hP hS hl)

theorem x_dup_x1 (C : z_C dA ad k cc own d n) {va vb : Value} (hdg : decode cc pc = .ok (.dup_x1, 1)) (hva : va.category = 1) (hvb : vb.category = 1) (kk : z_X dA ad k (pc + 1) lv (va :: vb :: va :: st) M) : z_X dA ad k pc lv (va :: vb :: st) M := by
  obtain ⟨p, l, e, R, s, m, args, below, meth, c, D, base, nL, cells, slots, Q⟩ := k
  obtain ⟨hx, hb, ⟨hml, rfl⟩, hown, hlk, hrm, hE⟩ := C
  intro H locs ls hP hS hl
  exact lv_dup_x1 hx hb hdg hva hvb (kk H locs ls hP hS hl)

theorem x_dup2 (C : z_C dA ad k cc own d n) {va vb : Value} (hdg : decode cc pc = .ok (.dup2, 1)) (hva : va.category = 1) (hvb : vb.category = 1) (kk : z_X dA ad k (pc + 1) lv (va :: vb :: va :: vb :: st) M) : z_X dA ad k pc lv (va :: vb :: st) M := by
  obtain ⟨p, l, e, R, s, m, args, below, meth, c, D, base, nL, cells, slots, Q⟩ := k
  obtain ⟨hx, hb, ⟨hml, rfl⟩, hown, hlk, hrm, hE⟩ := C
  intro H locs ls hP hS hl
  exact lv_dup2_11 hx hb hdg hva hvb (kk H locs ls hP hS hl)

theorem x_ladd (C : z_C dA ad k cc own d n) {x y : Int64} (hdg : decode cc pc = .ok (.ladd, 1)) (kk : z_X dA ad k (pc + 1) lv (.long (x + y) :: st) M) : z_X dA ad k pc lv (.long y :: .long x :: st) M := by
  obtain ⟨p, l, e, R, s, m, args, below, meth, c, D, base, nL, cells, slots, Q⟩ := k
  obtain ⟨hx, hb, ⟨hml, rfl⟩, hown, hlk, hrm, hE⟩ := C
  intro H locs ls hP hS hl
  exact lv_ladd hx hb hdg (kk H locs ls hP hS hl)

theorem x_lmul (C : z_C dA ad k cc own d n) {x y : Int64} (hdg : decode cc pc = .ok (.lmul, 1)) (kk : z_X dA ad k (pc + 1) lv (.long (x * y) :: st) M) : z_X dA ad k pc lv (.long y :: .long x :: st) M := by
  obtain ⟨p, l, e, R, s, m, args, below, meth, c, D, base, nL, cells, slots, Q⟩ := k
  obtain ⟨hx, hb, ⟨hml, rfl⟩, hown, hlk, hrm, hE⟩ := C
  intro H locs ls hP hS hl
  exact lv_lmul hx hb hdg (kk H locs ls hP hS hl)

theorem x_ldiv (C : z_C dA ad k cc own d n) {x y : Int64} (hdg : decode cc pc = .ok (.ldiv, 1)) (hne : ¬ y = 0) (kk : z_X dA ad k (pc + 1) lv (.long (x / y) :: st) M) : z_X dA ad k pc lv (.long y :: .long x :: st) M := by
  obtain ⟨p, l, e, R, s, m, args, below, meth, c, D, base, nL, cells, slots, Q⟩ := k
  obtain ⟨hx, hb, ⟨hml, rfl⟩, hown, hlk, hrm, hE⟩ := C
  intro H locs ls hP hS hl
  exact lv_ldiv hx hb hdg hne (kk H locs ls hP hS hl)

theorem x_lrem (C : z_C dA ad k cc own d n) {x y : Int64} (hdg : decode cc pc = .ok (.lrem, 1)) (hne : ¬ y = 0) (kk : z_X dA ad k (pc + 1) lv (.long (x - x / y * y) :: st) M) : z_X dA ad k pc lv (.long y :: .long x :: st) M := by
  obtain ⟨p, l, e, R, s, m, args, below, meth, c, D, base, nL, cells, slots, Q⟩ := k
  obtain ⟨hx, hb, ⟨hml, rfl⟩, hown, hlk, hrm, hE⟩ := C
  intro H locs ls hP hS hl
  exact lv_lrem hx hb hdg hne (kk H locs ls hP hS hl)

theorem x_i2l (C : z_C dA ad k cc own d n) {x : Int32} (hdg : decode cc pc = .ok (.i2l, 1)) (kk : z_X dA ad k (pc + 1) lv (.long x.toInt64 :: st) M) : z_X dA ad k pc lv (.int x :: st) M := by
  obtain ⟨p, l, e, R, s, m, args, below, meth, c, D, base, nL, cells, slots, Q⟩ := k
  obtain ⟨hx, hb, ⟨hml, rfl⟩, hown, hlk, hrm, hE⟩ := C
  intro H locs ls hP hS hl
  exact lv_i2l hx hb hdg rfl (kk H locs ls hP hS hl)

theorem x_l2i (C : z_C dA ad k cc own d n) {x : Int64} (v : Int32) (hdg : decode cc pc = .ok (.l2i, 1)) (hv : x.toInt32 = v) (kk : z_X dA ad k (pc + 1) lv (.int v :: st) M) : z_X dA ad k pc lv (.long x :: st) M := by
  obtain ⟨p, l, e, R, s, m, args, below, meth, c, D, base, nL, cells, slots, Q⟩ := k
  obtain ⟨hx, hb, ⟨hml, rfl⟩, hown, hlk, hrm, hE⟩ := C
  intro H locs ls hP hS hl
  exact lv_l2i hx hb hdg hv (kk H locs ls hP hS hl)

theorem x_ldc2 (C : z_C dA ad k cc own d n) {index : Nat} (v : Int64) (hdg : decode cc pc = .ok (.ldc2_w index, 3)) (hw : Cond.constantLong own index v ∈ z_T) (kk : z_X dA ad k (pc + 3) lv (.long v :: st) M) : z_X dA ad k pc lv (st) M := by
  obtain ⟨p, l, e, R, s, m, args, below, meth, c, D, base, nL, cells, slots, Q⟩ := k
  obtain ⟨hx, hb, ⟨hml, rfl⟩, hown, hlk, hrm, hE⟩ := C
  intro H locs ls hP hS hl
  exact lv_ldc2 hx hb hown (z_w hE hw) hdg (kk H locs ls hP hS hl)

theorem x_if_eq (C : z_C dA ad k cc own d n) {x : Int32} {off : Int} (tgt : Nat) (hdg : decode cc pc = .ok (.ifCond .eq off, 3)) (ht : (pc : Int) + off = (tgt : Int)) (kt : x = 0 → z_X dA ad k tgt lv (st) M) (kf : ¬ x = 0 → z_X dA ad k (pc + 3) lv (st) M) : z_X dA ad k pc lv (.int x :: st) M := by
  obtain ⟨p, l, e, R, s, m, args, below, meth, c, D, base, nL, cells, slots, Q⟩ := k
  obtain ⟨hx, hb, ⟨hml, rfl⟩, hown, hlk, hrm, hE⟩ := C
  intro H locs ls hP hS hl
  exact lv_if_eq hx hb hdg ht (fun q => kt q H locs ls hP hS hl) (fun q => kf q H locs ls hP hS hl)

theorem x_if_ne (C : z_C dA ad k cc own d n) {x : Int32} {off : Int} (tgt : Nat) (hdg : decode cc pc = .ok (.ifCond .ne off, 3)) (ht : (pc : Int) + off = (tgt : Int)) (kt : ¬ x = 0 → z_X dA ad k tgt lv (st) M) (kf : x = 0 → z_X dA ad k (pc + 3) lv (st) M) : z_X dA ad k pc lv (.int x :: st) M := by
  obtain ⟨p, l, e, R, s, m, args, below, meth, c, D, base, nL, cells, slots, Q⟩ := k
  obtain ⟨hx, hb, ⟨hml, rfl⟩, hown, hlk, hrm, hE⟩ := C
  intro H locs ls hP hS hl
  exact lv_if_ne hx hb hdg ht (fun q => kt q H locs ls hP hS hl) (fun q => kf q H locs ls hP hS hl)

theorem x_if_lt (C : z_C dA ad k cc own d n) {x : Int32} {off : Int} (tgt : Nat) (hdg : decode cc pc = .ok (.ifCond .lt off, 3)) (ht : (pc : Int) + off = (tgt : Int)) (kt : x < 0 → z_X dA ad k tgt lv (st) M) (kf : ¬ x < 0 → z_X dA ad k (pc + 3) lv (st) M) : z_X dA ad k pc lv (.int x :: st) M := by
  obtain ⟨p, l, e, R, s, m, args, below, meth, c, D, base, nL, cells, slots, Q⟩ := k
  obtain ⟨hx, hb, ⟨hml, rfl⟩, hown, hlk, hrm, hE⟩ := C
  intro H locs ls hP hS hl
  exact lv_if_lt hx hb hdg ht (fun q => kt q H locs ls hP hS hl) (fun q => kf q H locs ls hP hS hl)

theorem x_if_ge (C : z_C dA ad k cc own d n) {x : Int32} {off : Int} (tgt : Nat) (hdg : decode cc pc = .ok (.ifCond .ge off, 3)) (ht : (pc : Int) + off = (tgt : Int)) (kt : 0 ≤ x → z_X dA ad k tgt lv (st) M) (kf : ¬ 0 ≤ x → z_X dA ad k (pc + 3) lv (st) M) : z_X dA ad k pc lv (.int x :: st) M := by
  obtain ⟨p, l, e, R, s, m, args, below, meth, c, D, base, nL, cells, slots, Q⟩ := k
  obtain ⟨hx, hb, ⟨hml, rfl⟩, hown, hlk, hrm, hE⟩ := C
  intro H locs ls hP hS hl
  exact lv_if_ge hx hb hdg ht (fun q => kt q H locs ls hP hS hl) (fun q => kf q H locs ls hP hS hl)

theorem x_if_gt (C : z_C dA ad k cc own d n) {x : Int32} {off : Int} (tgt : Nat) (hdg : decode cc pc = .ok (.ifCond .gt off, 3)) (ht : (pc : Int) + off = (tgt : Int)) (kt : 0 < x → z_X dA ad k tgt lv (st) M) (kf : ¬ 0 < x → z_X dA ad k (pc + 3) lv (st) M) : z_X dA ad k pc lv (.int x :: st) M := by
  obtain ⟨p, l, e, R, s, m, args, below, meth, c, D, base, nL, cells, slots, Q⟩ := k
  obtain ⟨hx, hb, ⟨hml, rfl⟩, hown, hlk, hrm, hE⟩ := C
  intro H locs ls hP hS hl
  exact lv_if_gt hx hb hdg ht (fun q => kt q H locs ls hP hS hl) (fun q => kf q H locs ls hP hS hl)

theorem x_if_le (C : z_C dA ad k cc own d n) {x : Int32} {off : Int} (tgt : Nat) (hdg : decode cc pc = .ok (.ifCond .le off, 3)) (ht : (pc : Int) + off = (tgt : Int)) (kt : x ≤ 0 → z_X dA ad k tgt lv (st) M) (kf : ¬ x ≤ 0 → z_X dA ad k (pc + 3) lv (st) M) : z_X dA ad k pc lv (.int x :: st) M := by
  obtain ⟨p, l, e, R, s, m, args, below, meth, c, D, base, nL, cells, slots, Q⟩ := k
  obtain ⟨hx, hb, ⟨hml, rfl⟩, hown, hlk, hrm, hE⟩ := C
  intro H locs ls hP hS hl
  exact lv_if_le hx hb hdg ht (fun q => kt q H locs ls hP hS hl) (fun q => kf q H locs ls hP hS hl)

theorem x_icmp_eq (C : z_C dA ad k cc own d n) {x y : Int32} {off : Int} (tgt : Nat) (hdg : decode cc pc = .ok (.if_icmp .eq off, 3)) (ht : (pc : Int) + off = (tgt : Int)) (kt : x = y → z_X dA ad k tgt lv (st) M) (kf : ¬ x = y → z_X dA ad k (pc + 3) lv (st) M) : z_X dA ad k pc lv (.int y :: .int x :: st) M := by
  obtain ⟨p, l, e, R, s, m, args, below, meth, c, D, base, nL, cells, slots, Q⟩ := k
  obtain ⟨hx, hb, ⟨hml, rfl⟩, hown, hlk, hrm, hE⟩ := C
  intro H locs ls hP hS hl
  exact lv_icmp_eq hx hb hdg ht (fun q => kt q H locs ls hP hS hl) (fun q => kf q H locs ls hP hS hl)

theorem x_icmp_ne (C : z_C dA ad k cc own d n) {x y : Int32} {off : Int} (tgt : Nat) (hdg : decode cc pc = .ok (.if_icmp .ne off, 3)) (ht : (pc : Int) + off = (tgt : Int)) (kt : ¬ x = y → z_X dA ad k tgt lv (st) M) (kf : x = y → z_X dA ad k (pc + 3) lv (st) M) : z_X dA ad k pc lv (.int y :: .int x :: st) M := by
  obtain ⟨p, l, e, R, s, m, args, below, meth, c, D, base, nL, cells, slots, Q⟩ := k
  obtain ⟨hx, hb, ⟨hml, rfl⟩, hown, hlk, hrm, hE⟩ := C
  intro H locs ls hP hS hl
  exact lv_icmp_ne hx hb hdg ht (fun q => kt q H locs ls hP hS hl) (fun q => kf q H locs ls hP hS hl)

theorem x_icmp_lt (C : z_C dA ad k cc own d n) {x y : Int32} {off : Int} (tgt : Nat) (hdg : decode cc pc = .ok (.if_icmp .lt off, 3)) (ht : (pc : Int) + off = (tgt : Int)) (kt : x < y → z_X dA ad k tgt lv (st) M) (kf : ¬ x < y → z_X dA ad k (pc + 3) lv (st) M) : z_X dA ad k pc lv (.int y :: .int x :: st) M := by
  obtain ⟨p, l, e, R, s, m, args, below, meth, c, D, base, nL, cells, slots, Q⟩ := k
  obtain ⟨hx, hb, ⟨hml, rfl⟩, hown, hlk, hrm, hE⟩ := C
  intro H locs ls hP hS hl
  exact lv_icmp_lt hx hb hdg ht (fun q => kt q H locs ls hP hS hl) (fun q => kf q H locs ls hP hS hl)

theorem x_icmp_ge (C : z_C dA ad k cc own d n) {x y : Int32} {off : Int} (tgt : Nat) (hdg : decode cc pc = .ok (.if_icmp .ge off, 3)) (ht : (pc : Int) + off = (tgt : Int)) (kt : y ≤ x → z_X dA ad k tgt lv (st) M) (kf : ¬ y ≤ x → z_X dA ad k (pc + 3) lv (st) M) : z_X dA ad k pc lv (.int y :: .int x :: st) M := by
  obtain ⟨p, l, e, R, s, m, args, below, meth, c, D, base, nL, cells, slots, Q⟩ := k
  obtain ⟨hx, hb, ⟨hml, rfl⟩, hown, hlk, hrm, hE⟩ := C
  intro H locs ls hP hS hl
  exact lv_icmp_ge hx hb hdg ht (fun q => kt q H locs ls hP hS hl) (fun q => kf q H locs ls hP hS hl)

theorem x_icmp_gt (C : z_C dA ad k cc own d n) {x y : Int32} {off : Int} (tgt : Nat) (hdg : decode cc pc = .ok (.if_icmp .gt off, 3)) (ht : (pc : Int) + off = (tgt : Int)) (kt : y < x → z_X dA ad k tgt lv (st) M) (kf : ¬ y < x → z_X dA ad k (pc + 3) lv (st) M) : z_X dA ad k pc lv (.int y :: .int x :: st) M := by
  obtain ⟨p, l, e, R, s, m, args, below, meth, c, D, base, nL, cells, slots, Q⟩ := k
  obtain ⟨hx, hb, ⟨hml, rfl⟩, hown, hlk, hrm, hE⟩ := C
  intro H locs ls hP hS hl
  exact lv_icmp_gt hx hb hdg ht (fun q => kt q H locs ls hP hS hl) (fun q => kf q H locs ls hP hS hl)

theorem x_icmp_le (C : z_C dA ad k cc own d n) {x y : Int32} {off : Int} (tgt : Nat) (hdg : decode cc pc = .ok (.if_icmp .le off, 3)) (ht : (pc : Int) + off = (tgt : Int)) (kt : x ≤ y → z_X dA ad k tgt lv (st) M) (kf : ¬ x ≤ y → z_X dA ad k (pc + 3) lv (st) M) : z_X dA ad k pc lv (.int y :: .int x :: st) M := by
  obtain ⟨p, l, e, R, s, m, args, below, meth, c, D, base, nL, cells, slots, Q⟩ := k
  obtain ⟨hx, hb, ⟨hml, rfl⟩, hown, hlk, hrm, hE⟩ := C
  intro H locs ls hP hS hl
  exact lv_icmp_le hx hb hdg ht (fun q => kt q H locs ls hP hS hl) (fun q => kf q H locs ls hP hS hl)

theorem x_goto (C : z_C dA ad k cc own d n) {off : Int} (tgt : Nat) (hdg : decode cc pc = .ok (.goto off, 3)) (ht : (pc : Int) + off = (tgt : Int)) (kk : z_X dA ad k tgt lv (st) M) : z_X dA ad k pc lv (st) M := by
  obtain ⟨p, l, e, R, s, m, args, below, meth, c, D, base, nL, cells, slots, Q⟩ := k
  obtain ⟨hx, hb, ⟨hml, rfl⟩, hown, hlk, hrm, hE⟩ := C
  intro H locs ls hP hS hl
  exact lv_goto hx hb hdg ht (kk H locs ls hP hS hl)

theorem x_lookup (C : z_C dA ad k cc own d n) {dflt : Int} {ps : Array (Int × Int)} {len : Nat} {x : Int32} {off : Int} (tgt : Nat) (hdg : decode cc pc = .ok (.lookupswitch dflt ps, len)) (hp : (ps.toList.zip (ps.toList.drop 1)).all (fun (a, next) => a.1 < next.1) = true) (ho : Op.lookupswitch.offset ps.toList dflt x.toInt = off) (ht : (pc : Int) + off = (tgt : Int)) (kk : z_X dA ad k tgt lv (st) M) : z_X dA ad k pc lv (.int x :: st) M := by
  obtain ⟨p, l, e, R, s, m, args, below, meth, c, D, base, nL, cells, slots, Q⟩ := k
  obtain ⟨hx, hb, ⟨hml, rfl⟩, hown, hlk, hrm, hE⟩ := C
  intro H locs ls hP hS hl
  exact lv_lookup hx hb hdg hp ho ht (kk H locs ls hP hS hl)

theorem x_tableOut (C : z_C dA ad k cc own d n) {dflt lo hi : Int} {offs : Array Int} {len : Nat} {x : Int32} (tgt : Nat) (hdg : decode cc pc = .ok (.tableswitch dflt lo hi offs, len)) (h : x.toInt < lo ∨ hi < x.toInt) (ht : (pc : Int) + dflt = (tgt : Int)) (kk : z_X dA ad k tgt lv (st) M) : z_X dA ad k pc lv (.int x :: st) M := by
  obtain ⟨p, l, e, R, s, m, args, below, meth, c, D, base, nL, cells, slots, Q⟩ := k
  obtain ⟨hx, hb, ⟨hml, rfl⟩, hown, hlk, hrm, hE⟩ := C
  intro H locs ls hP hS hl
  exact lv_tableOut hx hb hdg h ht (kk H locs ls hP hS hl)

theorem x_tableIn (C : z_C dA ad k cc own d n) {dflt lo hi : Int} {offs : Array Int} {len : Nat} {x : Int32} {off : Int} (tgt : Nat) (hdg : decode cc pc = .ok (.tableswitch dflt lo hi offs, len)) (h1 : ¬ x.toInt < lo) (h2 : ¬ hi < x.toInt) (ho : offs[(x.toInt - lo).toNat]? = some off) (ht : (pc : Int) + off = (tgt : Int)) (kk : z_X dA ad k tgt lv (st) M) : z_X dA ad k pc lv (.int x :: st) M := by
  obtain ⟨p, l, e, R, s, m, args, below, meth, c, D, base, nL, cells, slots, Q⟩ := k
  obtain ⟨hx, hb, ⟨hml, rfl⟩, hown, hlk, hrm, hE⟩ := C
  intro H locs ls hP hS hl
  exact lv_tableIn hx hb hdg h1 h2 ho ht (kk H locs ls hP hS hl)

theorem x_topi {x : Int32} (kk : ∀ y : Int32, y = x → z_X dA ad k pc lv (.int y :: st) M) : z_X dA ad k pc lv (.int x :: st) M := kk x rfl

theorem x_get (C : z_C dA ad k cc own d n) {i ci j index N : Nat} {fs : List Value} {Cn ref : String} {T : u_T} {v : Value} (hi : i < z_N) (hc : z_c dA ad i (M i) = .inr (ci, fs)) (hcl : z_cl[ci]? = some (Cn, T, N)) (hlay : ∀ w ∈ u_ws Cn T N, w ∈ z_T) (hj : j < N) (href : (T j).1 = ref) (hlink : Cond.fieldLink own index ref (T j).2.1 (T j).2.2.1 ∈ z_T) (hv : fs[j]? = some v) (hdg : decode cc pc = .ok (.getfield index, 3)) (kk : z_X dA ad k (pc + 3) lv (v :: st) M) : z_X dA ad k pc lv (.ref (ad i) :: st) M := by
  obtain ⟨p, l, e, R, s, m, args, below, meth, c, D, base, nL, cells, slots, Q⟩ := k
  obtain ⟨hx, hb, ⟨hml, rfl⟩, hown, hlk, hrm, hE⟩ := C
  intro H locs ls hP hS hl
  exact va_get (D := D) (cl := z_cl) (tys := z_tys dA) (ws := z_W dA ad M) (Ts := z_T) hx hb (fun w hw => z_w hE hw) hlay hown hE.1 hP i (by rw [z_W_get hi, hc]) hcl j hj (z_w hE hlink) (fun _ h9 => by rw [← href]; exact h9) hv hdg (kk H locs ls hP hS hl)

theorem x_getN (C : z_C dA ad k cc own d n) {i ci j index N : Nat} {fs : List Value} {Cn ref : String} {T : u_T} {v : Value} {host : String} (hi : i < z_N) (hc : z_c dA ad i (M i) = .inr (ci, fs)) (hcl : z_cl[ci]? = some (Cn, T, N)) (hlay : ∀ w ∈ u_ws Cn T N, w ∈ z_T) (hj : j < N) (href : (T j).1 = ref) (hlink : Cond.fieldLinkNest own index ref (T j).2.1 (T j).2.2.1 host ∈ z_T) (hv : fs[j]? = some v) (hdg : decode cc pc = .ok (.getfield index, 3)) (kk : z_X dA ad k (pc + 3) lv (v :: st) M) : z_X dA ad k pc lv (.ref (ad i) :: st) M := by
  obtain ⟨p, l, e, R, s, m, args, below, meth, c, D, base, nL, cells, slots, Q⟩ := k
  obtain ⟨hx, hb, ⟨hml, rfl⟩, hown, hlk, hrm, hE⟩ := C
  intro H locs ls hP hS hl
  exact va_getN (D := D) (cl := z_cl) (tys := z_tys dA) (ws := z_W dA ad M) (Ts := z_T) hx hb (fun w hw => z_w hE hw) hlay hown hE.1 hP i (by rw [z_W_get hi, hc]) hcl j hj (z_w hE hlink) (fun _ h9 => by rw [← href]; exact h9) hv hdg (kk H locs ls hP hS hl)

theorem x_put (C : z_C dA ad k cc own d n) {i ci j index N : Nat} {fs : List Value} {Cn ref : String} {T : u_T} {x : Int32} {v : Value} (hi : i < z_N) (hc : z_c dA ad i (M i) = .inr (ci, fs)) (hcl : z_cl[ci]? = some (Cn, T, N)) (hlay : ∀ w ∈ u_ws Cn T N, w ∈ z_T) (hj : j < N) (href : (T j).1 = ref) (ty0 : Nat → FieldType) (hty : ∀ q, q < N → parseFieldDescriptor (T q).2.2.1 = some (ty0 q)) (hnm : ∀ a, a < N → ∀ b, b < N → a ≠ b → (T a).2.1 ≠ (T b).2.1) (hfin : (T j).2.2.2 = false) (hn : narrow (ty0 j) v = v) (hfit : fits (ty0 j) v = true) (hln : j < fs.length) (hset : z_c dA ad i (upd (M i) j x) = .inr (ci, fs.set j v)) (hlink : Cond.fieldLink own index ref (T j).2.1 (T j).2.2.1 ∈ z_T) (hdg : decode cc pc = .ok (.putfield index, 3)) (kk : z_X dA ad k (pc + 3) lv (st) (z_sv M i j x)) : z_X dA ad k pc lv (v :: .ref (ad i) :: st) M := by
  obtain ⟨p, l, e, R, s, m, args, below, meth, c, D, base, nL, cells, slots, Q⟩ := k
  obtain ⟨hx, hb, ⟨hml, rfl⟩, hown, hlk, hrm, hE⟩ := C
  intro H locs ls hP hS hl
  refine va_put (D := D) (cl := z_cl) (tys := z_tys dA) (ws := z_W dA ad M) (Ts := z_T) (A := z_A base) hx hb (fun w hw => z_w hE hw) hlay ty0 hty hnm hown hE.1 hP (z_W_D hE.2.1) hS i (by rw [z_W_get hi, hc]) hcl j hj (z_w hE hlink) (fun _ h9 => by rw [← href]; exact h9) hfin (hty j hj) hn hfit hln hdg (fun H1 locs1 hP1 hD1 hS1 => ?_)
  rw [z_W_set (M1 := z_sv M i j x) (by rw [← hset]; simp [z_sv, va_up]) (fun a ha => z_sv_row M j x ha)] at hP1
  exact kk H1 locs1 ls hP1 hS1 hl

theorem x_putN (C : z_C dA ad k cc own d n) {i ci j index N : Nat} {fs : List Value} {Cn ref : String} {T : u_T} {x : Int32} {v : Value} {host : String} (hi : i < z_N) (hc : z_c dA ad i (M i) = .inr (ci, fs)) (hcl : z_cl[ci]? = some (Cn, T, N)) (hlay : ∀ w ∈ u_ws Cn T N, w ∈ z_T) (hj : j < N) (href : (T j).1 = ref) (ty0 : Nat → FieldType) (hty : ∀ q, q < N → parseFieldDescriptor (T q).2.2.1 = some (ty0 q)) (hnm : ∀ a, a < N → ∀ b, b < N → a ≠ b → (T a).2.1 ≠ (T b).2.1) (hfin : (T j).2.2.2 = false) (hn : narrow (ty0 j) v = v) (hfit : fits (ty0 j) v = true) (hln : j < fs.length) (hset : z_c dA ad i (upd (M i) j x) = .inr (ci, fs.set j v)) (hlink : Cond.fieldLinkNest own index ref (T j).2.1 (T j).2.2.1 host ∈ z_T) (hdg : decode cc pc = .ok (.putfield index, 3)) (kk : z_X dA ad k (pc + 3) lv (st) (z_sv M i j x)) : z_X dA ad k pc lv (v :: .ref (ad i) :: st) M := by
  obtain ⟨p, l, e, R, s, m, args, below, meth, c, D, base, nL, cells, slots, Q⟩ := k
  obtain ⟨hx, hb, ⟨hml, rfl⟩, hown, hlk, hrm, hE⟩ := C
  intro H locs ls hP hS hl
  refine va_putN (D := D) (cl := z_cl) (tys := z_tys dA) (ws := z_W dA ad M) (Ts := z_T) (A := z_A base) hx hb (fun w hw => z_w hE hw) hlay ty0 hty hnm hown hE.1 hP (z_W_D hE.2.1) hS i (by rw [z_W_get hi, hc]) hcl j hj (z_w hE hlink) (fun _ h9 => by rw [← href]; exact h9) hfin (hty j hj) hn hfit hln hdg (fun H1 locs1 hP1 hD1 hS1 => ?_)
  rw [z_W_set (M1 := z_sv M i j x) (by rw [← hset]; simp [z_sv, va_up]) (fun a ha => z_sv_row M j x ha)] at hP1
  exact kk H1 locs1 ls hP1 hS1 hl

theorem x_iald (C : z_C dA ad k cc own d n) {q t0 nn : Nat} {cA : ClassId} {i : Int32} (hq : q < z_N) (hc : z_c dA ad q (M q) = .inl (cA, nn, .inl (M q))) (ht : (z_tys dA)[t0]? = some (cA, .int)) (hin : vp_in i nn) (hdg : decode cc pc = .ok (.iaload, 1)) (kk : z_X dA ad k (pc + 1) lv (.int (M q i.toNatClampNeg) :: st) M) : z_X dA ad k pc lv (.int i :: .ref (ad q) :: st) M := by
  obtain ⟨p, l, e, R, s, m, args, below, meth, c, D, base, nL, cells, slots, Q⟩ := k
  obtain ⟨hx, hb, ⟨hml, rfl⟩, hown, hlk, hrm, hE⟩ := C
  intro H locs ls hP hS hl
  exact va_iald hx hb hE.1 hP q t0 (by rw [z_W_get hq, hc]) ht hin hdg (kk H locs ls hP hS hl)

theorem x_iast (C : z_C dA ad k cc own d n) {q t0 nn : Nat} {cA : ClassId} {i x : Int32} (hq : q < z_N) (hc : ∀ f : Nat → Int32, z_c dA ad q f = .inl (cA, nn, .inl f)) (ht : (z_tys dA)[t0]? = some (cA, .int)) (hin : vp_in i nn) (hdg : decode cc pc = .ok (.iastore, 1)) (kk : z_X dA ad k (pc + 1) lv (st) (z_sv M q i.toNatClampNeg x)) : z_X dA ad k pc lv (.int x :: .int i :: .ref (ad q) :: st) M := by
  obtain ⟨p, l, e, R, s, m, args, below, meth, c, D, base, nL, cells, slots, Q⟩ := k
  obtain ⟨hx, hb, ⟨hml, rfl⟩, hown, hlk, hrm, hE⟩ := C
  intro H locs ls hP hS hl
  refine va_iast hx hb hE.1 hP (z_W_D (base := base) hE.2.1) hS q t0 (by rw [z_W_get hq, hc]) ht hin hdg (fun H1 locs1 hP1 hD1 hS1 => ?_)
  rw [z_W_set (M1 := z_sv M q i.toNatClampNeg x) (by rw [hc]; simp [z_sv, va_up]) (fun a ha => z_sv_row M _ x ha)] at hP1
  exact kk H1 locs1 ls hP1 hS1 hl

theorem x_zald (C : z_C dA ad k cc own d n) {q t0 nn : Nat} {cA : ClassId} {i : Int32} (hq : q < z_N) (hc : z_c dA ad q (M q) = .inl (cA, nn, .inl (M q))) (ht : (z_tys dA)[t0]? = some (cA, .boolean)) (hin : vp_in i nn) (hdg : decode cc pc = .ok (.baload, 1)) (kk : z_X dA ad k (pc + 1) lv (.int (M q i.toNatClampNeg) :: st) M) : z_X dA ad k pc lv (.int i :: .ref (ad q) :: st) M := by
  obtain ⟨p, l, e, R, s, m, args, below, meth, c, D, base, nL, cells, slots, Q⟩ := k
  obtain ⟨hx, hb, ⟨hml, rfl⟩, hown, hlk, hrm, hE⟩ := C
  intro H locs ls hP hS hl
  exact va_zald hx hb hE.1 hP q t0 (by rw [z_W_get hq, hc]) ht hin hdg (kk H locs ls hP hS hl)

theorem x_zast (C : z_C dA ad k cc own d n) {q t0 nn : Nat} {cA : ClassId} {i x : Int32} (hq : q < z_N) (hc : ∀ f : Nat → Int32, z_c dA ad q f = .inl (cA, nn, .inl f)) (ht : (z_tys dA)[t0]? = some (cA, .boolean)) (hin : vp_in i nn) (hnr : vp_nar .boolean x = x) (hdg : decode cc pc = .ok (.bastore, 1)) (kk : z_X dA ad k (pc + 1) lv (st) (z_sv M q i.toNatClampNeg x)) : z_X dA ad k pc lv (.int x :: .int i :: .ref (ad q) :: st) M := by
  obtain ⟨p, l, e, R, s, m, args, below, meth, c, D, base, nL, cells, slots, Q⟩ := k
  obtain ⟨hx, hb, ⟨hml, rfl⟩, hown, hlk, hrm, hE⟩ := C
  intro H locs ls hP hS hl
  refine va_zast hx hb hE.1 hP (z_W_D (base := base) hE.2.1) hS q t0 (by rw [z_W_get hq, hc]) ht hin hdg (fun H1 locs1 hP1 hD1 hS1 => ?_)
  rw [hnr] at hP1
  rw [z_W_set (M1 := z_sv M q i.toNatClampNeg x) (by rw [hc]; simp [z_sv, va_up]) (fun a ha => z_sv_row M _ x ha)] at hP1
  exact kk H1 locs1 ls hP1 hS1 hl

theorem x_alen (C : z_C dA ad k cc own d n) {q t0 : Nat} {cA : ClassId} {ar : vp_A} {ty : FieldType} (v : Int32) (hq : q < z_N) (hc : z_c dA ad q (M q) = .inl (cA, ar)) (ht : (z_tys dA)[t0]? = some (cA, ty)) (hv : Int32.ofNat ar.1 = v) (hdg : decode cc pc = .ok (.arraylength, 1)) (kk : z_X dA ad k (pc + 1) lv (.int v :: st) M) : z_X dA ad k pc lv (.ref (ad q) :: st) M := by
  obtain ⟨p, l, e, R, s, m, args, below, meth, c, D, base, nL, cells, slots, Q⟩ := k
  obtain ⟨hx, hb, ⟨hml, rfl⟩, hown, hlk, hrm, hE⟩ := C
  intro H locs ls hP hS hl
  exact va_alen hx hb hE.1 hP q t0 (by rw [z_W_get hq, hc]) ht hv hdg (kk H locs ls hP hS hl)

theorem x_aald (C : z_C dA ad k cc own d n) {q t0 nn : Nat} {cA : ClassId} {Cx : String} {g : Nat → Nat} {i : Int32} (hq : q < z_N) (hc : z_c dA ad q (M q) = .inl (cA, nn, .inr (.inr (.inr (.inr (fun j => some (ad (g j)))))))) (ht : (z_tys dA)[t0]? = some (cA, .object Cx)) (hin : vp_in i nn) (hdg : decode cc pc = .ok (.aaload, 1)) (kk : z_X dA ad k (pc + 1) lv (.ref (ad (g i.toNatClampNeg)) :: st) M) : z_X dA ad k pc lv (.int i :: .ref (ad q) :: st) M := by
  obtain ⟨p, l, e, R, s, m, args, below, meth, c, D, base, nL, cells, slots, Q⟩ := k
  obtain ⟨hx, hb, ⟨hml, rfl⟩, hown, hlk, hrm, hE⟩ := C
  intro H locs ls hP hS hl
  exact va_aldq (f := fun j => some (ad (g j))) hx hb hE.1 hP q t0 (by rw [z_W_get hq, hc]) ht hin hdg (kk H locs ls hP hS hl)

theorem x_aaldA (C : z_C dA ad k cc own d n) {q t0 nn : Nat} {cA : ClassId} {tx : FieldType} {g : Nat → Nat} {i : Int32} (hq : q < z_N) (hc : z_c dA ad q (M q) = .inl (cA, nn, .inr (.inr (.inr (.inr (fun j => some (ad (g j)))))))) (ht : (z_tys dA)[t0]? = some (cA, .array tx)) (hin : vp_in i nn) (hdg : decode cc pc = .ok (.aaload, 1)) (kk : z_X dA ad k (pc + 1) lv (.ref (ad (g i.toNatClampNeg)) :: st) M) : z_X dA ad k pc lv (.int i :: .ref (ad q) :: st) M := by
  obtain ⟨p, l, e, R, s, m, args, below, meth, c, D, base, nL, cells, slots, Q⟩ := k
  obtain ⟨hx, hb, ⟨hml, rfl⟩, hown, hlk, hrm, hE⟩ := C
  intro H locs ls hP hS hl
  exact z_aldqA (f := fun j => some (ad (g j))) hx hb hE.1 hP q t0 (by rw [z_W_get hq, hc]) ht hin hdg (kk H locs ls hP hS hl)

theorem x_copy (C : z_C dA ad k cc own d n) {q0 q1 t0 nn0 nn1 index : Nat} {c0 : ClassId} {sp dp nc : Int32} (hq0 : q0 < z_N) (hq1 : q1 < z_N) (hc0 : ∀ f : Nat → Int32, z_c dA ad q0 f = .inl (c0, nn0, .inl f)) (hc1 : ∀ f : Nat → Int32, z_c dA ad q1 f = .inl (c0, nn1, .inl f)) (ht : (z_tys dA)[t0]? = some (c0, .int)) (h1 : ¬ sp < 0) (h2 : ¬ dp < 0) (h3 : ¬ nc < 0) (h4 : sp.toNatClampNeg + nc.toNatClampNeg ≤ nn0) (h5 : dp.toNatClampNeg + nc.toNatClampNeg ≤ nn1) (hd : 1 ≤ d) (hlo : (st.map fun v => v.category).sum + (nativeFrameWords "java/lang/System" "arraycopy" 5 + 11) ≤ 40) (hl1 : Cond.methodLink own index arraycopyName ∈ z_T) (hl2 : Cond.native arraycopyName ∈ z_T) (hl3 : Cond.static arraycopyName ∈ z_T) (hl4 : Cond.initialized "java/lang/System" ∈ z_T) (hdg : decode cc pc = .ok (.invokestatic index, 3)) (kk : z_X dA ad k (pc + 3) lv (st) (va_up M q1 (va_cpy (M q0) (M q1) sp.toNatClampNeg dp.toNatClampNeg nc.toNatClampNeg))) : z_X dA ad k pc lv (.int nc :: .int dp :: .ref (ad q1) :: .int sp :: .ref (ad q0) :: st) M := by
  obtain ⟨p, l, e, R, s, m, args, below, meth, c, D, base, nL, cells, slots, Q⟩ := k
  obtain ⟨hx, hb, ⟨hml, rfl⟩, hown, hlk, hrm, hE⟩ := C
  intro H locs ls hP hS hl
  refine va_copyi hx hb (hml.trans hl.1.symm) hown (z_w hE hl1) (z_w hE hl2) (z_w hE hl3) (z_w hE hl4) hE.1 hP (z_W_D (base := base) hE.2.1) hS q0 q1 t0 t0 (by rw [z_W_get hq0, hc0]) (by rw [z_W_get hq1, hc1]) ht ht rfl h1 h2 h3 h4 h5 (fun _ _ => rfl) (by have := hrm.1; omega) (by have := hrm.2.1; omega) hdg (fun H1 locs1 hP1 hD1 hS1 => ?_)
  rw [z_W_set (M1 := va_up M q1 (va_cpy (M q0) (M q1) sp.toNatClampNeg dp.toNatClampNeg nc.toNatClampNeg)) (by rw [hc1]; simp [va_up]) (fun a ha => by simp [va_up, ha])] at hP1
  exact kk H1 locs1 ls hP1 hS1 hl

/-- what a method must end with: an int r0 (of the type rt) and the memory M1 -/
def z_RI (dA : Nat → ClassId) (ad : Nat → Nat) (k : z_K) (rt : FieldType) (r0 : Int32) (M1 : z_M) : Prop := match k with
  | (_, _, _, _, s, _, args, below, meth, _, D, base, _, cells, slots, Q) => meth.sig.returnType = some rt ∧ cells = 0 ∧ slots = 0 ∧ Q = MQ below (va_Qi (fun (r : Int32) (M2 : z_M) => r = r0 ∧ M2 = M1) (fun M2 t => va_P D z_cl (z_W dA ad M2) t.heap) (z_A base)) args s 0 0 (z_A base)
def z_RV (dA : Nat → ClassId) (ad : Nat → Nat) (k : z_K) (M1 : z_M) : Prop := match k with
  | (_, _, _, _, s, _, args, below, meth, _, D, base, _, cells, slots, Q) => meth.sig.returnType = none ∧ cells = 0 ∧ slots = 0 ∧ Q = MQ below (va_Qv (fun (M2 : z_M) => M2 = M1) (fun M2 t => va_P D z_cl (z_W dA ad M2) t.heap) (z_A base)) args s 0 0 (z_A base)

/-- the contract of a method that answers an int: it answers r0 and leaves the memory M1 -/
def z_CI (y : MethodName) (bytes : ByteArray) (mx : Nat) (rt : FieldType) (d : Nat) (dA : Nat → ClassId) (ad : Nat → Nat) (av : List Value) (M : z_M) (r0 : Int32) (M1 : z_M) : Prop :=
  ∀ (l : Launch) (D : va_G) (base : Nat), Met l y [Cond.code y bytes mx (some rt)] { frames := d, cells := 0, slots := 0, locals := 40 * d } (va_Pc av (fun U => va_P D z_cl (z_W dA ad M) U.heap ∧ z_E dA ad D base U)) (va_Qi (fun (r : Int32) (M2 : z_M) => r = r0 ∧ M2 = M1) (fun M2 t => va_P D z_cl (z_W dA ad M2) t.heap) (z_A base)) 0 0 (z_A base)
def z_CV (y : MethodName) (bytes : ByteArray) (mx : Nat) (d : Nat) (dA : Nat → ClassId) (ad : Nat → Nat) (av : List Value) (M M1 : z_M) : Prop :=
  ∀ (l : Launch) (D : va_G) (base : Nat), Met l y [Cond.code y bytes mx none] { frames := d, cells := 0, slots := 0, locals := 40 * d } (va_Pc av (fun U => va_P D z_cl (z_W dA ad M) U.heap ∧ z_E dA ad D base U)) (va_Qv (fun (M2 : z_M) => M2 = M1) (fun M2 t => va_P D z_cl (z_W dA ad M2) t.heap) (z_A base)) 0 0 (z_A base)
theorem z_blind {av : List Value} {D : va_G} {base : Nat} : FrameBlind (va_Pc av (fun U => va_P D z_cl (z_W dA ad M) U.heap ∧ z_E dA ad D base U)) := by
  intro a U g mk q
  obtain ⟨q0, q1, q2⟩ := q
  exact ⟨q0, q1, z_E_same (U := U) rfl rfl q2⟩
/-- what the tables say of a method: static; of an instance -/
def z_ms (y : MethodName) (bytes : ByteArray) (mx : Nat) (rt : Option FieldType) (na : Nat) : Prop := Cond.static y ∈ z_T ∧ Cond.initialized y.cls ∈ z_T ∧ Cond.code y bytes mx rt ∈ z_T ∧ (y.cls ≠ "java/lang/invoke/MethodHandle" ∧ y.cls ≠ "java/lang/invoke/VarHandle") ∧ (parseMethodDescriptor y.desc).map (fun q => q.parameters.length) = some na ∧ mx ≤ 21
def z_mv (y : MethodName) (bytes : ByteArray) (mx : Nat) (rt : Option FieldType) (na : Nat) : Prop := (Cond.instanceMethod y ∈ z_T ∧ Cond.selects y.cls y y ∈ z_T) ∧ Cond.initialized y.cls ∈ z_T ∧ Cond.code y bytes mx rt ∈ z_T ∧ (y.cls ≠ "java/lang/invoke/MethodHandle" ∧ y.cls ≠ "java/lang/invoke/VarHandle") ∧ (parseMethodDescriptor y.desc).map (fun q => q.parameters.length) = some na ∧ mx ≤ 21
theorem z_na {y : MethodName} {na : Nat} (h : (parseMethodDescriptor y.desc).map (fun q => q.parameters.length) = some na) : ∀ sig, parseMethodDescriptor y.desc = some sig → na = sig.parameters.length := by
  intro sig h2
  rw [h2] at h
  exact (Option.some.inj h).symm
/-- entry: a method's contract by its walk -/
theorem z_ofI {y : MethodName} {bytes : ByteArray} {mx : Nat} {rt : FieldType} {av : List Value} {r0 : Int32} {M1 : z_M} (lv0 : List (Option Value)) (hy : plainName y.cls = true) (hlen : (lg_sl av).length ≤ mx) (hlv : lv_args 0 av = z_l lv0)
    (body : ∀ k : z_K, z_C dA ad k bytes y.cls d mx → z_RI dA ad k rt r0 M1 → z_X dA ad k 0 lv0 [] M) : z_CI y bytes mx rt d dA ad av M r0 M1 := by
  intro l D base
  refine Met.ofW (cc := bytes) (maxL := mx) (ret := some rt) hy rfl ?_
  intro p e s m args below meth c s₁ B hml hv
  obtain ⟨rfl, hP, hE⟩ := hv
  have hl := lv_entry av (n := mx) hlen
  rw [lg_entry_eq]
  rw [hlv] at hl
  refine body (p, l, e, _, s, m, _, below, meth, c, D, base, mx, 0, 0, _) ⟨B.exec, B.bytes, ⟨hml, rfl⟩, findClass_of_methodNamed B.named, B.notSynchronized, ⟨Nat.le_refl _, Nat.le_refl _, Nat.zero_le _, Nat.zero_le _⟩, hE⟩ ⟨B.returns, rfl, rfl, rfl⟩ s.heap [] _ hP va_S.rf hl
theorem z_ofV {y : MethodName} {bytes : ByteArray} {mx : Nat} {av : List Value} {M1 : z_M} (lv0 : List (Option Value)) (hy : plainName y.cls = true) (hlen : (lg_sl av).length ≤ mx) (hlv : lv_args 0 av = z_l lv0)
    (body : ∀ k : z_K, z_C dA ad k bytes y.cls d mx → z_RV dA ad k M1 → z_X dA ad k 0 lv0 [] M) : z_CV y bytes mx d dA ad av M M1 := by
  intro l D base
  refine Met.ofW (cc := bytes) (maxL := mx) (ret := none) hy rfl ?_
  intro p e s m args below meth c s₁ B hml hv
  obtain ⟨rfl, hP, hE⟩ := hv
  have hl := lv_entry av (n := mx) hlen
  rw [lg_entry_eq]
  rw [hlv] at hl
  refine body (p, l, e, _, s, m, _, below, meth, c, D, base, mx, 0, 0, _) ⟨B.exec, B.bytes, ⟨hml, rfl⟩, findClass_of_methodNamed B.named, B.notSynchronized, ⟨Nat.le_refl _, Nat.le_refl _, Nat.zero_le _, Nat.zero_le _⟩, hE⟩ ⟨B.returns, rfl, rfl, rfl⟩ s.heap [] _ hP va_S.rf hl

theorem x_iret (C : z_C dA ad k cc own d n) {r r0 : Int32} {M1 : z_M} (E : z_RI dA ad k .int r0 M1) (hr0 : r = r0) (hM : M = M1) (hdg : decode cc pc = .ok (.ireturn, 1))  : z_X dA ad k pc lv [.int r] M := by
  obtain ⟨p, l, e, R, s, m, args, below, meth, c, D, base, nL, cells, slots, Q⟩ := k
  obtain ⟨hx, hb, ⟨hml, rfl⟩, hown, hlk, hrm, hE⟩ := C
  intro H locs ls hP hS hl
  obtain ⟨hr, rfl, rfl, rfl⟩ := E
  exact W.iret hx hb hr (fun t ht hW => ⟨⟨r, M, rfl, ⟨hr0, hM⟩, by show va_P D z_cl (z_W dA ad M) t.heap; rw [ht]; exact hP⟩, hS.F ht⟩) hS.2.2 hdg hlk

theorem x_zret (C : z_C dA ad k cc own d n) {r r0 : Int32} {M1 : z_M} (E : z_RI dA ad k .boolean r0 M1) (hr0 : r = r0) (hM : M = M1) (hnr : narrow .boolean (.int r) = .int r) (hdg : decode cc pc = .ok (.ireturn, 1))  : z_X dA ad k pc lv [.int r] M := by
  obtain ⟨p, l, e, R, s, m, args, below, meth, c, D, base, nL, cells, slots, Q⟩ := k
  obtain ⟨hx, hb, ⟨hml, rfl⟩, hown, hlk, hrm, hE⟩ := C
  intro H locs ls hP hS hl
  obtain ⟨hr, rfl, rfl, rfl⟩ := E
  exact W.zret hx hb hr hnr (fun t ht hW => ⟨⟨r, M, rfl, ⟨hr0, hM⟩, by show va_P D z_cl (z_W dA ad M) t.heap; rw [ht]; exact hP⟩, hS.F ht⟩) hS.2.2 hdg hlk

theorem x_vret (C : z_C dA ad k cc own d n) {M1 : z_M} (E : z_RV dA ad k M1) (hM : M = M1) (hdg : decode cc pc = .ok (.return_, 1))  : z_X dA ad k pc lv [] M := by
  obtain ⟨p, l, e, R, s, m, args, below, meth, c, D, base, nL, cells, slots, Q⟩ := k
  obtain ⟨hx, hb, ⟨hml, rfl⟩, hown, hlk, hrm, hE⟩ := C
  intro H locs ls hP hS hl
  obtain ⟨hr, rfl, rfl, rfl⟩ := E
  exact W.vret hx hb hr (fun t ht hW => ⟨⟨M, rfl, hM, by show va_P D z_cl (z_W dA ad M) t.heap; rw [ht]; exact hP⟩, hS.F ht⟩) hS.2.2 hdg hlk

theorem x_callSi (C : z_C dA ad k cc own d n) {y : MethodName} {bytes : ByteArray} {mx d2 na index : Nat} {av st0 : List Value} {M1 : z_M} {rt : FieldType} {r0 : Int32} (hM : z_CI y bytes mx rt d2 dA ad av M r0 M1) (hm : z_ms y bytes mx (some rt) na) (hna : av.length = na) (hst : st0 = av.reverse ++ st) (hcat : (st.map fun v => v.category).sum ≤ 8) (hd : d2 + 1 ≤ d) (hlink : Cond.methodLink own index y ∈ z_T) (hdg : decode cc pc = .ok (.invokestatic index, 3)) (kk : z_X dA ad k (pc + 3) lv (.int r0 :: st) M1) : z_X dA ad k pc lv (st0) M := by
  obtain ⟨p, l, e, R, s, m, args, below, meth, c, D, base, nL, cells, slots, Q⟩ := k
  obtain ⟨hx, hb, ⟨hml, rfl⟩, hown, hlk, hrm, hE⟩ := C
  intro H locs ls hP hS hl
  obtain ⟨hstt, hini, hcd, hcn, hpa, hmx⟩ := hm
  refine va_calli (va_runS (Ts := []) (As := av) (rest := st) (n := na) ⟨hx, hb, hml, hown, fun w hw => by cases hw⟩ (hM l D base) ⟨⟨rfl, rfl, by have := hrm.1; show d2 + 1 ≤ R.frames; omega, by have := hrm.2.1; have := hmx; show 8 + (mx + 11) + 40 * d2 ≤ R.locals; omega, fun w hw a2 U hW => by rw [List.mem_singleton.mp hw]; exact word_at hW (Or.inl rfl) (z_w (args := #[]) hE hcd), List.mem_singleton.mpr rfl, z_w hE hcd, z_w hE hini, hcn, z_na hpa, z_w hE hlink⟩, z_w hE hstt⟩ ⟨z_blind, fun U hU hW => ⟨rfl, by rw [hU]; exact hP, z_E_warm hE hU hS hW⟩⟩ rfl hna hl.1 hst (lv_room hcat) hdg ⟨hrm.2.2.1, hrm.2.2.2⟩) hS (fun q _ h => h) (fun q h => h) (fun r u t H1 locs1 ht hvm hw hB hz1 hk1 hS1 => ?_)
  obtain ⟨rfl, rfl⟩ := hw
  have hB : va_P D z_cl (z_W dA ad _) t.heap := hB
  rw [ht] at hB
  exact kk H1 locs1 ls hB hS1 hl

theorem x_callSv (C : z_C dA ad k cc own d n) {y : MethodName} {bytes : ByteArray} {mx d2 na index : Nat} {av st0 : List Value} {M1 : z_M}  (hM : z_CV y bytes mx d2 dA ad av M M1) (hm : z_ms y bytes mx none na) (hna : av.length = na) (hst : st0 = av.reverse ++ st) (hcat : (st.map fun v => v.category).sum ≤ 8) (hd : d2 + 1 ≤ d) (hlink : Cond.methodLink own index y ∈ z_T) (hdg : decode cc pc = .ok (.invokestatic index, 3)) (kk : z_X dA ad k (pc + 3) lv (st) M1) : z_X dA ad k pc lv (st0) M := by
  obtain ⟨p, l, e, R, s, m, args, below, meth, c, D, base, nL, cells, slots, Q⟩ := k
  obtain ⟨hx, hb, ⟨hml, rfl⟩, hown, hlk, hrm, hE⟩ := C
  intro H locs ls hP hS hl
  obtain ⟨hstt, hini, hcd, hcn, hpa, hmx⟩ := hm
  refine va_callv (va_runS (Ts := []) (As := av) (rest := st) (n := na) ⟨hx, hb, hml, hown, fun w hw => by cases hw⟩ (hM l D base) ⟨⟨rfl, rfl, by have := hrm.1; show d2 + 1 ≤ R.frames; omega, by have := hrm.2.1; have := hmx; show 8 + (mx + 11) + 40 * d2 ≤ R.locals; omega, fun w hw a2 U hW => by rw [List.mem_singleton.mp hw]; exact word_at hW (Or.inl rfl) (z_w (args := #[]) hE hcd), List.mem_singleton.mpr rfl, z_w hE hcd, z_w hE hini, hcn, z_na hpa, z_w hE hlink⟩, z_w hE hstt⟩ ⟨z_blind, fun U hU hW => ⟨rfl, by rw [hU]; exact hP, z_E_warm hE hU hS hW⟩⟩ rfl hna hl.1 hst (lv_room hcat) hdg ⟨hrm.2.2.1, hrm.2.2.2⟩) hS (fun q _ h => h) (fun q h => h) (fun u t H1 locs1 ht hvm hw hB hz1 hk1 hS1 => ?_)
  subst hw
  have hB : va_P D z_cl (z_W dA ad _) t.heap := hB
  rw [ht] at hB
  exact kk H1 locs1 ls hB hS1 hl

theorem x_callSNi (C : z_C dA ad k cc own d n) {y : MethodName} {bytes : ByteArray} {mx d2 na index : Nat} {av st0 : List Value} {M1 : z_M} {rt : FieldType} {r0 : Int32} {host : String} (hM : z_CI y bytes mx rt d2 dA ad av M r0 M1) (hm : z_ms y bytes mx (some rt) na) (hna : av.length = na) (hst : st0 = av.reverse ++ st) (hcat : (st.map fun v => v.category).sum ≤ 8) (hd : d2 + 1 ≤ d) (hlink : Cond.methodLinkNest own index y host ∈ z_T) (hdg : decode cc pc = .ok (.invokestatic index, 3)) (kk : z_X dA ad k (pc + 3) lv (.int r0 :: st) M1) : z_X dA ad k pc lv (st0) M := by
  obtain ⟨p, l, e, R, s, m, args, below, meth, c, D, base, nL, cells, slots, Q⟩ := k
  obtain ⟨hx, hb, ⟨hml, rfl⟩, hown, hlk, hrm, hE⟩ := C
  intro H locs ls hP hS hl
  obtain ⟨hstt, hini, hcd, hcn, hpa, hmx⟩ := hm
  refine va_calli (va_runSN (Ts := []) (As := av) (rest := st) (n := na) ⟨hx, hb, hml, hown, fun w hw => by cases hw⟩ (hM l D base) ⟨⟨⟨rfl, rfl, by have := hrm.1; show d2 + 1 ≤ R.frames; omega, by have := hrm.2.1; have := hmx; show 8 + (mx + 11) + 40 * d2 ≤ R.locals; omega, fun w hw a2 U hW => by rw [List.mem_singleton.mp hw]; exact word_at hW (Or.inl rfl) (z_w (args := #[]) hE hcd), List.mem_singleton.mpr rfl⟩, z_w hE hcd, z_w hE hini, hcn, z_na hpa, z_w hE hlink⟩, z_w hE hstt, trivial⟩ ⟨z_blind, fun U hU hW => ⟨rfl, by rw [hU]; exact hP, z_E_warm hE hU hS hW⟩⟩ rfl hna hl.1 hst (lv_room hcat) hdg ⟨hrm.2.2.1, hrm.2.2.2⟩) hS (fun q _ h => h) (fun q h => h) (fun r u t H1 locs1 ht hvm hw hB hz1 hk1 hS1 => ?_)
  obtain ⟨rfl, rfl⟩ := hw
  have hB : va_P D z_cl (z_W dA ad _) t.heap := hB
  rw [ht] at hB
  exact kk H1 locs1 ls hB hS1 hl

theorem x_callSNv (C : z_C dA ad k cc own d n) {y : MethodName} {bytes : ByteArray} {mx d2 na index : Nat} {av st0 : List Value} {M1 : z_M}  {host : String} (hM : z_CV y bytes mx d2 dA ad av M M1) (hm : z_ms y bytes mx none na) (hna : av.length = na) (hst : st0 = av.reverse ++ st) (hcat : (st.map fun v => v.category).sum ≤ 8) (hd : d2 + 1 ≤ d) (hlink : Cond.methodLinkNest own index y host ∈ z_T) (hdg : decode cc pc = .ok (.invokestatic index, 3)) (kk : z_X dA ad k (pc + 3) lv (st) M1) : z_X dA ad k pc lv (st0) M := by
  obtain ⟨p, l, e, R, s, m, args, below, meth, c, D, base, nL, cells, slots, Q⟩ := k
  obtain ⟨hx, hb, ⟨hml, rfl⟩, hown, hlk, hrm, hE⟩ := C
  intro H locs ls hP hS hl
  obtain ⟨hstt, hini, hcd, hcn, hpa, hmx⟩ := hm
  refine va_callv (va_runSN (Ts := []) (As := av) (rest := st) (n := na) ⟨hx, hb, hml, hown, fun w hw => by cases hw⟩ (hM l D base) ⟨⟨⟨rfl, rfl, by have := hrm.1; show d2 + 1 ≤ R.frames; omega, by have := hrm.2.1; have := hmx; show 8 + (mx + 11) + 40 * d2 ≤ R.locals; omega, fun w hw a2 U hW => by rw [List.mem_singleton.mp hw]; exact word_at hW (Or.inl rfl) (z_w (args := #[]) hE hcd), List.mem_singleton.mpr rfl⟩, z_w hE hcd, z_w hE hini, hcn, z_na hpa, z_w hE hlink⟩, z_w hE hstt, trivial⟩ ⟨z_blind, fun U hU hW => ⟨rfl, by rw [hU]; exact hP, z_E_warm hE hU hS hW⟩⟩ rfl hna hl.1 hst (lv_room hcat) hdg ⟨hrm.2.2.1, hrm.2.2.2⟩) hS (fun q _ h => h) (fun q h => h) (fun u t H1 locs1 ht hvm hw hB hz1 hk1 hS1 => ?_)
  subst hw
  have hB : va_P D z_cl (z_W dA ad _) t.heap := hB
  rw [ht] at hB
  exact kk H1 locs1 ls hB hS1 hl

theorem x_callVi (C : z_C dA ad k cc own d n) {y : MethodName} {bytes : ByteArray} {mx d2 na index : Nat} {av st0 : List Value} {M1 : z_M} {rt : FieldType} {r0 : Int32} {i ci N : Nat} {fs : List Value} {T : u_T} (hM : z_CI y bytes mx rt d2 dA ad (.ref (ad i) :: av) M r0 M1) (hm : z_mv y bytes mx (some rt) na) (hi : i < z_N) (hc : z_c dA ad i (M i) = .inr (ci, fs)) (hcl : z_cl[ci]? = some (y.cls, T, N)) (hna : av.length = na) (hst : st0 = av.reverse ++ .ref (ad i) :: st) (hcat : (st.map fun v => v.category).sum ≤ 8) (hd : d2 + 1 ≤ d) (hlink : Cond.methodLink own index y ∈ z_T) (hdg : decode cc pc = .ok (.invokevirtual index, 3)) (kk : z_X dA ad k (pc + 3) lv (.int r0 :: st) M1) : z_X dA ad k pc lv (st0) M := by
  obtain ⟨p, l, e, R, s, m, args, below, meth, c, D, base, nL, cells, slots, Q⟩ := k
  obtain ⟨hx, hb, ⟨hml, rfl⟩, hown, hlk, hrm, hE⟩ := C
  intro H locs ls hP hS hl
  obtain ⟨⟨hins, hsel⟩, hini, hcd, hcn, hpa, hmx⟩ := hm
  refine va_calli (va_runV (Ts := []) (As := av) (rest := st) (n := na) (C := y.cls) ⟨hx, hb, hml, hown, fun w hw => by cases hw⟩ (hM l D base) ⟨⟨rfl, rfl, by have := hrm.1; show d2 + 1 ≤ R.frames; omega, by have := hrm.2.1; have := hmx; show 8 + (mx + 11) + 40 * d2 ≤ R.locals; omega, fun w hw a2 U hW => by rw [List.mem_singleton.mp hw]; exact word_at hW (Or.inl rfl) (z_w (args := #[]) hE hcd), List.mem_singleton.mpr rfl, z_w hE hcd, z_w hE hini, hcn, z_na hpa, z_w hE hlink⟩, z_w hE hins, z_w hE hsel⟩ ⟨z_blind, va_recv (q := (y.cls, T, N)) hE.1 hP hcl (by rw [z_W_get hi, hc]), fun U hU hW => ⟨rfl, by rw [hU]; exact hP, z_E_warm hE hU hS hW⟩⟩ rfl hna hl.1 hst (lv_room hcat) hdg ⟨hrm.2.2.1, hrm.2.2.2⟩) hS (fun q _ h => h) (fun q h => h) (fun r u t H1 locs1 ht hvm hw hB hz1 hk1 hS1 => ?_)
  obtain ⟨rfl, rfl⟩ := hw
  have hB : va_P D z_cl (z_W dA ad _) t.heap := hB
  rw [ht] at hB
  exact kk H1 locs1 ls hB hS1 hl

theorem x_callVv (C : z_C dA ad k cc own d n) {y : MethodName} {bytes : ByteArray} {mx d2 na index : Nat} {av st0 : List Value} {M1 : z_M}  {i ci N : Nat} {fs : List Value} {T : u_T} (hM : z_CV y bytes mx d2 dA ad (.ref (ad i) :: av) M M1) (hm : z_mv y bytes mx none na) (hi : i < z_N) (hc : z_c dA ad i (M i) = .inr (ci, fs)) (hcl : z_cl[ci]? = some (y.cls, T, N)) (hna : av.length = na) (hst : st0 = av.reverse ++ .ref (ad i) :: st) (hcat : (st.map fun v => v.category).sum ≤ 8) (hd : d2 + 1 ≤ d) (hlink : Cond.methodLink own index y ∈ z_T) (hdg : decode cc pc = .ok (.invokevirtual index, 3)) (kk : z_X dA ad k (pc + 3) lv (st) M1) : z_X dA ad k pc lv (st0) M := by
  obtain ⟨p, l, e, R, s, m, args, below, meth, c, D, base, nL, cells, slots, Q⟩ := k
  obtain ⟨hx, hb, ⟨hml, rfl⟩, hown, hlk, hrm, hE⟩ := C
  intro H locs ls hP hS hl
  obtain ⟨⟨hins, hsel⟩, hini, hcd, hcn, hpa, hmx⟩ := hm
  refine va_callv (va_runV (Ts := []) (As := av) (rest := st) (n := na) (C := y.cls) ⟨hx, hb, hml, hown, fun w hw => by cases hw⟩ (hM l D base) ⟨⟨rfl, rfl, by have := hrm.1; show d2 + 1 ≤ R.frames; omega, by have := hrm.2.1; have := hmx; show 8 + (mx + 11) + 40 * d2 ≤ R.locals; omega, fun w hw a2 U hW => by rw [List.mem_singleton.mp hw]; exact word_at hW (Or.inl rfl) (z_w (args := #[]) hE hcd), List.mem_singleton.mpr rfl, z_w hE hcd, z_w hE hini, hcn, z_na hpa, z_w hE hlink⟩, z_w hE hins, z_w hE hsel⟩ ⟨z_blind, va_recv (q := (y.cls, T, N)) hE.1 hP hcl (by rw [z_W_get hi, hc]), fun U hU hW => ⟨rfl, by rw [hU]; exact hP, z_E_warm hE hU hS hW⟩⟩ rfl hna hl.1 hst (lv_room hcat) hdg ⟨hrm.2.2.1, hrm.2.2.2⟩) hS (fun q _ h => h) (fun q h => h) (fun u t H1 locs1 ht hvm hw hB hz1 hk1 hS1 => ?_)
  subst hw
  have hB : va_P D z_cl (z_W dA ad _) t.heap := hB
  rw [ht] at hB
  exact kk H1 locs1 ls hB hS1 hl

theorem x_callVNi (C : z_C dA ad k cc own d n) {y : MethodName} {bytes : ByteArray} {mx d2 na index : Nat} {av st0 : List Value} {M1 : z_M} {rt : FieldType} {r0 : Int32} {i ci N : Nat} {fs : List Value} {T : u_T} {host : String} (hM : z_CI y bytes mx rt d2 dA ad (.ref (ad i) :: av) M r0 M1) (hm : z_mv y bytes mx (some rt) na) (hi : i < z_N) (hc : z_c dA ad i (M i) = .inr (ci, fs)) (hcl : z_cl[ci]? = some (y.cls, T, N)) (hna : av.length = na) (hst : st0 = av.reverse ++ .ref (ad i) :: st) (hcat : (st.map fun v => v.category).sum ≤ 8) (hd : d2 + 1 ≤ d) (hlink : Cond.methodLinkNest own index y host ∈ z_T) (hdg : decode cc pc = .ok (.invokevirtual index, 3)) (kk : z_X dA ad k (pc + 3) lv (.int r0 :: st) M1) : z_X dA ad k pc lv (st0) M := by
  obtain ⟨p, l, e, R, s, m, args, below, meth, c, D, base, nL, cells, slots, Q⟩ := k
  obtain ⟨hx, hb, ⟨hml, rfl⟩, hown, hlk, hrm, hE⟩ := C
  intro H locs ls hP hS hl
  obtain ⟨⟨hins, hsel⟩, hini, hcd, hcn, hpa, hmx⟩ := hm
  refine va_calli (va_runVN (Ts := []) (As := av) (rest := st) (n := na) (C := y.cls) ⟨hx, hb, hml, hown, fun w hw => by cases hw⟩ (hM l D base) ⟨⟨⟨rfl, rfl, by have := hrm.1; show d2 + 1 ≤ R.frames; omega, by have := hrm.2.1; have := hmx; show 8 + (mx + 11) + 40 * d2 ≤ R.locals; omega, fun w hw a2 U hW => by rw [List.mem_singleton.mp hw]; exact word_at hW (Or.inl rfl) (z_w (args := #[]) hE hcd), List.mem_singleton.mpr rfl⟩, z_w hE hcd, z_w hE hini, hcn, z_na hpa, z_w hE hlink⟩, z_w hE hins, z_w hE hsel⟩ ⟨z_blind, va_recv (q := (y.cls, T, N)) hE.1 hP hcl (by rw [z_W_get hi, hc]), fun U hU hW => ⟨rfl, by rw [hU]; exact hP, z_E_warm hE hU hS hW⟩⟩ rfl hna hl.1 hst (lv_room hcat) hdg ⟨hrm.2.2.1, hrm.2.2.2⟩) hS (fun q _ h => h) (fun q h => h) (fun r u t H1 locs1 ht hvm hw hB hz1 hk1 hS1 => ?_)
  obtain ⟨rfl, rfl⟩ := hw
  have hB : va_P D z_cl (z_W dA ad _) t.heap := hB
  rw [ht] at hB
  exact kk H1 locs1 ls hB hS1 hl

theorem x_callVNv (C : z_C dA ad k cc own d n) {y : MethodName} {bytes : ByteArray} {mx d2 na index : Nat} {av st0 : List Value} {M1 : z_M}  {i ci N : Nat} {fs : List Value} {T : u_T} {host : String} (hM : z_CV y bytes mx d2 dA ad (.ref (ad i) :: av) M M1) (hm : z_mv y bytes mx none na) (hi : i < z_N) (hc : z_c dA ad i (M i) = .inr (ci, fs)) (hcl : z_cl[ci]? = some (y.cls, T, N)) (hna : av.length = na) (hst : st0 = av.reverse ++ .ref (ad i) :: st) (hcat : (st.map fun v => v.category).sum ≤ 8) (hd : d2 + 1 ≤ d) (hlink : Cond.methodLinkNest own index y host ∈ z_T) (hdg : decode cc pc = .ok (.invokevirtual index, 3)) (kk : z_X dA ad k (pc + 3) lv (st) M1) : z_X dA ad k pc lv (st0) M := by
  obtain ⟨p, l, e, R, s, m, args, below, meth, c, D, base, nL, cells, slots, Q⟩ := k
  obtain ⟨hx, hb, ⟨hml, rfl⟩, hown, hlk, hrm, hE⟩ := C
  intro H locs ls hP hS hl
  obtain ⟨⟨hins, hsel⟩, hini, hcd, hcn, hpa, hmx⟩ := hm
  refine va_callv (va_runVN (Ts := []) (As := av) (rest := st) (n := na) (C := y.cls) ⟨hx, hb, hml, hown, fun w hw => by cases hw⟩ (hM l D base) ⟨⟨⟨rfl, rfl, by have := hrm.1; show d2 + 1 ≤ R.frames; omega, by have := hrm.2.1; have := hmx; show 8 + (mx + 11) + 40 * d2 ≤ R.locals; omega, fun w hw a2 U hW => by rw [List.mem_singleton.mp hw]; exact word_at hW (Or.inl rfl) (z_w (args := #[]) hE hcd), List.mem_singleton.mpr rfl⟩, z_w hE hcd, z_w hE hini, hcn, z_na hpa, z_w hE hlink⟩, z_w hE hins, z_w hE hsel⟩ ⟨z_blind, va_recv (q := (y.cls, T, N)) hE.1 hP hcl (by rw [z_W_get hi, hc]), fun U hU hW => ⟨rfl, by rw [hU]; exact hP, z_E_warm hE hU hS hW⟩⟩ rfl hna hl.1 hst (lv_room hcat) hdg ⟨hrm.2.2.1, hrm.2.2.2⟩) hS (fun q _ h => h) (fun q h => h) (fun u t H1 locs1 ht hvm hw hB hz1 hk1 hS1 => ?_)
  subst hw
  have hB : va_P D z_cl (z_W dA ad _) t.heap := hB
  rw [ht] at hB
  exact kk H1 locs1 ls hB hS1 hl

end ZL
end
section
theorem lk_Law_9 : (Cond.methodLink "CellTransportLaw" (9 : Nat) ({ cls := "CellTransport", name := "<init>", desc := "()V" } : MethodName)) ∈ z_T := z_T_mem (List.mem_append_right _ (List.mem_of_getElem? (i := 15) (by decide +kernel))) rfl
theorem lk_CellTransport_1 : (Cond.methodLink "CellTransport" (1 : Nat) ({ cls := "java/lang/Object", name := "<init>", desc := "()V" } : MethodName)) ∈ z_T := z_T_mem (List.mem_append_right _ (List.mem_of_getElem? (i := 18) (by decide +kernel))) rfl
theorem lk_CellTransport_9 : (Cond.methodLinkNest "CellTransport" (9 : Nat) ({ cls := "CellTransport$Geometry", name := "<init>", desc := "()V" } : MethodName) "CellTransport") ∈ z_T := z_T_mem (List.mem_append_right _ (List.mem_of_getElem? (i := 23) (by decide +kernel))) rfl
theorem lk_Geometry_3 : (Cond.methodLink "CellTransport$Geometry" (3 : Nat) ({ cls := "java/lang/Object", name := "<init>", desc := "()V" } : MethodName)) ∈ z_T := z_T_mem (List.mem_append_right _ (List.mem_of_getElem? (i := 26) (by decide +kernel))) rfl
theorem lk_Geometry_23 : (Cond.methodLinkNest "CellTransport$Geometry" (23 : Nat) ({ cls := "CellTransport$Surface", name := "<init>", desc := "()V" } : MethodName) "CellTransport") ∈ z_T := z_T_mem (List.mem_append_right _ (List.mem_of_getElem? (i := 32) (by decide +kernel))) rfl
theorem lk_Surface_3 : (Cond.methodLink "CellTransport$Surface" (3 : Nat) ({ cls := "java/lang/Object", name := "<init>", desc := "()V" } : MethodName)) ∈ z_T := z_T_mem (List.mem_append_right _ (List.mem_of_getElem? (i := 35) (by decide +kernel))) rfl
theorem lk_Geometry_24 : (Cond.methodLinkNest "CellTransport$Geometry" (24 : Nat) ({ cls := "CellTransport$Cell", name := "<init>", desc := "()V" } : MethodName) "CellTransport") ∈ z_T := z_T_mem (List.mem_append_right _ (List.mem_of_getElem? (i := 54) (by decide +kernel))) rfl
theorem lk_Cell_1 : (Cond.methodLink "CellTransport$Cell" (1 : Nat) ({ cls := "java/lang/Object", name := "<init>", desc := "()V" } : MethodName)) ∈ z_T := z_T_mem (List.mem_append_right _ (List.mem_of_getElem? (i := 57) (by decide +kernel))) rfl
theorem lk_Cell_9 : (Cond.methodLinkNest "CellTransport$Cell" (9 : Nat) ({ cls := "CellTransport$Region", name := "<init>", desc := "()V" } : MethodName) "CellTransport") ∈ z_T := z_T_mem (List.mem_append_right _ (List.mem_of_getElem? (i := 60) (by decide +kernel))) rfl
theorem lk_Region_3 : (Cond.methodLink "CellTransport$Region" (3 : Nat) ({ cls := "java/lang/Object", name := "<init>", desc := "()V" } : MethodName)) ∈ z_T := z_T_mem (List.mem_append_right _ (List.mem_of_getElem? (i := 63) (by decide +kernel))) rfl
theorem lk_CellTransport_18 : (Cond.methodLinkNest "CellTransport" (18 : Nat) ({ cls := "CellTransport$Region", name := "<init>", desc := "()V" } : MethodName) "CellTransport") ∈ z_T := z_T_mem (List.mem_append_right _ (List.mem_of_getElem? (i := 105) (by decide +kernel))) rfl
theorem lk_CellTransport_25 : (Cond.methodLinkNest "CellTransport" (25 : Nat) ({ cls := "CellTransport$Generator", name := "<init>", desc := "()V" } : MethodName) "CellTransport") ∈ z_T := z_T_mem (List.mem_append_right _ (List.mem_of_getElem? (i := 108) (by decide +kernel))) rfl
theorem lk_Generator_3 : (Cond.methodLink "CellTransport$Generator" (3 : Nat) ({ cls := "java/lang/Object", name := "<init>", desc := "()V" } : MethodName)) ∈ z_T := z_T_mem (List.mem_append_right _ (List.mem_of_getElem? (i := 111) (by decide +kernel))) rfl
theorem lk_CellTransport_32 : (Cond.methodLinkNest "CellTransport" (32 : Nat) ({ cls := "CellTransport$Counts", name := "<init>", desc := "()V" } : MethodName) "CellTransport") ∈ z_T := z_T_mem (List.mem_append_right _ (List.mem_of_getElem? (i := 119) (by decide +kernel))) rfl
theorem lk_Counts_3 : (Cond.methodLink "CellTransport$Counts" (3 : Nat) ({ cls := "java/lang/Object", name := "<init>", desc := "()V" } : MethodName)) ∈ z_T := z_T_mem (List.mem_append_right _ (List.mem_of_getElem? (i := 122) (by decide +kernel))) rfl
theorem lk_CellTransport_39 : (Cond.methodLinkNest "CellTransport" (39 : Nat) ({ cls := "CellTransport$Line", name := "<init>", desc := "()V" } : MethodName) "CellTransport") ∈ z_T := z_T_mem (List.mem_append_right _ (List.mem_of_getElem? (i := 140) (by decide +kernel))) rfl
theorem lk_Line_3 : (Cond.methodLink "CellTransport$Line" (3 : Nat) ({ cls := "java/lang/Object", name := "<init>", desc := "()V" } : MethodName)) ∈ z_T := z_T_mem (List.mem_append_right _ (List.mem_of_getElem? (i := 143) (by decide +kernel))) rfl
theorem lk_CellTransport_46 : (Cond.methodLinkNest "CellTransport" (46 : Nat) ({ cls := "CellTransport$Particle", name := "<init>", desc := "()V" } : MethodName) "CellTransport") ∈ z_T := z_T_mem (List.mem_append_right _ (List.mem_of_getElem? (i := 160) (by decide +kernel))) rfl
theorem lk_Particle_1 : (Cond.methodLink "CellTransport$Particle" (1 : Nat) ({ cls := "java/lang/Object", name := "<init>", desc := "()V" } : MethodName)) ∈ z_T := z_T_mem (List.mem_append_right _ (List.mem_of_getElem? (i := 163) (by decide +kernel))) rfl
theorem lk_Law_13 : (Cond.methodLink "CellTransportLaw" (13 : Nat) ({ cls := "CellTransport", name := "surface", desc := "(IIIII)I" } : MethodName)) ∈ z_T := z_T_mem (List.mem_append_right _ (List.mem_of_getElem? (i := 210) (by decide +kernel))) rfl
theorem lk_CellTransport_51 : (Cond.methodLink "CellTransport" (51 : Nat) ({ cls := "CellTransport", name := "isBetween", desc := "(III)Z" } : MethodName)) ∈ z_T := z_T_mem (List.mem_append_right _ (List.mem_of_getElem? (i := 214) (by decide +kernel))) rfl
theorem lk_CellTransport_55 : (Cond.methodLink "CellTransport" (55 : Nat) ({ cls := "CellTransport", name := "isSurface", desc := "(IIII)Z" } : MethodName)) ∈ z_T := z_T_mem (List.mem_append_right _ (List.mem_of_getElem? (i := 217) (by decide +kernel))) rfl
theorem lk_CellTransport_106 : (Cond.methodLink "CellTransport" (106 : Nat) ({ cls := "CellTransport", name := "areWithin", desc := "(III)Z" } : MethodName)) ∈ z_T := z_T_mem (List.mem_append_right _ (List.mem_of_getElem? (i := 220) (by decide +kernel))) rfl
theorem lk_CellTransport_69 : (Cond.methodLink "CellTransport" (69 : Nat) ({ cls := "CellTransport", name := "oneIf", desc := "(Z)I" } : MethodName)) ∈ z_T := z_T_mem (List.mem_append_right _ (List.mem_of_getElem? (i := 223) (by decide +kernel))) rfl
theorem lk_CellTransport_73 : (Cond.methodLinkNest "CellTransport" (73 : Nat) ({ cls := "CellTransport$Surface", name := "become", desc := "(IIII)V" } : MethodName) "CellTransport") ∈ z_T := z_T_mem (List.mem_append_right _ (List.mem_of_getElem? (i := 226) (by decide +kernel))) rfl
theorem lk_Law_18 : (Cond.methodLink "CellTransportLaw" (18 : Nat) ({ cls := "CellTransport", name := "token", desc := "(I)I" } : MethodName)) ∈ z_T := z_T_mem (List.mem_append_right _ (List.mem_of_getElem? (i := 230) (by decide +kernel))) rfl
theorem lk_CellTransport_81 : (Cond.methodLinkNest "CellTransport" (81 : Nat) ({ cls := "CellTransport$Region", name := "add", desc := "(I)V" } : MethodName) "CellTransport") ∈ z_T := z_T_mem (List.mem_append_right _ (List.mem_of_getElem? (i := 234) (by decide +kernel))) rfl
theorem lk_Law_23 : (Cond.methodLink "CellTransportLaw" (23 : Nat) ({ cls := "CellTransport", name := "cell", desc := "(IIII)I" } : MethodName)) ∈ z_T := z_T_mem (List.mem_append_right _ (List.mem_of_getElem? (i := 238) (by decide +kernel))) rfl
theorem lk_CellTransport_85 : (Cond.methodLink "CellTransport" (85 : Nat) ({ cls := "CellTransport", name := "areShares", desc := "(II)Z" } : MethodName)) ∈ z_T := z_T_mem (List.mem_append_right _ (List.mem_of_getElem? (i := 242) (by decide +kernel))) rfl
theorem lk_CellTransport_89 : (Cond.methodLinkNest "CellTransport" (89 : Nat) ({ cls := "CellTransport$Region", name := "isWhole", desc := "()Z" } : MethodName) "CellTransport") ∈ z_T := z_T_mem (List.mem_append_right _ (List.mem_of_getElem? (i := 245) (by decide +kernel))) rfl
theorem lk_Region_25 : (Cond.methodLink "CellTransport$Region" (25 : Nat) ({ cls := "CellTransport$Region", name := "operandsOf", desc := "(I)I" } : MethodName)) ∈ z_T := z_T_mem (List.mem_append_right _ (List.mem_of_getElem? (i := 249) (by decide +kernel))) rfl
theorem lk_CellTransport_102 : (Cond.methodLinkNest "CellTransport" (102 : Nat) ({ cls := "CellTransport$Cell", name := "define", desc := "(LCellTransport$Region;III)V" } : MethodName) "CellTransport") ∈ z_T := z_T_mem (List.mem_append_right _ (List.mem_of_getElem? (i := 252) (by decide +kernel))) rfl
theorem lk_Cell_20 : (Cond.methodLinkNest "CellTransport$Cell" (20 : Nat) ({ cls := "CellTransport$Region", name := "copyFrom", desc := "(LCellTransport$Region;)V" } : MethodName) "CellTransport") ∈ z_T := z_T_mem (List.mem_append_right _ (List.mem_of_getElem? (i := 256) (by decide +kernel))) rfl
theorem lk_Region_19 : (Cond.methodLink "CellTransport$Region" (19 : Nat) ({ cls := "java/lang/System", name := "arraycopy", desc := "(Ljava/lang/Object;ILjava/lang/Object;II)V" } : MethodName)) ∈ z_T := z_T_mem (List.mem_append_right _ (List.mem_of_getElem? (i := 260) (by decide +kernel))) rfl
theorem lk_Law_28 : (Cond.methodLink "CellTransportLaw" (28 : Nat) ({ cls := "CellTransport", name := "undefine", desc := "(I)I" } : MethodName)) ∈ z_T := z_T_mem (List.mem_append_right _ (List.mem_of_getElem? (i := 263) (by decide +kernel))) rfl
theorem lk_Law_32 : (Cond.methodLink "CellTransportLaw" (32 : Nat) ({ cls := "CellTransport", name := "source", desc := "(II)I" } : MethodName)) ∈ z_T := z_T_mem (List.mem_append_right _ (List.mem_of_getElem? (i := 267) (by decide +kernel))) rfl
theorem lk_Law_37 : (Cond.methodLink "CellTransportLaw" (37 : Nat) ({ cls := "CellTransport", name := "seed", desc := "(I)V" } : MethodName)) ∈ z_T := z_T_mem (List.mem_append_right _ (List.mem_of_getElem? (i := 271) (by decide +kernel))) rfl
theorem lk_CellTransport_115 : (Cond.methodLinkNest "CellTransport" (115 : Nat) ({ cls := "CellTransport$Generator", name := "start", desc := "(I)V" } : MethodName) "CellTransport") ∈ z_T := z_T_mem (List.mem_append_right _ (List.mem_of_getElem? (i := 275) (by decide +kernel))) rfl
theorem lk_Law_42 : (Cond.methodLink "CellTransportLaw" (42 : Nat) ({ cls := "CellTransport", name := "skip", desc := "(I)I" } : MethodName)) ∈ z_T := z_T_mem (List.mem_append_right _ (List.mem_of_getElem? (i := 280) (by decide +kernel))) rfl
theorem lk_CellTransport_119 : (Cond.methodLinkNest "CellTransport" (119 : Nat) ({ cls := "CellTransport$Generator", name := "leap", desc := "(I)V" } : MethodName) "CellTransport") ∈ z_T := z_T_mem (List.mem_append_right _ (List.mem_of_getElem? (i := 285) (by decide +kernel))) rfl
theorem lk_Law_46 : (Cond.methodLink "CellTransportLaw" (46 : Nat) ({ cls := "CellTransport", name := "state", desc := "()I" } : MethodName)) ∈ z_T := z_T_mem (List.mem_append_right _ (List.mem_of_getElem? (i := 290) (by decide +kernel))) rfl
theorem lk_Law_51 : (Cond.methodLink "CellTransportLaw" (51 : Nat) ({ cls := "CellTransport", name := "run", desc := "(I)I" } : MethodName)) ∈ z_T := z_T_mem (List.mem_append_right _ (List.mem_of_getElem? (i := 294) (by decide +kernel))) rfl
theorem lk_CellTransport_125 : (Cond.methodLink "CellTransport" (125 : Nat) ({ cls := "CellTransport", name := "playHistory", desc := "()I" } : MethodName)) ∈ z_T := z_T_mem (List.mem_append_right _ (List.mem_of_getElem? (i := 298) (by decide +kernel))) rfl
theorem lk_CellTransport_156 : (Cond.methodLinkNest "CellTransport" (156 : Nat) ({ cls := "CellTransport$Line", name := "empty", desc := "()V" } : MethodName) "CellTransport") ∈ z_T := z_T_mem (List.mem_append_right _ (List.mem_of_getElem? (i := 302) (by decide +kernel))) rfl
theorem lk_CellTransport_159 : (Cond.methodLinkNest "CellTransport" (159 : Nat) ({ cls := "CellTransport$Line", name := "join", desc := "(II)Z" } : MethodName) "CellTransport") ∈ z_T := z_T_mem (List.mem_append_right _ (List.mem_of_getElem? (i := 306) (by decide +kernel))) rfl
theorem lk_CellTransport_165 : (Cond.methodLinkNest "CellTransport" (165 : Nat) ({ cls := "CellTransport$Line", name := "sendLast", desc := "(LCellTransport$Particle;)V" } : MethodName) "CellTransport") ∈ z_T := z_T_mem (List.mem_append_right _ (List.mem_of_getElem? (i := 310) (by decide +kernel))) rfl
theorem lk_CellTransport_169 : (Cond.methodLink "CellTransport" (169 : Nat) ({ cls := "CellTransport", name := "fly", desc := "()V" } : MethodName)) ∈ z_T := z_T_mem (List.mem_append_right _ (List.mem_of_getElem? (i := 314) (by decide +kernel))) rfl
theorem lk_CellTransport_129 : (Cond.methodLinkNest "CellTransport" (129 : Nat) ({ cls := "CellTransport$Geometry", name := "cellAt", desc := "(II)I" } : MethodName) "CellTransport") ∈ z_T := z_T_mem (List.mem_append_right _ (List.mem_of_getElem? (i := 318) (by decide +kernel))) rfl
theorem lk_Geometry_33 : (Cond.methodLinkNest "CellTransport$Geometry" (33 : Nat) ({ cls := "CellTransport$Region", name := "holds", desc := "([LCellTransport$Surface;II)Z" } : MethodName) "CellTransport") ∈ z_T := z_T_mem (List.mem_append_right _ (List.mem_of_getElem? (i := 322) (by decide +kernel))) rfl
theorem lk_Region_29 : (Cond.methodLinkNest "CellTransport$Region" (29 : Nat) ({ cls := "CellTransport$Surface", name := "holds", desc := "(II)Z" } : MethodName) "CellTransport") ∈ z_T := z_T_mem (List.mem_append_right _ (List.mem_of_getElem? (i := 326) (by decide +kernel))) rfl
theorem lk_Region_35 : (Cond.methodLinkNest "CellTransport$Region" (35 : Nat) ({ cls := "CellTransport", name := "oneIf", desc := "(Z)I" } : MethodName) "CellTransport") ∈ z_T := z_T_mem (List.mem_append_right _ (List.mem_of_getElem? (i := 330) (by decide +kernel))) rfl
theorem lk_CellTransport_181 : (Cond.methodLink "CellTransport" (181 : Nat) ({ cls := "CellTransport", name := "aim", desc := "()V" } : MethodName)) ∈ z_T := z_T_mem (List.mem_append_right _ (List.mem_of_getElem? (i := 331) (by decide +kernel))) rfl
theorem lk_CellTransport_187 : (Cond.methodLinkNest "CellTransport" (187 : Nat) ({ cls := "CellTransport$Generator", name := "draw", desc := "()I" } : MethodName) "CellTransport") ∈ z_T := z_T_mem (List.mem_append_right _ (List.mem_of_getElem? (i := 335) (by decide +kernel))) rfl
theorem lk_CellTransport_184 : (Cond.methodLink "CellTransport" (184 : Nat) ({ cls := "CellTransport", name := "survivesStep", desc := "()Z" } : MethodName)) ∈ z_T := z_T_mem (List.mem_append_right _ (List.mem_of_getElem? (i := 339) (by decide +kernel))) rfl
theorem lk_CellTransport_196 : (Cond.methodLinkNest "CellTransport" (196 : Nat) ({ cls := "CellTransport$Particle", name := "move", desc := "()V" } : MethodName) "CellTransport") ∈ z_T := z_T_mem (List.mem_append_right _ (List.mem_of_getElem? (i := 343) (by decide +kernel))) rfl
theorem lk_CellTransport_199 : (Cond.methodLinkNest "CellTransport" (199 : Nat) ({ cls := "CellTransport$Counts", name := "addTrack", desc := "(II)V" } : MethodName) "CellTransport") ∈ z_T := z_T_mem (List.mem_append_right _ (List.mem_of_getElem? (i := 351) (by decide +kernel))) rfl
theorem lk_CellTransport_206 : (Cond.methodLink "CellTransport" (206 : Nat) ({ cls := "CellTransport", name := "survivesCollision", desc := "(LCellTransport$Cell;)Z" } : MethodName)) ∈ z_T := z_T_mem (List.mem_append_right _ (List.mem_of_getElem? (i := 355) (by decide +kernel))) rfl
theorem lk_CellTransport_216 : (Cond.methodLink "CellTransport" (216 : Nat) ({ cls := "CellTransport", name := "split", desc := "()V" } : MethodName)) ∈ z_T := z_T_mem (List.mem_append_right _ (List.mem_of_getElem? (i := 359) (by decide +kernel))) rfl
theorem lk_Law_55 : (Cond.methodLink "CellTransportLaw" (55 : Nat) ({ cls := "CellTransport", name := "where", desc := "(II)I" } : MethodName)) ∈ z_T := z_T_mem (List.mem_append_right _ (List.mem_of_getElem? (i := 363) (by decide +kernel))) rfl
theorem lk_Law_59 : (Cond.methodLink "CellTransportLaw" (59 : Nat) ({ cls := "CellTransport", name := "reach", desc := "(III)I" } : MethodName)) ∈ z_T := z_T_mem (List.mem_append_right _ (List.mem_of_getElem? (i := 367) (by decide +kernel))) rfl
theorem lk_Law_64 : (Cond.methodLink "CellTransportLaw" (64 : Nat) ({ cls := "CellTransport", name := "tally", desc := "(II)I" } : MethodName)) ∈ z_T := z_T_mem (List.mem_append_right _ (List.mem_of_getElem? (i := 373) (by decide +kernel))) rfl
theorem lk_Law_68 : (Cond.methodLink "CellTransportLaw" (68 : Nat) ({ cls := "CellTransport", name := "crossed", desc := "(II)I" } : MethodName)) ∈ z_T := z_T_mem (List.mem_append_right _ (List.mem_of_getElem? (i := 377) (by decide +kernel))) rfl
theorem lk_Law_72 : (Cond.methodLink "CellTransportLaw" (72 : Nat) ({ cls := "CellTransport", name := "count", desc := "(I)I" } : MethodName)) ∈ z_T := z_T_mem (List.mem_append_right _ (List.mem_of_getElem? (i := 381) (by decide +kernel))) rfl
theorem lk_CellTransport_150 : (Cond.methodLinkNest "CellTransport" (150 : Nat) ({ cls := "CellTransport$Geometry", name := "definedCells", desc := "()I" } : MethodName) "CellTransport") ∈ z_T := z_T_mem (List.mem_append_right _ (List.mem_of_getElem? (i := 385) (by decide +kernel))) rfl
theorem lk_Geometry_39 : (Cond.methodLinkNest "CellTransport$Geometry" (39 : Nat) ({ cls := "CellTransport", name := "oneIf", desc := "(Z)I" } : MethodName) "CellTransport") ∈ z_T := z_T_mem (List.mem_append_right _ (List.mem_of_getElem? (i := 389) (by decide +kernel))) rfl
theorem lk_Law_76 : (Cond.methodLink "CellTransportLaw" (76 : Nat) ({ cls := "CellTransport", name := "clear", desc := "()V" } : MethodName)) ∈ z_T := z_T_mem (List.mem_append_right _ (List.mem_of_getElem? (i := 390) (by decide +kernel))) rfl
theorem lk_CellTransport_153 : (Cond.methodLinkNest "CellTransport" (153 : Nat) ({ cls := "CellTransport$Counts", name := "reset", desc := "()V" } : MethodName) "CellTransport") ∈ z_T := z_T_mem (List.mem_append_right _ (List.mem_of_getElem? (i := 394) (by decide +kernel))) rfl
theorem lk_Counts_23 : (Cond.methodLink "CellTransport$Counts" (23 : Nat) ({ cls := "java/util/Arrays", name := "fill", desc := "([II)V" } : MethodName)) ∈ z_T := z_T_mem (List.mem_append_right _ (List.mem_of_getElem? (i := 398) (by decide +kernel))) rfl
theorem lk_Law_12 : (Cond.methodLink "CellTransportLaw" (12 : Nat) ({ cls := "CellTransportModel", name := "<init>", desc := "()V" } : MethodName)) ∈ z_T := z_T_mem (List.mem_append_right _ (List.mem_of_getElem? (i := 403) (by decide +kernel))) rfl
theorem lk_Model_1 : (Cond.methodLink "CellTransportModel" (1 : Nat) ({ cls := "java/lang/Object", name := "<init>", desc := "()V" } : MethodName)) ∈ z_T := z_T_mem (List.mem_append_right _ (List.mem_of_getElem? (i := 406) (by decide +kernel))) rfl
theorem lk_Law_17 : (Cond.methodLink "CellTransportLaw" (17 : Nat) ({ cls := "CellTransportModel", name := "surface", desc := "(IIIII)I" } : MethodName)) ∈ z_T := z_T_mem (List.mem_append_right _ (List.mem_of_getElem? (i := 490) (by decide +kernel))) rfl
theorem lk_Model_66 : (Cond.methodLink "CellTransportModel" (66 : Nat) ({ cls := "CellTransportModel", name := "out", desc := "(III)Z" } : MethodName)) ∈ z_T := z_T_mem (List.mem_append_right _ (List.mem_of_getElem? (i := 494) (by decide +kernel))) rfl
theorem lk_Law_22 : (Cond.methodLink "CellTransportLaw" (22 : Nat) ({ cls := "CellTransportModel", name := "token", desc := "(I)I" } : MethodName)) ∈ z_T := z_T_mem (List.mem_append_right _ (List.mem_of_getElem? (i := 497) (by decide +kernel))) rfl
theorem lk_Law_27 : (Cond.methodLink "CellTransportLaw" (27 : Nat) ({ cls := "CellTransportModel", name := "cell", desc := "(IIII)I" } : MethodName)) ∈ z_T := z_T_mem (List.mem_append_right _ (List.mem_of_getElem? (i := 501) (by decide +kernel))) rfl
theorem lk_Model_74 : (Cond.methodLink "CellTransportModel" (74 : Nat) ({ cls := "CellTransportModel", name := "told", desc := "()Z" } : MethodName)) ∈ z_T := z_T_mem (List.mem_append_right _ (List.mem_of_getElem? (i := 505) (by decide +kernel))) rfl
theorem lk_Law_31 : (Cond.methodLink "CellTransportLaw" (31 : Nat) ({ cls := "CellTransportModel", name := "undefine", desc := "(I)I" } : MethodName)) ∈ z_T := z_T_mem (List.mem_append_right _ (List.mem_of_getElem? (i := 509) (by decide +kernel))) rfl
theorem lk_Law_36 : (Cond.methodLink "CellTransportLaw" (36 : Nat) ({ cls := "CellTransportModel", name := "source", desc := "(II)I" } : MethodName)) ∈ z_T := z_T_mem (List.mem_append_right _ (List.mem_of_getElem? (i := 513) (by decide +kernel))) rfl
theorem lk_Law_41 : (Cond.methodLink "CellTransportLaw" (41 : Nat) ({ cls := "CellTransportModel", name := "seed", desc := "(I)V" } : MethodName)) ∈ z_T := z_T_mem (List.mem_append_right _ (List.mem_of_getElem? (i := 517) (by decide +kernel))) rfl
theorem lk_Law_45 : (Cond.methodLink "CellTransportLaw" (45 : Nat) ({ cls := "CellTransportModel", name := "skip", desc := "(I)I" } : MethodName)) ∈ z_T := z_T_mem (List.mem_append_right _ (List.mem_of_getElem? (i := 522) (by decide +kernel))) rfl
theorem lk_Model_93 : (Cond.methodLink "CellTransportModel" (93 : Nat) ({ cls := "CellTransportModel", name := "draw", desc := "(I)I" } : MethodName)) ∈ z_T := z_T_mem (List.mem_append_right _ (List.mem_of_getElem? (i := 527) (by decide +kernel))) rfl
theorem lk_Law_50 : (Cond.methodLink "CellTransportLaw" (50 : Nat) ({ cls := "CellTransportModel", name := "state", desc := "()I" } : MethodName)) ∈ z_T := z_T_mem (List.mem_append_right _ (List.mem_of_getElem? (i := 534) (by decide +kernel))) rfl
theorem lk_Law_58 : (Cond.methodLink "CellTransportLaw" (58 : Nat) ({ cls := "CellTransportModel", name := "where", desc := "(II)I" } : MethodName)) ∈ z_T := z_T_mem (List.mem_append_right _ (List.mem_of_getElem? (i := 538) (by decide +kernel))) rfl
theorem lk_Model_103 : (Cond.methodLink "CellTransportModel" (103 : Nat) ({ cls := "CellTransportModel", name := "at", desc := "(II)I" } : MethodName)) ∈ z_T := z_T_mem (List.mem_append_right _ (List.mem_of_getElem? (i := 542) (by decide +kernel))) rfl
theorem lk_Model_100 : (Cond.methodLink "CellTransportModel" (100 : Nat) ({ cls := "CellTransportModel", name := "inside", desc := "(III)Z" } : MethodName)) ∈ z_T := z_T_mem (List.mem_append_right _ (List.mem_of_getElem? (i := 546) (by decide +kernel))) rfl
theorem lk_Model_97 : (Cond.methodLink "CellTransportModel" (97 : Nat) ({ cls := "CellTransportModel", name := "holds", desc := "(III)Z" } : MethodName)) ∈ z_T := z_T_mem (List.mem_append_right _ (List.mem_of_getElem? (i := 550) (by decide +kernel))) rfl
theorem lk_Law_63 : (Cond.methodLink "CellTransportLaw" (63 : Nat) ({ cls := "CellTransportModel", name := "reach", desc := "(III)I" } : MethodName)) ∈ z_T := z_T_mem (List.mem_append_right _ (List.mem_of_getElem? (i := 554) (by decide +kernel))) rfl
theorem lk_Model_107 : (Cond.methodLink "CellTransportModel" (107 : Nat) ({ cls := "CellTransportModel", name := "stepX", desc := "(I)I" } : MethodName)) ∈ z_T := z_T_mem (List.mem_append_right _ (List.mem_of_getElem? (i := 558) (by decide +kernel))) rfl
theorem lk_Model_110 : (Cond.methodLink "CellTransportModel" (110 : Nat) ({ cls := "CellTransportModel", name := "stepY", desc := "(I)I" } : MethodName)) ∈ z_T := z_T_mem (List.mem_append_right _ (List.mem_of_getElem? (i := 561) (by decide +kernel))) rfl
theorem lk_Law_54 : (Cond.methodLink "CellTransportLaw" (54 : Nat) ({ cls := "CellTransportModel", name := "run", desc := "(I)I" } : MethodName)) ∈ z_T := z_T_mem (List.mem_append_right _ (List.mem_of_getElem? (i := 564) (by decide +kernel))) rfl
theorem lk_Model_144 : (Cond.methodLink "CellTransportModel" (144 : Nat) ({ cls := "CellTransportModel", name := "history", desc := "()I" } : MethodName)) ∈ z_T := z_T_mem (List.mem_append_right _ (List.mem_of_getElem? (i := 568) (by decide +kernel))) rfl
theorem lk_Model_141 : (Cond.methodLink "CellTransportModel" (141 : Nat) ({ cls := "CellTransportModel", name := "fly", desc := "()V" } : MethodName)) ∈ z_T := z_T_mem (List.mem_append_right _ (List.mem_of_getElem? (i := 572) (by decide +kernel))) rfl
theorem lk_Model_134 : (Cond.methodLink "CellTransportModel" (134 : Nat) ({ cls := "CellTransportModel", name := "turn", desc := "()V" } : MethodName)) ∈ z_T := z_T_mem (List.mem_append_right _ (List.mem_of_getElem? (i := 576) (by decide +kernel))) rfl
theorem lk_Model_137 : (Cond.methodLink "CellTransportModel" (137 : Nat) ({ cls := "CellTransportModel", name := "collide", desc := "(I)Z" } : MethodName)) ∈ z_T := z_T_mem (List.mem_append_right _ (List.mem_of_getElem? (i := 580) (by decide +kernel))) rfl
theorem lk_Model_131 : (Cond.methodLink "CellTransportModel" (131 : Nat) ({ cls := "CellTransportModel", name := "join", desc := "()V" } : MethodName)) ∈ z_T := z_T_mem (List.mem_append_right _ (List.mem_of_getElem? (i := 584) (by decide +kernel))) rfl
theorem lk_Law_67 : (Cond.methodLink "CellTransportLaw" (67 : Nat) ({ cls := "CellTransportModel", name := "tally", desc := "(II)I" } : MethodName)) ∈ z_T := z_T_mem (List.mem_append_right _ (List.mem_of_getElem? (i := 588) (by decide +kernel))) rfl
theorem lk_Law_71 : (Cond.methodLink "CellTransportLaw" (71 : Nat) ({ cls := "CellTransportModel", name := "crossed", desc := "(II)I" } : MethodName)) ∈ z_T := z_T_mem (List.mem_append_right _ (List.mem_of_getElem? (i := 592) (by decide +kernel))) rfl
theorem lk_Law_75 : (Cond.methodLink "CellTransportLaw" (75 : Nat) ({ cls := "CellTransportModel", name := "count", desc := "(I)I" } : MethodName)) ∈ z_T := z_T_mem (List.mem_append_right _ (List.mem_of_getElem? (i := 596) (by decide +kernel))) rfl
theorem lk_Law_79 : (Cond.methodLink "CellTransportLaw" (79 : Nat) ({ cls := "CellTransportModel", name := "clear", desc := "()V" } : MethodName)) ∈ z_T := z_T_mem (List.mem_append_right _ (List.mem_of_getElem? (i := 600) (by decide +kernel))) rfl
theorem lk_Surface_9 : (Cond.fieldLink "CellTransport$Surface" (9 : Nat) "CellTransport$Surface" "isSet" "Z") ∈ z_T := z_T_mem (List.mem_append_right _ (List.mem_of_getElem? (i := 36) (by decide +kernel))) rfl
theorem lk_CellTransport_63 : (Cond.fieldLinkNest "CellTransport" (63 : Nat) "CellTransport$Surface" "isSet" "Z" "CellTransport") ∈ z_T := z_T_mem (List.mem_append_right _ (List.mem_of_getElem? (i := 37) (by decide +kernel))) rfl
theorem lk_Surface_15 : (Cond.fieldLink "CellTransport$Surface" (15 : Nat) "CellTransport$Surface" "kind" "I") ∈ z_T := z_T_mem (List.mem_append_right _ (List.mem_of_getElem? (i := 38) (by decide +kernel))) rfl
theorem lk_Surface_19 : (Cond.fieldLink "CellTransport$Surface" (19 : Nat) "CellTransport$Surface" "a" "I") ∈ z_T := z_T_mem (List.mem_append_right _ (List.mem_of_getElem? (i := 39) (by decide +kernel))) rfl
theorem lk_Surface_22 : (Cond.fieldLink "CellTransport$Surface" (22 : Nat) "CellTransport$Surface" "b" "I") ∈ z_T := z_T_mem (List.mem_append_right _ (List.mem_of_getElem? (i := 40) (by decide +kernel))) rfl
theorem lk_Surface_25 : (Cond.fieldLink "CellTransport$Surface" (25 : Nat) "CellTransport$Surface" "c" "I") ∈ z_T := z_T_mem (List.mem_append_right _ (List.mem_of_getElem? (i := 41) (by decide +kernel))) rfl
theorem lk_Region_9 : (Cond.fieldLink "CellTransport$Region" (9 : Nat) "CellTransport$Region" "tokens" "[I") ∈ z_T := z_T_mem (List.mem_append_right _ (List.mem_of_getElem? (i := 64) (by decide +kernel))) rfl
theorem lk_Region_15 : (Cond.fieldLink "CellTransport$Region" (15 : Nat) "CellTransport$Region" "size" "I") ∈ z_T := z_T_mem (List.mem_append_right _ (List.mem_of_getElem? (i := 65) (by decide +kernel))) rfl
theorem lk_CellTransport_77 : (Cond.fieldLinkNest "CellTransport" (77 : Nat) "CellTransport$Region" "size" "I" "CellTransport") ∈ z_T := z_T_mem (List.mem_append_right _ (List.mem_of_getElem? (i := 66) (by decide +kernel))) rfl
theorem lk_Cell_10 : (Cond.fieldLink "CellTransport$Cell" (10 : Nat) "CellTransport$Cell" "region" "LCellTransport$Region;") ∈ z_T := z_T_mem (List.mem_append_right _ (List.mem_of_getElem? (i := 73) (by decide +kernel))) rfl
theorem lk_Geometry_29 : (Cond.fieldLinkNest "CellTransport$Geometry" (29 : Nat) "CellTransport$Cell" "region" "LCellTransport$Region;" "CellTransport") ∈ z_T := z_T_mem (List.mem_append_right _ (List.mem_of_getElem? (i := 74) (by decide +kernel))) rfl
theorem lk_Cell_16 : (Cond.fieldLink "CellTransport$Cell" (16 : Nat) "CellTransport$Cell" "isDefined" "Z") ∈ z_T := z_T_mem (List.mem_append_right _ (List.mem_of_getElem? (i := 75) (by decide +kernel))) rfl
theorem lk_Geometry_25 : (Cond.fieldLinkNest "CellTransport$Geometry" (25 : Nat) "CellTransport$Cell" "isDefined" "Z" "CellTransport") ∈ z_T := z_T_mem (List.mem_append_right _ (List.mem_of_getElem? (i := 76) (by decide +kernel))) rfl
theorem lk_CellTransport_97 : (Cond.fieldLinkNest "CellTransport" (97 : Nat) "CellTransport$Cell" "isDefined" "Z" "CellTransport") ∈ z_T := z_T_mem (List.mem_append_right _ (List.mem_of_getElem? (i := 77) (by decide +kernel))) rfl
theorem lk_Cell_24 : (Cond.fieldLink "CellTransport$Cell" (24 : Nat) "CellTransport$Cell" "density" "I") ∈ z_T := z_T_mem (List.mem_append_right _ (List.mem_of_getElem? (i := 78) (by decide +kernel))) rfl
theorem lk_CellTransport_203 : (Cond.fieldLinkNest "CellTransport" (203 : Nat) "CellTransport$Cell" "density" "I" "CellTransport") ∈ z_T := z_T_mem (List.mem_append_right _ (List.mem_of_getElem? (i := 79) (by decide +kernel))) rfl
theorem lk_Cell_28 : (Cond.fieldLink "CellTransport$Cell" (28 : Nat) "CellTransport$Cell" "absorption" "I") ∈ z_T := z_T_mem (List.mem_append_right _ (List.mem_of_getElem? (i := 80) (by decide +kernel))) rfl
theorem lk_CellTransport_210 : (Cond.fieldLinkNest "CellTransport" (210 : Nat) "CellTransport$Cell" "absorption" "I" "CellTransport") ∈ z_T := z_T_mem (List.mem_append_right _ (List.mem_of_getElem? (i := 81) (by decide +kernel))) rfl
theorem lk_Cell_31 : (Cond.fieldLink "CellTransport$Cell" (31 : Nat) "CellTransport$Cell" "fission" "I") ∈ z_T := z_T_mem (List.mem_append_right _ (List.mem_of_getElem? (i := 82) (by decide +kernel))) rfl
theorem lk_CellTransport_213 : (Cond.fieldLinkNest "CellTransport" (213 : Nat) "CellTransport$Cell" "fission" "I" "CellTransport") ∈ z_T := z_T_mem (List.mem_append_right _ (List.mem_of_getElem? (i := 83) (by decide +kernel))) rfl
theorem lk_Geometry_11 : (Cond.fieldLink "CellTransport$Geometry" (11 : Nat) "CellTransport$Geometry" "surfaces" "[LCellTransport$Surface;") ∈ z_T := z_T_mem (List.mem_append_right _ (List.mem_of_getElem? (i := 95) (by decide +kernel))) rfl
theorem lk_CellTransport_59 : (Cond.fieldLinkNest "CellTransport" (59 : Nat) "CellTransport$Geometry" "surfaces" "[LCellTransport$Surface;" "CellTransport") ∈ z_T := z_T_mem (List.mem_append_right _ (List.mem_of_getElem? (i := 96) (by decide +kernel))) rfl
theorem lk_Geometry_19 : (Cond.fieldLink "CellTransport$Geometry" (19 : Nat) "CellTransport$Geometry" "cells" "[LCellTransport$Cell;") ∈ z_T := z_T_mem (List.mem_append_right _ (List.mem_of_getElem? (i := 97) (by decide +kernel))) rfl
theorem lk_CellTransport_93 : (Cond.fieldLinkNest "CellTransport" (93 : Nat) "CellTransport$Geometry" "cells" "[LCellTransport$Cell;" "CellTransport") ∈ z_T := z_T_mem (List.mem_append_right _ (List.mem_of_getElem? (i := 98) (by decide +kernel))) rfl
theorem lk_Generator_9 : (Cond.fieldLink "CellTransport$Generator" (9 : Nat) "CellTransport$Generator" "state" "I") ∈ z_T := z_T_mem (List.mem_append_right _ (List.mem_of_getElem? (i := 112) (by decide +kernel))) rfl
theorem lk_CellTransport_122 : (Cond.fieldLinkNest "CellTransport" (122 : Nat) "CellTransport$Generator" "state" "I" "CellTransport") ∈ z_T := z_T_mem (List.mem_append_right _ (List.mem_of_getElem? (i := 113) (by decide +kernel))) rfl
theorem lk_Counts_9 : (Cond.fieldLink "CellTransport$Counts" (9 : Nat) "CellTransport$Counts" "totals" "[I") ∈ z_T := z_T_mem (List.mem_append_right _ (List.mem_of_getElem? (i := 125) (by decide +kernel))) rfl
theorem lk_CellTransport_147 : (Cond.fieldLinkNest "CellTransport" (147 : Nat) "CellTransport$Counts" "totals" "[I" "CellTransport") ∈ z_T := z_T_mem (List.mem_append_right _ (List.mem_of_getElem? (i := 126) (by decide +kernel))) rfl
theorem lk_Counts_17 : (Cond.fieldLink "CellTransport$Counts" (17 : Nat) "CellTransport$Counts" "tallies" "[[I") ∈ z_T := z_T_mem (List.mem_append_right _ (List.mem_of_getElem? (i := 127) (by decide +kernel))) rfl
theorem lk_CellTransport_140 : (Cond.fieldLinkNest "CellTransport" (140 : Nat) "CellTransport$Counts" "tallies" "[[I" "CellTransport") ∈ z_T := z_T_mem (List.mem_append_right _ (List.mem_of_getElem? (i := 128) (by decide +kernel))) rfl
theorem lk_Counts_20 : (Cond.fieldLink "CellTransport$Counts" (20 : Nat) "CellTransport$Counts" "crossings" "[[I") ∈ z_T := z_T_mem (List.mem_append_right _ (List.mem_of_getElem? (i := 129) (by decide +kernel))) rfl
theorem lk_CellTransport_144 : (Cond.fieldLinkNest "CellTransport" (144 : Nat) "CellTransport$Counts" "crossings" "[[I" "CellTransport") ∈ z_T := z_T_mem (List.mem_append_right _ (List.mem_of_getElem? (i := 130) (by decide +kernel))) rfl
theorem lk_Line_9 : (Cond.fieldLink "CellTransport$Line" (9 : Nat) "CellTransport$Line" "placesX" "[I") ∈ z_T := z_T_mem (List.mem_append_right _ (List.mem_of_getElem? (i := 144) (by decide +kernel))) rfl
theorem lk_Line_15 : (Cond.fieldLink "CellTransport$Line" (15 : Nat) "CellTransport$Line" "placesY" "[I") ∈ z_T := z_T_mem (List.mem_append_right _ (List.mem_of_getElem? (i := 145) (by decide +kernel))) rfl
theorem lk_Line_18 : (Cond.fieldLink "CellTransport$Line" (18 : Nat) "CellTransport$Line" "waiting" "I") ∈ z_T := z_T_mem (List.mem_append_right _ (List.mem_of_getElem? (i := 146) (by decide +kernel))) rfl
theorem lk_CellTransport_162 : (Cond.fieldLinkNest "CellTransport" (162 : Nat) "CellTransport$Line" "waiting" "I" "CellTransport") ∈ z_T := z_T_mem (List.mem_append_right _ (List.mem_of_getElem? (i := 147) (by decide +kernel))) rfl
theorem lk_Line_22 : (Cond.fieldLink "CellTransport$Line" (22 : Nat) "CellTransport$Line" "joined" "I") ∈ z_T := z_T_mem (List.mem_append_right _ (List.mem_of_getElem? (i := 148) (by decide +kernel))) rfl
theorem lk_Particle_7 : (Cond.fieldLink "CellTransport$Particle" (7 : Nat) "CellTransport$Particle" "x" "I") ∈ z_T := z_T_mem (List.mem_append_right _ (List.mem_of_getElem? (i := 164) (by decide +kernel))) rfl
theorem lk_Line_25 : (Cond.fieldLinkNest "CellTransport$Line" (25 : Nat) "CellTransport$Particle" "x" "I" "CellTransport") ∈ z_T := z_T_mem (List.mem_append_right _ (List.mem_of_getElem? (i := 165) (by decide +kernel))) rfl
theorem lk_CellTransport_172 : (Cond.fieldLinkNest "CellTransport" (172 : Nat) "CellTransport$Particle" "x" "I" "CellTransport") ∈ z_T := z_T_mem (List.mem_append_right _ (List.mem_of_getElem? (i := 166) (by decide +kernel))) rfl
theorem lk_Particle_22 : (Cond.fieldLink "CellTransport$Particle" (22 : Nat) "CellTransport$Particle" "y" "I") ∈ z_T := z_T_mem (List.mem_append_right _ (List.mem_of_getElem? (i := 167) (by decide +kernel))) rfl
theorem lk_Line_30 : (Cond.fieldLinkNest "CellTransport$Line" (30 : Nat) "CellTransport$Particle" "y" "I" "CellTransport") ∈ z_T := z_T_mem (List.mem_append_right _ (List.mem_of_getElem? (i := 168) (by decide +kernel))) rfl
theorem lk_CellTransport_175 : (Cond.fieldLinkNest "CellTransport" (175 : Nat) "CellTransport$Particle" "y" "I" "CellTransport") ∈ z_T := z_T_mem (List.mem_append_right _ (List.mem_of_getElem? (i := 169) (by decide +kernel))) rfl
theorem lk_CellTransport_178 : (Cond.fieldLinkNest "CellTransport" (178 : Nat) "CellTransport$Particle" "cell" "I" "CellTransport") ∈ z_T := z_T_mem (List.mem_append_right _ (List.mem_of_getElem? (i := 170) (by decide +kernel))) rfl
theorem lk_Particle_19 : (Cond.fieldLink "CellTransport$Particle" (19 : Nat) "CellTransport$Particle" "direction" "I") ∈ z_T := z_T_mem (List.mem_append_right _ (List.mem_of_getElem? (i := 171) (by decide +kernel))) rfl
theorem lk_CellTransport_190 : (Cond.fieldLinkNest "CellTransport" (190 : Nat) "CellTransport$Particle" "direction" "I" "CellTransport") ∈ z_T := z_T_mem (List.mem_append_right _ (List.mem_of_getElem? (i := 172) (by decide +kernel))) rfl
theorem lk_CellTransport_193 : (Cond.fieldLinkNest "CellTransport" (193 : Nat) "CellTransport$Particle" "budget" "I" "CellTransport") ∈ z_T := z_T_mem (List.mem_append_right _ (List.mem_of_getElem? (i := 173) (by decide +kernel))) rfl
theorem lk_CellTransport_10 : (Cond.fieldLink "CellTransport" (10 : Nat) "CellTransport" "geometry" "LCellTransport$Geometry;") ∈ z_T := z_T_mem (List.mem_append_right _ (List.mem_of_getElem? (i := 185) (by decide +kernel))) rfl
theorem lk_CellTransport_19 : (Cond.fieldLink "CellTransport" (19 : Nat) "CellTransport" "buffer" "LCellTransport$Region;") ∈ z_T := z_T_mem (List.mem_append_right _ (List.mem_of_getElem? (i := 186) (by decide +kernel))) rfl
theorem lk_CellTransport_26 : (Cond.fieldLink "CellTransport" (26 : Nat) "CellTransport" "generator" "LCellTransport$Generator;") ∈ z_T := z_T_mem (List.mem_append_right _ (List.mem_of_getElem? (i := 187) (by decide +kernel))) rfl
theorem lk_CellTransport_33 : (Cond.fieldLink "CellTransport" (33 : Nat) "CellTransport" "counts" "LCellTransport$Counts;") ∈ z_T := z_T_mem (List.mem_append_right _ (List.mem_of_getElem? (i := 188) (by decide +kernel))) rfl
theorem lk_CellTransport_40 : (Cond.fieldLink "CellTransport" (40 : Nat) "CellTransport" "line" "LCellTransport$Line;") ∈ z_T := z_T_mem (List.mem_append_right _ (List.mem_of_getElem? (i := 189) (by decide +kernel))) rfl
theorem lk_CellTransport_47 : (Cond.fieldLink "CellTransport" (47 : Nat) "CellTransport" "particle" "LCellTransport$Particle;") ∈ z_T := z_T_mem (List.mem_append_right _ (List.mem_of_getElem? (i := 190) (by decide +kernel))) rfl
theorem lk_CellTransport_109 : (Cond.fieldLink "CellTransport" (109 : Nat) "CellTransport" "sourceX" "I") ∈ z_T := z_T_mem (List.mem_append_right _ (List.mem_of_getElem? (i := 191) (by decide +kernel))) rfl
theorem lk_CellTransport_112 : (Cond.fieldLink "CellTransport" (112 : Nat) "CellTransport" "sourceY" "I") ∈ z_T := z_T_mem (List.mem_append_right _ (List.mem_of_getElem? (i := 192) (by decide +kernel))) rfl
theorem lk_Particle_13 : (Cond.fieldLinkNest "CellTransport$Particle" (13 : Nat) "CellTransport" "STEP_X" "[I" "CellTransport") ∈ z_T := z_T_mem (List.mem_append_right _ (List.mem_of_getElem? (i := 347) (by decide +kernel))) rfl
theorem lk_Particle_25 : (Cond.fieldLinkNest "CellTransport$Particle" (25 : Nat) "CellTransport" "STEP_Y" "[I" "CellTransport") ∈ z_T := z_T_mem (List.mem_append_right _ (List.mem_of_getElem? (i := 349) (by decide +kernel))) rfl
theorem lk_CellTransport_133 : (Cond.fieldLink "CellTransport" (133 : Nat) "CellTransport" "STEP_X" "[I") ∈ z_T := z_T_mem (List.mem_append_right _ (List.mem_of_getElem? (i := 371) (by decide +kernel))) rfl
theorem lk_CellTransport_137 : (Cond.fieldLink "CellTransport" (137 : Nat) "CellTransport" "STEP_Y" "[I") ∈ z_T := z_T_mem (List.mem_append_right _ (List.mem_of_getElem? (i := 372) (by decide +kernel))) rfl
theorem lk_Model_7 : (Cond.fieldLink "CellTransportModel" (7 : Nat) "CellTransportModel" "kind" "[I") ∈ z_T := z_T_mem (List.mem_append_right _ (List.mem_of_getElem? (i := 407) (by decide +kernel))) rfl
theorem lk_Model_13 : (Cond.fieldLink "CellTransportModel" (13 : Nat) "CellTransportModel" "sa" "[I") ∈ z_T := z_T_mem (List.mem_append_right _ (List.mem_of_getElem? (i := 408) (by decide +kernel))) rfl
theorem lk_Model_16 : (Cond.fieldLink "CellTransportModel" (16 : Nat) "CellTransportModel" "sb" "[I") ∈ z_T := z_T_mem (List.mem_append_right _ (List.mem_of_getElem? (i := 409) (by decide +kernel))) rfl
theorem lk_Model_19 : (Cond.fieldLink "CellTransportModel" (19 : Nat) "CellTransportModel" "sc" "[I") ∈ z_T := z_T_mem (List.mem_append_right _ (List.mem_of_getElem? (i := 410) (by decide +kernel))) rfl
theorem lk_Model_22 : (Cond.fieldLink "CellTransportModel" (22 : Nat) "CellTransportModel" "set" "[Z") ∈ z_T := z_T_mem (List.mem_append_right _ (List.mem_of_getElem? (i := 411) (by decide +kernel))) rfl
theorem lk_Model_26 : (Cond.fieldLink "CellTransportModel" (26 : Nat) "CellTransportModel" "buffer" "[I") ∈ z_T := z_T_mem (List.mem_append_right _ (List.mem_of_getElem? (i := 412) (by decide +kernel))) rfl
theorem lk_Model_70 : (Cond.fieldLink "CellTransportModel" (70 : Nat) "CellTransportModel" "held" "I") ∈ z_T := z_T_mem (List.mem_append_right _ (List.mem_of_getElem? (i := 413) (by decide +kernel))) rfl
theorem lk_Model_29 : (Cond.fieldLink "CellTransportModel" (29 : Nat) "CellTransportModel" "region" "[I") ∈ z_T := z_T_mem (List.mem_append_right _ (List.mem_of_getElem? (i := 414) (by decide +kernel))) rfl
theorem lk_Model_32 : (Cond.fieldLink "CellTransportModel" (32 : Nat) "CellTransportModel" "tokens" "[I") ∈ z_T := z_T_mem (List.mem_append_right _ (List.mem_of_getElem? (i := 415) (by decide +kernel))) rfl
theorem lk_Model_35 : (Cond.fieldLink "CellTransportModel" (35 : Nat) "CellTransportModel" "defined" "[Z") ∈ z_T := z_T_mem (List.mem_append_right _ (List.mem_of_getElem? (i := 416) (by decide +kernel))) rfl
theorem lk_Model_38 : (Cond.fieldLink "CellTransportModel" (38 : Nat) "CellTransportModel" "density" "[I") ∈ z_T := z_T_mem (List.mem_append_right _ (List.mem_of_getElem? (i := 417) (by decide +kernel))) rfl
theorem lk_Model_41 : (Cond.fieldLink "CellTransportModel" (41 : Nat) "CellTransportModel" "absorbs" "[I") ∈ z_T := z_T_mem (List.mem_append_right _ (List.mem_of_getElem? (i := 418) (by decide +kernel))) rfl
theorem lk_Model_44 : (Cond.fieldLink "CellTransportModel" (44 : Nat) "CellTransportModel" "splits" "[I") ∈ z_T := z_T_mem (List.mem_append_right _ (List.mem_of_getElem? (i := 419) (by decide +kernel))) rfl
theorem lk_Model_78 : (Cond.fieldLink "CellTransportModel" (78 : Nat) "CellTransportModel" "sourceX" "I") ∈ z_T := z_T_mem (List.mem_append_right _ (List.mem_of_getElem? (i := 420) (by decide +kernel))) rfl
theorem lk_Model_81 : (Cond.fieldLink "CellTransportModel" (81 : Nat) "CellTransportModel" "sourceY" "I") ∈ z_T := z_T_mem (List.mem_append_right _ (List.mem_of_getElem? (i := 421) (by decide +kernel))) rfl
theorem lk_Model_47 : (Cond.fieldLink "CellTransportModel" (47 : Nat) "CellTransportModel" "generator" "J") ∈ z_T := z_T_mem (List.mem_append_right _ (List.mem_of_getElem? (i := 422) (by decide +kernel))) rfl
theorem lk_Model_51 : (Cond.fieldLink "CellTransportModel" (51 : Nat) "CellTransportModel" "tallies" "[I") ∈ z_T := z_T_mem (List.mem_append_right _ (List.mem_of_getElem? (i := 423) (by decide +kernel))) rfl
theorem lk_Model_54 : (Cond.fieldLink "CellTransportModel" (54 : Nat) "CellTransportModel" "crossings" "[I") ∈ z_T := z_T_mem (List.mem_append_right _ (List.mem_of_getElem? (i := 424) (by decide +kernel))) rfl
theorem lk_Model_57 : (Cond.fieldLink "CellTransportModel" (57 : Nat) "CellTransportModel" "counts" "[I") ∈ z_T := z_T_mem (List.mem_append_right _ (List.mem_of_getElem? (i := 425) (by decide +kernel))) rfl
theorem lk_Model_60 : (Cond.fieldLink "CellTransportModel" (60 : Nat) "CellTransportModel" "px" "[I") ∈ z_T := z_T_mem (List.mem_append_right _ (List.mem_of_getElem? (i := 426) (by decide +kernel))) rfl
theorem lk_Model_63 : (Cond.fieldLink "CellTransportModel" (63 : Nat) "CellTransportModel" "py" "[I") ∈ z_T := z_T_mem (List.mem_append_right _ (List.mem_of_getElem? (i := 427) (by decide +kernel))) rfl
theorem lk_Model_122 : (Cond.fieldLink "CellTransportModel" (122 : Nat) "CellTransportModel" "waiting" "I") ∈ z_T := z_T_mem (List.mem_append_right _ (List.mem_of_getElem? (i := 428) (by decide +kernel))) rfl
theorem lk_Model_119 : (Cond.fieldLink "CellTransportModel" (119 : Nat) "CellTransportModel" "particles" "I") ∈ z_T := z_T_mem (List.mem_append_right _ (List.mem_of_getElem? (i := 429) (by decide +kernel))) rfl
theorem lk_Model_125 : (Cond.fieldLink "CellTransportModel" (125 : Nat) "CellTransportModel" "x" "I") ∈ z_T := z_T_mem (List.mem_append_right _ (List.mem_of_getElem? (i := 430) (by decide +kernel))) rfl
theorem lk_Model_128 : (Cond.fieldLink "CellTransportModel" (128 : Nat) "CellTransportModel" "y" "I") ∈ z_T := z_T_mem (List.mem_append_right _ (List.mem_of_getElem? (i := 431) (by decide +kernel))) rfl
theorem lk_Model_113 : (Cond.fieldLink "CellTransportModel" (113 : Nat) "CellTransportModel" "direction" "I") ∈ z_T := z_T_mem (List.mem_append_right _ (List.mem_of_getElem? (i := 432) (by decide +kernel))) rfl
theorem lk_Model_116 : (Cond.fieldLink "CellTransportModel" (116 : Nat) "CellTransportModel" "budget" "I") ∈ z_T := z_T_mem (List.mem_append_right _ (List.mem_of_getElem? (i := 433) (by decide +kernel))) rfl
theorem lk_Generator_15 : (Cond.constant "CellTransport$Generator" (15 : Nat) (2147483647 : Int32)) ∈ z_T := z_T_mem (List.mem_append_right _ (List.mem_of_getElem? (i := 279) (by decide +kernel))) rfl
theorem lk_CellTransport_118 : (Cond.constant "CellTransport" (118 : Nat) (100000 : Int32)) ∈ z_T := z_T_mem (List.mem_append_right _ (List.mem_of_getElem? (i := 284) (by decide +kernel))) rfl
theorem lk_Generator_16 : (Cond.constant "CellTransport$Generator" (16 : Nat) (1103515245 : Int32)) ∈ z_T := z_T_mem (List.mem_append_right _ (List.mem_of_getElem? (i := 289) (by decide +kernel))) rfl
theorem lk_Model_84 : (Cond.constantLong "CellTransportModel" (84 : Nat) (2147483648 : Int64)) ∈ z_T := z_T_mem (List.mem_append_right _ (List.mem_of_getElem? (i := 521) (by decide +kernel))) rfl
theorem lk_Model_92 : (Cond.constant "CellTransportModel" (92 : Nat) (100000 : Int32)) ∈ z_T := z_T_mem (List.mem_append_right _ (List.mem_of_getElem? (i := 526) (by decide +kernel))) rfl
theorem lk_Model_86 : (Cond.constantLong "CellTransportModel" (86 : Nat) (1103515245 : Int64)) ∈ z_T := z_T_mem (List.mem_append_right _ (List.mem_of_getElem? (i := 531) (by decide +kernel))) rfl
theorem lk_Model_88 : (Cond.constantLong "CellTransportModel" (88 : Nat) (12345 : Int64)) ∈ z_T := z_T_mem (List.mem_append_right _ (List.mem_of_getElem? (i := 532) (by decide +kernel))) rfl
theorem lk_Model_90 : (Cond.constantLong "CellTransportModel" (90 : Nat) (256 : Int64)) ∈ z_T := z_T_mem (List.mem_append_right _ (List.mem_of_getElem? (i := 533) (by decide +kernel))) rfl
theorem mt_CellTransport_surface : z_mv y_CellTransport_surface b_CellTransport_surface 8 (some .int) 5 := ⟨⟨z_T_mem (List.mem_append_right _ (List.mem_of_getElem? (i := 211) (by decide +kernel))) rfl, z_T_mem (List.mem_append_right _ (List.mem_of_getElem? (i := 212) (by decide +kernel))) rfl⟩, z_T_mem (List.mem_append_right _ (List.mem_of_getElem? (i := 1) (by decide +kernel))) rfl, z_T_mem (List.mem_append_right _ (List.mem_of_getElem? (i := 213) (by decide +kernel))) rfl, ⟨by decide, by decide⟩, by decide +kernel, by decide⟩
theorem mt_CellTransport_token : z_mv y_CellTransport_token b_CellTransport_token 2 (some .int) 1 := ⟨⟨z_T_mem (List.mem_append_right _ (List.mem_of_getElem? (i := 231) (by decide +kernel))) rfl, z_T_mem (List.mem_append_right _ (List.mem_of_getElem? (i := 232) (by decide +kernel))) rfl⟩, z_T_mem (List.mem_append_right _ (List.mem_of_getElem? (i := 1) (by decide +kernel))) rfl, z_T_mem (List.mem_append_right _ (List.mem_of_getElem? (i := 233) (by decide +kernel))) rfl, ⟨by decide, by decide⟩, by decide +kernel, by decide⟩
theorem mt_CellTransport_cell : z_mv y_CellTransport_cell b_CellTransport_cell 7 (some .int) 4 := ⟨⟨z_T_mem (List.mem_append_right _ (List.mem_of_getElem? (i := 239) (by decide +kernel))) rfl, z_T_mem (List.mem_append_right _ (List.mem_of_getElem? (i := 240) (by decide +kernel))) rfl⟩, z_T_mem (List.mem_append_right _ (List.mem_of_getElem? (i := 1) (by decide +kernel))) rfl, z_T_mem (List.mem_append_right _ (List.mem_of_getElem? (i := 241) (by decide +kernel))) rfl, ⟨by decide, by decide⟩, by decide +kernel, by decide⟩
theorem mt_CellTransport_undefine : z_mv y_CellTransport_undefine b_CellTransport_undefine 4 (some .int) 1 := ⟨⟨z_T_mem (List.mem_append_right _ (List.mem_of_getElem? (i := 264) (by decide +kernel))) rfl, z_T_mem (List.mem_append_right _ (List.mem_of_getElem? (i := 265) (by decide +kernel))) rfl⟩, z_T_mem (List.mem_append_right _ (List.mem_of_getElem? (i := 1) (by decide +kernel))) rfl, z_T_mem (List.mem_append_right _ (List.mem_of_getElem? (i := 266) (by decide +kernel))) rfl, ⟨by decide, by decide⟩, by decide +kernel, by decide⟩
theorem mt_CellTransport_source : z_mv y_CellTransport_source b_CellTransport_source 3 (some .int) 2 := ⟨⟨z_T_mem (List.mem_append_right _ (List.mem_of_getElem? (i := 268) (by decide +kernel))) rfl, z_T_mem (List.mem_append_right _ (List.mem_of_getElem? (i := 269) (by decide +kernel))) rfl⟩, z_T_mem (List.mem_append_right _ (List.mem_of_getElem? (i := 1) (by decide +kernel))) rfl, z_T_mem (List.mem_append_right _ (List.mem_of_getElem? (i := 270) (by decide +kernel))) rfl, ⟨by decide, by decide⟩, by decide +kernel, by decide⟩
theorem mt_CellTransport_seed : z_mv y_CellTransport_seed b_CellTransport_seed 2 none 1 := ⟨⟨z_T_mem (List.mem_append_right _ (List.mem_of_getElem? (i := 272) (by decide +kernel))) rfl, z_T_mem (List.mem_append_right _ (List.mem_of_getElem? (i := 273) (by decide +kernel))) rfl⟩, z_T_mem (List.mem_append_right _ (List.mem_of_getElem? (i := 1) (by decide +kernel))) rfl, z_T_mem (List.mem_append_right _ (List.mem_of_getElem? (i := 274) (by decide +kernel))) rfl, ⟨by decide, by decide⟩, by decide +kernel, by decide⟩
theorem mt_CellTransport_skip : z_mv y_CellTransport_skip b_CellTransport_skip 2 (some .int) 1 := ⟨⟨z_T_mem (List.mem_append_right _ (List.mem_of_getElem? (i := 281) (by decide +kernel))) rfl, z_T_mem (List.mem_append_right _ (List.mem_of_getElem? (i := 282) (by decide +kernel))) rfl⟩, z_T_mem (List.mem_append_right _ (List.mem_of_getElem? (i := 1) (by decide +kernel))) rfl, z_T_mem (List.mem_append_right _ (List.mem_of_getElem? (i := 283) (by decide +kernel))) rfl, ⟨by decide, by decide⟩, by decide +kernel, by decide⟩
theorem mt_CellTransport_state : z_mv y_CellTransport_state b_CellTransport_state 1 (some .int) 0 := ⟨⟨z_T_mem (List.mem_append_right _ (List.mem_of_getElem? (i := 291) (by decide +kernel))) rfl, z_T_mem (List.mem_append_right _ (List.mem_of_getElem? (i := 292) (by decide +kernel))) rfl⟩, z_T_mem (List.mem_append_right _ (List.mem_of_getElem? (i := 1) (by decide +kernel))) rfl, z_T_mem (List.mem_append_right _ (List.mem_of_getElem? (i := 293) (by decide +kernel))) rfl, ⟨by decide, by decide⟩, by decide +kernel, by decide⟩
theorem mt_CellTransport_run : z_mv y_CellTransport_run b_CellTransport_run 4 (some .int) 1 := ⟨⟨z_T_mem (List.mem_append_right _ (List.mem_of_getElem? (i := 295) (by decide +kernel))) rfl, z_T_mem (List.mem_append_right _ (List.mem_of_getElem? (i := 296) (by decide +kernel))) rfl⟩, z_T_mem (List.mem_append_right _ (List.mem_of_getElem? (i := 1) (by decide +kernel))) rfl, z_T_mem (List.mem_append_right _ (List.mem_of_getElem? (i := 297) (by decide +kernel))) rfl, ⟨by decide, by decide⟩, by decide +kernel, by decide⟩
theorem mt_CellTransport_where : z_mv y_CellTransport_where b_CellTransport_where 3 (some .int) 2 := ⟨⟨z_T_mem (List.mem_append_right _ (List.mem_of_getElem? (i := 364) (by decide +kernel))) rfl, z_T_mem (List.mem_append_right _ (List.mem_of_getElem? (i := 365) (by decide +kernel))) rfl⟩, z_T_mem (List.mem_append_right _ (List.mem_of_getElem? (i := 1) (by decide +kernel))) rfl, z_T_mem (List.mem_append_right _ (List.mem_of_getElem? (i := 366) (by decide +kernel))) rfl, ⟨by decide, by decide⟩, by decide +kernel, by decide⟩
theorem mt_CellTransport_reach : z_mv y_CellTransport_reach b_CellTransport_reach 6 (some .int) 3 := ⟨⟨z_T_mem (List.mem_append_right _ (List.mem_of_getElem? (i := 368) (by decide +kernel))) rfl, z_T_mem (List.mem_append_right _ (List.mem_of_getElem? (i := 369) (by decide +kernel))) rfl⟩, z_T_mem (List.mem_append_right _ (List.mem_of_getElem? (i := 1) (by decide +kernel))) rfl, z_T_mem (List.mem_append_right _ (List.mem_of_getElem? (i := 370) (by decide +kernel))) rfl, ⟨by decide, by decide⟩, by decide +kernel, by decide⟩
theorem mt_CellTransport_tally : z_mv y_CellTransport_tally b_CellTransport_tally 3 (some .int) 2 := ⟨⟨z_T_mem (List.mem_append_right _ (List.mem_of_getElem? (i := 374) (by decide +kernel))) rfl, z_T_mem (List.mem_append_right _ (List.mem_of_getElem? (i := 375) (by decide +kernel))) rfl⟩, z_T_mem (List.mem_append_right _ (List.mem_of_getElem? (i := 1) (by decide +kernel))) rfl, z_T_mem (List.mem_append_right _ (List.mem_of_getElem? (i := 376) (by decide +kernel))) rfl, ⟨by decide, by decide⟩, by decide +kernel, by decide⟩
theorem mt_CellTransport_crossed : z_mv y_CellTransport_crossed b_CellTransport_crossed 3 (some .int) 2 := ⟨⟨z_T_mem (List.mem_append_right _ (List.mem_of_getElem? (i := 378) (by decide +kernel))) rfl, z_T_mem (List.mem_append_right _ (List.mem_of_getElem? (i := 379) (by decide +kernel))) rfl⟩, z_T_mem (List.mem_append_right _ (List.mem_of_getElem? (i := 1) (by decide +kernel))) rfl, z_T_mem (List.mem_append_right _ (List.mem_of_getElem? (i := 380) (by decide +kernel))) rfl, ⟨by decide, by decide⟩, by decide +kernel, by decide⟩
theorem mt_CellTransport_count : z_mv y_CellTransport_count b_CellTransport_count 2 (some .int) 1 := ⟨⟨z_T_mem (List.mem_append_right _ (List.mem_of_getElem? (i := 382) (by decide +kernel))) rfl, z_T_mem (List.mem_append_right _ (List.mem_of_getElem? (i := 383) (by decide +kernel))) rfl⟩, z_T_mem (List.mem_append_right _ (List.mem_of_getElem? (i := 1) (by decide +kernel))) rfl, z_T_mem (List.mem_append_right _ (List.mem_of_getElem? (i := 384) (by decide +kernel))) rfl, ⟨by decide, by decide⟩, by decide +kernel, by decide⟩
theorem mt_CellTransport_clear : z_mv y_CellTransport_clear b_CellTransport_clear 1 none 0 := ⟨⟨z_T_mem (List.mem_append_right _ (List.mem_of_getElem? (i := 391) (by decide +kernel))) rfl, z_T_mem (List.mem_append_right _ (List.mem_of_getElem? (i := 392) (by decide +kernel))) rfl⟩, z_T_mem (List.mem_append_right _ (List.mem_of_getElem? (i := 1) (by decide +kernel))) rfl, z_T_mem (List.mem_append_right _ (List.mem_of_getElem? (i := 393) (by decide +kernel))) rfl, ⟨by decide, by decide⟩, by decide +kernel, by decide⟩
theorem mt_CellTransport_isBetween : z_ms y_CellTransport_isBetween b_CellTransport_isBetween 3 (some .boolean) 3 := ⟨z_T_mem (List.mem_append_right _ (List.mem_of_getElem? (i := 215) (by decide +kernel))) rfl, z_T_mem (List.mem_append_right _ (List.mem_of_getElem? (i := 1) (by decide +kernel))) rfl, z_T_mem (List.mem_append_right _ (List.mem_of_getElem? (i := 216) (by decide +kernel))) rfl, ⟨by decide, by decide⟩, by decide +kernel, by decide⟩
theorem mt_CellTransport_areWithin : z_ms y_CellTransport_areWithin b_CellTransport_areWithin 3 (some .boolean) 3 := ⟨z_T_mem (List.mem_append_right _ (List.mem_of_getElem? (i := 221) (by decide +kernel))) rfl, z_T_mem (List.mem_append_right _ (List.mem_of_getElem? (i := 1) (by decide +kernel))) rfl, z_T_mem (List.mem_append_right _ (List.mem_of_getElem? (i := 222) (by decide +kernel))) rfl, ⟨by decide, by decide⟩, by decide +kernel, by decide⟩
theorem mt_CellTransport_isSurface : z_ms y_CellTransport_isSurface b_CellTransport_isSurface 4 (some .boolean) 4 := ⟨z_T_mem (List.mem_append_right _ (List.mem_of_getElem? (i := 218) (by decide +kernel))) rfl, z_T_mem (List.mem_append_right _ (List.mem_of_getElem? (i := 1) (by decide +kernel))) rfl, z_T_mem (List.mem_append_right _ (List.mem_of_getElem? (i := 219) (by decide +kernel))) rfl, ⟨by decide, by decide⟩, by decide +kernel, by decide⟩
theorem mt_CellTransport_areShares : z_ms y_CellTransport_areShares b_CellTransport_areShares 2 (some .boolean) 2 := ⟨z_T_mem (List.mem_append_right _ (List.mem_of_getElem? (i := 243) (by decide +kernel))) rfl, z_T_mem (List.mem_append_right _ (List.mem_of_getElem? (i := 1) (by decide +kernel))) rfl, z_T_mem (List.mem_append_right _ (List.mem_of_getElem? (i := 244) (by decide +kernel))) rfl, ⟨by decide, by decide⟩, by decide +kernel, by decide⟩
theorem mt_CellTransport_oneIf : z_ms y_CellTransport_oneIf b_CellTransport_oneIf 1 (some .int) 1 := ⟨z_T_mem (List.mem_append_right _ (List.mem_of_getElem? (i := 224) (by decide +kernel))) rfl, z_T_mem (List.mem_append_right _ (List.mem_of_getElem? (i := 1) (by decide +kernel))) rfl, z_T_mem (List.mem_append_right _ (List.mem_of_getElem? (i := 225) (by decide +kernel))) rfl, ⟨by decide, by decide⟩, by decide +kernel, by decide⟩
theorem mt_CellTransport_playHistory : z_mv y_CellTransport_playHistory b_CellTransport_playHistory 2 (some .int) 0 := ⟨⟨z_T_mem (List.mem_append_right _ (List.mem_of_getElem? (i := 300) (by decide +kernel))) rfl, z_T_mem (List.mem_append_left _ (by decide +kernel)) rfl⟩, z_T_mem (List.mem_append_right _ (List.mem_of_getElem? (i := 1) (by decide +kernel))) rfl, z_T_mem (List.mem_append_right _ (List.mem_of_getElem? (i := 301) (by decide +kernel))) rfl, ⟨by decide, by decide⟩, by decide +kernel, by decide⟩
theorem mt_CellTransport_fly : z_mv y_CellTransport_fly b_CellTransport_fly 2 none 0 := ⟨⟨z_T_mem (List.mem_append_right _ (List.mem_of_getElem? (i := 316) (by decide +kernel))) rfl, z_T_mem (List.mem_append_left _ (by decide +kernel)) rfl⟩, z_T_mem (List.mem_append_right _ (List.mem_of_getElem? (i := 1) (by decide +kernel))) rfl, z_T_mem (List.mem_append_right _ (List.mem_of_getElem? (i := 317) (by decide +kernel))) rfl, ⟨by decide, by decide⟩, by decide +kernel, by decide⟩
theorem mt_CellTransport_aim : z_mv y_CellTransport_aim b_CellTransport_aim 1 none 0 := ⟨⟨z_T_mem (List.mem_append_right _ (List.mem_of_getElem? (i := 333) (by decide +kernel))) rfl, z_T_mem (List.mem_append_left _ (by decide +kernel)) rfl⟩, z_T_mem (List.mem_append_right _ (List.mem_of_getElem? (i := 1) (by decide +kernel))) rfl, z_T_mem (List.mem_append_right _ (List.mem_of_getElem? (i := 334) (by decide +kernel))) rfl, ⟨by decide, by decide⟩, by decide +kernel, by decide⟩
theorem mt_CellTransport_survivesStep : z_mv y_CellTransport_survivesStep b_CellTransport_survivesStep 3 (some .boolean) 0 := ⟨⟨z_T_mem (List.mem_append_right _ (List.mem_of_getElem? (i := 341) (by decide +kernel))) rfl, z_T_mem (List.mem_append_left _ (by decide +kernel)) rfl⟩, z_T_mem (List.mem_append_right _ (List.mem_of_getElem? (i := 1) (by decide +kernel))) rfl, z_T_mem (List.mem_append_right _ (List.mem_of_getElem? (i := 342) (by decide +kernel))) rfl, ⟨by decide, by decide⟩, by decide +kernel, by decide⟩
theorem mt_CellTransport_survivesCollision : z_mv y_CellTransport_survivesCollision b_CellTransport_survivesCollision 4 (some .boolean) 1 := ⟨⟨z_T_mem (List.mem_append_right _ (List.mem_of_getElem? (i := 357) (by decide +kernel))) rfl, z_T_mem (List.mem_append_left _ (by decide +kernel)) rfl⟩, z_T_mem (List.mem_append_right _ (List.mem_of_getElem? (i := 1) (by decide +kernel))) rfl, z_T_mem (List.mem_append_right _ (List.mem_of_getElem? (i := 358) (by decide +kernel))) rfl, ⟨by decide, by decide⟩, by decide +kernel, by decide⟩
theorem mt_CellTransport_split : z_mv y_CellTransport_split b_CellTransport_split 2 none 0 := ⟨⟨z_T_mem (List.mem_append_right _ (List.mem_of_getElem? (i := 361) (by decide +kernel))) rfl, z_T_mem (List.mem_append_left _ (by decide +kernel)) rfl⟩, z_T_mem (List.mem_append_right _ (List.mem_of_getElem? (i := 1) (by decide +kernel))) rfl, z_T_mem (List.mem_append_right _ (List.mem_of_getElem? (i := 362) (by decide +kernel))) rfl, ⟨by decide, by decide⟩, by decide +kernel, by decide⟩
theorem mt_Model_out : z_ms y_Model_out b_Model_out 3 (some .boolean) 3 := ⟨z_T_mem (List.mem_append_right _ (List.mem_of_getElem? (i := 495) (by decide +kernel))) rfl, z_T_mem (List.mem_append_right _ (List.mem_of_getElem? (i := 10) (by decide +kernel))) rfl, z_T_mem (List.mem_append_right _ (List.mem_of_getElem? (i := 496) (by decide +kernel))) rfl, ⟨by decide, by decide⟩, by decide +kernel, by decide⟩
theorem mt_Model_surface : z_mv y_Model_surface b_Model_surface 8 (some .int) 5 := ⟨⟨z_T_mem (List.mem_append_right _ (List.mem_of_getElem? (i := 491) (by decide +kernel))) rfl, z_T_mem (List.mem_append_right _ (List.mem_of_getElem? (i := 492) (by decide +kernel))) rfl⟩, z_T_mem (List.mem_append_right _ (List.mem_of_getElem? (i := 10) (by decide +kernel))) rfl, z_T_mem (List.mem_append_right _ (List.mem_of_getElem? (i := 493) (by decide +kernel))) rfl, ⟨by decide, by decide⟩, by decide +kernel, by decide⟩
theorem mt_Model_token : z_mv y_Model_token b_Model_token 2 (some .int) 1 := ⟨⟨z_T_mem (List.mem_append_right _ (List.mem_of_getElem? (i := 498) (by decide +kernel))) rfl, z_T_mem (List.mem_append_right _ (List.mem_of_getElem? (i := 499) (by decide +kernel))) rfl⟩, z_T_mem (List.mem_append_right _ (List.mem_of_getElem? (i := 10) (by decide +kernel))) rfl, z_T_mem (List.mem_append_right _ (List.mem_of_getElem? (i := 500) (by decide +kernel))) rfl, ⟨by decide, by decide⟩, by decide +kernel, by decide⟩
theorem mt_Model_told : z_mv y_Model_told b_Model_told 4 (some .boolean) 0 := ⟨⟨z_T_mem (List.mem_append_right _ (List.mem_of_getElem? (i := 507) (by decide +kernel))) rfl, z_T_mem (List.mem_append_left _ (by decide +kernel)) rfl⟩, z_T_mem (List.mem_append_right _ (List.mem_of_getElem? (i := 10) (by decide +kernel))) rfl, z_T_mem (List.mem_append_right _ (List.mem_of_getElem? (i := 508) (by decide +kernel))) rfl, ⟨by decide, by decide⟩, by decide +kernel, by decide⟩
theorem mt_Model_cell : z_mv y_Model_cell b_Model_cell 8 (some .int) 4 := ⟨⟨z_T_mem (List.mem_append_right _ (List.mem_of_getElem? (i := 502) (by decide +kernel))) rfl, z_T_mem (List.mem_append_right _ (List.mem_of_getElem? (i := 503) (by decide +kernel))) rfl⟩, z_T_mem (List.mem_append_right _ (List.mem_of_getElem? (i := 10) (by decide +kernel))) rfl, z_T_mem (List.mem_append_right _ (List.mem_of_getElem? (i := 504) (by decide +kernel))) rfl, ⟨by decide, by decide⟩, by decide +kernel, by decide⟩
theorem mt_Model_undefine : z_mv y_Model_undefine b_Model_undefine 3 (some .int) 1 := ⟨⟨z_T_mem (List.mem_append_right _ (List.mem_of_getElem? (i := 510) (by decide +kernel))) rfl, z_T_mem (List.mem_append_right _ (List.mem_of_getElem? (i := 511) (by decide +kernel))) rfl⟩, z_T_mem (List.mem_append_right _ (List.mem_of_getElem? (i := 10) (by decide +kernel))) rfl, z_T_mem (List.mem_append_right _ (List.mem_of_getElem? (i := 512) (by decide +kernel))) rfl, ⟨by decide, by decide⟩, by decide +kernel, by decide⟩
theorem mt_Model_source : z_mv y_Model_source b_Model_source 3 (some .int) 2 := ⟨⟨z_T_mem (List.mem_append_right _ (List.mem_of_getElem? (i := 514) (by decide +kernel))) rfl, z_T_mem (List.mem_append_right _ (List.mem_of_getElem? (i := 515) (by decide +kernel))) rfl⟩, z_T_mem (List.mem_append_right _ (List.mem_of_getElem? (i := 10) (by decide +kernel))) rfl, z_T_mem (List.mem_append_right _ (List.mem_of_getElem? (i := 516) (by decide +kernel))) rfl, ⟨by decide, by decide⟩, by decide +kernel, by decide⟩
theorem mt_Model_seed : z_mv y_Model_seed b_Model_seed 2 none 1 := ⟨⟨z_T_mem (List.mem_append_right _ (List.mem_of_getElem? (i := 518) (by decide +kernel))) rfl, z_T_mem (List.mem_append_right _ (List.mem_of_getElem? (i := 519) (by decide +kernel))) rfl⟩, z_T_mem (List.mem_append_right _ (List.mem_of_getElem? (i := 10) (by decide +kernel))) rfl, z_T_mem (List.mem_append_right _ (List.mem_of_getElem? (i := 520) (by decide +kernel))) rfl, ⟨by decide, by decide⟩, by decide +kernel, by decide⟩
theorem mt_Model_draw : z_mv y_Model_draw b_Model_draw 2 (some .int) 1 := ⟨⟨z_T_mem (List.mem_append_right _ (List.mem_of_getElem? (i := 529) (by decide +kernel))) rfl, z_T_mem (List.mem_append_left _ (by decide +kernel)) rfl⟩, z_T_mem (List.mem_append_right _ (List.mem_of_getElem? (i := 10) (by decide +kernel))) rfl, z_T_mem (List.mem_append_right _ (List.mem_of_getElem? (i := 530) (by decide +kernel))) rfl, ⟨by decide, by decide⟩, by decide +kernel, by decide⟩
theorem mt_Model_skip : z_mv y_Model_skip b_Model_skip 4 (some .int) 1 := ⟨⟨z_T_mem (List.mem_append_right _ (List.mem_of_getElem? (i := 523) (by decide +kernel))) rfl, z_T_mem (List.mem_append_right _ (List.mem_of_getElem? (i := 524) (by decide +kernel))) rfl⟩, z_T_mem (List.mem_append_right _ (List.mem_of_getElem? (i := 10) (by decide +kernel))) rfl, z_T_mem (List.mem_append_right _ (List.mem_of_getElem? (i := 525) (by decide +kernel))) rfl, ⟨by decide, by decide⟩, by decide +kernel, by decide⟩
theorem mt_Model_state : z_mv y_Model_state b_Model_state 1 (some .int) 0 := ⟨⟨z_T_mem (List.mem_append_right _ (List.mem_of_getElem? (i := 535) (by decide +kernel))) rfl, z_T_mem (List.mem_append_right _ (List.mem_of_getElem? (i := 536) (by decide +kernel))) rfl⟩, z_T_mem (List.mem_append_right _ (List.mem_of_getElem? (i := 10) (by decide +kernel))) rfl, z_T_mem (List.mem_append_right _ (List.mem_of_getElem? (i := 537) (by decide +kernel))) rfl, ⟨by decide, by decide⟩, by decide +kernel, by decide⟩
theorem mt_Model_holds : z_mv y_Model_holds b_Model_holds 6 (some .boolean) 3 := ⟨⟨z_T_mem (List.mem_append_right _ (List.mem_of_getElem? (i := 552) (by decide +kernel))) rfl, z_T_mem (List.mem_append_left _ (by decide +kernel)) rfl⟩, z_T_mem (List.mem_append_right _ (List.mem_of_getElem? (i := 10) (by decide +kernel))) rfl, z_T_mem (List.mem_append_right _ (List.mem_of_getElem? (i := 553) (by decide +kernel))) rfl, ⟨by decide, by decide⟩, by decide +kernel, by decide⟩
theorem mt_Model_inside : z_mv y_Model_inside b_Model_inside 9 (some .boolean) 3 := ⟨⟨z_T_mem (List.mem_append_right _ (List.mem_of_getElem? (i := 548) (by decide +kernel))) rfl, z_T_mem (List.mem_append_left _ (by decide +kernel)) rfl⟩, z_T_mem (List.mem_append_right _ (List.mem_of_getElem? (i := 10) (by decide +kernel))) rfl, z_T_mem (List.mem_append_right _ (List.mem_of_getElem? (i := 549) (by decide +kernel))) rfl, ⟨by decide, by decide⟩, by decide +kernel, by decide⟩
theorem mt_Model_at : z_mv y_Model_at b_Model_at 4 (some .int) 2 := ⟨⟨z_T_mem (List.mem_append_right _ (List.mem_of_getElem? (i := 544) (by decide +kernel))) rfl, z_T_mem (List.mem_append_left _ (by decide +kernel)) rfl⟩, z_T_mem (List.mem_append_right _ (List.mem_of_getElem? (i := 10) (by decide +kernel))) rfl, z_T_mem (List.mem_append_right _ (List.mem_of_getElem? (i := 545) (by decide +kernel))) rfl, ⟨by decide, by decide⟩, by decide +kernel, by decide⟩
theorem mt_Model_stepX : z_ms y_Model_stepX b_Model_stepX 1 (some .int) 1 := ⟨z_T_mem (List.mem_append_right _ (List.mem_of_getElem? (i := 559) (by decide +kernel))) rfl, z_T_mem (List.mem_append_right _ (List.mem_of_getElem? (i := 10) (by decide +kernel))) rfl, z_T_mem (List.mem_append_right _ (List.mem_of_getElem? (i := 560) (by decide +kernel))) rfl, ⟨by decide, by decide⟩, by decide +kernel, by decide⟩
theorem mt_Model_stepY : z_ms y_Model_stepY b_Model_stepY 1 (some .int) 1 := ⟨z_T_mem (List.mem_append_right _ (List.mem_of_getElem? (i := 562) (by decide +kernel))) rfl, z_T_mem (List.mem_append_right _ (List.mem_of_getElem? (i := 10) (by decide +kernel))) rfl, z_T_mem (List.mem_append_right _ (List.mem_of_getElem? (i := 563) (by decide +kernel))) rfl, ⟨by decide, by decide⟩, by decide +kernel, by decide⟩
theorem mt_Model_where : z_mv y_Model_where b_Model_where 3 (some .int) 2 := ⟨⟨z_T_mem (List.mem_append_right _ (List.mem_of_getElem? (i := 539) (by decide +kernel))) rfl, z_T_mem (List.mem_append_right _ (List.mem_of_getElem? (i := 540) (by decide +kernel))) rfl⟩, z_T_mem (List.mem_append_right _ (List.mem_of_getElem? (i := 10) (by decide +kernel))) rfl, z_T_mem (List.mem_append_right _ (List.mem_of_getElem? (i := 541) (by decide +kernel))) rfl, ⟨by decide, by decide⟩, by decide +kernel, by decide⟩
theorem mt_Model_reach : z_mv y_Model_reach b_Model_reach 6 (some .int) 3 := ⟨⟨z_T_mem (List.mem_append_right _ (List.mem_of_getElem? (i := 555) (by decide +kernel))) rfl, z_T_mem (List.mem_append_right _ (List.mem_of_getElem? (i := 556) (by decide +kernel))) rfl⟩, z_T_mem (List.mem_append_right _ (List.mem_of_getElem? (i := 10) (by decide +kernel))) rfl, z_T_mem (List.mem_append_right _ (List.mem_of_getElem? (i := 557) (by decide +kernel))) rfl, ⟨by decide, by decide⟩, by decide +kernel, by decide⟩
theorem mt_Model_turn : z_mv y_Model_turn b_Model_turn 1 none 0 := ⟨⟨z_T_mem (List.mem_append_right _ (List.mem_of_getElem? (i := 578) (by decide +kernel))) rfl, z_T_mem (List.mem_append_left _ (by decide +kernel)) rfl⟩, z_T_mem (List.mem_append_right _ (List.mem_of_getElem? (i := 10) (by decide +kernel))) rfl, z_T_mem (List.mem_append_right _ (List.mem_of_getElem? (i := 579) (by decide +kernel))) rfl, ⟨by decide, by decide⟩, by decide +kernel, by decide⟩
theorem mt_Model_join : z_mv y_Model_join b_Model_join 1 none 0 := ⟨⟨z_T_mem (List.mem_append_right _ (List.mem_of_getElem? (i := 586) (by decide +kernel))) rfl, z_T_mem (List.mem_append_left _ (by decide +kernel)) rfl⟩, z_T_mem (List.mem_append_right _ (List.mem_of_getElem? (i := 10) (by decide +kernel))) rfl, z_T_mem (List.mem_append_right _ (List.mem_of_getElem? (i := 587) (by decide +kernel))) rfl, ⟨by decide, by decide⟩, by decide +kernel, by decide⟩
theorem mt_Model_collide : z_mv y_Model_collide b_Model_collide 3 (some .boolean) 1 := ⟨⟨z_T_mem (List.mem_append_right _ (List.mem_of_getElem? (i := 582) (by decide +kernel))) rfl, z_T_mem (List.mem_append_left _ (by decide +kernel)) rfl⟩, z_T_mem (List.mem_append_right _ (List.mem_of_getElem? (i := 10) (by decide +kernel))) rfl, z_T_mem (List.mem_append_right _ (List.mem_of_getElem? (i := 583) (by decide +kernel))) rfl, ⟨by decide, by decide⟩, by decide +kernel, by decide⟩
theorem mt_Model_fly : z_mv y_Model_fly b_Model_fly 4 none 0 := ⟨⟨z_T_mem (List.mem_append_right _ (List.mem_of_getElem? (i := 574) (by decide +kernel))) rfl, z_T_mem (List.mem_append_left _ (by decide +kernel)) rfl⟩, z_T_mem (List.mem_append_right _ (List.mem_of_getElem? (i := 10) (by decide +kernel))) rfl, z_T_mem (List.mem_append_right _ (List.mem_of_getElem? (i := 575) (by decide +kernel))) rfl, ⟨by decide, by decide⟩, by decide +kernel, by decide⟩
theorem mt_Model_history : z_mv y_Model_history b_Model_history 2 (some .int) 0 := ⟨⟨z_T_mem (List.mem_append_right _ (List.mem_of_getElem? (i := 570) (by decide +kernel))) rfl, z_T_mem (List.mem_append_left _ (by decide +kernel)) rfl⟩, z_T_mem (List.mem_append_right _ (List.mem_of_getElem? (i := 10) (by decide +kernel))) rfl, z_T_mem (List.mem_append_right _ (List.mem_of_getElem? (i := 571) (by decide +kernel))) rfl, ⟨by decide, by decide⟩, by decide +kernel, by decide⟩
theorem mt_Model_run : z_mv y_Model_run b_Model_run 4 (some .int) 1 := ⟨⟨z_T_mem (List.mem_append_right _ (List.mem_of_getElem? (i := 565) (by decide +kernel))) rfl, z_T_mem (List.mem_append_right _ (List.mem_of_getElem? (i := 566) (by decide +kernel))) rfl⟩, z_T_mem (List.mem_append_right _ (List.mem_of_getElem? (i := 10) (by decide +kernel))) rfl, z_T_mem (List.mem_append_right _ (List.mem_of_getElem? (i := 567) (by decide +kernel))) rfl, ⟨by decide, by decide⟩, by decide +kernel, by decide⟩
theorem mt_Model_tally : z_mv y_Model_tally b_Model_tally 3 (some .int) 2 := ⟨⟨z_T_mem (List.mem_append_right _ (List.mem_of_getElem? (i := 589) (by decide +kernel))) rfl, z_T_mem (List.mem_append_right _ (List.mem_of_getElem? (i := 590) (by decide +kernel))) rfl⟩, z_T_mem (List.mem_append_right _ (List.mem_of_getElem? (i := 10) (by decide +kernel))) rfl, z_T_mem (List.mem_append_right _ (List.mem_of_getElem? (i := 591) (by decide +kernel))) rfl, ⟨by decide, by decide⟩, by decide +kernel, by decide⟩
theorem mt_Model_crossed : z_mv y_Model_crossed b_Model_crossed 3 (some .int) 2 := ⟨⟨z_T_mem (List.mem_append_right _ (List.mem_of_getElem? (i := 593) (by decide +kernel))) rfl, z_T_mem (List.mem_append_right _ (List.mem_of_getElem? (i := 594) (by decide +kernel))) rfl⟩, z_T_mem (List.mem_append_right _ (List.mem_of_getElem? (i := 10) (by decide +kernel))) rfl, z_T_mem (List.mem_append_right _ (List.mem_of_getElem? (i := 595) (by decide +kernel))) rfl, ⟨by decide, by decide⟩, by decide +kernel, by decide⟩
theorem mt_Model_count : z_mv y_Model_count b_Model_count 4 (some .int) 1 := ⟨⟨z_T_mem (List.mem_append_right _ (List.mem_of_getElem? (i := 597) (by decide +kernel))) rfl, z_T_mem (List.mem_append_right _ (List.mem_of_getElem? (i := 598) (by decide +kernel))) rfl⟩, z_T_mem (List.mem_append_right _ (List.mem_of_getElem? (i := 10) (by decide +kernel))) rfl, z_T_mem (List.mem_append_right _ (List.mem_of_getElem? (i := 599) (by decide +kernel))) rfl, ⟨by decide, by decide⟩, by decide +kernel, by decide⟩
theorem mt_Model_clear : z_mv y_Model_clear b_Model_clear 2 none 0 := ⟨⟨z_T_mem (List.mem_append_right _ (List.mem_of_getElem? (i := 601) (by decide +kernel))) rfl, z_T_mem (List.mem_append_right _ (List.mem_of_getElem? (i := 602) (by decide +kernel))) rfl⟩, z_T_mem (List.mem_append_right _ (List.mem_of_getElem? (i := 10) (by decide +kernel))) rfl, z_T_mem (List.mem_append_right _ (List.mem_of_getElem? (i := 603) (by decide +kernel))) rfl, ⟨by decide, by decide⟩, by decide +kernel, by decide⟩
theorem mt_Cell_define : z_mv y_Cell_define b_Cell_define 5 none 4 := ⟨⟨z_T_mem (List.mem_append_right _ (List.mem_of_getElem? (i := 254) (by decide +kernel))) rfl, z_T_mem (List.mem_append_left _ (by decide +kernel)) rfl⟩, z_T_mem (List.mem_append_right _ (List.mem_of_getElem? (i := 4) (by decide +kernel))) rfl, z_T_mem (List.mem_append_right _ (List.mem_of_getElem? (i := 255) (by decide +kernel))) rfl, ⟨by decide, by decide⟩, by decide +kernel, by decide⟩
theorem mt_Counts_addTrack : z_mv y_Counts_addTrack b_Counts_addTrack 3 none 2 := ⟨⟨z_T_mem (List.mem_append_right _ (List.mem_of_getElem? (i := 353) (by decide +kernel))) rfl, z_T_mem (List.mem_append_left _ (by decide +kernel)) rfl⟩, z_T_mem (List.mem_append_right _ (List.mem_of_getElem? (i := 7) (by decide +kernel))) rfl, z_T_mem (List.mem_append_right _ (List.mem_of_getElem? (i := 354) (by decide +kernel))) rfl, ⟨by decide, by decide⟩, by decide +kernel, by decide⟩
theorem mt_Counts_reset : z_mv y_Counts_reset b_Counts_reset 2 none 0 := ⟨⟨z_T_mem (List.mem_append_right _ (List.mem_of_getElem? (i := 396) (by decide +kernel))) rfl, z_T_mem (List.mem_append_left _ (by decide +kernel)) rfl⟩, z_T_mem (List.mem_append_right _ (List.mem_of_getElem? (i := 7) (by decide +kernel))) rfl, z_T_mem (List.mem_append_right _ (List.mem_of_getElem? (i := 397) (by decide +kernel))) rfl, ⟨by decide, by decide⟩, by decide +kernel, by decide⟩
theorem mt_Generator_start : z_mv y_Generator_start b_Generator_start 2 none 1 := ⟨⟨z_T_mem (List.mem_append_right _ (List.mem_of_getElem? (i := 277) (by decide +kernel))) rfl, z_T_mem (List.mem_append_left _ (by decide +kernel)) rfl⟩, z_T_mem (List.mem_append_right _ (List.mem_of_getElem? (i := 6) (by decide +kernel))) rfl, z_T_mem (List.mem_append_right _ (List.mem_of_getElem? (i := 278) (by decide +kernel))) rfl, ⟨by decide, by decide⟩, by decide +kernel, by decide⟩
theorem mt_Generator_draw : z_mv y_Generator_draw b_Generator_draw 1 (some .int) 0 := ⟨⟨z_T_mem (List.mem_append_right _ (List.mem_of_getElem? (i := 337) (by decide +kernel))) rfl, z_T_mem (List.mem_append_left _ (by decide +kernel)) rfl⟩, z_T_mem (List.mem_append_right _ (List.mem_of_getElem? (i := 6) (by decide +kernel))) rfl, z_T_mem (List.mem_append_right _ (List.mem_of_getElem? (i := 338) (by decide +kernel))) rfl, ⟨by decide, by decide⟩, by decide +kernel, by decide⟩
theorem mt_Generator_leap : z_mv y_Generator_leap b_Generator_leap 5 none 1 := ⟨⟨z_T_mem (List.mem_append_right _ (List.mem_of_getElem? (i := 287) (by decide +kernel))) rfl, z_T_mem (List.mem_append_left _ (by decide +kernel)) rfl⟩, z_T_mem (List.mem_append_right _ (List.mem_of_getElem? (i := 6) (by decide +kernel))) rfl, z_T_mem (List.mem_append_right _ (List.mem_of_getElem? (i := 288) (by decide +kernel))) rfl, ⟨by decide, by decide⟩, by decide +kernel, by decide⟩
theorem mt_Geometry_cellAt : z_mv y_Geometry_cellAt b_Geometry_cellAt 4 (some .int) 2 := ⟨⟨z_T_mem (List.mem_append_right _ (List.mem_of_getElem? (i := 320) (by decide +kernel))) rfl, z_T_mem (List.mem_append_left _ (by decide +kernel)) rfl⟩, z_T_mem (List.mem_append_right _ (List.mem_of_getElem? (i := 2) (by decide +kernel))) rfl, z_T_mem (List.mem_append_right _ (List.mem_of_getElem? (i := 321) (by decide +kernel))) rfl, ⟨by decide, by decide⟩, by decide +kernel, by decide⟩
theorem mt_Geometry_definedCells : z_mv y_Geometry_definedCells b_Geometry_definedCells 3 (some .int) 0 := ⟨⟨z_T_mem (List.mem_append_right _ (List.mem_of_getElem? (i := 387) (by decide +kernel))) rfl, z_T_mem (List.mem_append_left _ (by decide +kernel)) rfl⟩, z_T_mem (List.mem_append_right _ (List.mem_of_getElem? (i := 2) (by decide +kernel))) rfl, z_T_mem (List.mem_append_right _ (List.mem_of_getElem? (i := 388) (by decide +kernel))) rfl, ⟨by decide, by decide⟩, by decide +kernel, by decide⟩
theorem mt_Line_empty : z_mv y_Line_empty b_Line_empty 1 none 0 := ⟨⟨z_T_mem (List.mem_append_right _ (List.mem_of_getElem? (i := 304) (by decide +kernel))) rfl, z_T_mem (List.mem_append_left _ (by decide +kernel)) rfl⟩, z_T_mem (List.mem_append_right _ (List.mem_of_getElem? (i := 8) (by decide +kernel))) rfl, z_T_mem (List.mem_append_right _ (List.mem_of_getElem? (i := 305) (by decide +kernel))) rfl, ⟨by decide, by decide⟩, by decide +kernel, by decide⟩
theorem mt_Line_join : z_mv y_Line_join b_Line_join 3 (some .boolean) 2 := ⟨⟨z_T_mem (List.mem_append_right _ (List.mem_of_getElem? (i := 308) (by decide +kernel))) rfl, z_T_mem (List.mem_append_left _ (by decide +kernel)) rfl⟩, z_T_mem (List.mem_append_right _ (List.mem_of_getElem? (i := 8) (by decide +kernel))) rfl, z_T_mem (List.mem_append_right _ (List.mem_of_getElem? (i := 309) (by decide +kernel))) rfl, ⟨by decide, by decide⟩, by decide +kernel, by decide⟩
theorem mt_Line_sendLast : z_mv y_Line_sendLast b_Line_sendLast 2 none 1 := ⟨⟨z_T_mem (List.mem_append_right _ (List.mem_of_getElem? (i := 312) (by decide +kernel))) rfl, z_T_mem (List.mem_append_left _ (by decide +kernel)) rfl⟩, z_T_mem (List.mem_append_right _ (List.mem_of_getElem? (i := 8) (by decide +kernel))) rfl, z_T_mem (List.mem_append_right _ (List.mem_of_getElem? (i := 313) (by decide +kernel))) rfl, ⟨by decide, by decide⟩, by decide +kernel, by decide⟩
theorem mt_Particle_move : z_mv y_Particle_move b_Particle_move 1 none 0 := ⟨⟨z_T_mem (List.mem_append_right _ (List.mem_of_getElem? (i := 345) (by decide +kernel))) rfl, z_T_mem (List.mem_append_left _ (by decide +kernel)) rfl⟩, z_T_mem (List.mem_append_right _ (List.mem_of_getElem? (i := 9) (by decide +kernel))) rfl, z_T_mem (List.mem_append_right _ (List.mem_of_getElem? (i := 346) (by decide +kernel))) rfl, ⟨by decide, by decide⟩, by decide +kernel, by decide⟩
theorem mt_Region_add : z_mv y_Region_add b_Region_add 2 none 1 := ⟨⟨z_T_mem (List.mem_append_right _ (List.mem_of_getElem? (i := 236) (by decide +kernel))) rfl, z_T_mem (List.mem_append_left _ (by decide +kernel)) rfl⟩, z_T_mem (List.mem_append_right _ (List.mem_of_getElem? (i := 5) (by decide +kernel))) rfl, z_T_mem (List.mem_append_right _ (List.mem_of_getElem? (i := 237) (by decide +kernel))) rfl, ⟨by decide, by decide⟩, by decide +kernel, by decide⟩
theorem mt_Region_copyFrom : z_mv y_Region_copyFrom b_Region_copyFrom 2 none 1 := ⟨⟨z_T_mem (List.mem_append_right _ (List.mem_of_getElem? (i := 258) (by decide +kernel))) rfl, z_T_mem (List.mem_append_left _ (by decide +kernel)) rfl⟩, z_T_mem (List.mem_append_right _ (List.mem_of_getElem? (i := 5) (by decide +kernel))) rfl, z_T_mem (List.mem_append_right _ (List.mem_of_getElem? (i := 259) (by decide +kernel))) rfl, ⟨by decide, by decide⟩, by decide +kernel, by decide⟩
theorem mt_Region_isWhole : z_mv y_Region_isWhole b_Region_isWhole 3 (some .boolean) 0 := ⟨⟨z_T_mem (List.mem_append_right _ (List.mem_of_getElem? (i := 247) (by decide +kernel))) rfl, z_T_mem (List.mem_append_left _ (by decide +kernel)) rfl⟩, z_T_mem (List.mem_append_right _ (List.mem_of_getElem? (i := 5) (by decide +kernel))) rfl, z_T_mem (List.mem_append_right _ (List.mem_of_getElem? (i := 248) (by decide +kernel))) rfl, ⟨by decide, by decide⟩, by decide +kernel, by decide⟩
theorem mt_Region_operandsOf : z_ms y_Region_operandsOf b_Region_operandsOf 1 (some .int) 1 := ⟨z_T_mem (List.mem_append_right _ (List.mem_of_getElem? (i := 250) (by decide +kernel))) rfl, z_T_mem (List.mem_append_right _ (List.mem_of_getElem? (i := 5) (by decide +kernel))) rfl, z_T_mem (List.mem_append_right _ (List.mem_of_getElem? (i := 251) (by decide +kernel))) rfl, ⟨by decide, by decide⟩, by decide +kernel, by decide⟩
theorem mt_Region_holds : z_mv y_Region_holds b_Region_holds 8 (some .boolean) 3 := ⟨⟨z_T_mem (List.mem_append_right _ (List.mem_of_getElem? (i := 324) (by decide +kernel))) rfl, z_T_mem (List.mem_append_left _ (by decide +kernel)) rfl⟩, z_T_mem (List.mem_append_right _ (List.mem_of_getElem? (i := 5) (by decide +kernel))) rfl, z_T_mem (List.mem_append_right _ (List.mem_of_getElem? (i := 325) (by decide +kernel))) rfl, ⟨by decide, by decide⟩, by decide +kernel, by decide⟩
theorem mt_Surface_become : z_mv y_Surface_become b_Surface_become 5 none 4 := ⟨⟨z_T_mem (List.mem_append_right _ (List.mem_of_getElem? (i := 228) (by decide +kernel))) rfl, z_T_mem (List.mem_append_left _ (by decide +kernel)) rfl⟩, z_T_mem (List.mem_append_right _ (List.mem_of_getElem? (i := 3) (by decide +kernel))) rfl, z_T_mem (List.mem_append_right _ (List.mem_of_getElem? (i := 229) (by decide +kernel))) rfl, ⟨by decide, by decide⟩, by decide +kernel, by decide⟩
theorem mt_Surface_holds : z_mv y_Surface_holds b_Surface_holds 3 (some .boolean) 2 := ⟨⟨z_T_mem (List.mem_append_right _ (List.mem_of_getElem? (i := 328) (by decide +kernel))) rfl, z_T_mem (List.mem_append_left _ (by decide +kernel)) rfl⟩, z_T_mem (List.mem_append_right _ (List.mem_of_getElem? (i := 3) (by decide +kernel))) rfl, z_T_mem (List.mem_append_right _ (List.mem_of_getElem? (i := 329) (by decide +kernel))) rfl, ⟨by decide, by decide⟩, by decide +kernel, by decide⟩
theorem mt_Arrays_fill : z_ms y_Arrays_fill b_Arrays_fill 4 none 2 := ⟨z_T_mem (List.mem_append_right _ (List.mem_of_getElem? (i := 399) (by decide +kernel))) rfl, z_T_mem (List.mem_append_right _ (List.mem_of_getElem? (i := 12) (by decide +kernel))) rfl, z_T_mem (List.mem_append_right _ (List.mem_of_getElem? (i := 400) (by decide +kernel))) rfl, ⟨by decide, by decide⟩, by decide +kernel, by decide⟩
end
section
section ZS
variable {dA : Nat → ClassId} {ad : Nat → Nat} {k : z_K} {cc : ByteArray} {own : String} {d n pc : Nat} {lv : List (Option Value)} {st : List Value} {M : z_M}
theorem lay_CellTransport : ∀ w ∈ u_ws R_CellTransport F_CellTransport 8, w ∈ z_T := by decide +kernel
theorem g_CellTransport_geometry (C : z_C dA ad k cc own d n) {index : Nat} (hlink : Cond.fieldLink own index "CellTransport" "geometry" "LCellTransport$Geometry;" ∈ z_T) (hdg : decode cc pc = .ok (.getfield index, 3)) (kk : z_X dA ad k (pc + 3) lv (.ref (ad 1) :: st) M) : z_X dA ad k pc lv (.ref (ad 0) :: st) M := x_get C (ci := 0) (T := F_CellTransport) (N := 8) (j := 0) zl_CellTransport (zc_CellTransport _) rfl lay_CellTransport (by decide) rfl hlink rfl hdg kk
theorem g_CellTransport_geometryN (C : z_C dA ad k cc own d n) {index : Nat} {host : String} (hlink : Cond.fieldLinkNest own index "CellTransport" "geometry" "LCellTransport$Geometry;" host ∈ z_T) (hdg : decode cc pc = .ok (.getfield index, 3)) (kk : z_X dA ad k (pc + 3) lv (.ref (ad 1) :: st) M) : z_X dA ad k pc lv (.ref (ad 0) :: st) M := x_getN C (ci := 0) (T := F_CellTransport) (N := 8) (j := 0) zl_CellTransport (zc_CellTransport _) rfl lay_CellTransport (by decide) rfl hlink rfl hdg kk
theorem g_CellTransport_buffer (C : z_C dA ad k cc own d n) {index : Nat} (hlink : Cond.fieldLink own index "CellTransport" "buffer" "LCellTransport$Region;" ∈ z_T) (hdg : decode cc pc = .ok (.getfield index, 3)) (kk : z_X dA ad k (pc + 3) lv (.ref (ad (i_reg 6)) :: st) M) : z_X dA ad k pc lv (.ref (ad 0) :: st) M := x_get C (ci := 0) (T := F_CellTransport) (N := 8) (j := 1) zl_CellTransport (zc_CellTransport _) rfl lay_CellTransport (by decide) rfl hlink rfl hdg kk
theorem g_CellTransport_bufferN (C : z_C dA ad k cc own d n) {index : Nat} {host : String} (hlink : Cond.fieldLinkNest own index "CellTransport" "buffer" "LCellTransport$Region;" host ∈ z_T) (hdg : decode cc pc = .ok (.getfield index, 3)) (kk : z_X dA ad k (pc + 3) lv (.ref (ad (i_reg 6)) :: st) M) : z_X dA ad k pc lv (.ref (ad 0) :: st) M := x_getN C (ci := 0) (T := F_CellTransport) (N := 8) (j := 1) zl_CellTransport (zc_CellTransport _) rfl lay_CellTransport (by decide) rfl hlink rfl hdg kk
theorem g_CellTransport_generator (C : z_C dA ad k cc own d n) {index : Nat} (hlink : Cond.fieldLink own index "CellTransport" "generator" "LCellTransport$Generator;" ∈ z_T) (hdg : decode cc pc = .ok (.getfield index, 3)) (kk : z_X dA ad k (pc + 3) lv (.ref (ad 32) :: st) M) : z_X dA ad k pc lv (.ref (ad 0) :: st) M := x_get C (ci := 0) (T := F_CellTransport) (N := 8) (j := 2) zl_CellTransport (zc_CellTransport _) rfl lay_CellTransport (by decide) rfl hlink rfl hdg kk
theorem g_CellTransport_generatorN (C : z_C dA ad k cc own d n) {index : Nat} {host : String} (hlink : Cond.fieldLinkNest own index "CellTransport" "generator" "LCellTransport$Generator;" host ∈ z_T) (hdg : decode cc pc = .ok (.getfield index, 3)) (kk : z_X dA ad k (pc + 3) lv (.ref (ad 32) :: st) M) : z_X dA ad k pc lv (.ref (ad 0) :: st) M := x_getN C (ci := 0) (T := F_CellTransport) (N := 8) (j := 2) zl_CellTransport (zc_CellTransport _) rfl lay_CellTransport (by decide) rfl hlink rfl hdg kk
theorem g_CellTransport_counts (C : z_C dA ad k cc own d n) {index : Nat} (hlink : Cond.fieldLink own index "CellTransport" "counts" "LCellTransport$Counts;" ∈ z_T) (hdg : decode cc pc = .ok (.getfield index, 3)) (kk : z_X dA ad k (pc + 3) lv (.ref (ad 33) :: st) M) : z_X dA ad k pc lv (.ref (ad 0) :: st) M := x_get C (ci := 0) (T := F_CellTransport) (N := 8) (j := 3) zl_CellTransport (zc_CellTransport _) rfl lay_CellTransport (by decide) rfl hlink rfl hdg kk
theorem g_CellTransport_countsN (C : z_C dA ad k cc own d n) {index : Nat} {host : String} (hlink : Cond.fieldLinkNest own index "CellTransport" "counts" "LCellTransport$Counts;" host ∈ z_T) (hdg : decode cc pc = .ok (.getfield index, 3)) (kk : z_X dA ad k (pc + 3) lv (.ref (ad 33) :: st) M) : z_X dA ad k pc lv (.ref (ad 0) :: st) M := x_getN C (ci := 0) (T := F_CellTransport) (N := 8) (j := 3) zl_CellTransport (zc_CellTransport _) rfl lay_CellTransport (by decide) rfl hlink rfl hdg kk
theorem g_CellTransport_line (C : z_C dA ad k cc own d n) {index : Nat} (hlink : Cond.fieldLink own index "CellTransport" "line" "LCellTransport$Line;" ∈ z_T) (hdg : decode cc pc = .ok (.getfield index, 3)) (kk : z_X dA ad k (pc + 3) lv (.ref (ad 49) :: st) M) : z_X dA ad k pc lv (.ref (ad 0) :: st) M := x_get C (ci := 0) (T := F_CellTransport) (N := 8) (j := 4) zl_CellTransport (zc_CellTransport _) rfl lay_CellTransport (by decide) rfl hlink rfl hdg kk
theorem g_CellTransport_lineN (C : z_C dA ad k cc own d n) {index : Nat} {host : String} (hlink : Cond.fieldLinkNest own index "CellTransport" "line" "LCellTransport$Line;" host ∈ z_T) (hdg : decode cc pc = .ok (.getfield index, 3)) (kk : z_X dA ad k (pc + 3) lv (.ref (ad 49) :: st) M) : z_X dA ad k pc lv (.ref (ad 0) :: st) M := x_getN C (ci := 0) (T := F_CellTransport) (N := 8) (j := 4) zl_CellTransport (zc_CellTransport _) rfl lay_CellTransport (by decide) rfl hlink rfl hdg kk
theorem g_CellTransport_particle (C : z_C dA ad k cc own d n) {index : Nat} (hlink : Cond.fieldLink own index "CellTransport" "particle" "LCellTransport$Particle;" ∈ z_T) (hdg : decode cc pc = .ok (.getfield index, 3)) (kk : z_X dA ad k (pc + 3) lv (.ref (ad 52) :: st) M) : z_X dA ad k pc lv (.ref (ad 0) :: st) M := x_get C (ci := 0) (T := F_CellTransport) (N := 8) (j := 5) zl_CellTransport (zc_CellTransport _) rfl lay_CellTransport (by decide) rfl hlink rfl hdg kk
theorem g_CellTransport_particleN (C : z_C dA ad k cc own d n) {index : Nat} {host : String} (hlink : Cond.fieldLinkNest own index "CellTransport" "particle" "LCellTransport$Particle;" host ∈ z_T) (hdg : decode cc pc = .ok (.getfield index, 3)) (kk : z_X dA ad k (pc + 3) lv (.ref (ad 52) :: st) M) : z_X dA ad k pc lv (.ref (ad 0) :: st) M := x_getN C (ci := 0) (T := F_CellTransport) (N := 8) (j := 5) zl_CellTransport (zc_CellTransport _) rfl lay_CellTransport (by decide) rfl hlink rfl hdg kk
theorem g_CellTransport_sourceX (C : z_C dA ad k cc own d n) {index : Nat} (hlink : Cond.fieldLink own index "CellTransport" "sourceX" "I" ∈ z_T) (hdg : decode cc pc = .ok (.getfield index, 3)) (kk : z_X dA ad k (pc + 3) lv (.int (M 0 6) :: st) M) : z_X dA ad k pc lv (.ref (ad 0) :: st) M := x_get C (ci := 0) (T := F_CellTransport) (N := 8) (j := 6) zl_CellTransport (zc_CellTransport _) rfl lay_CellTransport (by decide) rfl hlink rfl hdg kk
theorem u_CellTransport_sourceX (C : z_C dA ad k cc own d n) {index : Nat} {x : Int32} (hlink : Cond.fieldLink own index "CellTransport" "sourceX" "I" ∈ z_T) (hdg : decode cc pc = .ok (.putfield index, 3)) (kk : z_X dA ad k (pc + 3) lv st (z_sv M 0 6 x)) : z_X dA ad k pc lv (.int x :: .ref (ad 0) :: st) M := x_put C (ci := 0) (T := F_CellTransport) (N := 8) (j := 6) zl_CellTransport (zc_CellTransport _) rfl lay_CellTransport (by decide) rfl t_CellTransport t_CellTransport_ok n_CellTransport rfl rfl rfl (Nat.le_of_ble_eq_true rfl) (by rw [zc_CellTransport _]; rfl) hlink hdg kk
theorem g_CellTransport_sourceXN (C : z_C dA ad k cc own d n) {index : Nat} {host : String} (hlink : Cond.fieldLinkNest own index "CellTransport" "sourceX" "I" host ∈ z_T) (hdg : decode cc pc = .ok (.getfield index, 3)) (kk : z_X dA ad k (pc + 3) lv (.int (M 0 6) :: st) M) : z_X dA ad k pc lv (.ref (ad 0) :: st) M := x_getN C (ci := 0) (T := F_CellTransport) (N := 8) (j := 6) zl_CellTransport (zc_CellTransport _) rfl lay_CellTransport (by decide) rfl hlink rfl hdg kk
theorem u_CellTransport_sourceXN (C : z_C dA ad k cc own d n) {index : Nat} {x : Int32} {host : String} (hlink : Cond.fieldLinkNest own index "CellTransport" "sourceX" "I" host ∈ z_T) (hdg : decode cc pc = .ok (.putfield index, 3)) (kk : z_X dA ad k (pc + 3) lv st (z_sv M 0 6 x)) : z_X dA ad k pc lv (.int x :: .ref (ad 0) :: st) M := x_putN C (ci := 0) (T := F_CellTransport) (N := 8) (j := 6) zl_CellTransport (zc_CellTransport _) rfl lay_CellTransport (by decide) rfl t_CellTransport t_CellTransport_ok n_CellTransport rfl rfl rfl (Nat.le_of_ble_eq_true rfl) (by rw [zc_CellTransport _]; rfl) hlink hdg kk
theorem g_CellTransport_sourceY (C : z_C dA ad k cc own d n) {index : Nat} (hlink : Cond.fieldLink own index "CellTransport" "sourceY" "I" ∈ z_T) (hdg : decode cc pc = .ok (.getfield index, 3)) (kk : z_X dA ad k (pc + 3) lv (.int (M 0 7) :: st) M) : z_X dA ad k pc lv (.ref (ad 0) :: st) M := x_get C (ci := 0) (T := F_CellTransport) (N := 8) (j := 7) zl_CellTransport (zc_CellTransport _) rfl lay_CellTransport (by decide) rfl hlink rfl hdg kk
theorem u_CellTransport_sourceY (C : z_C dA ad k cc own d n) {index : Nat} {x : Int32} (hlink : Cond.fieldLink own index "CellTransport" "sourceY" "I" ∈ z_T) (hdg : decode cc pc = .ok (.putfield index, 3)) (kk : z_X dA ad k (pc + 3) lv st (z_sv M 0 7 x)) : z_X dA ad k pc lv (.int x :: .ref (ad 0) :: st) M := x_put C (ci := 0) (T := F_CellTransport) (N := 8) (j := 7) zl_CellTransport (zc_CellTransport _) rfl lay_CellTransport (by decide) rfl t_CellTransport t_CellTransport_ok n_CellTransport rfl rfl rfl (Nat.le_of_ble_eq_true rfl) (by rw [zc_CellTransport _]; rfl) hlink hdg kk
theorem g_CellTransport_sourceYN (C : z_C dA ad k cc own d n) {index : Nat} {host : String} (hlink : Cond.fieldLinkNest own index "CellTransport" "sourceY" "I" host ∈ z_T) (hdg : decode cc pc = .ok (.getfield index, 3)) (kk : z_X dA ad k (pc + 3) lv (.int (M 0 7) :: st) M) : z_X dA ad k pc lv (.ref (ad 0) :: st) M := x_getN C (ci := 0) (T := F_CellTransport) (N := 8) (j := 7) zl_CellTransport (zc_CellTransport _) rfl lay_CellTransport (by decide) rfl hlink rfl hdg kk
theorem u_CellTransport_sourceYN (C : z_C dA ad k cc own d n) {index : Nat} {x : Int32} {host : String} (hlink : Cond.fieldLinkNest own index "CellTransport" "sourceY" "I" host ∈ z_T) (hdg : decode cc pc = .ok (.putfield index, 3)) (kk : z_X dA ad k (pc + 3) lv st (z_sv M 0 7 x)) : z_X dA ad k pc lv (.int x :: .ref (ad 0) :: st) M := x_putN C (ci := 0) (T := F_CellTransport) (N := 8) (j := 7) zl_CellTransport (zc_CellTransport _) rfl lay_CellTransport (by decide) rfl t_CellTransport t_CellTransport_ok n_CellTransport rfl rfl rfl (Nat.le_of_ble_eq_true rfl) (by rw [zc_CellTransport _]; rfl) hlink hdg kk
theorem lay_Geometry : ∀ w ∈ u_ws R_Geometry F_Geometry 2, w ∈ z_T := by decide +kernel
theorem g_Geometry_surfaces (C : z_C dA ad k cc own d n) {index : Nat} (hlink : Cond.fieldLink own index "CellTransport$Geometry" "surfaces" "[LCellTransport$Surface;" ∈ z_T) (hdg : decode cc pc = .ok (.getfield index, 3)) (kk : z_X dA ad k (pc + 3) lv (.ref (ad 2) :: st) M) : z_X dA ad k pc lv (.ref (ad 1) :: st) M := x_get C (ci := 1) (T := F_Geometry) (N := 2) (j := 0) zl_Geometry (zc_Geometry _) rfl lay_Geometry (by decide) rfl hlink rfl hdg kk
theorem g_Geometry_surfacesN (C : z_C dA ad k cc own d n) {index : Nat} {host : String} (hlink : Cond.fieldLinkNest own index "CellTransport$Geometry" "surfaces" "[LCellTransport$Surface;" host ∈ z_T) (hdg : decode cc pc = .ok (.getfield index, 3)) (kk : z_X dA ad k (pc + 3) lv (.ref (ad 2) :: st) M) : z_X dA ad k pc lv (.ref (ad 1) :: st) M := x_getN C (ci := 1) (T := F_Geometry) (N := 2) (j := 0) zl_Geometry (zc_Geometry _) rfl lay_Geometry (by decide) rfl hlink rfl hdg kk
theorem g_Geometry_cells (C : z_C dA ad k cc own d n) {index : Nat} (hlink : Cond.fieldLink own index "CellTransport$Geometry" "cells" "[LCellTransport$Cell;" ∈ z_T) (hdg : decode cc pc = .ok (.getfield index, 3)) (kk : z_X dA ad k (pc + 3) lv (.ref (ad 3) :: st) M) : z_X dA ad k pc lv (.ref (ad 1) :: st) M := x_get C (ci := 1) (T := F_Geometry) (N := 2) (j := 1) zl_Geometry (zc_Geometry _) rfl lay_Geometry (by decide) rfl hlink rfl hdg kk
theorem g_Geometry_cellsN (C : z_C dA ad k cc own d n) {index : Nat} {host : String} (hlink : Cond.fieldLinkNest own index "CellTransport$Geometry" "cells" "[LCellTransport$Cell;" host ∈ z_T) (hdg : decode cc pc = .ok (.getfield index, 3)) (kk : z_X dA ad k (pc + 3) lv (.ref (ad 3) :: st) M) : z_X dA ad k pc lv (.ref (ad 1) :: st) M := x_getN C (ci := 1) (T := F_Geometry) (N := 2) (j := 1) zl_Geometry (zc_Geometry _) rfl lay_Geometry (by decide) rfl hlink rfl hdg kk
theorem lay_Surface : ∀ w ∈ u_ws R_Surface F_Surface 5, w ∈ z_T := by decide +kernel
theorem g_Surface_isSet (C : z_C dA ad k cc own d n) {j : Nat} (hj : j < 8) {index : Nat} (hlink : Cond.fieldLink own index "CellTransport$Surface" "isSet" "Z" ∈ z_T) (hdg : decode cc pc = .ok (.getfield index, 3)) (kk : z_X dA ad k (pc + 3) lv (.int (M (i_surf j) 0) :: st) M) : z_X dA ad k pc lv (.ref (ad (i_surf j)) :: st) M := x_get C (ci := 2) (T := F_Surface) (N := 5) (j := 0) (zl_Surface hj ) (zc_Surface hj _) rfl lay_Surface (by decide) rfl hlink rfl hdg kk
theorem u_Surface_isSet (C : z_C dA ad k cc own d n) {j : Nat} (hj : j < 8) {index : Nat} {x : Int32} (hnr : narrow .boolean (.int x) = .int x) (hft : fits .boolean (.int x) = true) (hlink : Cond.fieldLink own index "CellTransport$Surface" "isSet" "Z" ∈ z_T) (hdg : decode cc pc = .ok (.putfield index, 3)) (kk : z_X dA ad k (pc + 3) lv st (z_sv M (i_surf j) 0 x)) : z_X dA ad k pc lv (.int x :: .ref (ad (i_surf j)) :: st) M := x_put C (ci := 2) (T := F_Surface) (N := 5) (j := 0) (zl_Surface hj ) (zc_Surface hj _) rfl lay_Surface (by decide) rfl t_Surface t_Surface_ok n_Surface rfl hnr hft (Nat.le_of_ble_eq_true rfl) (by rw [zc_Surface hj _]; rfl) hlink hdg kk
theorem g_Surface_isSetN (C : z_C dA ad k cc own d n) {j : Nat} (hj : j < 8) {index : Nat} {host : String} (hlink : Cond.fieldLinkNest own index "CellTransport$Surface" "isSet" "Z" host ∈ z_T) (hdg : decode cc pc = .ok (.getfield index, 3)) (kk : z_X dA ad k (pc + 3) lv (.int (M (i_surf j) 0) :: st) M) : z_X dA ad k pc lv (.ref (ad (i_surf j)) :: st) M := x_getN C (ci := 2) (T := F_Surface) (N := 5) (j := 0) (zl_Surface hj ) (zc_Surface hj _) rfl lay_Surface (by decide) rfl hlink rfl hdg kk
theorem u_Surface_isSetN (C : z_C dA ad k cc own d n) {j : Nat} (hj : j < 8) {index : Nat} {x : Int32} {host : String} (hnr : narrow .boolean (.int x) = .int x) (hft : fits .boolean (.int x) = true) (hlink : Cond.fieldLinkNest own index "CellTransport$Surface" "isSet" "Z" host ∈ z_T) (hdg : decode cc pc = .ok (.putfield index, 3)) (kk : z_X dA ad k (pc + 3) lv st (z_sv M (i_surf j) 0 x)) : z_X dA ad k pc lv (.int x :: .ref (ad (i_surf j)) :: st) M := x_putN C (ci := 2) (T := F_Surface) (N := 5) (j := 0) (zl_Surface hj ) (zc_Surface hj _) rfl lay_Surface (by decide) rfl t_Surface t_Surface_ok n_Surface rfl hnr hft (Nat.le_of_ble_eq_true rfl) (by rw [zc_Surface hj _]; rfl) hlink hdg kk
theorem g_Surface_kind (C : z_C dA ad k cc own d n) {j : Nat} (hj : j < 8) {index : Nat} (hlink : Cond.fieldLink own index "CellTransport$Surface" "kind" "I" ∈ z_T) (hdg : decode cc pc = .ok (.getfield index, 3)) (kk : z_X dA ad k (pc + 3) lv (.int (M (i_surf j) 1) :: st) M) : z_X dA ad k pc lv (.ref (ad (i_surf j)) :: st) M := x_get C (ci := 2) (T := F_Surface) (N := 5) (j := 1) (zl_Surface hj ) (zc_Surface hj _) rfl lay_Surface (by decide) rfl hlink rfl hdg kk
theorem u_Surface_kind (C : z_C dA ad k cc own d n) {j : Nat} (hj : j < 8) {index : Nat} {x : Int32} (hlink : Cond.fieldLink own index "CellTransport$Surface" "kind" "I" ∈ z_T) (hdg : decode cc pc = .ok (.putfield index, 3)) (kk : z_X dA ad k (pc + 3) lv st (z_sv M (i_surf j) 1 x)) : z_X dA ad k pc lv (.int x :: .ref (ad (i_surf j)) :: st) M := x_put C (ci := 2) (T := F_Surface) (N := 5) (j := 1) (zl_Surface hj ) (zc_Surface hj _) rfl lay_Surface (by decide) rfl t_Surface t_Surface_ok n_Surface rfl rfl rfl (Nat.le_of_ble_eq_true rfl) (by rw [zc_Surface hj _]; rfl) hlink hdg kk
theorem g_Surface_kindN (C : z_C dA ad k cc own d n) {j : Nat} (hj : j < 8) {index : Nat} {host : String} (hlink : Cond.fieldLinkNest own index "CellTransport$Surface" "kind" "I" host ∈ z_T) (hdg : decode cc pc = .ok (.getfield index, 3)) (kk : z_X dA ad k (pc + 3) lv (.int (M (i_surf j) 1) :: st) M) : z_X dA ad k pc lv (.ref (ad (i_surf j)) :: st) M := x_getN C (ci := 2) (T := F_Surface) (N := 5) (j := 1) (zl_Surface hj ) (zc_Surface hj _) rfl lay_Surface (by decide) rfl hlink rfl hdg kk
theorem u_Surface_kindN (C : z_C dA ad k cc own d n) {j : Nat} (hj : j < 8) {index : Nat} {x : Int32} {host : String} (hlink : Cond.fieldLinkNest own index "CellTransport$Surface" "kind" "I" host ∈ z_T) (hdg : decode cc pc = .ok (.putfield index, 3)) (kk : z_X dA ad k (pc + 3) lv st (z_sv M (i_surf j) 1 x)) : z_X dA ad k pc lv (.int x :: .ref (ad (i_surf j)) :: st) M := x_putN C (ci := 2) (T := F_Surface) (N := 5) (j := 1) (zl_Surface hj ) (zc_Surface hj _) rfl lay_Surface (by decide) rfl t_Surface t_Surface_ok n_Surface rfl rfl rfl (Nat.le_of_ble_eq_true rfl) (by rw [zc_Surface hj _]; rfl) hlink hdg kk
theorem g_Surface_a (C : z_C dA ad k cc own d n) {j : Nat} (hj : j < 8) {index : Nat} (hlink : Cond.fieldLink own index "CellTransport$Surface" "a" "I" ∈ z_T) (hdg : decode cc pc = .ok (.getfield index, 3)) (kk : z_X dA ad k (pc + 3) lv (.int (M (i_surf j) 2) :: st) M) : z_X dA ad k pc lv (.ref (ad (i_surf j)) :: st) M := x_get C (ci := 2) (T := F_Surface) (N := 5) (j := 2) (zl_Surface hj ) (zc_Surface hj _) rfl lay_Surface (by decide) rfl hlink rfl hdg kk
theorem u_Surface_a (C : z_C dA ad k cc own d n) {j : Nat} (hj : j < 8) {index : Nat} {x : Int32} (hlink : Cond.fieldLink own index "CellTransport$Surface" "a" "I" ∈ z_T) (hdg : decode cc pc = .ok (.putfield index, 3)) (kk : z_X dA ad k (pc + 3) lv st (z_sv M (i_surf j) 2 x)) : z_X dA ad k pc lv (.int x :: .ref (ad (i_surf j)) :: st) M := x_put C (ci := 2) (T := F_Surface) (N := 5) (j := 2) (zl_Surface hj ) (zc_Surface hj _) rfl lay_Surface (by decide) rfl t_Surface t_Surface_ok n_Surface rfl rfl rfl (Nat.le_of_ble_eq_true rfl) (by rw [zc_Surface hj _]; rfl) hlink hdg kk
theorem g_Surface_aN (C : z_C dA ad k cc own d n) {j : Nat} (hj : j < 8) {index : Nat} {host : String} (hlink : Cond.fieldLinkNest own index "CellTransport$Surface" "a" "I" host ∈ z_T) (hdg : decode cc pc = .ok (.getfield index, 3)) (kk : z_X dA ad k (pc + 3) lv (.int (M (i_surf j) 2) :: st) M) : z_X dA ad k pc lv (.ref (ad (i_surf j)) :: st) M := x_getN C (ci := 2) (T := F_Surface) (N := 5) (j := 2) (zl_Surface hj ) (zc_Surface hj _) rfl lay_Surface (by decide) rfl hlink rfl hdg kk
theorem u_Surface_aN (C : z_C dA ad k cc own d n) {j : Nat} (hj : j < 8) {index : Nat} {x : Int32} {host : String} (hlink : Cond.fieldLinkNest own index "CellTransport$Surface" "a" "I" host ∈ z_T) (hdg : decode cc pc = .ok (.putfield index, 3)) (kk : z_X dA ad k (pc + 3) lv st (z_sv M (i_surf j) 2 x)) : z_X dA ad k pc lv (.int x :: .ref (ad (i_surf j)) :: st) M := x_putN C (ci := 2) (T := F_Surface) (N := 5) (j := 2) (zl_Surface hj ) (zc_Surface hj _) rfl lay_Surface (by decide) rfl t_Surface t_Surface_ok n_Surface rfl rfl rfl (Nat.le_of_ble_eq_true rfl) (by rw [zc_Surface hj _]; rfl) hlink hdg kk
theorem g_Surface_b (C : z_C dA ad k cc own d n) {j : Nat} (hj : j < 8) {index : Nat} (hlink : Cond.fieldLink own index "CellTransport$Surface" "b" "I" ∈ z_T) (hdg : decode cc pc = .ok (.getfield index, 3)) (kk : z_X dA ad k (pc + 3) lv (.int (M (i_surf j) 3) :: st) M) : z_X dA ad k pc lv (.ref (ad (i_surf j)) :: st) M := x_get C (ci := 2) (T := F_Surface) (N := 5) (j := 3) (zl_Surface hj ) (zc_Surface hj _) rfl lay_Surface (by decide) rfl hlink rfl hdg kk
theorem u_Surface_b (C : z_C dA ad k cc own d n) {j : Nat} (hj : j < 8) {index : Nat} {x : Int32} (hlink : Cond.fieldLink own index "CellTransport$Surface" "b" "I" ∈ z_T) (hdg : decode cc pc = .ok (.putfield index, 3)) (kk : z_X dA ad k (pc + 3) lv st (z_sv M (i_surf j) 3 x)) : z_X dA ad k pc lv (.int x :: .ref (ad (i_surf j)) :: st) M := x_put C (ci := 2) (T := F_Surface) (N := 5) (j := 3) (zl_Surface hj ) (zc_Surface hj _) rfl lay_Surface (by decide) rfl t_Surface t_Surface_ok n_Surface rfl rfl rfl (Nat.le_of_ble_eq_true rfl) (by rw [zc_Surface hj _]; rfl) hlink hdg kk
theorem g_Surface_bN (C : z_C dA ad k cc own d n) {j : Nat} (hj : j < 8) {index : Nat} {host : String} (hlink : Cond.fieldLinkNest own index "CellTransport$Surface" "b" "I" host ∈ z_T) (hdg : decode cc pc = .ok (.getfield index, 3)) (kk : z_X dA ad k (pc + 3) lv (.int (M (i_surf j) 3) :: st) M) : z_X dA ad k pc lv (.ref (ad (i_surf j)) :: st) M := x_getN C (ci := 2) (T := F_Surface) (N := 5) (j := 3) (zl_Surface hj ) (zc_Surface hj _) rfl lay_Surface (by decide) rfl hlink rfl hdg kk
theorem u_Surface_bN (C : z_C dA ad k cc own d n) {j : Nat} (hj : j < 8) {index : Nat} {x : Int32} {host : String} (hlink : Cond.fieldLinkNest own index "CellTransport$Surface" "b" "I" host ∈ z_T) (hdg : decode cc pc = .ok (.putfield index, 3)) (kk : z_X dA ad k (pc + 3) lv st (z_sv M (i_surf j) 3 x)) : z_X dA ad k pc lv (.int x :: .ref (ad (i_surf j)) :: st) M := x_putN C (ci := 2) (T := F_Surface) (N := 5) (j := 3) (zl_Surface hj ) (zc_Surface hj _) rfl lay_Surface (by decide) rfl t_Surface t_Surface_ok n_Surface rfl rfl rfl (Nat.le_of_ble_eq_true rfl) (by rw [zc_Surface hj _]; rfl) hlink hdg kk
theorem g_Surface_c (C : z_C dA ad k cc own d n) {j : Nat} (hj : j < 8) {index : Nat} (hlink : Cond.fieldLink own index "CellTransport$Surface" "c" "I" ∈ z_T) (hdg : decode cc pc = .ok (.getfield index, 3)) (kk : z_X dA ad k (pc + 3) lv (.int (M (i_surf j) 4) :: st) M) : z_X dA ad k pc lv (.ref (ad (i_surf j)) :: st) M := x_get C (ci := 2) (T := F_Surface) (N := 5) (j := 4) (zl_Surface hj ) (zc_Surface hj _) rfl lay_Surface (by decide) rfl hlink rfl hdg kk
theorem u_Surface_c (C : z_C dA ad k cc own d n) {j : Nat} (hj : j < 8) {index : Nat} {x : Int32} (hlink : Cond.fieldLink own index "CellTransport$Surface" "c" "I" ∈ z_T) (hdg : decode cc pc = .ok (.putfield index, 3)) (kk : z_X dA ad k (pc + 3) lv st (z_sv M (i_surf j) 4 x)) : z_X dA ad k pc lv (.int x :: .ref (ad (i_surf j)) :: st) M := x_put C (ci := 2) (T := F_Surface) (N := 5) (j := 4) (zl_Surface hj ) (zc_Surface hj _) rfl lay_Surface (by decide) rfl t_Surface t_Surface_ok n_Surface rfl rfl rfl (Nat.le_of_ble_eq_true rfl) (by rw [zc_Surface hj _]; rfl) hlink hdg kk
theorem g_Surface_cN (C : z_C dA ad k cc own d n) {j : Nat} (hj : j < 8) {index : Nat} {host : String} (hlink : Cond.fieldLinkNest own index "CellTransport$Surface" "c" "I" host ∈ z_T) (hdg : decode cc pc = .ok (.getfield index, 3)) (kk : z_X dA ad k (pc + 3) lv (.int (M (i_surf j) 4) :: st) M) : z_X dA ad k pc lv (.ref (ad (i_surf j)) :: st) M := x_getN C (ci := 2) (T := F_Surface) (N := 5) (j := 4) (zl_Surface hj ) (zc_Surface hj _) rfl lay_Surface (by decide) rfl hlink rfl hdg kk
theorem u_Surface_cN (C : z_C dA ad k cc own d n) {j : Nat} (hj : j < 8) {index : Nat} {x : Int32} {host : String} (hlink : Cond.fieldLinkNest own index "CellTransport$Surface" "c" "I" host ∈ z_T) (hdg : decode cc pc = .ok (.putfield index, 3)) (kk : z_X dA ad k (pc + 3) lv st (z_sv M (i_surf j) 4 x)) : z_X dA ad k pc lv (.int x :: .ref (ad (i_surf j)) :: st) M := x_putN C (ci := 2) (T := F_Surface) (N := 5) (j := 4) (zl_Surface hj ) (zc_Surface hj _) rfl lay_Surface (by decide) rfl t_Surface t_Surface_ok n_Surface rfl rfl rfl (Nat.le_of_ble_eq_true rfl) (by rw [zc_Surface hj _]; rfl) hlink hdg kk
theorem lay_Cell : ∀ w ∈ u_ws R_Cell F_Cell 5, w ∈ z_T := by decide +kernel
theorem g_Cell_region (C : z_C dA ad k cc own d n) {j : Nat} (hj : j < 6) {index : Nat} (hlink : Cond.fieldLink own index "CellTransport$Cell" "region" "LCellTransport$Region;" ∈ z_T) (hdg : decode cc pc = .ok (.getfield index, 3)) (kk : z_X dA ad k (pc + 3) lv (.ref (ad (i_reg j)) :: st) M) : z_X dA ad k pc lv (.ref (ad (i_cell j)) :: st) M := x_get C (ci := 3) (T := F_Cell) (N := 5) (j := 0) (zl_Cell hj ) (zc_Cell hj _) rfl lay_Cell (by decide) rfl hlink rfl hdg kk
theorem g_Cell_regionN (C : z_C dA ad k cc own d n) {j : Nat} (hj : j < 6) {index : Nat} {host : String} (hlink : Cond.fieldLinkNest own index "CellTransport$Cell" "region" "LCellTransport$Region;" host ∈ z_T) (hdg : decode cc pc = .ok (.getfield index, 3)) (kk : z_X dA ad k (pc + 3) lv (.ref (ad (i_reg j)) :: st) M) : z_X dA ad k pc lv (.ref (ad (i_cell j)) :: st) M := x_getN C (ci := 3) (T := F_Cell) (N := 5) (j := 0) (zl_Cell hj ) (zc_Cell hj _) rfl lay_Cell (by decide) rfl hlink rfl hdg kk
theorem g_Cell_isDefined (C : z_C dA ad k cc own d n) {j : Nat} (hj : j < 6) {index : Nat} (hlink : Cond.fieldLink own index "CellTransport$Cell" "isDefined" "Z" ∈ z_T) (hdg : decode cc pc = .ok (.getfield index, 3)) (kk : z_X dA ad k (pc + 3) lv (.int (M (i_cell j) 1) :: st) M) : z_X dA ad k pc lv (.ref (ad (i_cell j)) :: st) M := x_get C (ci := 3) (T := F_Cell) (N := 5) (j := 1) (zl_Cell hj ) (zc_Cell hj _) rfl lay_Cell (by decide) rfl hlink rfl hdg kk
theorem u_Cell_isDefined (C : z_C dA ad k cc own d n) {j : Nat} (hj : j < 6) {index : Nat} {x : Int32} (hnr : narrow .boolean (.int x) = .int x) (hft : fits .boolean (.int x) = true) (hlink : Cond.fieldLink own index "CellTransport$Cell" "isDefined" "Z" ∈ z_T) (hdg : decode cc pc = .ok (.putfield index, 3)) (kk : z_X dA ad k (pc + 3) lv st (z_sv M (i_cell j) 1 x)) : z_X dA ad k pc lv (.int x :: .ref (ad (i_cell j)) :: st) M := x_put C (ci := 3) (T := F_Cell) (N := 5) (j := 1) (zl_Cell hj ) (zc_Cell hj _) rfl lay_Cell (by decide) rfl t_Cell t_Cell_ok n_Cell rfl hnr hft (Nat.le_of_ble_eq_true rfl) (by rw [zc_Cell hj _]; rfl) hlink hdg kk
theorem g_Cell_isDefinedN (C : z_C dA ad k cc own d n) {j : Nat} (hj : j < 6) {index : Nat} {host : String} (hlink : Cond.fieldLinkNest own index "CellTransport$Cell" "isDefined" "Z" host ∈ z_T) (hdg : decode cc pc = .ok (.getfield index, 3)) (kk : z_X dA ad k (pc + 3) lv (.int (M (i_cell j) 1) :: st) M) : z_X dA ad k pc lv (.ref (ad (i_cell j)) :: st) M := x_getN C (ci := 3) (T := F_Cell) (N := 5) (j := 1) (zl_Cell hj ) (zc_Cell hj _) rfl lay_Cell (by decide) rfl hlink rfl hdg kk
theorem u_Cell_isDefinedN (C : z_C dA ad k cc own d n) {j : Nat} (hj : j < 6) {index : Nat} {x : Int32} {host : String} (hnr : narrow .boolean (.int x) = .int x) (hft : fits .boolean (.int x) = true) (hlink : Cond.fieldLinkNest own index "CellTransport$Cell" "isDefined" "Z" host ∈ z_T) (hdg : decode cc pc = .ok (.putfield index, 3)) (kk : z_X dA ad k (pc + 3) lv st (z_sv M (i_cell j) 1 x)) : z_X dA ad k pc lv (.int x :: .ref (ad (i_cell j)) :: st) M := x_putN C (ci := 3) (T := F_Cell) (N := 5) (j := 1) (zl_Cell hj ) (zc_Cell hj _) rfl lay_Cell (by decide) rfl t_Cell t_Cell_ok n_Cell rfl hnr hft (Nat.le_of_ble_eq_true rfl) (by rw [zc_Cell hj _]; rfl) hlink hdg kk
theorem g_Cell_density (C : z_C dA ad k cc own d n) {j : Nat} (hj : j < 6) {index : Nat} (hlink : Cond.fieldLink own index "CellTransport$Cell" "density" "I" ∈ z_T) (hdg : decode cc pc = .ok (.getfield index, 3)) (kk : z_X dA ad k (pc + 3) lv (.int (M (i_cell j) 2) :: st) M) : z_X dA ad k pc lv (.ref (ad (i_cell j)) :: st) M := x_get C (ci := 3) (T := F_Cell) (N := 5) (j := 2) (zl_Cell hj ) (zc_Cell hj _) rfl lay_Cell (by decide) rfl hlink rfl hdg kk
theorem u_Cell_density (C : z_C dA ad k cc own d n) {j : Nat} (hj : j < 6) {index : Nat} {x : Int32} (hlink : Cond.fieldLink own index "CellTransport$Cell" "density" "I" ∈ z_T) (hdg : decode cc pc = .ok (.putfield index, 3)) (kk : z_X dA ad k (pc + 3) lv st (z_sv M (i_cell j) 2 x)) : z_X dA ad k pc lv (.int x :: .ref (ad (i_cell j)) :: st) M := x_put C (ci := 3) (T := F_Cell) (N := 5) (j := 2) (zl_Cell hj ) (zc_Cell hj _) rfl lay_Cell (by decide) rfl t_Cell t_Cell_ok n_Cell rfl rfl rfl (Nat.le_of_ble_eq_true rfl) (by rw [zc_Cell hj _]; rfl) hlink hdg kk
theorem g_Cell_densityN (C : z_C dA ad k cc own d n) {j : Nat} (hj : j < 6) {index : Nat} {host : String} (hlink : Cond.fieldLinkNest own index "CellTransport$Cell" "density" "I" host ∈ z_T) (hdg : decode cc pc = .ok (.getfield index, 3)) (kk : z_X dA ad k (pc + 3) lv (.int (M (i_cell j) 2) :: st) M) : z_X dA ad k pc lv (.ref (ad (i_cell j)) :: st) M := x_getN C (ci := 3) (T := F_Cell) (N := 5) (j := 2) (zl_Cell hj ) (zc_Cell hj _) rfl lay_Cell (by decide) rfl hlink rfl hdg kk
theorem u_Cell_densityN (C : z_C dA ad k cc own d n) {j : Nat} (hj : j < 6) {index : Nat} {x : Int32} {host : String} (hlink : Cond.fieldLinkNest own index "CellTransport$Cell" "density" "I" host ∈ z_T) (hdg : decode cc pc = .ok (.putfield index, 3)) (kk : z_X dA ad k (pc + 3) lv st (z_sv M (i_cell j) 2 x)) : z_X dA ad k pc lv (.int x :: .ref (ad (i_cell j)) :: st) M := x_putN C (ci := 3) (T := F_Cell) (N := 5) (j := 2) (zl_Cell hj ) (zc_Cell hj _) rfl lay_Cell (by decide) rfl t_Cell t_Cell_ok n_Cell rfl rfl rfl (Nat.le_of_ble_eq_true rfl) (by rw [zc_Cell hj _]; rfl) hlink hdg kk
theorem g_Cell_absorption (C : z_C dA ad k cc own d n) {j : Nat} (hj : j < 6) {index : Nat} (hlink : Cond.fieldLink own index "CellTransport$Cell" "absorption" "I" ∈ z_T) (hdg : decode cc pc = .ok (.getfield index, 3)) (kk : z_X dA ad k (pc + 3) lv (.int (M (i_cell j) 3) :: st) M) : z_X dA ad k pc lv (.ref (ad (i_cell j)) :: st) M := x_get C (ci := 3) (T := F_Cell) (N := 5) (j := 3) (zl_Cell hj ) (zc_Cell hj _) rfl lay_Cell (by decide) rfl hlink rfl hdg kk
theorem u_Cell_absorption (C : z_C dA ad k cc own d n) {j : Nat} (hj : j < 6) {index : Nat} {x : Int32} (hlink : Cond.fieldLink own index "CellTransport$Cell" "absorption" "I" ∈ z_T) (hdg : decode cc pc = .ok (.putfield index, 3)) (kk : z_X dA ad k (pc + 3) lv st (z_sv M (i_cell j) 3 x)) : z_X dA ad k pc lv (.int x :: .ref (ad (i_cell j)) :: st) M := x_put C (ci := 3) (T := F_Cell) (N := 5) (j := 3) (zl_Cell hj ) (zc_Cell hj _) rfl lay_Cell (by decide) rfl t_Cell t_Cell_ok n_Cell rfl rfl rfl (Nat.le_of_ble_eq_true rfl) (by rw [zc_Cell hj _]; rfl) hlink hdg kk
theorem g_Cell_absorptionN (C : z_C dA ad k cc own d n) {j : Nat} (hj : j < 6) {index : Nat} {host : String} (hlink : Cond.fieldLinkNest own index "CellTransport$Cell" "absorption" "I" host ∈ z_T) (hdg : decode cc pc = .ok (.getfield index, 3)) (kk : z_X dA ad k (pc + 3) lv (.int (M (i_cell j) 3) :: st) M) : z_X dA ad k pc lv (.ref (ad (i_cell j)) :: st) M := x_getN C (ci := 3) (T := F_Cell) (N := 5) (j := 3) (zl_Cell hj ) (zc_Cell hj _) rfl lay_Cell (by decide) rfl hlink rfl hdg kk
theorem u_Cell_absorptionN (C : z_C dA ad k cc own d n) {j : Nat} (hj : j < 6) {index : Nat} {x : Int32} {host : String} (hlink : Cond.fieldLinkNest own index "CellTransport$Cell" "absorption" "I" host ∈ z_T) (hdg : decode cc pc = .ok (.putfield index, 3)) (kk : z_X dA ad k (pc + 3) lv st (z_sv M (i_cell j) 3 x)) : z_X dA ad k pc lv (.int x :: .ref (ad (i_cell j)) :: st) M := x_putN C (ci := 3) (T := F_Cell) (N := 5) (j := 3) (zl_Cell hj ) (zc_Cell hj _) rfl lay_Cell (by decide) rfl t_Cell t_Cell_ok n_Cell rfl rfl rfl (Nat.le_of_ble_eq_true rfl) (by rw [zc_Cell hj _]; rfl) hlink hdg kk
theorem g_Cell_fission (C : z_C dA ad k cc own d n) {j : Nat} (hj : j < 6) {index : Nat} (hlink : Cond.fieldLink own index "CellTransport$Cell" "fission" "I" ∈ z_T) (hdg : decode cc pc = .ok (.getfield index, 3)) (kk : z_X dA ad k (pc + 3) lv (.int (M (i_cell j) 4) :: st) M) : z_X dA ad k pc lv (.ref (ad (i_cell j)) :: st) M := x_get C (ci := 3) (T := F_Cell) (N := 5) (j := 4) (zl_Cell hj ) (zc_Cell hj _) rfl lay_Cell (by decide) rfl hlink rfl hdg kk
theorem u_Cell_fission (C : z_C dA ad k cc own d n) {j : Nat} (hj : j < 6) {index : Nat} {x : Int32} (hlink : Cond.fieldLink own index "CellTransport$Cell" "fission" "I" ∈ z_T) (hdg : decode cc pc = .ok (.putfield index, 3)) (kk : z_X dA ad k (pc + 3) lv st (z_sv M (i_cell j) 4 x)) : z_X dA ad k pc lv (.int x :: .ref (ad (i_cell j)) :: st) M := x_put C (ci := 3) (T := F_Cell) (N := 5) (j := 4) (zl_Cell hj ) (zc_Cell hj _) rfl lay_Cell (by decide) rfl t_Cell t_Cell_ok n_Cell rfl rfl rfl (Nat.le_of_ble_eq_true rfl) (by rw [zc_Cell hj _]; rfl) hlink hdg kk
theorem g_Cell_fissionN (C : z_C dA ad k cc own d n) {j : Nat} (hj : j < 6) {index : Nat} {host : String} (hlink : Cond.fieldLinkNest own index "CellTransport$Cell" "fission" "I" host ∈ z_T) (hdg : decode cc pc = .ok (.getfield index, 3)) (kk : z_X dA ad k (pc + 3) lv (.int (M (i_cell j) 4) :: st) M) : z_X dA ad k pc lv (.ref (ad (i_cell j)) :: st) M := x_getN C (ci := 3) (T := F_Cell) (N := 5) (j := 4) (zl_Cell hj ) (zc_Cell hj _) rfl lay_Cell (by decide) rfl hlink rfl hdg kk
theorem u_Cell_fissionN (C : z_C dA ad k cc own d n) {j : Nat} (hj : j < 6) {index : Nat} {x : Int32} {host : String} (hlink : Cond.fieldLinkNest own index "CellTransport$Cell" "fission" "I" host ∈ z_T) (hdg : decode cc pc = .ok (.putfield index, 3)) (kk : z_X dA ad k (pc + 3) lv st (z_sv M (i_cell j) 4 x)) : z_X dA ad k pc lv (.int x :: .ref (ad (i_cell j)) :: st) M := x_putN C (ci := 3) (T := F_Cell) (N := 5) (j := 4) (zl_Cell hj ) (zc_Cell hj _) rfl lay_Cell (by decide) rfl t_Cell t_Cell_ok n_Cell rfl rfl rfl (Nat.le_of_ble_eq_true rfl) (by rw [zc_Cell hj _]; rfl) hlink hdg kk
theorem lay_Region : ∀ w ∈ u_ws R_Region F_Region 2, w ∈ z_T := by decide +kernel
theorem g_Region_tokens (C : z_C dA ad k cc own d n) {j : Nat} (hj : j < 7) {index : Nat} (hlink : Cond.fieldLink own index "CellTransport$Region" "tokens" "[I" ∈ z_T) (hdg : decode cc pc = .ok (.getfield index, 3)) (kk : z_X dA ad k (pc + 3) lv (.ref (ad (i_tok j)) :: st) M) : z_X dA ad k pc lv (.ref (ad (i_reg j)) :: st) M := x_get C (ci := 4) (T := F_Region) (N := 2) (j := 0) (zl_Region hj ) (zc_Region hj _) rfl lay_Region (by decide) rfl hlink rfl hdg kk
theorem g_Region_tokensN (C : z_C dA ad k cc own d n) {j : Nat} (hj : j < 7) {index : Nat} {host : String} (hlink : Cond.fieldLinkNest own index "CellTransport$Region" "tokens" "[I" host ∈ z_T) (hdg : decode cc pc = .ok (.getfield index, 3)) (kk : z_X dA ad k (pc + 3) lv (.ref (ad (i_tok j)) :: st) M) : z_X dA ad k pc lv (.ref (ad (i_reg j)) :: st) M := x_getN C (ci := 4) (T := F_Region) (N := 2) (j := 0) (zl_Region hj ) (zc_Region hj _) rfl lay_Region (by decide) rfl hlink rfl hdg kk
theorem g_Region_size (C : z_C dA ad k cc own d n) {j : Nat} (hj : j < 7) {index : Nat} (hlink : Cond.fieldLink own index "CellTransport$Region" "size" "I" ∈ z_T) (hdg : decode cc pc = .ok (.getfield index, 3)) (kk : z_X dA ad k (pc + 3) lv (.int (M (i_reg j) 1) :: st) M) : z_X dA ad k pc lv (.ref (ad (i_reg j)) :: st) M := x_get C (ci := 4) (T := F_Region) (N := 2) (j := 1) (zl_Region hj ) (zc_Region hj _) rfl lay_Region (by decide) rfl hlink rfl hdg kk
theorem u_Region_size (C : z_C dA ad k cc own d n) {j : Nat} (hj : j < 7) {index : Nat} {x : Int32} (hlink : Cond.fieldLink own index "CellTransport$Region" "size" "I" ∈ z_T) (hdg : decode cc pc = .ok (.putfield index, 3)) (kk : z_X dA ad k (pc + 3) lv st (z_sv M (i_reg j) 1 x)) : z_X dA ad k pc lv (.int x :: .ref (ad (i_reg j)) :: st) M := x_put C (ci := 4) (T := F_Region) (N := 2) (j := 1) (zl_Region hj ) (zc_Region hj _) rfl lay_Region (by decide) rfl t_Region t_Region_ok n_Region rfl rfl rfl (Nat.le_of_ble_eq_true rfl) (by rw [zc_Region hj _]; rfl) hlink hdg kk
theorem g_Region_sizeN (C : z_C dA ad k cc own d n) {j : Nat} (hj : j < 7) {index : Nat} {host : String} (hlink : Cond.fieldLinkNest own index "CellTransport$Region" "size" "I" host ∈ z_T) (hdg : decode cc pc = .ok (.getfield index, 3)) (kk : z_X dA ad k (pc + 3) lv (.int (M (i_reg j) 1) :: st) M) : z_X dA ad k pc lv (.ref (ad (i_reg j)) :: st) M := x_getN C (ci := 4) (T := F_Region) (N := 2) (j := 1) (zl_Region hj ) (zc_Region hj _) rfl lay_Region (by decide) rfl hlink rfl hdg kk
theorem u_Region_sizeN (C : z_C dA ad k cc own d n) {j : Nat} (hj : j < 7) {index : Nat} {x : Int32} {host : String} (hlink : Cond.fieldLinkNest own index "CellTransport$Region" "size" "I" host ∈ z_T) (hdg : decode cc pc = .ok (.putfield index, 3)) (kk : z_X dA ad k (pc + 3) lv st (z_sv M (i_reg j) 1 x)) : z_X dA ad k pc lv (.int x :: .ref (ad (i_reg j)) :: st) M := x_putN C (ci := 4) (T := F_Region) (N := 2) (j := 1) (zl_Region hj ) (zc_Region hj _) rfl lay_Region (by decide) rfl t_Region t_Region_ok n_Region rfl rfl rfl (Nat.le_of_ble_eq_true rfl) (by rw [zc_Region hj _]; rfl) hlink hdg kk
theorem lay_Generator : ∀ w ∈ u_ws R_Generator F_Generator 1, w ∈ z_T := by decide +kernel
theorem g_Generator_state (C : z_C dA ad k cc own d n) {index : Nat} (hlink : Cond.fieldLink own index "CellTransport$Generator" "state" "I" ∈ z_T) (hdg : decode cc pc = .ok (.getfield index, 3)) (kk : z_X dA ad k (pc + 3) lv (.int (M 32 0) :: st) M) : z_X dA ad k pc lv (.ref (ad 32) :: st) M := x_get C (ci := 5) (T := F_Generator) (N := 1) (j := 0) zl_Generator (zc_Generator _) rfl lay_Generator (by decide) rfl hlink rfl hdg kk
theorem u_Generator_state (C : z_C dA ad k cc own d n) {index : Nat} {x : Int32} (hlink : Cond.fieldLink own index "CellTransport$Generator" "state" "I" ∈ z_T) (hdg : decode cc pc = .ok (.putfield index, 3)) (kk : z_X dA ad k (pc + 3) lv st (z_sv M 32 0 x)) : z_X dA ad k pc lv (.int x :: .ref (ad 32) :: st) M := x_put C (ci := 5) (T := F_Generator) (N := 1) (j := 0) zl_Generator (zc_Generator _) rfl lay_Generator (by decide) rfl t_Generator t_Generator_ok n_Generator rfl rfl rfl (Nat.le_of_ble_eq_true rfl) (by rw [zc_Generator _]; rfl) hlink hdg kk
theorem g_Generator_stateN (C : z_C dA ad k cc own d n) {index : Nat} {host : String} (hlink : Cond.fieldLinkNest own index "CellTransport$Generator" "state" "I" host ∈ z_T) (hdg : decode cc pc = .ok (.getfield index, 3)) (kk : z_X dA ad k (pc + 3) lv (.int (M 32 0) :: st) M) : z_X dA ad k pc lv (.ref (ad 32) :: st) M := x_getN C (ci := 5) (T := F_Generator) (N := 1) (j := 0) zl_Generator (zc_Generator _) rfl lay_Generator (by decide) rfl hlink rfl hdg kk
theorem u_Generator_stateN (C : z_C dA ad k cc own d n) {index : Nat} {x : Int32} {host : String} (hlink : Cond.fieldLinkNest own index "CellTransport$Generator" "state" "I" host ∈ z_T) (hdg : decode cc pc = .ok (.putfield index, 3)) (kk : z_X dA ad k (pc + 3) lv st (z_sv M 32 0 x)) : z_X dA ad k pc lv (.int x :: .ref (ad 32) :: st) M := x_putN C (ci := 5) (T := F_Generator) (N := 1) (j := 0) zl_Generator (zc_Generator _) rfl lay_Generator (by decide) rfl t_Generator t_Generator_ok n_Generator rfl rfl rfl (Nat.le_of_ble_eq_true rfl) (by rw [zc_Generator _]; rfl) hlink hdg kk
theorem lay_Counts : ∀ w ∈ u_ws R_Counts F_Counts 3, w ∈ z_T := by decide +kernel
theorem g_Counts_totals (C : z_C dA ad k cc own d n) {index : Nat} (hlink : Cond.fieldLink own index "CellTransport$Counts" "totals" "[I" ∈ z_T) (hdg : decode cc pc = .ok (.getfield index, 3)) (kk : z_X dA ad k (pc + 3) lv (.ref (ad 34) :: st) M) : z_X dA ad k pc lv (.ref (ad 33) :: st) M := x_get C (ci := 6) (T := F_Counts) (N := 3) (j := 0) zl_Counts (zc_Counts _) rfl lay_Counts (by decide) rfl hlink rfl hdg kk
theorem g_Counts_totalsN (C : z_C dA ad k cc own d n) {index : Nat} {host : String} (hlink : Cond.fieldLinkNest own index "CellTransport$Counts" "totals" "[I" host ∈ z_T) (hdg : decode cc pc = .ok (.getfield index, 3)) (kk : z_X dA ad k (pc + 3) lv (.ref (ad 34) :: st) M) : z_X dA ad k pc lv (.ref (ad 33) :: st) M := x_getN C (ci := 6) (T := F_Counts) (N := 3) (j := 0) zl_Counts (zc_Counts _) rfl lay_Counts (by decide) rfl hlink rfl hdg kk
theorem g_Counts_tallies (C : z_C dA ad k cc own d n) {index : Nat} (hlink : Cond.fieldLink own index "CellTransport$Counts" "tallies" "[[I" ∈ z_T) (hdg : decode cc pc = .ok (.getfield index, 3)) (kk : z_X dA ad k (pc + 3) lv (.ref (ad 35) :: st) M) : z_X dA ad k pc lv (.ref (ad 33) :: st) M := x_get C (ci := 6) (T := F_Counts) (N := 3) (j := 1) zl_Counts (zc_Counts _) rfl lay_Counts (by decide) rfl hlink rfl hdg kk
theorem g_Counts_talliesN (C : z_C dA ad k cc own d n) {index : Nat} {host : String} (hlink : Cond.fieldLinkNest own index "CellTransport$Counts" "tallies" "[[I" host ∈ z_T) (hdg : decode cc pc = .ok (.getfield index, 3)) (kk : z_X dA ad k (pc + 3) lv (.ref (ad 35) :: st) M) : z_X dA ad k pc lv (.ref (ad 33) :: st) M := x_getN C (ci := 6) (T := F_Counts) (N := 3) (j := 1) zl_Counts (zc_Counts _) rfl lay_Counts (by decide) rfl hlink rfl hdg kk
theorem g_Counts_crossings (C : z_C dA ad k cc own d n) {index : Nat} (hlink : Cond.fieldLink own index "CellTransport$Counts" "crossings" "[[I" ∈ z_T) (hdg : decode cc pc = .ok (.getfield index, 3)) (kk : z_X dA ad k (pc + 3) lv (.ref (ad 42) :: st) M) : z_X dA ad k pc lv (.ref (ad 33) :: st) M := x_get C (ci := 6) (T := F_Counts) (N := 3) (j := 2) zl_Counts (zc_Counts _) rfl lay_Counts (by decide) rfl hlink rfl hdg kk
theorem g_Counts_crossingsN (C : z_C dA ad k cc own d n) {index : Nat} {host : String} (hlink : Cond.fieldLinkNest own index "CellTransport$Counts" "crossings" "[[I" host ∈ z_T) (hdg : decode cc pc = .ok (.getfield index, 3)) (kk : z_X dA ad k (pc + 3) lv (.ref (ad 42) :: st) M) : z_X dA ad k pc lv (.ref (ad 33) :: st) M := x_getN C (ci := 6) (T := F_Counts) (N := 3) (j := 2) zl_Counts (zc_Counts _) rfl lay_Counts (by decide) rfl hlink rfl hdg kk
theorem lay_Line : ∀ w ∈ u_ws R_Line F_Line 4, w ∈ z_T := by decide +kernel
theorem g_Line_placesX (C : z_C dA ad k cc own d n) {index : Nat} (hlink : Cond.fieldLink own index "CellTransport$Line" "placesX" "[I" ∈ z_T) (hdg : decode cc pc = .ok (.getfield index, 3)) (kk : z_X dA ad k (pc + 3) lv (.ref (ad 50) :: st) M) : z_X dA ad k pc lv (.ref (ad 49) :: st) M := x_get C (ci := 7) (T := F_Line) (N := 4) (j := 0) zl_Line (zc_Line _) rfl lay_Line (by decide) rfl hlink rfl hdg kk
theorem g_Line_placesXN (C : z_C dA ad k cc own d n) {index : Nat} {host : String} (hlink : Cond.fieldLinkNest own index "CellTransport$Line" "placesX" "[I" host ∈ z_T) (hdg : decode cc pc = .ok (.getfield index, 3)) (kk : z_X dA ad k (pc + 3) lv (.ref (ad 50) :: st) M) : z_X dA ad k pc lv (.ref (ad 49) :: st) M := x_getN C (ci := 7) (T := F_Line) (N := 4) (j := 0) zl_Line (zc_Line _) rfl lay_Line (by decide) rfl hlink rfl hdg kk
theorem g_Line_placesY (C : z_C dA ad k cc own d n) {index : Nat} (hlink : Cond.fieldLink own index "CellTransport$Line" "placesY" "[I" ∈ z_T) (hdg : decode cc pc = .ok (.getfield index, 3)) (kk : z_X dA ad k (pc + 3) lv (.ref (ad 51) :: st) M) : z_X dA ad k pc lv (.ref (ad 49) :: st) M := x_get C (ci := 7) (T := F_Line) (N := 4) (j := 1) zl_Line (zc_Line _) rfl lay_Line (by decide) rfl hlink rfl hdg kk
theorem g_Line_placesYN (C : z_C dA ad k cc own d n) {index : Nat} {host : String} (hlink : Cond.fieldLinkNest own index "CellTransport$Line" "placesY" "[I" host ∈ z_T) (hdg : decode cc pc = .ok (.getfield index, 3)) (kk : z_X dA ad k (pc + 3) lv (.ref (ad 51) :: st) M) : z_X dA ad k pc lv (.ref (ad 49) :: st) M := x_getN C (ci := 7) (T := F_Line) (N := 4) (j := 1) zl_Line (zc_Line _) rfl lay_Line (by decide) rfl hlink rfl hdg kk
theorem g_Line_waiting (C : z_C dA ad k cc own d n) {index : Nat} (hlink : Cond.fieldLink own index "CellTransport$Line" "waiting" "I" ∈ z_T) (hdg : decode cc pc = .ok (.getfield index, 3)) (kk : z_X dA ad k (pc + 3) lv (.int (M 49 2) :: st) M) : z_X dA ad k pc lv (.ref (ad 49) :: st) M := x_get C (ci := 7) (T := F_Line) (N := 4) (j := 2) zl_Line (zc_Line _) rfl lay_Line (by decide) rfl hlink rfl hdg kk
theorem u_Line_waiting (C : z_C dA ad k cc own d n) {index : Nat} {x : Int32} (hlink : Cond.fieldLink own index "CellTransport$Line" "waiting" "I" ∈ z_T) (hdg : decode cc pc = .ok (.putfield index, 3)) (kk : z_X dA ad k (pc + 3) lv st (z_sv M 49 2 x)) : z_X dA ad k pc lv (.int x :: .ref (ad 49) :: st) M := x_put C (ci := 7) (T := F_Line) (N := 4) (j := 2) zl_Line (zc_Line _) rfl lay_Line (by decide) rfl t_Line t_Line_ok n_Line rfl rfl rfl (Nat.le_of_ble_eq_true rfl) (by rw [zc_Line _]; rfl) hlink hdg kk
theorem g_Line_waitingN (C : z_C dA ad k cc own d n) {index : Nat} {host : String} (hlink : Cond.fieldLinkNest own index "CellTransport$Line" "waiting" "I" host ∈ z_T) (hdg : decode cc pc = .ok (.getfield index, 3)) (kk : z_X dA ad k (pc + 3) lv (.int (M 49 2) :: st) M) : z_X dA ad k pc lv (.ref (ad 49) :: st) M := x_getN C (ci := 7) (T := F_Line) (N := 4) (j := 2) zl_Line (zc_Line _) rfl lay_Line (by decide) rfl hlink rfl hdg kk
theorem u_Line_waitingN (C : z_C dA ad k cc own d n) {index : Nat} {x : Int32} {host : String} (hlink : Cond.fieldLinkNest own index "CellTransport$Line" "waiting" "I" host ∈ z_T) (hdg : decode cc pc = .ok (.putfield index, 3)) (kk : z_X dA ad k (pc + 3) lv st (z_sv M 49 2 x)) : z_X dA ad k pc lv (.int x :: .ref (ad 49) :: st) M := x_putN C (ci := 7) (T := F_Line) (N := 4) (j := 2) zl_Line (zc_Line _) rfl lay_Line (by decide) rfl t_Line t_Line_ok n_Line rfl rfl rfl (Nat.le_of_ble_eq_true rfl) (by rw [zc_Line _]; rfl) hlink hdg kk
theorem g_Line_joined (C : z_C dA ad k cc own d n) {index : Nat} (hlink : Cond.fieldLink own index "CellTransport$Line" "joined" "I" ∈ z_T) (hdg : decode cc pc = .ok (.getfield index, 3)) (kk : z_X dA ad k (pc + 3) lv (.int (M 49 3) :: st) M) : z_X dA ad k pc lv (.ref (ad 49) :: st) M := x_get C (ci := 7) (T := F_Line) (N := 4) (j := 3) zl_Line (zc_Line _) rfl lay_Line (by decide) rfl hlink rfl hdg kk
theorem u_Line_joined (C : z_C dA ad k cc own d n) {index : Nat} {x : Int32} (hlink : Cond.fieldLink own index "CellTransport$Line" "joined" "I" ∈ z_T) (hdg : decode cc pc = .ok (.putfield index, 3)) (kk : z_X dA ad k (pc + 3) lv st (z_sv M 49 3 x)) : z_X dA ad k pc lv (.int x :: .ref (ad 49) :: st) M := x_put C (ci := 7) (T := F_Line) (N := 4) (j := 3) zl_Line (zc_Line _) rfl lay_Line (by decide) rfl t_Line t_Line_ok n_Line rfl rfl rfl (Nat.le_of_ble_eq_true rfl) (by rw [zc_Line _]; rfl) hlink hdg kk
theorem g_Line_joinedN (C : z_C dA ad k cc own d n) {index : Nat} {host : String} (hlink : Cond.fieldLinkNest own index "CellTransport$Line" "joined" "I" host ∈ z_T) (hdg : decode cc pc = .ok (.getfield index, 3)) (kk : z_X dA ad k (pc + 3) lv (.int (M 49 3) :: st) M) : z_X dA ad k pc lv (.ref (ad 49) :: st) M := x_getN C (ci := 7) (T := F_Line) (N := 4) (j := 3) zl_Line (zc_Line _) rfl lay_Line (by decide) rfl hlink rfl hdg kk
theorem u_Line_joinedN (C : z_C dA ad k cc own d n) {index : Nat} {x : Int32} {host : String} (hlink : Cond.fieldLinkNest own index "CellTransport$Line" "joined" "I" host ∈ z_T) (hdg : decode cc pc = .ok (.putfield index, 3)) (kk : z_X dA ad k (pc + 3) lv st (z_sv M 49 3 x)) : z_X dA ad k pc lv (.int x :: .ref (ad 49) :: st) M := x_putN C (ci := 7) (T := F_Line) (N := 4) (j := 3) zl_Line (zc_Line _) rfl lay_Line (by decide) rfl t_Line t_Line_ok n_Line rfl rfl rfl (Nat.le_of_ble_eq_true rfl) (by rw [zc_Line _]; rfl) hlink hdg kk
theorem lay_Particle : ∀ w ∈ u_ws R_Particle F_Particle 5, w ∈ z_T := by decide +kernel
theorem g_Particle_x (C : z_C dA ad k cc own d n) {index : Nat} (hlink : Cond.fieldLink own index "CellTransport$Particle" "x" "I" ∈ z_T) (hdg : decode cc pc = .ok (.getfield index, 3)) (kk : z_X dA ad k (pc + 3) lv (.int (M 52 0) :: st) M) : z_X dA ad k pc lv (.ref (ad 52) :: st) M := x_get C (ci := 8) (T := F_Particle) (N := 5) (j := 0) zl_Particle (zc_Particle _) rfl lay_Particle (by decide) rfl hlink rfl hdg kk
theorem u_Particle_x (C : z_C dA ad k cc own d n) {index : Nat} {x : Int32} (hlink : Cond.fieldLink own index "CellTransport$Particle" "x" "I" ∈ z_T) (hdg : decode cc pc = .ok (.putfield index, 3)) (kk : z_X dA ad k (pc + 3) lv st (z_sv M 52 0 x)) : z_X dA ad k pc lv (.int x :: .ref (ad 52) :: st) M := x_put C (ci := 8) (T := F_Particle) (N := 5) (j := 0) zl_Particle (zc_Particle _) rfl lay_Particle (by decide) rfl t_Particle t_Particle_ok n_Particle rfl rfl rfl (Nat.le_of_ble_eq_true rfl) (by rw [zc_Particle _]; rfl) hlink hdg kk
theorem g_Particle_xN (C : z_C dA ad k cc own d n) {index : Nat} {host : String} (hlink : Cond.fieldLinkNest own index "CellTransport$Particle" "x" "I" host ∈ z_T) (hdg : decode cc pc = .ok (.getfield index, 3)) (kk : z_X dA ad k (pc + 3) lv (.int (M 52 0) :: st) M) : z_X dA ad k pc lv (.ref (ad 52) :: st) M := x_getN C (ci := 8) (T := F_Particle) (N := 5) (j := 0) zl_Particle (zc_Particle _) rfl lay_Particle (by decide) rfl hlink rfl hdg kk
theorem u_Particle_xN (C : z_C dA ad k cc own d n) {index : Nat} {x : Int32} {host : String} (hlink : Cond.fieldLinkNest own index "CellTransport$Particle" "x" "I" host ∈ z_T) (hdg : decode cc pc = .ok (.putfield index, 3)) (kk : z_X dA ad k (pc + 3) lv st (z_sv M 52 0 x)) : z_X dA ad k pc lv (.int x :: .ref (ad 52) :: st) M := x_putN C (ci := 8) (T := F_Particle) (N := 5) (j := 0) zl_Particle (zc_Particle _) rfl lay_Particle (by decide) rfl t_Particle t_Particle_ok n_Particle rfl rfl rfl (Nat.le_of_ble_eq_true rfl) (by rw [zc_Particle _]; rfl) hlink hdg kk
theorem g_Particle_y (C : z_C dA ad k cc own d n) {index : Nat} (hlink : Cond.fieldLink own index "CellTransport$Particle" "y" "I" ∈ z_T) (hdg : decode cc pc = .ok (.getfield index, 3)) (kk : z_X dA ad k (pc + 3) lv (.int (M 52 1) :: st) M) : z_X dA ad k pc lv (.ref (ad 52) :: st) M := x_get C (ci := 8) (T := F_Particle) (N := 5) (j := 1) zl_Particle (zc_Particle _) rfl lay_Particle (by decide) rfl hlink rfl hdg kk
theorem u_Particle_y (C : z_C dA ad k cc own d n) {index : Nat} {x : Int32} (hlink : Cond.fieldLink own index "CellTransport$Particle" "y" "I" ∈ z_T) (hdg : decode cc pc = .ok (.putfield index, 3)) (kk : z_X dA ad k (pc + 3) lv st (z_sv M 52 1 x)) : z_X dA ad k pc lv (.int x :: .ref (ad 52) :: st) M := x_put C (ci := 8) (T := F_Particle) (N := 5) (j := 1) zl_Particle (zc_Particle _) rfl lay_Particle (by decide) rfl t_Particle t_Particle_ok n_Particle rfl rfl rfl (Nat.le_of_ble_eq_true rfl) (by rw [zc_Particle _]; rfl) hlink hdg kk
theorem g_Particle_yN (C : z_C dA ad k cc own d n) {index : Nat} {host : String} (hlink : Cond.fieldLinkNest own index "CellTransport$Particle" "y" "I" host ∈ z_T) (hdg : decode cc pc = .ok (.getfield index, 3)) (kk : z_X dA ad k (pc + 3) lv (.int (M 52 1) :: st) M) : z_X dA ad k pc lv (.ref (ad 52) :: st) M := x_getN C (ci := 8) (T := F_Particle) (N := 5) (j := 1) zl_Particle (zc_Particle _) rfl lay_Particle (by decide) rfl hlink rfl hdg kk
theorem u_Particle_yN (C : z_C dA ad k cc own d n) {index : Nat} {x : Int32} {host : String} (hlink : Cond.fieldLinkNest own index "CellTransport$Particle" "y" "I" host ∈ z_T) (hdg : decode cc pc = .ok (.putfield index, 3)) (kk : z_X dA ad k (pc + 3) lv st (z_sv M 52 1 x)) : z_X dA ad k pc lv (.int x :: .ref (ad 52) :: st) M := x_putN C (ci := 8) (T := F_Particle) (N := 5) (j := 1) zl_Particle (zc_Particle _) rfl lay_Particle (by decide) rfl t_Particle t_Particle_ok n_Particle rfl rfl rfl (Nat.le_of_ble_eq_true rfl) (by rw [zc_Particle _]; rfl) hlink hdg kk
theorem g_Particle_cell (C : z_C dA ad k cc own d n) {index : Nat} (hlink : Cond.fieldLink own index "CellTransport$Particle" "cell" "I" ∈ z_T) (hdg : decode cc pc = .ok (.getfield index, 3)) (kk : z_X dA ad k (pc + 3) lv (.int (M 52 2) :: st) M) : z_X dA ad k pc lv (.ref (ad 52) :: st) M := x_get C (ci := 8) (T := F_Particle) (N := 5) (j := 2) zl_Particle (zc_Particle _) rfl lay_Particle (by decide) rfl hlink rfl hdg kk
theorem u_Particle_cell (C : z_C dA ad k cc own d n) {index : Nat} {x : Int32} (hlink : Cond.fieldLink own index "CellTransport$Particle" "cell" "I" ∈ z_T) (hdg : decode cc pc = .ok (.putfield index, 3)) (kk : z_X dA ad k (pc + 3) lv st (z_sv M 52 2 x)) : z_X dA ad k pc lv (.int x :: .ref (ad 52) :: st) M := x_put C (ci := 8) (T := F_Particle) (N := 5) (j := 2) zl_Particle (zc_Particle _) rfl lay_Particle (by decide) rfl t_Particle t_Particle_ok n_Particle rfl rfl rfl (Nat.le_of_ble_eq_true rfl) (by rw [zc_Particle _]; rfl) hlink hdg kk
theorem g_Particle_cellN (C : z_C dA ad k cc own d n) {index : Nat} {host : String} (hlink : Cond.fieldLinkNest own index "CellTransport$Particle" "cell" "I" host ∈ z_T) (hdg : decode cc pc = .ok (.getfield index, 3)) (kk : z_X dA ad k (pc + 3) lv (.int (M 52 2) :: st) M) : z_X dA ad k pc lv (.ref (ad 52) :: st) M := x_getN C (ci := 8) (T := F_Particle) (N := 5) (j := 2) zl_Particle (zc_Particle _) rfl lay_Particle (by decide) rfl hlink rfl hdg kk
theorem u_Particle_cellN (C : z_C dA ad k cc own d n) {index : Nat} {x : Int32} {host : String} (hlink : Cond.fieldLinkNest own index "CellTransport$Particle" "cell" "I" host ∈ z_T) (hdg : decode cc pc = .ok (.putfield index, 3)) (kk : z_X dA ad k (pc + 3) lv st (z_sv M 52 2 x)) : z_X dA ad k pc lv (.int x :: .ref (ad 52) :: st) M := x_putN C (ci := 8) (T := F_Particle) (N := 5) (j := 2) zl_Particle (zc_Particle _) rfl lay_Particle (by decide) rfl t_Particle t_Particle_ok n_Particle rfl rfl rfl (Nat.le_of_ble_eq_true rfl) (by rw [zc_Particle _]; rfl) hlink hdg kk
theorem g_Particle_direction (C : z_C dA ad k cc own d n) {index : Nat} (hlink : Cond.fieldLink own index "CellTransport$Particle" "direction" "I" ∈ z_T) (hdg : decode cc pc = .ok (.getfield index, 3)) (kk : z_X dA ad k (pc + 3) lv (.int (M 52 3) :: st) M) : z_X dA ad k pc lv (.ref (ad 52) :: st) M := x_get C (ci := 8) (T := F_Particle) (N := 5) (j := 3) zl_Particle (zc_Particle _) rfl lay_Particle (by decide) rfl hlink rfl hdg kk
theorem u_Particle_direction (C : z_C dA ad k cc own d n) {index : Nat} {x : Int32} (hlink : Cond.fieldLink own index "CellTransport$Particle" "direction" "I" ∈ z_T) (hdg : decode cc pc = .ok (.putfield index, 3)) (kk : z_X dA ad k (pc + 3) lv st (z_sv M 52 3 x)) : z_X dA ad k pc lv (.int x :: .ref (ad 52) :: st) M := x_put C (ci := 8) (T := F_Particle) (N := 5) (j := 3) zl_Particle (zc_Particle _) rfl lay_Particle (by decide) rfl t_Particle t_Particle_ok n_Particle rfl rfl rfl (Nat.le_of_ble_eq_true rfl) (by rw [zc_Particle _]; rfl) hlink hdg kk
theorem g_Particle_directionN (C : z_C dA ad k cc own d n) {index : Nat} {host : String} (hlink : Cond.fieldLinkNest own index "CellTransport$Particle" "direction" "I" host ∈ z_T) (hdg : decode cc pc = .ok (.getfield index, 3)) (kk : z_X dA ad k (pc + 3) lv (.int (M 52 3) :: st) M) : z_X dA ad k pc lv (.ref (ad 52) :: st) M := x_getN C (ci := 8) (T := F_Particle) (N := 5) (j := 3) zl_Particle (zc_Particle _) rfl lay_Particle (by decide) rfl hlink rfl hdg kk
theorem u_Particle_directionN (C : z_C dA ad k cc own d n) {index : Nat} {x : Int32} {host : String} (hlink : Cond.fieldLinkNest own index "CellTransport$Particle" "direction" "I" host ∈ z_T) (hdg : decode cc pc = .ok (.putfield index, 3)) (kk : z_X dA ad k (pc + 3) lv st (z_sv M 52 3 x)) : z_X dA ad k pc lv (.int x :: .ref (ad 52) :: st) M := x_putN C (ci := 8) (T := F_Particle) (N := 5) (j := 3) zl_Particle (zc_Particle _) rfl lay_Particle (by decide) rfl t_Particle t_Particle_ok n_Particle rfl rfl rfl (Nat.le_of_ble_eq_true rfl) (by rw [zc_Particle _]; rfl) hlink hdg kk
theorem g_Particle_budget (C : z_C dA ad k cc own d n) {index : Nat} (hlink : Cond.fieldLink own index "CellTransport$Particle" "budget" "I" ∈ z_T) (hdg : decode cc pc = .ok (.getfield index, 3)) (kk : z_X dA ad k (pc + 3) lv (.int (M 52 4) :: st) M) : z_X dA ad k pc lv (.ref (ad 52) :: st) M := x_get C (ci := 8) (T := F_Particle) (N := 5) (j := 4) zl_Particle (zc_Particle _) rfl lay_Particle (by decide) rfl hlink rfl hdg kk
theorem u_Particle_budget (C : z_C dA ad k cc own d n) {index : Nat} {x : Int32} (hlink : Cond.fieldLink own index "CellTransport$Particle" "budget" "I" ∈ z_T) (hdg : decode cc pc = .ok (.putfield index, 3)) (kk : z_X dA ad k (pc + 3) lv st (z_sv M 52 4 x)) : z_X dA ad k pc lv (.int x :: .ref (ad 52) :: st) M := x_put C (ci := 8) (T := F_Particle) (N := 5) (j := 4) zl_Particle (zc_Particle _) rfl lay_Particle (by decide) rfl t_Particle t_Particle_ok n_Particle rfl rfl rfl (Nat.le_of_ble_eq_true rfl) (by rw [zc_Particle _]; rfl) hlink hdg kk
theorem g_Particle_budgetN (C : z_C dA ad k cc own d n) {index : Nat} {host : String} (hlink : Cond.fieldLinkNest own index "CellTransport$Particle" "budget" "I" host ∈ z_T) (hdg : decode cc pc = .ok (.getfield index, 3)) (kk : z_X dA ad k (pc + 3) lv (.int (M 52 4) :: st) M) : z_X dA ad k pc lv (.ref (ad 52) :: st) M := x_getN C (ci := 8) (T := F_Particle) (N := 5) (j := 4) zl_Particle (zc_Particle _) rfl lay_Particle (by decide) rfl hlink rfl hdg kk
theorem u_Particle_budgetN (C : z_C dA ad k cc own d n) {index : Nat} {x : Int32} {host : String} (hlink : Cond.fieldLinkNest own index "CellTransport$Particle" "budget" "I" host ∈ z_T) (hdg : decode cc pc = .ok (.putfield index, 3)) (kk : z_X dA ad k (pc + 3) lv st (z_sv M 52 4 x)) : z_X dA ad k pc lv (.int x :: .ref (ad 52) :: st) M := x_putN C (ci := 8) (T := F_Particle) (N := 5) (j := 4) zl_Particle (zc_Particle _) rfl lay_Particle (by decide) rfl t_Particle t_Particle_ok n_Particle rfl rfl rfl (Nat.le_of_ble_eq_true rfl) (by rw [zc_Particle _]; rfl) hlink hdg kk
theorem lay_Model : ∀ w ∈ u_ws R_Model F_Model 27, w ∈ z_T := by decide +kernel
theorem g_Model_kind (C : z_C dA ad k cc own d n) {index : Nat} (hlink : Cond.fieldLink own index "CellTransportModel" "kind" "[I" ∈ z_T) (hdg : decode cc pc = .ok (.getfield index, 3)) (kk : z_X dA ad k (pc + 3) lv (.ref (ad 54) :: st) M) : z_X dA ad k pc lv (.ref (ad 53) :: st) M := x_get C (ci := 9) (T := F_Model) (N := 27) (j := 0) zl_Model (zc_Model _) rfl lay_Model (by decide) rfl hlink rfl hdg kk
theorem g_Model_kindN (C : z_C dA ad k cc own d n) {index : Nat} {host : String} (hlink : Cond.fieldLinkNest own index "CellTransportModel" "kind" "[I" host ∈ z_T) (hdg : decode cc pc = .ok (.getfield index, 3)) (kk : z_X dA ad k (pc + 3) lv (.ref (ad 54) :: st) M) : z_X dA ad k pc lv (.ref (ad 53) :: st) M := x_getN C (ci := 9) (T := F_Model) (N := 27) (j := 0) zl_Model (zc_Model _) rfl lay_Model (by decide) rfl hlink rfl hdg kk
theorem g_Model_sa (C : z_C dA ad k cc own d n) {index : Nat} (hlink : Cond.fieldLink own index "CellTransportModel" "sa" "[I" ∈ z_T) (hdg : decode cc pc = .ok (.getfield index, 3)) (kk : z_X dA ad k (pc + 3) lv (.ref (ad 55) :: st) M) : z_X dA ad k pc lv (.ref (ad 53) :: st) M := x_get C (ci := 9) (T := F_Model) (N := 27) (j := 1) zl_Model (zc_Model _) rfl lay_Model (by decide) rfl hlink rfl hdg kk
theorem g_Model_saN (C : z_C dA ad k cc own d n) {index : Nat} {host : String} (hlink : Cond.fieldLinkNest own index "CellTransportModel" "sa" "[I" host ∈ z_T) (hdg : decode cc pc = .ok (.getfield index, 3)) (kk : z_X dA ad k (pc + 3) lv (.ref (ad 55) :: st) M) : z_X dA ad k pc lv (.ref (ad 53) :: st) M := x_getN C (ci := 9) (T := F_Model) (N := 27) (j := 1) zl_Model (zc_Model _) rfl lay_Model (by decide) rfl hlink rfl hdg kk
theorem g_Model_sb (C : z_C dA ad k cc own d n) {index : Nat} (hlink : Cond.fieldLink own index "CellTransportModel" "sb" "[I" ∈ z_T) (hdg : decode cc pc = .ok (.getfield index, 3)) (kk : z_X dA ad k (pc + 3) lv (.ref (ad 56) :: st) M) : z_X dA ad k pc lv (.ref (ad 53) :: st) M := x_get C (ci := 9) (T := F_Model) (N := 27) (j := 2) zl_Model (zc_Model _) rfl lay_Model (by decide) rfl hlink rfl hdg kk
theorem g_Model_sbN (C : z_C dA ad k cc own d n) {index : Nat} {host : String} (hlink : Cond.fieldLinkNest own index "CellTransportModel" "sb" "[I" host ∈ z_T) (hdg : decode cc pc = .ok (.getfield index, 3)) (kk : z_X dA ad k (pc + 3) lv (.ref (ad 56) :: st) M) : z_X dA ad k pc lv (.ref (ad 53) :: st) M := x_getN C (ci := 9) (T := F_Model) (N := 27) (j := 2) zl_Model (zc_Model _) rfl lay_Model (by decide) rfl hlink rfl hdg kk
theorem g_Model_sc (C : z_C dA ad k cc own d n) {index : Nat} (hlink : Cond.fieldLink own index "CellTransportModel" "sc" "[I" ∈ z_T) (hdg : decode cc pc = .ok (.getfield index, 3)) (kk : z_X dA ad k (pc + 3) lv (.ref (ad 57) :: st) M) : z_X dA ad k pc lv (.ref (ad 53) :: st) M := x_get C (ci := 9) (T := F_Model) (N := 27) (j := 3) zl_Model (zc_Model _) rfl lay_Model (by decide) rfl hlink rfl hdg kk
theorem g_Model_scN (C : z_C dA ad k cc own d n) {index : Nat} {host : String} (hlink : Cond.fieldLinkNest own index "CellTransportModel" "sc" "[I" host ∈ z_T) (hdg : decode cc pc = .ok (.getfield index, 3)) (kk : z_X dA ad k (pc + 3) lv (.ref (ad 57) :: st) M) : z_X dA ad k pc lv (.ref (ad 53) :: st) M := x_getN C (ci := 9) (T := F_Model) (N := 27) (j := 3) zl_Model (zc_Model _) rfl lay_Model (by decide) rfl hlink rfl hdg kk
theorem g_Model_set (C : z_C dA ad k cc own d n) {index : Nat} (hlink : Cond.fieldLink own index "CellTransportModel" "set" "[Z" ∈ z_T) (hdg : decode cc pc = .ok (.getfield index, 3)) (kk : z_X dA ad k (pc + 3) lv (.ref (ad 58) :: st) M) : z_X dA ad k pc lv (.ref (ad 53) :: st) M := x_get C (ci := 9) (T := F_Model) (N := 27) (j := 4) zl_Model (zc_Model _) rfl lay_Model (by decide) rfl hlink rfl hdg kk
theorem g_Model_setN (C : z_C dA ad k cc own d n) {index : Nat} {host : String} (hlink : Cond.fieldLinkNest own index "CellTransportModel" "set" "[Z" host ∈ z_T) (hdg : decode cc pc = .ok (.getfield index, 3)) (kk : z_X dA ad k (pc + 3) lv (.ref (ad 58) :: st) M) : z_X dA ad k pc lv (.ref (ad 53) :: st) M := x_getN C (ci := 9) (T := F_Model) (N := 27) (j := 4) zl_Model (zc_Model _) rfl lay_Model (by decide) rfl hlink rfl hdg kk
theorem g_Model_buffer (C : z_C dA ad k cc own d n) {index : Nat} (hlink : Cond.fieldLink own index "CellTransportModel" "buffer" "[I" ∈ z_T) (hdg : decode cc pc = .ok (.getfield index, 3)) (kk : z_X dA ad k (pc + 3) lv (.ref (ad 59) :: st) M) : z_X dA ad k pc lv (.ref (ad 53) :: st) M := x_get C (ci := 9) (T := F_Model) (N := 27) (j := 5) zl_Model (zc_Model _) rfl lay_Model (by decide) rfl hlink rfl hdg kk
theorem g_Model_bufferN (C : z_C dA ad k cc own d n) {index : Nat} {host : String} (hlink : Cond.fieldLinkNest own index "CellTransportModel" "buffer" "[I" host ∈ z_T) (hdg : decode cc pc = .ok (.getfield index, 3)) (kk : z_X dA ad k (pc + 3) lv (.ref (ad 59) :: st) M) : z_X dA ad k pc lv (.ref (ad 53) :: st) M := x_getN C (ci := 9) (T := F_Model) (N := 27) (j := 5) zl_Model (zc_Model _) rfl lay_Model (by decide) rfl hlink rfl hdg kk
theorem g_Model_held (C : z_C dA ad k cc own d n) {index : Nat} (hlink : Cond.fieldLink own index "CellTransportModel" "held" "I" ∈ z_T) (hdg : decode cc pc = .ok (.getfield index, 3)) (kk : z_X dA ad k (pc + 3) lv (.int (M 53 6) :: st) M) : z_X dA ad k pc lv (.ref (ad 53) :: st) M := x_get C (ci := 9) (T := F_Model) (N := 27) (j := 6) zl_Model (zc_Model _) rfl lay_Model (by decide) rfl hlink rfl hdg kk
theorem u_Model_held (C : z_C dA ad k cc own d n) {index : Nat} {x : Int32} (hlink : Cond.fieldLink own index "CellTransportModel" "held" "I" ∈ z_T) (hdg : decode cc pc = .ok (.putfield index, 3)) (kk : z_X dA ad k (pc + 3) lv st (z_sv M 53 6 x)) : z_X dA ad k pc lv (.int x :: .ref (ad 53) :: st) M := x_put C (ci := 9) (T := F_Model) (N := 27) (j := 6) zl_Model (zc_Model _) rfl lay_Model (by decide) rfl t_Model t_Model_ok n_Model rfl rfl rfl (Nat.le_of_ble_eq_true rfl) (by rw [zc_Model _]; rfl) hlink hdg kk
theorem g_Model_heldN (C : z_C dA ad k cc own d n) {index : Nat} {host : String} (hlink : Cond.fieldLinkNest own index "CellTransportModel" "held" "I" host ∈ z_T) (hdg : decode cc pc = .ok (.getfield index, 3)) (kk : z_X dA ad k (pc + 3) lv (.int (M 53 6) :: st) M) : z_X dA ad k pc lv (.ref (ad 53) :: st) M := x_getN C (ci := 9) (T := F_Model) (N := 27) (j := 6) zl_Model (zc_Model _) rfl lay_Model (by decide) rfl hlink rfl hdg kk
theorem u_Model_heldN (C : z_C dA ad k cc own d n) {index : Nat} {x : Int32} {host : String} (hlink : Cond.fieldLinkNest own index "CellTransportModel" "held" "I" host ∈ z_T) (hdg : decode cc pc = .ok (.putfield index, 3)) (kk : z_X dA ad k (pc + 3) lv st (z_sv M 53 6 x)) : z_X dA ad k pc lv (.int x :: .ref (ad 53) :: st) M := x_putN C (ci := 9) (T := F_Model) (N := 27) (j := 6) zl_Model (zc_Model _) rfl lay_Model (by decide) rfl t_Model t_Model_ok n_Model rfl rfl rfl (Nat.le_of_ble_eq_true rfl) (by rw [zc_Model _]; rfl) hlink hdg kk
theorem g_Model_region (C : z_C dA ad k cc own d n) {index : Nat} (hlink : Cond.fieldLink own index "CellTransportModel" "region" "[I" ∈ z_T) (hdg : decode cc pc = .ok (.getfield index, 3)) (kk : z_X dA ad k (pc + 3) lv (.ref (ad 60) :: st) M) : z_X dA ad k pc lv (.ref (ad 53) :: st) M := x_get C (ci := 9) (T := F_Model) (N := 27) (j := 7) zl_Model (zc_Model _) rfl lay_Model (by decide) rfl hlink rfl hdg kk
theorem g_Model_regionN (C : z_C dA ad k cc own d n) {index : Nat} {host : String} (hlink : Cond.fieldLinkNest own index "CellTransportModel" "region" "[I" host ∈ z_T) (hdg : decode cc pc = .ok (.getfield index, 3)) (kk : z_X dA ad k (pc + 3) lv (.ref (ad 60) :: st) M) : z_X dA ad k pc lv (.ref (ad 53) :: st) M := x_getN C (ci := 9) (T := F_Model) (N := 27) (j := 7) zl_Model (zc_Model _) rfl lay_Model (by decide) rfl hlink rfl hdg kk
theorem g_Model_tokens (C : z_C dA ad k cc own d n) {index : Nat} (hlink : Cond.fieldLink own index "CellTransportModel" "tokens" "[I" ∈ z_T) (hdg : decode cc pc = .ok (.getfield index, 3)) (kk : z_X dA ad k (pc + 3) lv (.ref (ad 61) :: st) M) : z_X dA ad k pc lv (.ref (ad 53) :: st) M := x_get C (ci := 9) (T := F_Model) (N := 27) (j := 8) zl_Model (zc_Model _) rfl lay_Model (by decide) rfl hlink rfl hdg kk
theorem g_Model_tokensN (C : z_C dA ad k cc own d n) {index : Nat} {host : String} (hlink : Cond.fieldLinkNest own index "CellTransportModel" "tokens" "[I" host ∈ z_T) (hdg : decode cc pc = .ok (.getfield index, 3)) (kk : z_X dA ad k (pc + 3) lv (.ref (ad 61) :: st) M) : z_X dA ad k pc lv (.ref (ad 53) :: st) M := x_getN C (ci := 9) (T := F_Model) (N := 27) (j := 8) zl_Model (zc_Model _) rfl lay_Model (by decide) rfl hlink rfl hdg kk
theorem g_Model_defined (C : z_C dA ad k cc own d n) {index : Nat} (hlink : Cond.fieldLink own index "CellTransportModel" "defined" "[Z" ∈ z_T) (hdg : decode cc pc = .ok (.getfield index, 3)) (kk : z_X dA ad k (pc + 3) lv (.ref (ad 62) :: st) M) : z_X dA ad k pc lv (.ref (ad 53) :: st) M := x_get C (ci := 9) (T := F_Model) (N := 27) (j := 9) zl_Model (zc_Model _) rfl lay_Model (by decide) rfl hlink rfl hdg kk
theorem g_Model_definedN (C : z_C dA ad k cc own d n) {index : Nat} {host : String} (hlink : Cond.fieldLinkNest own index "CellTransportModel" "defined" "[Z" host ∈ z_T) (hdg : decode cc pc = .ok (.getfield index, 3)) (kk : z_X dA ad k (pc + 3) lv (.ref (ad 62) :: st) M) : z_X dA ad k pc lv (.ref (ad 53) :: st) M := x_getN C (ci := 9) (T := F_Model) (N := 27) (j := 9) zl_Model (zc_Model _) rfl lay_Model (by decide) rfl hlink rfl hdg kk
theorem g_Model_density (C : z_C dA ad k cc own d n) {index : Nat} (hlink : Cond.fieldLink own index "CellTransportModel" "density" "[I" ∈ z_T) (hdg : decode cc pc = .ok (.getfield index, 3)) (kk : z_X dA ad k (pc + 3) lv (.ref (ad 63) :: st) M) : z_X dA ad k pc lv (.ref (ad 53) :: st) M := x_get C (ci := 9) (T := F_Model) (N := 27) (j := 10) zl_Model (zc_Model _) rfl lay_Model (by decide) rfl hlink rfl hdg kk
theorem g_Model_densityN (C : z_C dA ad k cc own d n) {index : Nat} {host : String} (hlink : Cond.fieldLinkNest own index "CellTransportModel" "density" "[I" host ∈ z_T) (hdg : decode cc pc = .ok (.getfield index, 3)) (kk : z_X dA ad k (pc + 3) lv (.ref (ad 63) :: st) M) : z_X dA ad k pc lv (.ref (ad 53) :: st) M := x_getN C (ci := 9) (T := F_Model) (N := 27) (j := 10) zl_Model (zc_Model _) rfl lay_Model (by decide) rfl hlink rfl hdg kk
theorem g_Model_absorbs (C : z_C dA ad k cc own d n) {index : Nat} (hlink : Cond.fieldLink own index "CellTransportModel" "absorbs" "[I" ∈ z_T) (hdg : decode cc pc = .ok (.getfield index, 3)) (kk : z_X dA ad k (pc + 3) lv (.ref (ad 64) :: st) M) : z_X dA ad k pc lv (.ref (ad 53) :: st) M := x_get C (ci := 9) (T := F_Model) (N := 27) (j := 11) zl_Model (zc_Model _) rfl lay_Model (by decide) rfl hlink rfl hdg kk
theorem g_Model_absorbsN (C : z_C dA ad k cc own d n) {index : Nat} {host : String} (hlink : Cond.fieldLinkNest own index "CellTransportModel" "absorbs" "[I" host ∈ z_T) (hdg : decode cc pc = .ok (.getfield index, 3)) (kk : z_X dA ad k (pc + 3) lv (.ref (ad 64) :: st) M) : z_X dA ad k pc lv (.ref (ad 53) :: st) M := x_getN C (ci := 9) (T := F_Model) (N := 27) (j := 11) zl_Model (zc_Model _) rfl lay_Model (by decide) rfl hlink rfl hdg kk
theorem g_Model_splits (C : z_C dA ad k cc own d n) {index : Nat} (hlink : Cond.fieldLink own index "CellTransportModel" "splits" "[I" ∈ z_T) (hdg : decode cc pc = .ok (.getfield index, 3)) (kk : z_X dA ad k (pc + 3) lv (.ref (ad 65) :: st) M) : z_X dA ad k pc lv (.ref (ad 53) :: st) M := x_get C (ci := 9) (T := F_Model) (N := 27) (j := 12) zl_Model (zc_Model _) rfl lay_Model (by decide) rfl hlink rfl hdg kk
theorem g_Model_splitsN (C : z_C dA ad k cc own d n) {index : Nat} {host : String} (hlink : Cond.fieldLinkNest own index "CellTransportModel" "splits" "[I" host ∈ z_T) (hdg : decode cc pc = .ok (.getfield index, 3)) (kk : z_X dA ad k (pc + 3) lv (.ref (ad 65) :: st) M) : z_X dA ad k pc lv (.ref (ad 53) :: st) M := x_getN C (ci := 9) (T := F_Model) (N := 27) (j := 12) zl_Model (zc_Model _) rfl lay_Model (by decide) rfl hlink rfl hdg kk
theorem g_Model_sourceX (C : z_C dA ad k cc own d n) {index : Nat} (hlink : Cond.fieldLink own index "CellTransportModel" "sourceX" "I" ∈ z_T) (hdg : decode cc pc = .ok (.getfield index, 3)) (kk : z_X dA ad k (pc + 3) lv (.int (M 53 13) :: st) M) : z_X dA ad k pc lv (.ref (ad 53) :: st) M := x_get C (ci := 9) (T := F_Model) (N := 27) (j := 13) zl_Model (zc_Model _) rfl lay_Model (by decide) rfl hlink rfl hdg kk
theorem u_Model_sourceX (C : z_C dA ad k cc own d n) {index : Nat} {x : Int32} (hlink : Cond.fieldLink own index "CellTransportModel" "sourceX" "I" ∈ z_T) (hdg : decode cc pc = .ok (.putfield index, 3)) (kk : z_X dA ad k (pc + 3) lv st (z_sv M 53 13 x)) : z_X dA ad k pc lv (.int x :: .ref (ad 53) :: st) M := x_put C (ci := 9) (T := F_Model) (N := 27) (j := 13) zl_Model (zc_Model _) rfl lay_Model (by decide) rfl t_Model t_Model_ok n_Model rfl rfl rfl (Nat.le_of_ble_eq_true rfl) (by rw [zc_Model _]; rfl) hlink hdg kk
theorem g_Model_sourceXN (C : z_C dA ad k cc own d n) {index : Nat} {host : String} (hlink : Cond.fieldLinkNest own index "CellTransportModel" "sourceX" "I" host ∈ z_T) (hdg : decode cc pc = .ok (.getfield index, 3)) (kk : z_X dA ad k (pc + 3) lv (.int (M 53 13) :: st) M) : z_X dA ad k pc lv (.ref (ad 53) :: st) M := x_getN C (ci := 9) (T := F_Model) (N := 27) (j := 13) zl_Model (zc_Model _) rfl lay_Model (by decide) rfl hlink rfl hdg kk
theorem u_Model_sourceXN (C : z_C dA ad k cc own d n) {index : Nat} {x : Int32} {host : String} (hlink : Cond.fieldLinkNest own index "CellTransportModel" "sourceX" "I" host ∈ z_T) (hdg : decode cc pc = .ok (.putfield index, 3)) (kk : z_X dA ad k (pc + 3) lv st (z_sv M 53 13 x)) : z_X dA ad k pc lv (.int x :: .ref (ad 53) :: st) M := x_putN C (ci := 9) (T := F_Model) (N := 27) (j := 13) zl_Model (zc_Model _) rfl lay_Model (by decide) rfl t_Model t_Model_ok n_Model rfl rfl rfl (Nat.le_of_ble_eq_true rfl) (by rw [zc_Model _]; rfl) hlink hdg kk
theorem g_Model_sourceY (C : z_C dA ad k cc own d n) {index : Nat} (hlink : Cond.fieldLink own index "CellTransportModel" "sourceY" "I" ∈ z_T) (hdg : decode cc pc = .ok (.getfield index, 3)) (kk : z_X dA ad k (pc + 3) lv (.int (M 53 14) :: st) M) : z_X dA ad k pc lv (.ref (ad 53) :: st) M := x_get C (ci := 9) (T := F_Model) (N := 27) (j := 14) zl_Model (zc_Model _) rfl lay_Model (by decide) rfl hlink rfl hdg kk
theorem u_Model_sourceY (C : z_C dA ad k cc own d n) {index : Nat} {x : Int32} (hlink : Cond.fieldLink own index "CellTransportModel" "sourceY" "I" ∈ z_T) (hdg : decode cc pc = .ok (.putfield index, 3)) (kk : z_X dA ad k (pc + 3) lv st (z_sv M 53 14 x)) : z_X dA ad k pc lv (.int x :: .ref (ad 53) :: st) M := x_put C (ci := 9) (T := F_Model) (N := 27) (j := 14) zl_Model (zc_Model _) rfl lay_Model (by decide) rfl t_Model t_Model_ok n_Model rfl rfl rfl (Nat.le_of_ble_eq_true rfl) (by rw [zc_Model _]; rfl) hlink hdg kk
theorem g_Model_sourceYN (C : z_C dA ad k cc own d n) {index : Nat} {host : String} (hlink : Cond.fieldLinkNest own index "CellTransportModel" "sourceY" "I" host ∈ z_T) (hdg : decode cc pc = .ok (.getfield index, 3)) (kk : z_X dA ad k (pc + 3) lv (.int (M 53 14) :: st) M) : z_X dA ad k pc lv (.ref (ad 53) :: st) M := x_getN C (ci := 9) (T := F_Model) (N := 27) (j := 14) zl_Model (zc_Model _) rfl lay_Model (by decide) rfl hlink rfl hdg kk
theorem u_Model_sourceYN (C : z_C dA ad k cc own d n) {index : Nat} {x : Int32} {host : String} (hlink : Cond.fieldLinkNest own index "CellTransportModel" "sourceY" "I" host ∈ z_T) (hdg : decode cc pc = .ok (.putfield index, 3)) (kk : z_X dA ad k (pc + 3) lv st (z_sv M 53 14 x)) : z_X dA ad k pc lv (.int x :: .ref (ad 53) :: st) M := x_putN C (ci := 9) (T := F_Model) (N := 27) (j := 14) zl_Model (zc_Model _) rfl lay_Model (by decide) rfl t_Model t_Model_ok n_Model rfl rfl rfl (Nat.le_of_ble_eq_true rfl) (by rw [zc_Model _]; rfl) hlink hdg kk
theorem g_Model_generator (C : z_C dA ad k cc own d n) {index : Nat} (hlink : Cond.fieldLink own index "CellTransportModel" "generator" "J" ∈ z_T) (hdg : decode cc pc = .ok (.getfield index, 3)) (kk : z_X dA ad k (pc + 3) lv (.long (M 53 15).toInt64 :: st) M) : z_X dA ad k pc lv (.ref (ad 53) :: st) M := x_get C (ci := 9) (T := F_Model) (N := 27) (j := 15) zl_Model (zc_Model _) rfl lay_Model (by decide) rfl hlink rfl hdg kk
theorem u_Model_generator (C : z_C dA ad k cc own d n) {index : Nat} {x : Int32} {v : Int64} (hv : v = x.toInt64) (hlink : Cond.fieldLink own index "CellTransportModel" "generator" "J" ∈ z_T) (hdg : decode cc pc = .ok (.putfield index, 3)) (kk : z_X dA ad k (pc + 3) lv st (z_sv M 53 15 x)) : z_X dA ad k pc lv (.long v :: .ref (ad 53) :: st) M := by
  subst hv
  exact x_put C (ci := 9) (T := F_Model) (N := 27) (j := 15) (x := x) zl_Model (zc_Model _) rfl lay_Model (by decide) rfl t_Model t_Model_ok n_Model rfl rfl rfl (Nat.le_of_ble_eq_true rfl) (by rw [zc_Model _]; rfl) hlink hdg kk
theorem g_Model_generatorN (C : z_C dA ad k cc own d n) {index : Nat} {host : String} (hlink : Cond.fieldLinkNest own index "CellTransportModel" "generator" "J" host ∈ z_T) (hdg : decode cc pc = .ok (.getfield index, 3)) (kk : z_X dA ad k (pc + 3) lv (.long (M 53 15).toInt64 :: st) M) : z_X dA ad k pc lv (.ref (ad 53) :: st) M := x_getN C (ci := 9) (T := F_Model) (N := 27) (j := 15) zl_Model (zc_Model _) rfl lay_Model (by decide) rfl hlink rfl hdg kk
theorem g_Model_tallies (C : z_C dA ad k cc own d n) {index : Nat} (hlink : Cond.fieldLink own index "CellTransportModel" "tallies" "[I" ∈ z_T) (hdg : decode cc pc = .ok (.getfield index, 3)) (kk : z_X dA ad k (pc + 3) lv (.ref (ad 66) :: st) M) : z_X dA ad k pc lv (.ref (ad 53) :: st) M := x_get C (ci := 9) (T := F_Model) (N := 27) (j := 16) zl_Model (zc_Model _) rfl lay_Model (by decide) rfl hlink rfl hdg kk
theorem g_Model_talliesN (C : z_C dA ad k cc own d n) {index : Nat} {host : String} (hlink : Cond.fieldLinkNest own index "CellTransportModel" "tallies" "[I" host ∈ z_T) (hdg : decode cc pc = .ok (.getfield index, 3)) (kk : z_X dA ad k (pc + 3) lv (.ref (ad 66) :: st) M) : z_X dA ad k pc lv (.ref (ad 53) :: st) M := x_getN C (ci := 9) (T := F_Model) (N := 27) (j := 16) zl_Model (zc_Model _) rfl lay_Model (by decide) rfl hlink rfl hdg kk
theorem g_Model_crossings (C : z_C dA ad k cc own d n) {index : Nat} (hlink : Cond.fieldLink own index "CellTransportModel" "crossings" "[I" ∈ z_T) (hdg : decode cc pc = .ok (.getfield index, 3)) (kk : z_X dA ad k (pc + 3) lv (.ref (ad 67) :: st) M) : z_X dA ad k pc lv (.ref (ad 53) :: st) M := x_get C (ci := 9) (T := F_Model) (N := 27) (j := 17) zl_Model (zc_Model _) rfl lay_Model (by decide) rfl hlink rfl hdg kk
theorem g_Model_crossingsN (C : z_C dA ad k cc own d n) {index : Nat} {host : String} (hlink : Cond.fieldLinkNest own index "CellTransportModel" "crossings" "[I" host ∈ z_T) (hdg : decode cc pc = .ok (.getfield index, 3)) (kk : z_X dA ad k (pc + 3) lv (.ref (ad 67) :: st) M) : z_X dA ad k pc lv (.ref (ad 53) :: st) M := x_getN C (ci := 9) (T := F_Model) (N := 27) (j := 17) zl_Model (zc_Model _) rfl lay_Model (by decide) rfl hlink rfl hdg kk
theorem g_Model_counts (C : z_C dA ad k cc own d n) {index : Nat} (hlink : Cond.fieldLink own index "CellTransportModel" "counts" "[I" ∈ z_T) (hdg : decode cc pc = .ok (.getfield index, 3)) (kk : z_X dA ad k (pc + 3) lv (.ref (ad 68) :: st) M) : z_X dA ad k pc lv (.ref (ad 53) :: st) M := x_get C (ci := 9) (T := F_Model) (N := 27) (j := 18) zl_Model (zc_Model _) rfl lay_Model (by decide) rfl hlink rfl hdg kk
theorem g_Model_countsN (C : z_C dA ad k cc own d n) {index : Nat} {host : String} (hlink : Cond.fieldLinkNest own index "CellTransportModel" "counts" "[I" host ∈ z_T) (hdg : decode cc pc = .ok (.getfield index, 3)) (kk : z_X dA ad k (pc + 3) lv (.ref (ad 68) :: st) M) : z_X dA ad k pc lv (.ref (ad 53) :: st) M := x_getN C (ci := 9) (T := F_Model) (N := 27) (j := 18) zl_Model (zc_Model _) rfl lay_Model (by decide) rfl hlink rfl hdg kk
theorem g_Model_px (C : z_C dA ad k cc own d n) {index : Nat} (hlink : Cond.fieldLink own index "CellTransportModel" "px" "[I" ∈ z_T) (hdg : decode cc pc = .ok (.getfield index, 3)) (kk : z_X dA ad k (pc + 3) lv (.ref (ad 69) :: st) M) : z_X dA ad k pc lv (.ref (ad 53) :: st) M := x_get C (ci := 9) (T := F_Model) (N := 27) (j := 19) zl_Model (zc_Model _) rfl lay_Model (by decide) rfl hlink rfl hdg kk
theorem g_Model_pxN (C : z_C dA ad k cc own d n) {index : Nat} {host : String} (hlink : Cond.fieldLinkNest own index "CellTransportModel" "px" "[I" host ∈ z_T) (hdg : decode cc pc = .ok (.getfield index, 3)) (kk : z_X dA ad k (pc + 3) lv (.ref (ad 69) :: st) M) : z_X dA ad k pc lv (.ref (ad 53) :: st) M := x_getN C (ci := 9) (T := F_Model) (N := 27) (j := 19) zl_Model (zc_Model _) rfl lay_Model (by decide) rfl hlink rfl hdg kk
theorem g_Model_py (C : z_C dA ad k cc own d n) {index : Nat} (hlink : Cond.fieldLink own index "CellTransportModel" "py" "[I" ∈ z_T) (hdg : decode cc pc = .ok (.getfield index, 3)) (kk : z_X dA ad k (pc + 3) lv (.ref (ad 70) :: st) M) : z_X dA ad k pc lv (.ref (ad 53) :: st) M := x_get C (ci := 9) (T := F_Model) (N := 27) (j := 20) zl_Model (zc_Model _) rfl lay_Model (by decide) rfl hlink rfl hdg kk
theorem g_Model_pyN (C : z_C dA ad k cc own d n) {index : Nat} {host : String} (hlink : Cond.fieldLinkNest own index "CellTransportModel" "py" "[I" host ∈ z_T) (hdg : decode cc pc = .ok (.getfield index, 3)) (kk : z_X dA ad k (pc + 3) lv (.ref (ad 70) :: st) M) : z_X dA ad k pc lv (.ref (ad 53) :: st) M := x_getN C (ci := 9) (T := F_Model) (N := 27) (j := 20) zl_Model (zc_Model _) rfl lay_Model (by decide) rfl hlink rfl hdg kk
theorem g_Model_waiting (C : z_C dA ad k cc own d n) {index : Nat} (hlink : Cond.fieldLink own index "CellTransportModel" "waiting" "I" ∈ z_T) (hdg : decode cc pc = .ok (.getfield index, 3)) (kk : z_X dA ad k (pc + 3) lv (.int (M 53 21) :: st) M) : z_X dA ad k pc lv (.ref (ad 53) :: st) M := x_get C (ci := 9) (T := F_Model) (N := 27) (j := 21) zl_Model (zc_Model _) rfl lay_Model (by decide) rfl hlink rfl hdg kk
theorem u_Model_waiting (C : z_C dA ad k cc own d n) {index : Nat} {x : Int32} (hlink : Cond.fieldLink own index "CellTransportModel" "waiting" "I" ∈ z_T) (hdg : decode cc pc = .ok (.putfield index, 3)) (kk : z_X dA ad k (pc + 3) lv st (z_sv M 53 21 x)) : z_X dA ad k pc lv (.int x :: .ref (ad 53) :: st) M := x_put C (ci := 9) (T := F_Model) (N := 27) (j := 21) zl_Model (zc_Model _) rfl lay_Model (by decide) rfl t_Model t_Model_ok n_Model rfl rfl rfl (Nat.le_of_ble_eq_true rfl) (by rw [zc_Model _]; rfl) hlink hdg kk
theorem g_Model_waitingN (C : z_C dA ad k cc own d n) {index : Nat} {host : String} (hlink : Cond.fieldLinkNest own index "CellTransportModel" "waiting" "I" host ∈ z_T) (hdg : decode cc pc = .ok (.getfield index, 3)) (kk : z_X dA ad k (pc + 3) lv (.int (M 53 21) :: st) M) : z_X dA ad k pc lv (.ref (ad 53) :: st) M := x_getN C (ci := 9) (T := F_Model) (N := 27) (j := 21) zl_Model (zc_Model _) rfl lay_Model (by decide) rfl hlink rfl hdg kk
theorem u_Model_waitingN (C : z_C dA ad k cc own d n) {index : Nat} {x : Int32} {host : String} (hlink : Cond.fieldLinkNest own index "CellTransportModel" "waiting" "I" host ∈ z_T) (hdg : decode cc pc = .ok (.putfield index, 3)) (kk : z_X dA ad k (pc + 3) lv st (z_sv M 53 21 x)) : z_X dA ad k pc lv (.int x :: .ref (ad 53) :: st) M := x_putN C (ci := 9) (T := F_Model) (N := 27) (j := 21) zl_Model (zc_Model _) rfl lay_Model (by decide) rfl t_Model t_Model_ok n_Model rfl rfl rfl (Nat.le_of_ble_eq_true rfl) (by rw [zc_Model _]; rfl) hlink hdg kk
theorem g_Model_particles (C : z_C dA ad k cc own d n) {index : Nat} (hlink : Cond.fieldLink own index "CellTransportModel" "particles" "I" ∈ z_T) (hdg : decode cc pc = .ok (.getfield index, 3)) (kk : z_X dA ad k (pc + 3) lv (.int (M 53 22) :: st) M) : z_X dA ad k pc lv (.ref (ad 53) :: st) M := x_get C (ci := 9) (T := F_Model) (N := 27) (j := 22) zl_Model (zc_Model _) rfl lay_Model (by decide) rfl hlink rfl hdg kk
theorem u_Model_particles (C : z_C dA ad k cc own d n) {index : Nat} {x : Int32} (hlink : Cond.fieldLink own index "CellTransportModel" "particles" "I" ∈ z_T) (hdg : decode cc pc = .ok (.putfield index, 3)) (kk : z_X dA ad k (pc + 3) lv st (z_sv M 53 22 x)) : z_X dA ad k pc lv (.int x :: .ref (ad 53) :: st) M := x_put C (ci := 9) (T := F_Model) (N := 27) (j := 22) zl_Model (zc_Model _) rfl lay_Model (by decide) rfl t_Model t_Model_ok n_Model rfl rfl rfl (Nat.le_of_ble_eq_true rfl) (by rw [zc_Model _]; rfl) hlink hdg kk
theorem g_Model_particlesN (C : z_C dA ad k cc own d n) {index : Nat} {host : String} (hlink : Cond.fieldLinkNest own index "CellTransportModel" "particles" "I" host ∈ z_T) (hdg : decode cc pc = .ok (.getfield index, 3)) (kk : z_X dA ad k (pc + 3) lv (.int (M 53 22) :: st) M) : z_X dA ad k pc lv (.ref (ad 53) :: st) M := x_getN C (ci := 9) (T := F_Model) (N := 27) (j := 22) zl_Model (zc_Model _) rfl lay_Model (by decide) rfl hlink rfl hdg kk
theorem u_Model_particlesN (C : z_C dA ad k cc own d n) {index : Nat} {x : Int32} {host : String} (hlink : Cond.fieldLinkNest own index "CellTransportModel" "particles" "I" host ∈ z_T) (hdg : decode cc pc = .ok (.putfield index, 3)) (kk : z_X dA ad k (pc + 3) lv st (z_sv M 53 22 x)) : z_X dA ad k pc lv (.int x :: .ref (ad 53) :: st) M := x_putN C (ci := 9) (T := F_Model) (N := 27) (j := 22) zl_Model (zc_Model _) rfl lay_Model (by decide) rfl t_Model t_Model_ok n_Model rfl rfl rfl (Nat.le_of_ble_eq_true rfl) (by rw [zc_Model _]; rfl) hlink hdg kk
theorem g_Model_x (C : z_C dA ad k cc own d n) {index : Nat} (hlink : Cond.fieldLink own index "CellTransportModel" "x" "I" ∈ z_T) (hdg : decode cc pc = .ok (.getfield index, 3)) (kk : z_X dA ad k (pc + 3) lv (.int (M 53 23) :: st) M) : z_X dA ad k pc lv (.ref (ad 53) :: st) M := x_get C (ci := 9) (T := F_Model) (N := 27) (j := 23) zl_Model (zc_Model _) rfl lay_Model (by decide) rfl hlink rfl hdg kk
theorem u_Model_x (C : z_C dA ad k cc own d n) {index : Nat} {x : Int32} (hlink : Cond.fieldLink own index "CellTransportModel" "x" "I" ∈ z_T) (hdg : decode cc pc = .ok (.putfield index, 3)) (kk : z_X dA ad k (pc + 3) lv st (z_sv M 53 23 x)) : z_X dA ad k pc lv (.int x :: .ref (ad 53) :: st) M := x_put C (ci := 9) (T := F_Model) (N := 27) (j := 23) zl_Model (zc_Model _) rfl lay_Model (by decide) rfl t_Model t_Model_ok n_Model rfl rfl rfl (Nat.le_of_ble_eq_true rfl) (by rw [zc_Model _]; rfl) hlink hdg kk
theorem g_Model_xN (C : z_C dA ad k cc own d n) {index : Nat} {host : String} (hlink : Cond.fieldLinkNest own index "CellTransportModel" "x" "I" host ∈ z_T) (hdg : decode cc pc = .ok (.getfield index, 3)) (kk : z_X dA ad k (pc + 3) lv (.int (M 53 23) :: st) M) : z_X dA ad k pc lv (.ref (ad 53) :: st) M := x_getN C (ci := 9) (T := F_Model) (N := 27) (j := 23) zl_Model (zc_Model _) rfl lay_Model (by decide) rfl hlink rfl hdg kk
theorem u_Model_xN (C : z_C dA ad k cc own d n) {index : Nat} {x : Int32} {host : String} (hlink : Cond.fieldLinkNest own index "CellTransportModel" "x" "I" host ∈ z_T) (hdg : decode cc pc = .ok (.putfield index, 3)) (kk : z_X dA ad k (pc + 3) lv st (z_sv M 53 23 x)) : z_X dA ad k pc lv (.int x :: .ref (ad 53) :: st) M := x_putN C (ci := 9) (T := F_Model) (N := 27) (j := 23) zl_Model (zc_Model _) rfl lay_Model (by decide) rfl t_Model t_Model_ok n_Model rfl rfl rfl (Nat.le_of_ble_eq_true rfl) (by rw [zc_Model _]; rfl) hlink hdg kk
theorem g_Model_y (C : z_C dA ad k cc own d n) {index : Nat} (hlink : Cond.fieldLink own index "CellTransportModel" "y" "I" ∈ z_T) (hdg : decode cc pc = .ok (.getfield index, 3)) (kk : z_X dA ad k (pc + 3) lv (.int (M 53 24) :: st) M) : z_X dA ad k pc lv (.ref (ad 53) :: st) M := x_get C (ci := 9) (T := F_Model) (N := 27) (j := 24) zl_Model (zc_Model _) rfl lay_Model (by decide) rfl hlink rfl hdg kk
theorem u_Model_y (C : z_C dA ad k cc own d n) {index : Nat} {x : Int32} (hlink : Cond.fieldLink own index "CellTransportModel" "y" "I" ∈ z_T) (hdg : decode cc pc = .ok (.putfield index, 3)) (kk : z_X dA ad k (pc + 3) lv st (z_sv M 53 24 x)) : z_X dA ad k pc lv (.int x :: .ref (ad 53) :: st) M := x_put C (ci := 9) (T := F_Model) (N := 27) (j := 24) zl_Model (zc_Model _) rfl lay_Model (by decide) rfl t_Model t_Model_ok n_Model rfl rfl rfl (Nat.le_of_ble_eq_true rfl) (by rw [zc_Model _]; rfl) hlink hdg kk
theorem g_Model_yN (C : z_C dA ad k cc own d n) {index : Nat} {host : String} (hlink : Cond.fieldLinkNest own index "CellTransportModel" "y" "I" host ∈ z_T) (hdg : decode cc pc = .ok (.getfield index, 3)) (kk : z_X dA ad k (pc + 3) lv (.int (M 53 24) :: st) M) : z_X dA ad k pc lv (.ref (ad 53) :: st) M := x_getN C (ci := 9) (T := F_Model) (N := 27) (j := 24) zl_Model (zc_Model _) rfl lay_Model (by decide) rfl hlink rfl hdg kk
theorem u_Model_yN (C : z_C dA ad k cc own d n) {index : Nat} {x : Int32} {host : String} (hlink : Cond.fieldLinkNest own index "CellTransportModel" "y" "I" host ∈ z_T) (hdg : decode cc pc = .ok (.putfield index, 3)) (kk : z_X dA ad k (pc + 3) lv st (z_sv M 53 24 x)) : z_X dA ad k pc lv (.int x :: .ref (ad 53) :: st) M := x_putN C (ci := 9) (T := F_Model) (N := 27) (j := 24) zl_Model (zc_Model _) rfl lay_Model (by decide) rfl t_Model t_Model_ok n_Model rfl rfl rfl (Nat.le_of_ble_eq_true rfl) (by rw [zc_Model _]; rfl) hlink hdg kk
theorem g_Model_direction (C : z_C dA ad k cc own d n) {index : Nat} (hlink : Cond.fieldLink own index "CellTransportModel" "direction" "I" ∈ z_T) (hdg : decode cc pc = .ok (.getfield index, 3)) (kk : z_X dA ad k (pc + 3) lv (.int (M 53 25) :: st) M) : z_X dA ad k pc lv (.ref (ad 53) :: st) M := x_get C (ci := 9) (T := F_Model) (N := 27) (j := 25) zl_Model (zc_Model _) rfl lay_Model (by decide) rfl hlink rfl hdg kk
theorem u_Model_direction (C : z_C dA ad k cc own d n) {index : Nat} {x : Int32} (hlink : Cond.fieldLink own index "CellTransportModel" "direction" "I" ∈ z_T) (hdg : decode cc pc = .ok (.putfield index, 3)) (kk : z_X dA ad k (pc + 3) lv st (z_sv M 53 25 x)) : z_X dA ad k pc lv (.int x :: .ref (ad 53) :: st) M := x_put C (ci := 9) (T := F_Model) (N := 27) (j := 25) zl_Model (zc_Model _) rfl lay_Model (by decide) rfl t_Model t_Model_ok n_Model rfl rfl rfl (Nat.le_of_ble_eq_true rfl) (by rw [zc_Model _]; rfl) hlink hdg kk
theorem g_Model_directionN (C : z_C dA ad k cc own d n) {index : Nat} {host : String} (hlink : Cond.fieldLinkNest own index "CellTransportModel" "direction" "I" host ∈ z_T) (hdg : decode cc pc = .ok (.getfield index, 3)) (kk : z_X dA ad k (pc + 3) lv (.int (M 53 25) :: st) M) : z_X dA ad k pc lv (.ref (ad 53) :: st) M := x_getN C (ci := 9) (T := F_Model) (N := 27) (j := 25) zl_Model (zc_Model _) rfl lay_Model (by decide) rfl hlink rfl hdg kk
theorem u_Model_directionN (C : z_C dA ad k cc own d n) {index : Nat} {x : Int32} {host : String} (hlink : Cond.fieldLinkNest own index "CellTransportModel" "direction" "I" host ∈ z_T) (hdg : decode cc pc = .ok (.putfield index, 3)) (kk : z_X dA ad k (pc + 3) lv st (z_sv M 53 25 x)) : z_X dA ad k pc lv (.int x :: .ref (ad 53) :: st) M := x_putN C (ci := 9) (T := F_Model) (N := 27) (j := 25) zl_Model (zc_Model _) rfl lay_Model (by decide) rfl t_Model t_Model_ok n_Model rfl rfl rfl (Nat.le_of_ble_eq_true rfl) (by rw [zc_Model _]; rfl) hlink hdg kk
theorem g_Model_budget (C : z_C dA ad k cc own d n) {index : Nat} (hlink : Cond.fieldLink own index "CellTransportModel" "budget" "I" ∈ z_T) (hdg : decode cc pc = .ok (.getfield index, 3)) (kk : z_X dA ad k (pc + 3) lv (.int (M 53 26) :: st) M) : z_X dA ad k pc lv (.ref (ad 53) :: st) M := x_get C (ci := 9) (T := F_Model) (N := 27) (j := 26) zl_Model (zc_Model _) rfl lay_Model (by decide) rfl hlink rfl hdg kk
theorem u_Model_budget (C : z_C dA ad k cc own d n) {index : Nat} {x : Int32} (hlink : Cond.fieldLink own index "CellTransportModel" "budget" "I" ∈ z_T) (hdg : decode cc pc = .ok (.putfield index, 3)) (kk : z_X dA ad k (pc + 3) lv st (z_sv M 53 26 x)) : z_X dA ad k pc lv (.int x :: .ref (ad 53) :: st) M := x_put C (ci := 9) (T := F_Model) (N := 27) (j := 26) zl_Model (zc_Model _) rfl lay_Model (by decide) rfl t_Model t_Model_ok n_Model rfl rfl rfl (Nat.le_of_ble_eq_true rfl) (by rw [zc_Model _]; rfl) hlink hdg kk
theorem g_Model_budgetN (C : z_C dA ad k cc own d n) {index : Nat} {host : String} (hlink : Cond.fieldLinkNest own index "CellTransportModel" "budget" "I" host ∈ z_T) (hdg : decode cc pc = .ok (.getfield index, 3)) (kk : z_X dA ad k (pc + 3) lv (.int (M 53 26) :: st) M) : z_X dA ad k pc lv (.ref (ad 53) :: st) M := x_getN C (ci := 9) (T := F_Model) (N := 27) (j := 26) zl_Model (zc_Model _) rfl lay_Model (by decide) rfl hlink rfl hdg kk
theorem u_Model_budgetN (C : z_C dA ad k cc own d n) {index : Nat} {x : Int32} {host : String} (hlink : Cond.fieldLinkNest own index "CellTransportModel" "budget" "I" host ∈ z_T) (hdg : decode cc pc = .ok (.putfield index, 3)) (kk : z_X dA ad k (pc + 3) lv st (z_sv M 53 26 x)) : z_X dA ad k pc lv (.int x :: .ref (ad 53) :: st) M := x_putN C (ci := 9) (T := F_Model) (N := 27) (j := 26) zl_Model (zc_Model _) rfl lay_Model (by decide) rfl t_Model t_Model_ok n_Model rfl rfl rfl (Nat.le_of_ble_eq_true rfl) (by rw [zc_Model _]; rfl) hlink hdg kk
theorem r_al_surfaces (C : z_C dA ad k cc own d n) {i : Int32} (hin : vp_in i 8) (hdg : decode cc pc = .ok (.aaload, 1)) (kk : z_X dA ad k (pc + 1) lv (.ref (ad (i_surf i.toNatClampNeg)) :: st) M) : z_X dA ad k pc lv (.int i :: .ref (ad 2) :: st) M := x_aald C (t0 := 1) (g := fun j => (i_surf j)) zl_surfaces (zc_surfaces _) rfl hin hdg kk
theorem r_al_cells (C : z_C dA ad k cc own d n) {i : Int32} (hin : vp_in i 6) (hdg : decode cc pc = .ok (.aaload, 1)) (kk : z_X dA ad k (pc + 1) lv (.ref (ad (i_cell i.toNatClampNeg)) :: st) M) : z_X dA ad k pc lv (.int i :: .ref (ad 3) :: st) M := x_aald C (t0 := 2) (g := fun j => (i_cell j)) zl_cells (zc_cells _) rfl hin hdg kk
theorem r_ld_tokens (C : z_C dA ad k cc own d n) {j : Nat} (hj : j < 7) {i : Int32} (hin : vp_in i 8) (hdg : decode cc pc = .ok (.iaload, 1)) (kk : z_X dA ad k (pc + 1) lv (.int (M (i_tok j) i.toNatClampNeg) :: st) M) : z_X dA ad k pc lv (.int i :: .ref (ad (i_tok j)) :: st) M := x_iald C (t0 := 0) (zl_tokens hj ) (zc_tokens hj _) rfl hin hdg kk
theorem r_st_tokens (C : z_C dA ad k cc own d n) {j : Nat} (hj : j < 7) {i x : Int32} (hin : vp_in i 8) (hdg : decode cc pc = .ok (.iastore, 1)) (kk : z_X dA ad k (pc + 1) lv st (z_sv M (i_tok j) i.toNatClampNeg x)) : z_X dA ad k pc lv (.int x :: .int i :: .ref (ad (i_tok j)) :: st) M := x_iast C (t0 := 0) (zl_tokens hj ) (fun f => zc_tokens hj f) rfl hin hdg kk
theorem r_ld_totals (C : z_C dA ad k cc own d n) {i : Int32} (hin : vp_in i 5) (hdg : decode cc pc = .ok (.iaload, 1)) (kk : z_X dA ad k (pc + 1) lv (.int (M 34 i.toNatClampNeg) :: st) M) : z_X dA ad k pc lv (.int i :: .ref (ad 34) :: st) M := x_iald C (t0 := 0) zl_totals (zc_totals _) rfl hin hdg kk
theorem r_st_totals (C : z_C dA ad k cc own d n) {i x : Int32} (hin : vp_in i 5) (hdg : decode cc pc = .ok (.iastore, 1)) (kk : z_X dA ad k (pc + 1) lv st (z_sv M 34 i.toNatClampNeg x)) : z_X dA ad k pc lv (.int x :: .int i :: .ref (ad 34) :: st) M := x_iast C (t0 := 0) zl_totals (fun f => zc_totals f) rfl hin hdg kk
theorem r_al_tallies (C : z_C dA ad k cc own d n) {i : Int32} (hin : vp_in i 6) (hdg : decode cc pc = .ok (.aaload, 1)) (kk : z_X dA ad k (pc + 1) lv (.ref (ad (i_talr i.toNatClampNeg)) :: st) M) : z_X dA ad k pc lv (.int i :: .ref (ad 35) :: st) M := x_aaldA C (t0 := 3) (g := fun j => (i_talr j)) zl_tallies (zc_tallies _) rfl hin hdg kk
theorem r_ld_talrow (C : z_C dA ad k cc own d n) {j : Nat} (hj : j < 6) {i : Int32} (hin : vp_in i 4) (hdg : decode cc pc = .ok (.iaload, 1)) (kk : z_X dA ad k (pc + 1) lv (.int (M (i_talr j) i.toNatClampNeg) :: st) M) : z_X dA ad k pc lv (.int i :: .ref (ad (i_talr j)) :: st) M := x_iald C (t0 := 0) (zl_talrow hj ) (zc_talrow hj _) rfl hin hdg kk
theorem r_st_talrow (C : z_C dA ad k cc own d n) {j : Nat} (hj : j < 6) {i x : Int32} (hin : vp_in i 4) (hdg : decode cc pc = .ok (.iastore, 1)) (kk : z_X dA ad k (pc + 1) lv st (z_sv M (i_talr j) i.toNatClampNeg x)) : z_X dA ad k pc lv (.int x :: .int i :: .ref (ad (i_talr j)) :: st) M := x_iast C (t0 := 0) (zl_talrow hj ) (fun f => zc_talrow hj f) rfl hin hdg kk
theorem r_al_crossings (C : z_C dA ad k cc own d n) {i : Int32} (hin : vp_in i 6) (hdg : decode cc pc = .ok (.aaload, 1)) (kk : z_X dA ad k (pc + 1) lv (.ref (ad (i_cror i.toNatClampNeg)) :: st) M) : z_X dA ad k pc lv (.int i :: .ref (ad 42) :: st) M := x_aaldA C (t0 := 3) (g := fun j => (i_cror j)) zl_crossings (zc_crossings _) rfl hin hdg kk
theorem r_ld_crorow (C : z_C dA ad k cc own d n) {j : Nat} (hj : j < 6) {i : Int32} (hin : vp_in i 6) (hdg : decode cc pc = .ok (.iaload, 1)) (kk : z_X dA ad k (pc + 1) lv (.int (M (i_cror j) i.toNatClampNeg) :: st) M) : z_X dA ad k pc lv (.int i :: .ref (ad (i_cror j)) :: st) M := x_iald C (t0 := 0) (zl_crorow hj ) (zc_crorow hj _) rfl hin hdg kk
theorem r_st_crorow (C : z_C dA ad k cc own d n) {j : Nat} (hj : j < 6) {i x : Int32} (hin : vp_in i 6) (hdg : decode cc pc = .ok (.iastore, 1)) (kk : z_X dA ad k (pc + 1) lv st (z_sv M (i_cror j) i.toNatClampNeg x)) : z_X dA ad k pc lv (.int x :: .int i :: .ref (ad (i_cror j)) :: st) M := x_iast C (t0 := 0) (zl_crorow hj ) (fun f => zc_crorow hj f) rfl hin hdg kk
theorem r_ld_placesX (C : z_C dA ad k cc own d n) {i : Int32} (hin : vp_in i 12) (hdg : decode cc pc = .ok (.iaload, 1)) (kk : z_X dA ad k (pc + 1) lv (.int (M 50 i.toNatClampNeg) :: st) M) : z_X dA ad k pc lv (.int i :: .ref (ad 50) :: st) M := x_iald C (t0 := 0) zl_placesX (zc_placesX _) rfl hin hdg kk
theorem r_st_placesX (C : z_C dA ad k cc own d n) {i x : Int32} (hin : vp_in i 12) (hdg : decode cc pc = .ok (.iastore, 1)) (kk : z_X dA ad k (pc + 1) lv st (z_sv M 50 i.toNatClampNeg x)) : z_X dA ad k pc lv (.int x :: .int i :: .ref (ad 50) :: st) M := x_iast C (t0 := 0) zl_placesX (fun f => zc_placesX f) rfl hin hdg kk
theorem r_ld_placesY (C : z_C dA ad k cc own d n) {i : Int32} (hin : vp_in i 12) (hdg : decode cc pc = .ok (.iaload, 1)) (kk : z_X dA ad k (pc + 1) lv (.int (M 51 i.toNatClampNeg) :: st) M) : z_X dA ad k pc lv (.int i :: .ref (ad 51) :: st) M := x_iald C (t0 := 0) zl_placesY (zc_placesY _) rfl hin hdg kk
theorem r_st_placesY (C : z_C dA ad k cc own d n) {i x : Int32} (hin : vp_in i 12) (hdg : decode cc pc = .ok (.iastore, 1)) (kk : z_X dA ad k (pc + 1) lv st (z_sv M 51 i.toNatClampNeg x)) : z_X dA ad k pc lv (.int x :: .int i :: .ref (ad 51) :: st) M := x_iast C (t0 := 0) zl_placesY (fun f => zc_placesY f) rfl hin hdg kk
theorem r_ld_m_kind (C : z_C dA ad k cc own d n) {i : Int32} (hin : vp_in i 8) (hdg : decode cc pc = .ok (.iaload, 1)) (kk : z_X dA ad k (pc + 1) lv (.int (M 54 i.toNatClampNeg) :: st) M) : z_X dA ad k pc lv (.int i :: .ref (ad 54) :: st) M := x_iald C (t0 := 0) zl_m_kind (zc_m_kind _) rfl hin hdg kk
theorem r_st_m_kind (C : z_C dA ad k cc own d n) {i x : Int32} (hin : vp_in i 8) (hdg : decode cc pc = .ok (.iastore, 1)) (kk : z_X dA ad k (pc + 1) lv st (z_sv M 54 i.toNatClampNeg x)) : z_X dA ad k pc lv (.int x :: .int i :: .ref (ad 54) :: st) M := x_iast C (t0 := 0) zl_m_kind (fun f => zc_m_kind f) rfl hin hdg kk
theorem r_ld_m_sa (C : z_C dA ad k cc own d n) {i : Int32} (hin : vp_in i 8) (hdg : decode cc pc = .ok (.iaload, 1)) (kk : z_X dA ad k (pc + 1) lv (.int (M 55 i.toNatClampNeg) :: st) M) : z_X dA ad k pc lv (.int i :: .ref (ad 55) :: st) M := x_iald C (t0 := 0) zl_m_sa (zc_m_sa _) rfl hin hdg kk
theorem r_st_m_sa (C : z_C dA ad k cc own d n) {i x : Int32} (hin : vp_in i 8) (hdg : decode cc pc = .ok (.iastore, 1)) (kk : z_X dA ad k (pc + 1) lv st (z_sv M 55 i.toNatClampNeg x)) : z_X dA ad k pc lv (.int x :: .int i :: .ref (ad 55) :: st) M := x_iast C (t0 := 0) zl_m_sa (fun f => zc_m_sa f) rfl hin hdg kk
theorem r_ld_m_sb (C : z_C dA ad k cc own d n) {i : Int32} (hin : vp_in i 8) (hdg : decode cc pc = .ok (.iaload, 1)) (kk : z_X dA ad k (pc + 1) lv (.int (M 56 i.toNatClampNeg) :: st) M) : z_X dA ad k pc lv (.int i :: .ref (ad 56) :: st) M := x_iald C (t0 := 0) zl_m_sb (zc_m_sb _) rfl hin hdg kk
theorem r_st_m_sb (C : z_C dA ad k cc own d n) {i x : Int32} (hin : vp_in i 8) (hdg : decode cc pc = .ok (.iastore, 1)) (kk : z_X dA ad k (pc + 1) lv st (z_sv M 56 i.toNatClampNeg x)) : z_X dA ad k pc lv (.int x :: .int i :: .ref (ad 56) :: st) M := x_iast C (t0 := 0) zl_m_sb (fun f => zc_m_sb f) rfl hin hdg kk
theorem r_ld_m_sc (C : z_C dA ad k cc own d n) {i : Int32} (hin : vp_in i 8) (hdg : decode cc pc = .ok (.iaload, 1)) (kk : z_X dA ad k (pc + 1) lv (.int (M 57 i.toNatClampNeg) :: st) M) : z_X dA ad k pc lv (.int i :: .ref (ad 57) :: st) M := x_iald C (t0 := 0) zl_m_sc (zc_m_sc _) rfl hin hdg kk
theorem r_st_m_sc (C : z_C dA ad k cc own d n) {i x : Int32} (hin : vp_in i 8) (hdg : decode cc pc = .ok (.iastore, 1)) (kk : z_X dA ad k (pc + 1) lv st (z_sv M 57 i.toNatClampNeg x)) : z_X dA ad k pc lv (.int x :: .int i :: .ref (ad 57) :: st) M := x_iast C (t0 := 0) zl_m_sc (fun f => zc_m_sc f) rfl hin hdg kk
theorem r_ld_m_set (C : z_C dA ad k cc own d n) {i : Int32} (hin : vp_in i 8) (hdg : decode cc pc = .ok (.baload, 1)) (kk : z_X dA ad k (pc + 1) lv (.int (M 58 i.toNatClampNeg) :: st) M) : z_X dA ad k pc lv (.int i :: .ref (ad 58) :: st) M := x_zald C (t0 := 4) zl_m_set (zc_m_set _) rfl hin hdg kk
theorem r_st_m_set (C : z_C dA ad k cc own d n) {i x : Int32} (hin : vp_in i 8) (hnr : vp_nar .boolean x = x) (hdg : decode cc pc = .ok (.bastore, 1)) (kk : z_X dA ad k (pc + 1) lv st (z_sv M 58 i.toNatClampNeg x)) : z_X dA ad k pc lv (.int x :: .int i :: .ref (ad 58) :: st) M := x_zast C (t0 := 4) zl_m_set (fun f => zc_m_set f) rfl hin hnr hdg kk
theorem r_ld_m_buffer (C : z_C dA ad k cc own d n) {i : Int32} (hin : vp_in i 8) (hdg : decode cc pc = .ok (.iaload, 1)) (kk : z_X dA ad k (pc + 1) lv (.int (M 59 i.toNatClampNeg) :: st) M) : z_X dA ad k pc lv (.int i :: .ref (ad 59) :: st) M := x_iald C (t0 := 0) zl_m_buffer (zc_m_buffer _) rfl hin hdg kk
theorem r_st_m_buffer (C : z_C dA ad k cc own d n) {i x : Int32} (hin : vp_in i 8) (hdg : decode cc pc = .ok (.iastore, 1)) (kk : z_X dA ad k (pc + 1) lv st (z_sv M 59 i.toNatClampNeg x)) : z_X dA ad k pc lv (.int x :: .int i :: .ref (ad 59) :: st) M := x_iast C (t0 := 0) zl_m_buffer (fun f => zc_m_buffer f) rfl hin hdg kk
theorem r_ld_m_region (C : z_C dA ad k cc own d n) {i : Int32} (hin : vp_in i 48) (hdg : decode cc pc = .ok (.iaload, 1)) (kk : z_X dA ad k (pc + 1) lv (.int (M 60 i.toNatClampNeg) :: st) M) : z_X dA ad k pc lv (.int i :: .ref (ad 60) :: st) M := x_iald C (t0 := 0) zl_m_region (zc_m_region _) rfl hin hdg kk
theorem r_st_m_region (C : z_C dA ad k cc own d n) {i x : Int32} (hin : vp_in i 48) (hdg : decode cc pc = .ok (.iastore, 1)) (kk : z_X dA ad k (pc + 1) lv st (z_sv M 60 i.toNatClampNeg x)) : z_X dA ad k pc lv (.int x :: .int i :: .ref (ad 60) :: st) M := x_iast C (t0 := 0) zl_m_region (fun f => zc_m_region f) rfl hin hdg kk
theorem r_ld_m_tokens (C : z_C dA ad k cc own d n) {i : Int32} (hin : vp_in i 6) (hdg : decode cc pc = .ok (.iaload, 1)) (kk : z_X dA ad k (pc + 1) lv (.int (M 61 i.toNatClampNeg) :: st) M) : z_X dA ad k pc lv (.int i :: .ref (ad 61) :: st) M := x_iald C (t0 := 0) zl_m_tokens (zc_m_tokens _) rfl hin hdg kk
theorem r_st_m_tokens (C : z_C dA ad k cc own d n) {i x : Int32} (hin : vp_in i 6) (hdg : decode cc pc = .ok (.iastore, 1)) (kk : z_X dA ad k (pc + 1) lv st (z_sv M 61 i.toNatClampNeg x)) : z_X dA ad k pc lv (.int x :: .int i :: .ref (ad 61) :: st) M := x_iast C (t0 := 0) zl_m_tokens (fun f => zc_m_tokens f) rfl hin hdg kk
theorem r_ld_m_defined (C : z_C dA ad k cc own d n) {i : Int32} (hin : vp_in i 6) (hdg : decode cc pc = .ok (.baload, 1)) (kk : z_X dA ad k (pc + 1) lv (.int (M 62 i.toNatClampNeg) :: st) M) : z_X dA ad k pc lv (.int i :: .ref (ad 62) :: st) M := x_zald C (t0 := 4) zl_m_defined (zc_m_defined _) rfl hin hdg kk
theorem r_st_m_defined (C : z_C dA ad k cc own d n) {i x : Int32} (hin : vp_in i 6) (hnr : vp_nar .boolean x = x) (hdg : decode cc pc = .ok (.bastore, 1)) (kk : z_X dA ad k (pc + 1) lv st (z_sv M 62 i.toNatClampNeg x)) : z_X dA ad k pc lv (.int x :: .int i :: .ref (ad 62) :: st) M := x_zast C (t0 := 4) zl_m_defined (fun f => zc_m_defined f) rfl hin hnr hdg kk
theorem r_ld_m_density (C : z_C dA ad k cc own d n) {i : Int32} (hin : vp_in i 6) (hdg : decode cc pc = .ok (.iaload, 1)) (kk : z_X dA ad k (pc + 1) lv (.int (M 63 i.toNatClampNeg) :: st) M) : z_X dA ad k pc lv (.int i :: .ref (ad 63) :: st) M := x_iald C (t0 := 0) zl_m_density (zc_m_density _) rfl hin hdg kk
theorem r_st_m_density (C : z_C dA ad k cc own d n) {i x : Int32} (hin : vp_in i 6) (hdg : decode cc pc = .ok (.iastore, 1)) (kk : z_X dA ad k (pc + 1) lv st (z_sv M 63 i.toNatClampNeg x)) : z_X dA ad k pc lv (.int x :: .int i :: .ref (ad 63) :: st) M := x_iast C (t0 := 0) zl_m_density (fun f => zc_m_density f) rfl hin hdg kk
theorem r_ld_m_absorbs (C : z_C dA ad k cc own d n) {i : Int32} (hin : vp_in i 6) (hdg : decode cc pc = .ok (.iaload, 1)) (kk : z_X dA ad k (pc + 1) lv (.int (M 64 i.toNatClampNeg) :: st) M) : z_X dA ad k pc lv (.int i :: .ref (ad 64) :: st) M := x_iald C (t0 := 0) zl_m_absorbs (zc_m_absorbs _) rfl hin hdg kk
theorem r_st_m_absorbs (C : z_C dA ad k cc own d n) {i x : Int32} (hin : vp_in i 6) (hdg : decode cc pc = .ok (.iastore, 1)) (kk : z_X dA ad k (pc + 1) lv st (z_sv M 64 i.toNatClampNeg x)) : z_X dA ad k pc lv (.int x :: .int i :: .ref (ad 64) :: st) M := x_iast C (t0 := 0) zl_m_absorbs (fun f => zc_m_absorbs f) rfl hin hdg kk
theorem r_ld_m_splits (C : z_C dA ad k cc own d n) {i : Int32} (hin : vp_in i 6) (hdg : decode cc pc = .ok (.iaload, 1)) (kk : z_X dA ad k (pc + 1) lv (.int (M 65 i.toNatClampNeg) :: st) M) : z_X dA ad k pc lv (.int i :: .ref (ad 65) :: st) M := x_iald C (t0 := 0) zl_m_splits (zc_m_splits _) rfl hin hdg kk
theorem r_st_m_splits (C : z_C dA ad k cc own d n) {i x : Int32} (hin : vp_in i 6) (hdg : decode cc pc = .ok (.iastore, 1)) (kk : z_X dA ad k (pc + 1) lv st (z_sv M 65 i.toNatClampNeg x)) : z_X dA ad k pc lv (.int x :: .int i :: .ref (ad 65) :: st) M := x_iast C (t0 := 0) zl_m_splits (fun f => zc_m_splits f) rfl hin hdg kk
theorem r_ld_m_tallies (C : z_C dA ad k cc own d n) {i : Int32} (hin : vp_in i 24) (hdg : decode cc pc = .ok (.iaload, 1)) (kk : z_X dA ad k (pc + 1) lv (.int (M 66 i.toNatClampNeg) :: st) M) : z_X dA ad k pc lv (.int i :: .ref (ad 66) :: st) M := x_iald C (t0 := 0) zl_m_tallies (zc_m_tallies _) rfl hin hdg kk
theorem r_st_m_tallies (C : z_C dA ad k cc own d n) {i x : Int32} (hin : vp_in i 24) (hdg : decode cc pc = .ok (.iastore, 1)) (kk : z_X dA ad k (pc + 1) lv st (z_sv M 66 i.toNatClampNeg x)) : z_X dA ad k pc lv (.int x :: .int i :: .ref (ad 66) :: st) M := x_iast C (t0 := 0) zl_m_tallies (fun f => zc_m_tallies f) rfl hin hdg kk
theorem r_ld_m_crossings (C : z_C dA ad k cc own d n) {i : Int32} (hin : vp_in i 36) (hdg : decode cc pc = .ok (.iaload, 1)) (kk : z_X dA ad k (pc + 1) lv (.int (M 67 i.toNatClampNeg) :: st) M) : z_X dA ad k pc lv (.int i :: .ref (ad 67) :: st) M := x_iald C (t0 := 0) zl_m_crossings (zc_m_crossings _) rfl hin hdg kk
theorem r_st_m_crossings (C : z_C dA ad k cc own d n) {i x : Int32} (hin : vp_in i 36) (hdg : decode cc pc = .ok (.iastore, 1)) (kk : z_X dA ad k (pc + 1) lv st (z_sv M 67 i.toNatClampNeg x)) : z_X dA ad k pc lv (.int x :: .int i :: .ref (ad 67) :: st) M := x_iast C (t0 := 0) zl_m_crossings (fun f => zc_m_crossings f) rfl hin hdg kk
theorem r_ld_m_counts (C : z_C dA ad k cc own d n) {i : Int32} (hin : vp_in i 5) (hdg : decode cc pc = .ok (.iaload, 1)) (kk : z_X dA ad k (pc + 1) lv (.int (M 68 i.toNatClampNeg) :: st) M) : z_X dA ad k pc lv (.int i :: .ref (ad 68) :: st) M := x_iald C (t0 := 0) zl_m_counts (zc_m_counts _) rfl hin hdg kk
theorem r_st_m_counts (C : z_C dA ad k cc own d n) {i x : Int32} (hin : vp_in i 5) (hdg : decode cc pc = .ok (.iastore, 1)) (kk : z_X dA ad k (pc + 1) lv st (z_sv M 68 i.toNatClampNeg x)) : z_X dA ad k pc lv (.int x :: .int i :: .ref (ad 68) :: st) M := x_iast C (t0 := 0) zl_m_counts (fun f => zc_m_counts f) rfl hin hdg kk
theorem r_ld_m_px (C : z_C dA ad k cc own d n) {i : Int32} (hin : vp_in i 12) (hdg : decode cc pc = .ok (.iaload, 1)) (kk : z_X dA ad k (pc + 1) lv (.int (M 69 i.toNatClampNeg) :: st) M) : z_X dA ad k pc lv (.int i :: .ref (ad 69) :: st) M := x_iald C (t0 := 0) zl_m_px (zc_m_px _) rfl hin hdg kk
theorem r_st_m_px (C : z_C dA ad k cc own d n) {i x : Int32} (hin : vp_in i 12) (hdg : decode cc pc = .ok (.iastore, 1)) (kk : z_X dA ad k (pc + 1) lv st (z_sv M 69 i.toNatClampNeg x)) : z_X dA ad k pc lv (.int x :: .int i :: .ref (ad 69) :: st) M := x_iast C (t0 := 0) zl_m_px (fun f => zc_m_px f) rfl hin hdg kk
theorem r_ld_m_py (C : z_C dA ad k cc own d n) {i : Int32} (hin : vp_in i 12) (hdg : decode cc pc = .ok (.iaload, 1)) (kk : z_X dA ad k (pc + 1) lv (.int (M 70 i.toNatClampNeg) :: st) M) : z_X dA ad k pc lv (.int i :: .ref (ad 70) :: st) M := x_iald C (t0 := 0) zl_m_py (zc_m_py _) rfl hin hdg kk
theorem r_st_m_py (C : z_C dA ad k cc own d n) {i x : Int32} (hin : vp_in i 12) (hdg : decode cc pc = .ok (.iastore, 1)) (kk : z_X dA ad k (pc + 1) lv st (z_sv M 70 i.toNatClampNeg x)) : z_X dA ad k pc lv (.int x :: .int i :: .ref (ad 70) :: st) M := x_iast C (t0 := 0) zl_m_py (fun f => zc_m_py f) rfl hin hdg kk
end ZS

def z_tb (k : z_K) (t : Nat) (g : Nat → Int32) : Prop := match k with
  | (_, _, _, _, s, _, _, _, _, _, _, base, _, _, _, _) => va_T .int t 8 (fun j => .int (g j)) (z_A base) s s.heap
theorem z_inlt {i : Int32} {n : Nat} (h : vp_in i n) : i.toNatClampNeg < n := Nat.not_le.mp fun q => h (Or.inr q)
theorem z_67 {j : Nat} (h : j < 6) : j < 7 := Nat.lt_succ_of_lt h
theorem z_6 : 6 < 7 := by decide
section ZT
variable {dA : Nat → ClassId} {ad : Nat → Nat} {k : z_K} {cc : ByteArray} {own : String} {d n pc : Nat} {lv : List (Option Value)} {st : List Value} {M : z_M}
theorem s_STEP_X (C : z_C dA ad k cc own d n) {index : Nat} (hlink : Cond.fieldLink own index "CellTransport" "STEP_X" "[I" ∈ z_T) (hdg : decode cc pc = .ok (.getstatic index, 3)) (kk : ∀ t : Nat, z_tb k t z_sX → z_X dA ad k (pc + 3) lv (.ref t :: st) M) : z_X dA ad k pc lv st M := by
  obtain ⟨p, l, e, R, s, m, args, below, meth, c, D, base, nL, cells, slots, Q⟩ := k
  obtain ⟨hx, hb, ⟨hml, rfl⟩, hown, hlk, hrm, hE⟩ := C
  intro H locs ls hP hS hl
  obtain ⟨t, hz, ht⟩ := hE.2.2.2.2.1
  exact va_gets hx hb hz hS hown (z_w hE hlink) (fun _ h => h) hdg (kk t ht H locs ls hP hS hl)
theorem s_STEP_XN (C : z_C dA ad k cc own d n) {index : Nat} {host : String} (hlink : Cond.fieldLinkNest own index "CellTransport" "STEP_X" "[I" host ∈ z_T) (hdg : decode cc pc = .ok (.getstatic index, 3)) (kk : ∀ t : Nat, z_tb k t z_sX → z_X dA ad k (pc + 3) lv (.ref t :: st) M) : z_X dA ad k pc lv st M := by
  obtain ⟨p, l, e, R, s, m, args, below, meth, c, D, base, nL, cells, slots, Q⟩ := k
  obtain ⟨hx, hb, ⟨hml, rfl⟩, hown, hlk, hrm, hE⟩ := C
  intro H locs ls hP hS hl
  obtain ⟨t, hz, ht⟩ := hE.2.2.2.2.1
  exact z_getsN hx hb hz hS hown (z_w hE hlink) hdg (kk t ht H locs ls hP hS hl)
theorem s_STEP_Y (C : z_C dA ad k cc own d n) {index : Nat} (hlink : Cond.fieldLink own index "CellTransport" "STEP_Y" "[I" ∈ z_T) (hdg : decode cc pc = .ok (.getstatic index, 3)) (kk : ∀ t : Nat, z_tb k t z_sY → z_X dA ad k (pc + 3) lv (.ref t :: st) M) : z_X dA ad k pc lv st M := by
  obtain ⟨p, l, e, R, s, m, args, below, meth, c, D, base, nL, cells, slots, Q⟩ := k
  obtain ⟨hx, hb, ⟨hml, rfl⟩, hown, hlk, hrm, hE⟩ := C
  intro H locs ls hP hS hl
  obtain ⟨t, hz, ht⟩ := hE.2.2.2.2.2
  exact va_gets hx hb hz hS hown (z_w hE hlink) (fun _ h => h) hdg (kk t ht H locs ls hP hS hl)
theorem s_STEP_YN (C : z_C dA ad k cc own d n) {index : Nat} {host : String} (hlink : Cond.fieldLinkNest own index "CellTransport" "STEP_Y" "[I" host ∈ z_T) (hdg : decode cc pc = .ok (.getstatic index, 3)) (kk : ∀ t : Nat, z_tb k t z_sY → z_X dA ad k (pc + 3) lv (.ref t :: st) M) : z_X dA ad k pc lv st M := by
  obtain ⟨p, l, e, R, s, m, args, below, meth, c, D, base, nL, cells, slots, Q⟩ := k
  obtain ⟨hx, hb, ⟨hml, rfl⟩, hown, hlk, hrm, hE⟩ := C
  intro H locs ls hP hS hl
  obtain ⟨t, hz, ht⟩ := hE.2.2.2.2.2
  exact z_getsN hx hb hz hS hown (z_w hE hlink) hdg (kk t ht H locs ls hP hS hl)
theorem r_ld_tab (C : z_C dA ad k cc own d n) {t : Nat} {g : Nat → Int32} (hT : z_tb k t g) {i : Int32} (hin : vp_in i 8) (hdg : decode cc pc = .ok (.iaload, 1)) (kk : z_X dA ad k (pc + 1) lv (.int (g i.toNatClampNeg) :: st) M) : z_X dA ad k pc lv (.int i :: .ref t :: st) M := by
  obtain ⟨p, l, e, R, s, m, args, below, meth, c, D, base, nL, cells, slots, Q⟩ := k
  obtain ⟨hx, hb, ⟨hml, rfl⟩, hown, hlk, hrm, hE⟩ := C
  intro H locs ls hP hS hl
  exact va_ti hx hb hT hS hin rfl hdg (kk H locs ls hP hS hl)
end ZT
end
section
theorem d_CellTransport_init_0 : decode b_CellTransport_init 0 = .ok (.aload_n 0, 1) := by decide +kernel
theorem d_CellTransport_init_1 : decode b_CellTransport_init 1 = .ok (.invokespecial 1, 3) := by decide +kernel
theorem d_CellTransport_init_4 : decode b_CellTransport_init 4 = .ok (.aload_n 0, 1) := by decide +kernel
theorem d_CellTransport_init_5 : decode b_CellTransport_init 5 = .ok (.new 7, 3) := by decide +kernel
theorem d_CellTransport_init_8 : decode b_CellTransport_init 8 = .ok (.dup, 1) := by decide +kernel
theorem d_CellTransport_init_9 : decode b_CellTransport_init 9 = .ok (.invokespecial 9, 3) := by decide +kernel
theorem d_CellTransport_init_12 : decode b_CellTransport_init 12 = .ok (.putfield 10, 3) := by decide +kernel
theorem d_CellTransport_init_15 : decode b_CellTransport_init 15 = .ok (.aload_n 0, 1) := by decide +kernel
theorem d_CellTransport_init_16 : decode b_CellTransport_init 16 = .ok (.new 16, 3) := by decide +kernel
theorem d_CellTransport_init_19 : decode b_CellTransport_init 19 = .ok (.dup, 1) := by decide +kernel
theorem d_CellTransport_init_20 : decode b_CellTransport_init 20 = .ok (.invokespecial 18, 3) := by decide +kernel
theorem d_CellTransport_init_23 : decode b_CellTransport_init 23 = .ok (.putfield 19, 3) := by decide +kernel
theorem d_CellTransport_init_26 : decode b_CellTransport_init 26 = .ok (.aload_n 0, 1) := by decide +kernel
theorem d_CellTransport_init_27 : decode b_CellTransport_init 27 = .ok (.new 23, 3) := by decide +kernel
theorem d_CellTransport_init_30 : decode b_CellTransport_init 30 = .ok (.dup, 1) := by decide +kernel
theorem d_CellTransport_init_31 : decode b_CellTransport_init 31 = .ok (.invokespecial 25, 3) := by decide +kernel
theorem d_CellTransport_init_34 : decode b_CellTransport_init 34 = .ok (.putfield 26, 3) := by decide +kernel
theorem d_CellTransport_init_37 : decode b_CellTransport_init 37 = .ok (.aload_n 0, 1) := by decide +kernel
theorem d_CellTransport_init_38 : decode b_CellTransport_init 38 = .ok (.new 30, 3) := by decide +kernel
theorem d_CellTransport_init_41 : decode b_CellTransport_init 41 = .ok (.dup, 1) := by decide +kernel
theorem d_CellTransport_init_42 : decode b_CellTransport_init 42 = .ok (.invokespecial 32, 3) := by decide +kernel
theorem d_CellTransport_init_45 : decode b_CellTransport_init 45 = .ok (.putfield 33, 3) := by decide +kernel
theorem d_CellTransport_init_48 : decode b_CellTransport_init 48 = .ok (.aload_n 0, 1) := by decide +kernel
theorem d_CellTransport_init_49 : decode b_CellTransport_init 49 = .ok (.new 37, 3) := by decide +kernel
theorem d_CellTransport_init_52 : decode b_CellTransport_init 52 = .ok (.dup, 1) := by decide +kernel
theorem d_CellTransport_init_53 : decode b_CellTransport_init 53 = .ok (.invokespecial 39, 3) := by decide +kernel
theorem d_CellTransport_init_56 : decode b_CellTransport_init 56 = .ok (.putfield 40, 3) := by decide +kernel
theorem d_CellTransport_init_59 : decode b_CellTransport_init 59 = .ok (.aload_n 0, 1) := by decide +kernel
theorem d_CellTransport_init_60 : decode b_CellTransport_init 60 = .ok (.new 44, 3) := by decide +kernel
theorem d_CellTransport_init_63 : decode b_CellTransport_init 63 = .ok (.dup, 1) := by decide +kernel
theorem d_CellTransport_init_64 : decode b_CellTransport_init 64 = .ok (.invokespecial 46, 3) := by decide +kernel
theorem d_CellTransport_init_67 : decode b_CellTransport_init 67 = .ok (.putfield 47, 3) := by decide +kernel
theorem d_CellTransport_init_70 : decode b_CellTransport_init 70 = .ok (.return_, 1) := by decide +kernel
theorem d_CellTransport_surface_0 : decode b_CellTransport_surface 0 = .ok (.iload_n 1, 1) := by decide +kernel
theorem d_CellTransport_surface_1 : decode b_CellTransport_surface 1 = .ok (.iconst 0, 1) := by decide +kernel
theorem d_CellTransport_surface_2 : decode b_CellTransport_surface 2 = .ok (.bipush 7, 2) := by decide +kernel
theorem d_CellTransport_surface_4 : decode b_CellTransport_surface 4 = .ok (.invokestatic 51, 3) := by decide +kernel
theorem d_CellTransport_surface_7 : decode b_CellTransport_surface 7 = .ok (.ifCond .eq 15, 3) := by decide +kernel
theorem d_CellTransport_surface_10 : decode b_CellTransport_surface 10 = .ok (.iload_n 2, 1) := by decide +kernel
theorem d_CellTransport_surface_11 : decode b_CellTransport_surface 11 = .ok (.iload_n 3, 1) := by decide +kernel
theorem d_CellTransport_surface_12 : decode b_CellTransport_surface 12 = .ok (.iload 4, 2) := by decide +kernel
theorem d_CellTransport_surface_14 : decode b_CellTransport_surface 14 = .ok (.iload 5, 2) := by decide +kernel
theorem d_CellTransport_surface_16 : decode b_CellTransport_surface 16 = .ok (.invokestatic 55, 3) := by decide +kernel
theorem d_CellTransport_surface_19 : decode b_CellTransport_surface 19 = .ok (.ifCond .ne 5, 3) := by decide +kernel
theorem d_CellTransport_surface_22 : decode b_CellTransport_surface 22 = .ok (.iconst (-1), 1) := by decide +kernel
theorem d_CellTransport_surface_23 : decode b_CellTransport_surface 23 = .ok (.ireturn, 1) := by decide +kernel
theorem d_CellTransport_surface_24 : decode b_CellTransport_surface 24 = .ok (.aload_n 0, 1) := by decide +kernel
theorem d_CellTransport_surface_25 : decode b_CellTransport_surface 25 = .ok (.getfield 10, 3) := by decide +kernel
theorem d_CellTransport_surface_28 : decode b_CellTransport_surface 28 = .ok (.getfield 59, 3) := by decide +kernel
theorem d_CellTransport_surface_31 : decode b_CellTransport_surface 31 = .ok (.iload_n 1, 1) := by decide +kernel
theorem d_CellTransport_surface_32 : decode b_CellTransport_surface 32 = .ok (.aaload, 1) := by decide +kernel
theorem d_CellTransport_surface_33 : decode b_CellTransport_surface 33 = .ok (.astore 6, 2) := by decide +kernel
theorem d_CellTransport_surface_35 : decode b_CellTransport_surface 35 = .ok (.aload 6, 2) := by decide +kernel
theorem d_CellTransport_surface_37 : decode b_CellTransport_surface 37 = .ok (.getfield 63, 3) := by decide +kernel
theorem d_CellTransport_surface_40 : decode b_CellTransport_surface 40 = .ok (.invokestatic 69, 3) := by decide +kernel
theorem d_CellTransport_surface_43 : decode b_CellTransport_surface 43 = .ok (.istore 7, 2) := by decide +kernel
theorem d_CellTransport_surface_45 : decode b_CellTransport_surface 45 = .ok (.aload 6, 2) := by decide +kernel
theorem d_CellTransport_surface_47 : decode b_CellTransport_surface 47 = .ok (.iload_n 2, 1) := by decide +kernel
theorem d_CellTransport_surface_48 : decode b_CellTransport_surface 48 = .ok (.iload_n 3, 1) := by decide +kernel
theorem d_CellTransport_surface_49 : decode b_CellTransport_surface 49 = .ok (.iload 4, 2) := by decide +kernel
theorem d_CellTransport_surface_51 : decode b_CellTransport_surface 51 = .ok (.iload 5, 2) := by decide +kernel
theorem d_CellTransport_surface_53 : decode b_CellTransport_surface 53 = .ok (.invokevirtual 73, 3) := by decide +kernel
theorem d_CellTransport_surface_56 : decode b_CellTransport_surface 56 = .ok (.iload 7, 2) := by decide +kernel
theorem d_CellTransport_surface_58 : decode b_CellTransport_surface 58 = .ok (.ireturn, 1) := by decide +kernel
theorem d_CellTransport_token_0 : decode b_CellTransport_token 0 = .ok (.iload_n 1, 1) := by decide +kernel
theorem d_CellTransport_token_1 : decode b_CellTransport_token 1 = .ok (.iconst 0, 1) := by decide +kernel
theorem d_CellTransport_token_2 : decode b_CellTransport_token 2 = .ok (.bipush 10, 2) := by decide +kernel
theorem d_CellTransport_token_4 : decode b_CellTransport_token 4 = .ok (.invokestatic 51, 3) := by decide +kernel
theorem d_CellTransport_token_7 : decode b_CellTransport_token 7 = .ok (.ifCond .eq 15, 3) := by decide +kernel
theorem d_CellTransport_token_10 : decode b_CellTransport_token 10 = .ok (.aload_n 0, 1) := by decide +kernel
theorem d_CellTransport_token_11 : decode b_CellTransport_token 11 = .ok (.getfield 19, 3) := by decide +kernel
theorem d_CellTransport_token_14 : decode b_CellTransport_token 14 = .ok (.getfield 77, 3) := by decide +kernel
theorem d_CellTransport_token_17 : decode b_CellTransport_token 17 = .ok (.bipush 8, 2) := by decide +kernel
theorem d_CellTransport_token_19 : decode b_CellTransport_token 19 = .ok (.if_icmp .lt 5, 3) := by decide +kernel
theorem d_CellTransport_token_22 : decode b_CellTransport_token 22 = .ok (.iconst (-1), 1) := by decide +kernel
theorem d_CellTransport_token_23 : decode b_CellTransport_token 23 = .ok (.ireturn, 1) := by decide +kernel
theorem d_CellTransport_token_24 : decode b_CellTransport_token 24 = .ok (.aload_n 0, 1) := by decide +kernel
theorem d_CellTransport_token_25 : decode b_CellTransport_token 25 = .ok (.getfield 19, 3) := by decide +kernel
theorem d_CellTransport_token_28 : decode b_CellTransport_token 28 = .ok (.iload_n 1, 1) := by decide +kernel
theorem d_CellTransport_token_29 : decode b_CellTransport_token 29 = .ok (.invokevirtual 81, 3) := by decide +kernel
theorem d_CellTransport_token_32 : decode b_CellTransport_token 32 = .ok (.aload_n 0, 1) := by decide +kernel
theorem d_CellTransport_token_33 : decode b_CellTransport_token 33 = .ok (.getfield 19, 3) := by decide +kernel
theorem d_CellTransport_token_36 : decode b_CellTransport_token 36 = .ok (.getfield 77, 3) := by decide +kernel
theorem d_CellTransport_token_39 : decode b_CellTransport_token 39 = .ok (.ireturn, 1) := by decide +kernel
theorem d_CellTransport_cell_0 : decode b_CellTransport_cell 0 = .ok (.iload_n 1, 1) := by decide +kernel
theorem d_CellTransport_cell_1 : decode b_CellTransport_cell 1 = .ok (.iconst 0, 1) := by decide +kernel
theorem d_CellTransport_cell_2 : decode b_CellTransport_cell 2 = .ok (.iconst 5, 1) := by decide +kernel
theorem d_CellTransport_cell_3 : decode b_CellTransport_cell 3 = .ok (.invokestatic 51, 3) := by decide +kernel
theorem d_CellTransport_cell_6 : decode b_CellTransport_cell 6 = .ok (.ifCond .eq 23, 3) := by decide +kernel
theorem d_CellTransport_cell_9 : decode b_CellTransport_cell 9 = .ok (.iload_n 2, 1) := by decide +kernel
theorem d_CellTransport_cell_10 : decode b_CellTransport_cell 10 = .ok (.iconst 0, 1) := by decide +kernel
theorem d_CellTransport_cell_11 : decode b_CellTransport_cell 11 = .ok (.sipush 1000, 3) := by decide +kernel
theorem d_CellTransport_cell_14 : decode b_CellTransport_cell 14 = .ok (.invokestatic 51, 3) := by decide +kernel
theorem d_CellTransport_cell_17 : decode b_CellTransport_cell 17 = .ok (.ifCond .eq 12, 3) := by decide +kernel
theorem d_CellTransport_cell_20 : decode b_CellTransport_cell 20 = .ok (.iload_n 3, 1) := by decide +kernel
theorem d_CellTransport_cell_21 : decode b_CellTransport_cell 21 = .ok (.iload 4, 2) := by decide +kernel
theorem d_CellTransport_cell_23 : decode b_CellTransport_cell 23 = .ok (.invokestatic 85, 3) := by decide +kernel
theorem d_CellTransport_cell_26 : decode b_CellTransport_cell 26 = .ok (.ifCond .ne 5, 3) := by decide +kernel
theorem d_CellTransport_cell_29 : decode b_CellTransport_cell 29 = .ok (.iconst (-1), 1) := by decide +kernel
theorem d_CellTransport_cell_30 : decode b_CellTransport_cell 30 = .ok (.ireturn, 1) := by decide +kernel
theorem d_CellTransport_cell_31 : decode b_CellTransport_cell 31 = .ok (.aload_n 0, 1) := by decide +kernel
theorem d_CellTransport_cell_32 : decode b_CellTransport_cell 32 = .ok (.getfield 19, 3) := by decide +kernel
theorem d_CellTransport_cell_35 : decode b_CellTransport_cell 35 = .ok (.invokevirtual 89, 3) := by decide +kernel
theorem d_CellTransport_cell_38 : decode b_CellTransport_cell 38 = .ok (.ifCond .ne 13, 3) := by decide +kernel
theorem d_CellTransport_cell_41 : decode b_CellTransport_cell 41 = .ok (.aload_n 0, 1) := by decide +kernel
theorem d_CellTransport_cell_42 : decode b_CellTransport_cell 42 = .ok (.getfield 19, 3) := by decide +kernel
theorem d_CellTransport_cell_45 : decode b_CellTransport_cell 45 = .ok (.iconst 0, 1) := by decide +kernel
theorem d_CellTransport_cell_46 : decode b_CellTransport_cell 46 = .ok (.putfield 77, 3) := by decide +kernel
theorem d_CellTransport_cell_49 : decode b_CellTransport_cell 49 = .ok (.iconst (-1), 1) := by decide +kernel
theorem d_CellTransport_cell_50 : decode b_CellTransport_cell 50 = .ok (.ireturn, 1) := by decide +kernel
theorem d_CellTransport_cell_51 : decode b_CellTransport_cell 51 = .ok (.aload_n 0, 1) := by decide +kernel
theorem d_CellTransport_cell_52 : decode b_CellTransport_cell 52 = .ok (.getfield 10, 3) := by decide +kernel
theorem d_CellTransport_cell_55 : decode b_CellTransport_cell 55 = .ok (.getfield 93, 3) := by decide +kernel
theorem d_CellTransport_cell_58 : decode b_CellTransport_cell 58 = .ok (.iload_n 1, 1) := by decide +kernel
theorem d_CellTransport_cell_59 : decode b_CellTransport_cell 59 = .ok (.aaload, 1) := by decide +kernel
theorem d_CellTransport_cell_60 : decode b_CellTransport_cell 60 = .ok (.astore 5, 2) := by decide +kernel
theorem d_CellTransport_cell_62 : decode b_CellTransport_cell 62 = .ok (.aload 5, 2) := by decide +kernel
theorem d_CellTransport_cell_64 : decode b_CellTransport_cell 64 = .ok (.getfield 97, 3) := by decide +kernel
theorem d_CellTransport_cell_67 : decode b_CellTransport_cell 67 = .ok (.invokestatic 69, 3) := by decide +kernel
theorem d_CellTransport_cell_70 : decode b_CellTransport_cell 70 = .ok (.istore 6, 2) := by decide +kernel
theorem d_CellTransport_cell_72 : decode b_CellTransport_cell 72 = .ok (.aload 5, 2) := by decide +kernel
theorem d_CellTransport_cell_74 : decode b_CellTransport_cell 74 = .ok (.aload_n 0, 1) := by decide +kernel
theorem d_CellTransport_cell_75 : decode b_CellTransport_cell 75 = .ok (.getfield 19, 3) := by decide +kernel
theorem d_CellTransport_cell_78 : decode b_CellTransport_cell 78 = .ok (.iload_n 2, 1) := by decide +kernel
theorem d_CellTransport_cell_79 : decode b_CellTransport_cell 79 = .ok (.iload_n 3, 1) := by decide +kernel
theorem d_CellTransport_cell_80 : decode b_CellTransport_cell 80 = .ok (.iload 4, 2) := by decide +kernel
theorem d_CellTransport_cell_82 : decode b_CellTransport_cell 82 = .ok (.invokevirtual 102, 3) := by decide +kernel
theorem d_CellTransport_cell_85 : decode b_CellTransport_cell 85 = .ok (.aload_n 0, 1) := by decide +kernel
theorem d_CellTransport_cell_86 : decode b_CellTransport_cell 86 = .ok (.getfield 19, 3) := by decide +kernel
theorem d_CellTransport_cell_89 : decode b_CellTransport_cell 89 = .ok (.iconst 0, 1) := by decide +kernel
theorem d_CellTransport_cell_90 : decode b_CellTransport_cell 90 = .ok (.putfield 77, 3) := by decide +kernel
theorem d_CellTransport_cell_93 : decode b_CellTransport_cell 93 = .ok (.iload 6, 2) := by decide +kernel
theorem d_CellTransport_cell_95 : decode b_CellTransport_cell 95 = .ok (.ireturn, 1) := by decide +kernel
theorem d_CellTransport_undefine_0 : decode b_CellTransport_undefine 0 = .ok (.iload_n 1, 1) := by decide +kernel
theorem d_CellTransport_undefine_1 : decode b_CellTransport_undefine 1 = .ok (.iconst 0, 1) := by decide +kernel
theorem d_CellTransport_undefine_2 : decode b_CellTransport_undefine 2 = .ok (.iconst 5, 1) := by decide +kernel
theorem d_CellTransport_undefine_3 : decode b_CellTransport_undefine 3 = .ok (.invokestatic 51, 3) := by decide +kernel
theorem d_CellTransport_undefine_6 : decode b_CellTransport_undefine 6 = .ok (.ifCond .ne 5, 3) := by decide +kernel
theorem d_CellTransport_undefine_9 : decode b_CellTransport_undefine 9 = .ok (.iconst (-1), 1) := by decide +kernel
theorem d_CellTransport_undefine_10 : decode b_CellTransport_undefine 10 = .ok (.ireturn, 1) := by decide +kernel
theorem d_CellTransport_undefine_11 : decode b_CellTransport_undefine 11 = .ok (.aload_n 0, 1) := by decide +kernel
theorem d_CellTransport_undefine_12 : decode b_CellTransport_undefine 12 = .ok (.getfield 10, 3) := by decide +kernel
theorem d_CellTransport_undefine_15 : decode b_CellTransport_undefine 15 = .ok (.getfield 93, 3) := by decide +kernel
theorem d_CellTransport_undefine_18 : decode b_CellTransport_undefine 18 = .ok (.iload_n 1, 1) := by decide +kernel
theorem d_CellTransport_undefine_19 : decode b_CellTransport_undefine 19 = .ok (.aaload, 1) := by decide +kernel
theorem d_CellTransport_undefine_20 : decode b_CellTransport_undefine 20 = .ok (.astore_n 2, 1) := by decide +kernel
theorem d_CellTransport_undefine_21 : decode b_CellTransport_undefine 21 = .ok (.aload_n 2, 1) := by decide +kernel
theorem d_CellTransport_undefine_22 : decode b_CellTransport_undefine 22 = .ok (.getfield 97, 3) := by decide +kernel
theorem d_CellTransport_undefine_25 : decode b_CellTransport_undefine 25 = .ok (.invokestatic 69, 3) := by decide +kernel
theorem d_CellTransport_undefine_28 : decode b_CellTransport_undefine 28 = .ok (.istore_n 3, 1) := by decide +kernel
theorem d_CellTransport_undefine_29 : decode b_CellTransport_undefine 29 = .ok (.aload_n 2, 1) := by decide +kernel
theorem d_CellTransport_undefine_30 : decode b_CellTransport_undefine 30 = .ok (.iconst 0, 1) := by decide +kernel
theorem d_CellTransport_undefine_31 : decode b_CellTransport_undefine 31 = .ok (.putfield 97, 3) := by decide +kernel
theorem d_CellTransport_undefine_34 : decode b_CellTransport_undefine 34 = .ok (.iload_n 3, 1) := by decide +kernel
theorem d_CellTransport_undefine_35 : decode b_CellTransport_undefine 35 = .ok (.ireturn, 1) := by decide +kernel
theorem d_CellTransport_source_0 : decode b_CellTransport_source 0 = .ok (.iload_n 1, 1) := by decide +kernel
theorem d_CellTransport_source_1 : decode b_CellTransport_source 1 = .ok (.iload_n 2, 1) := by decide +kernel
theorem d_CellTransport_source_2 : decode b_CellTransport_source 2 = .ok (.sipush 300, 3) := by decide +kernel
theorem d_CellTransport_source_5 : decode b_CellTransport_source 5 = .ok (.invokestatic 106, 3) := by decide +kernel
theorem d_CellTransport_source_8 : decode b_CellTransport_source 8 = .ok (.ifCond .ne 5, 3) := by decide +kernel
theorem d_CellTransport_source_11 : decode b_CellTransport_source 11 = .ok (.iconst (-1), 1) := by decide +kernel
theorem d_CellTransport_source_12 : decode b_CellTransport_source 12 = .ok (.ireturn, 1) := by decide +kernel
theorem d_CellTransport_source_13 : decode b_CellTransport_source 13 = .ok (.aload_n 0, 1) := by decide +kernel
theorem d_CellTransport_source_14 : decode b_CellTransport_source 14 = .ok (.iload_n 1, 1) := by decide +kernel
theorem d_CellTransport_source_15 : decode b_CellTransport_source 15 = .ok (.putfield 109, 3) := by decide +kernel
theorem d_CellTransport_source_18 : decode b_CellTransport_source 18 = .ok (.aload_n 0, 1) := by decide +kernel
theorem d_CellTransport_source_19 : decode b_CellTransport_source 19 = .ok (.iload_n 2, 1) := by decide +kernel
theorem d_CellTransport_source_20 : decode b_CellTransport_source 20 = .ok (.putfield 112, 3) := by decide +kernel
theorem d_CellTransport_source_23 : decode b_CellTransport_source 23 = .ok (.iconst 0, 1) := by decide +kernel
theorem d_CellTransport_source_24 : decode b_CellTransport_source 24 = .ok (.ireturn, 1) := by decide +kernel
theorem d_CellTransport_seed_0 : decode b_CellTransport_seed 0 = .ok (.aload_n 0, 1) := by decide +kernel
theorem d_CellTransport_seed_1 : decode b_CellTransport_seed 1 = .ok (.getfield 26, 3) := by decide +kernel
theorem d_CellTransport_seed_4 : decode b_CellTransport_seed 4 = .ok (.iload_n 1, 1) := by decide +kernel
theorem d_CellTransport_seed_5 : decode b_CellTransport_seed 5 = .ok (.invokevirtual 115, 3) := by decide +kernel
theorem d_CellTransport_seed_8 : decode b_CellTransport_seed 8 = .ok (.return_, 1) := by decide +kernel
theorem d_CellTransport_skip_0 : decode b_CellTransport_skip 0 = .ok (.iload_n 1, 1) := by decide +kernel
theorem d_CellTransport_skip_1 : decode b_CellTransport_skip 1 = .ok (.iconst 0, 1) := by decide +kernel
theorem d_CellTransport_skip_2 : decode b_CellTransport_skip 2 = .ok (.ldc 118, 2) := by decide +kernel
theorem d_CellTransport_skip_4 : decode b_CellTransport_skip 4 = .ok (.invokestatic 51, 3) := by decide +kernel
theorem d_CellTransport_skip_7 : decode b_CellTransport_skip 7 = .ok (.ifCond .ne 5, 3) := by decide +kernel
theorem d_CellTransport_skip_10 : decode b_CellTransport_skip 10 = .ok (.iconst (-1), 1) := by decide +kernel
theorem d_CellTransport_skip_11 : decode b_CellTransport_skip 11 = .ok (.ireturn, 1) := by decide +kernel
theorem d_CellTransport_skip_12 : decode b_CellTransport_skip 12 = .ok (.aload_n 0, 1) := by decide +kernel
theorem d_CellTransport_skip_13 : decode b_CellTransport_skip 13 = .ok (.getfield 26, 3) := by decide +kernel
theorem d_CellTransport_skip_16 : decode b_CellTransport_skip 16 = .ok (.iload_n 1, 1) := by decide +kernel
theorem d_CellTransport_skip_17 : decode b_CellTransport_skip 17 = .ok (.invokevirtual 119, 3) := by decide +kernel
theorem d_CellTransport_skip_20 : decode b_CellTransport_skip 20 = .ok (.aload_n 0, 1) := by decide +kernel
theorem d_CellTransport_skip_21 : decode b_CellTransport_skip 21 = .ok (.getfield 26, 3) := by decide +kernel
theorem d_CellTransport_skip_24 : decode b_CellTransport_skip 24 = .ok (.getfield 122, 3) := by decide +kernel
theorem d_CellTransport_skip_27 : decode b_CellTransport_skip 27 = .ok (.ireturn, 1) := by decide +kernel
theorem d_CellTransport_state_0 : decode b_CellTransport_state 0 = .ok (.aload_n 0, 1) := by decide +kernel
theorem d_CellTransport_state_1 : decode b_CellTransport_state 1 = .ok (.getfield 26, 3) := by decide +kernel
theorem d_CellTransport_state_4 : decode b_CellTransport_state 4 = .ok (.getfield 122, 3) := by decide +kernel
theorem d_CellTransport_state_7 : decode b_CellTransport_state 7 = .ok (.ireturn, 1) := by decide +kernel
theorem d_CellTransport_run_0 : decode b_CellTransport_run 0 = .ok (.iload_n 1, 1) := by decide +kernel
theorem d_CellTransport_run_1 : decode b_CellTransport_run 1 = .ok (.iconst 1, 1) := by decide +kernel
theorem d_CellTransport_run_2 : decode b_CellTransport_run 2 = .ok (.iconst 2, 1) := by decide +kernel
theorem d_CellTransport_run_3 : decode b_CellTransport_run 3 = .ok (.invokestatic 51, 3) := by decide +kernel
theorem d_CellTransport_run_6 : decode b_CellTransport_run 6 = .ok (.ifCond .ne 5, 3) := by decide +kernel
theorem d_CellTransport_run_9 : decode b_CellTransport_run 9 = .ok (.iconst (-1), 1) := by decide +kernel
theorem d_CellTransport_run_10 : decode b_CellTransport_run 10 = .ok (.ireturn, 1) := by decide +kernel
theorem d_CellTransport_run_11 : decode b_CellTransport_run 11 = .ok (.iconst 0, 1) := by decide +kernel
theorem d_CellTransport_run_12 : decode b_CellTransport_run 12 = .ok (.istore_n 2, 1) := by decide +kernel
theorem d_CellTransport_run_13 : decode b_CellTransport_run 13 = .ok (.iconst 0, 1) := by decide +kernel
theorem d_CellTransport_run_14 : decode b_CellTransport_run 14 = .ok (.istore_n 3, 1) := by decide +kernel
theorem d_CellTransport_run_15 : decode b_CellTransport_run 15 = .ok (.iload_n 3, 1) := by decide +kernel
theorem d_CellTransport_run_16 : decode b_CellTransport_run 16 = .ok (.iload_n 1, 1) := by decide +kernel
theorem d_CellTransport_run_17 : decode b_CellTransport_run 17 = .ok (.if_icmp .ge 16, 3) := by decide +kernel
theorem d_CellTransport_run_20 : decode b_CellTransport_run 20 = .ok (.iload_n 2, 1) := by decide +kernel
theorem d_CellTransport_run_21 : decode b_CellTransport_run 21 = .ok (.aload_n 0, 1) := by decide +kernel
theorem d_CellTransport_run_22 : decode b_CellTransport_run 22 = .ok (.invokevirtual 125, 3) := by decide +kernel
theorem d_CellTransport_run_25 : decode b_CellTransport_run 25 = .ok (.iadd, 1) := by decide +kernel
theorem d_CellTransport_run_26 : decode b_CellTransport_run 26 = .ok (.istore_n 2, 1) := by decide +kernel
theorem d_CellTransport_run_27 : decode b_CellTransport_run 27 = .ok (.iinc 3 1, 3) := by decide +kernel
theorem d_CellTransport_run_30 : decode b_CellTransport_run 30 = .ok (.goto (-15), 3) := by decide +kernel
theorem d_CellTransport_run_33 : decode b_CellTransport_run 33 = .ok (.iload_n 2, 1) := by decide +kernel
theorem d_CellTransport_run_34 : decode b_CellTransport_run 34 = .ok (.ireturn, 1) := by decide +kernel
theorem d_CellTransport_where_0 : decode b_CellTransport_where 0 = .ok (.iload_n 1, 1) := by decide +kernel
theorem d_CellTransport_where_1 : decode b_CellTransport_where 1 = .ok (.iload_n 2, 1) := by decide +kernel
theorem d_CellTransport_where_2 : decode b_CellTransport_where 2 = .ok (.sipush 1000, 3) := by decide +kernel
theorem d_CellTransport_where_5 : decode b_CellTransport_where 5 = .ok (.invokestatic 106, 3) := by decide +kernel
theorem d_CellTransport_where_8 : decode b_CellTransport_where 8 = .ok (.ifCond .ne 5, 3) := by decide +kernel
theorem d_CellTransport_where_11 : decode b_CellTransport_where 11 = .ok (.iconst (-1), 1) := by decide +kernel
theorem d_CellTransport_where_12 : decode b_CellTransport_where 12 = .ok (.ireturn, 1) := by decide +kernel
theorem d_CellTransport_where_13 : decode b_CellTransport_where 13 = .ok (.aload_n 0, 1) := by decide +kernel
theorem d_CellTransport_where_14 : decode b_CellTransport_where 14 = .ok (.getfield 10, 3) := by decide +kernel
theorem d_CellTransport_where_17 : decode b_CellTransport_where 17 = .ok (.iload_n 1, 1) := by decide +kernel
theorem d_CellTransport_where_18 : decode b_CellTransport_where 18 = .ok (.iload_n 2, 1) := by decide +kernel
theorem d_CellTransport_where_19 : decode b_CellTransport_where 19 = .ok (.invokevirtual 129, 3) := by decide +kernel
theorem d_CellTransport_where_22 : decode b_CellTransport_where 22 = .ok (.ireturn, 1) := by decide +kernel
theorem d_CellTransport_reach_0 : decode b_CellTransport_reach 0 = .ok (.iload_n 1, 1) := by decide +kernel
theorem d_CellTransport_reach_1 : decode b_CellTransport_reach 1 = .ok (.iload_n 2, 1) := by decide +kernel
theorem d_CellTransport_reach_2 : decode b_CellTransport_reach 2 = .ok (.sipush 1000, 3) := by decide +kernel
theorem d_CellTransport_reach_5 : decode b_CellTransport_reach 5 = .ok (.invokestatic 106, 3) := by decide +kernel
theorem d_CellTransport_reach_8 : decode b_CellTransport_reach 8 = .ok (.ifCond .eq 13, 3) := by decide +kernel
theorem d_CellTransport_reach_11 : decode b_CellTransport_reach 11 = .ok (.iload_n 3, 1) := by decide +kernel
theorem d_CellTransport_reach_12 : decode b_CellTransport_reach 12 = .ok (.iconst 0, 1) := by decide +kernel
theorem d_CellTransport_reach_13 : decode b_CellTransport_reach 13 = .ok (.bipush 7, 2) := by decide +kernel
theorem d_CellTransport_reach_15 : decode b_CellTransport_reach 15 = .ok (.invokestatic 51, 3) := by decide +kernel
theorem d_CellTransport_reach_18 : decode b_CellTransport_reach 18 = .ok (.ifCond .ne 5, 3) := by decide +kernel
theorem d_CellTransport_reach_21 : decode b_CellTransport_reach 21 = .ok (.iconst (-1), 1) := by decide +kernel
theorem d_CellTransport_reach_22 : decode b_CellTransport_reach 22 = .ok (.ireturn, 1) := by decide +kernel
theorem d_CellTransport_reach_23 : decode b_CellTransport_reach 23 = .ok (.aload_n 0, 1) := by decide +kernel
theorem d_CellTransport_reach_24 : decode b_CellTransport_reach 24 = .ok (.getfield 10, 3) := by decide +kernel
theorem d_CellTransport_reach_27 : decode b_CellTransport_reach 27 = .ok (.iload_n 1, 1) := by decide +kernel
theorem d_CellTransport_reach_28 : decode b_CellTransport_reach 28 = .ok (.iload_n 2, 1) := by decide +kernel
theorem d_CellTransport_reach_29 : decode b_CellTransport_reach 29 = .ok (.invokevirtual 129, 3) := by decide +kernel
theorem d_CellTransport_reach_32 : decode b_CellTransport_reach 32 = .ok (.istore 4, 2) := by decide +kernel
theorem d_CellTransport_reach_34 : decode b_CellTransport_reach 34 = .ok (.iconst 1, 1) := by decide +kernel
theorem d_CellTransport_reach_35 : decode b_CellTransport_reach 35 = .ok (.istore 5, 2) := by decide +kernel
theorem d_CellTransport_reach_37 : decode b_CellTransport_reach 37 = .ok (.iload 5, 2) := by decide +kernel
theorem d_CellTransport_reach_39 : decode b_CellTransport_reach 39 = .ok (.sipush 200, 3) := by decide +kernel
theorem d_CellTransport_reach_42 : decode b_CellTransport_reach 42 = .ok (.if_icmp .gt 46, 3) := by decide +kernel
theorem d_CellTransport_reach_45 : decode b_CellTransport_reach 45 = .ok (.aload_n 0, 1) := by decide +kernel
theorem d_CellTransport_reach_46 : decode b_CellTransport_reach 46 = .ok (.getfield 10, 3) := by decide +kernel
theorem d_CellTransport_reach_49 : decode b_CellTransport_reach 49 = .ok (.iload_n 1, 1) := by decide +kernel
theorem d_CellTransport_reach_50 : decode b_CellTransport_reach 50 = .ok (.iload 5, 2) := by decide +kernel
theorem d_CellTransport_reach_52 : decode b_CellTransport_reach 52 = .ok (.getstatic 133, 3) := by decide +kernel
theorem d_CellTransport_reach_55 : decode b_CellTransport_reach 55 = .ok (.iload_n 3, 1) := by decide +kernel
theorem d_CellTransport_reach_56 : decode b_CellTransport_reach 56 = .ok (.iaload, 1) := by decide +kernel
theorem d_CellTransport_reach_57 : decode b_CellTransport_reach 57 = .ok (.imul, 1) := by decide +kernel
theorem d_CellTransport_reach_58 : decode b_CellTransport_reach 58 = .ok (.iadd, 1) := by decide +kernel
theorem d_CellTransport_reach_59 : decode b_CellTransport_reach 59 = .ok (.iload_n 2, 1) := by decide +kernel
theorem d_CellTransport_reach_60 : decode b_CellTransport_reach 60 = .ok (.iload 5, 2) := by decide +kernel
theorem d_CellTransport_reach_62 : decode b_CellTransport_reach 62 = .ok (.getstatic 137, 3) := by decide +kernel
theorem d_CellTransport_reach_65 : decode b_CellTransport_reach 65 = .ok (.iload_n 3, 1) := by decide +kernel
theorem d_CellTransport_reach_66 : decode b_CellTransport_reach 66 = .ok (.iaload, 1) := by decide +kernel
theorem d_CellTransport_reach_67 : decode b_CellTransport_reach 67 = .ok (.imul, 1) := by decide +kernel
theorem d_CellTransport_reach_68 : decode b_CellTransport_reach 68 = .ok (.iadd, 1) := by decide +kernel
theorem d_CellTransport_reach_69 : decode b_CellTransport_reach 69 = .ok (.invokevirtual 129, 3) := by decide +kernel
theorem d_CellTransport_reach_72 : decode b_CellTransport_reach 72 = .ok (.iload 4, 2) := by decide +kernel
theorem d_CellTransport_reach_74 : decode b_CellTransport_reach 74 = .ok (.if_icmp .eq 8, 3) := by decide +kernel
theorem d_CellTransport_reach_77 : decode b_CellTransport_reach 77 = .ok (.iload 5, 2) := by decide +kernel
theorem d_CellTransport_reach_79 : decode b_CellTransport_reach 79 = .ok (.iconst 1, 1) := by decide +kernel
theorem d_CellTransport_reach_80 : decode b_CellTransport_reach 80 = .ok (.isub, 1) := by decide +kernel
theorem d_CellTransport_reach_81 : decode b_CellTransport_reach 81 = .ok (.ireturn, 1) := by decide +kernel
theorem d_CellTransport_reach_82 : decode b_CellTransport_reach 82 = .ok (.iinc 5 1, 3) := by decide +kernel
theorem d_CellTransport_reach_85 : decode b_CellTransport_reach 85 = .ok (.goto (-48), 3) := by decide +kernel
theorem d_CellTransport_reach_88 : decode b_CellTransport_reach 88 = .ok (.sipush 200, 3) := by decide +kernel
theorem d_CellTransport_reach_91 : decode b_CellTransport_reach 91 = .ok (.ireturn, 1) := by decide +kernel
theorem d_CellTransport_tally_0 : decode b_CellTransport_tally 0 = .ok (.iload_n 1, 1) := by decide +kernel
theorem d_CellTransport_tally_1 : decode b_CellTransport_tally 1 = .ok (.iconst 0, 1) := by decide +kernel
theorem d_CellTransport_tally_2 : decode b_CellTransport_tally 2 = .ok (.iconst 5, 1) := by decide +kernel
theorem d_CellTransport_tally_3 : decode b_CellTransport_tally 3 = .ok (.invokestatic 51, 3) := by decide +kernel
theorem d_CellTransport_tally_6 : decode b_CellTransport_tally 6 = .ok (.ifCond .eq 12, 3) := by decide +kernel
theorem d_CellTransport_tally_9 : decode b_CellTransport_tally 9 = .ok (.iload_n 2, 1) := by decide +kernel
theorem d_CellTransport_tally_10 : decode b_CellTransport_tally 10 = .ok (.iconst 0, 1) := by decide +kernel
theorem d_CellTransport_tally_11 : decode b_CellTransport_tally 11 = .ok (.iconst 3, 1) := by decide +kernel
theorem d_CellTransport_tally_12 : decode b_CellTransport_tally 12 = .ok (.invokestatic 51, 3) := by decide +kernel
theorem d_CellTransport_tally_15 : decode b_CellTransport_tally 15 = .ok (.ifCond .ne 5, 3) := by decide +kernel
theorem d_CellTransport_tally_18 : decode b_CellTransport_tally 18 = .ok (.iconst (-1), 1) := by decide +kernel
theorem d_CellTransport_tally_19 : decode b_CellTransport_tally 19 = .ok (.ireturn, 1) := by decide +kernel
theorem d_CellTransport_tally_20 : decode b_CellTransport_tally 20 = .ok (.aload_n 0, 1) := by decide +kernel
theorem d_CellTransport_tally_21 : decode b_CellTransport_tally 21 = .ok (.getfield 33, 3) := by decide +kernel
theorem d_CellTransport_tally_24 : decode b_CellTransport_tally 24 = .ok (.getfield 140, 3) := by decide +kernel
theorem d_CellTransport_tally_27 : decode b_CellTransport_tally 27 = .ok (.iload_n 1, 1) := by decide +kernel
theorem d_CellTransport_tally_28 : decode b_CellTransport_tally 28 = .ok (.aaload, 1) := by decide +kernel
theorem d_CellTransport_tally_29 : decode b_CellTransport_tally 29 = .ok (.iload_n 2, 1) := by decide +kernel
theorem d_CellTransport_tally_30 : decode b_CellTransport_tally 30 = .ok (.iaload, 1) := by decide +kernel
theorem d_CellTransport_tally_31 : decode b_CellTransport_tally 31 = .ok (.ireturn, 1) := by decide +kernel
theorem d_CellTransport_crossed_0 : decode b_CellTransport_crossed 0 = .ok (.iload_n 1, 1) := by decide +kernel
theorem d_CellTransport_crossed_1 : decode b_CellTransport_crossed 1 = .ok (.iconst 0, 1) := by decide +kernel
theorem d_CellTransport_crossed_2 : decode b_CellTransport_crossed 2 = .ok (.iconst 5, 1) := by decide +kernel
theorem d_CellTransport_crossed_3 : decode b_CellTransport_crossed 3 = .ok (.invokestatic 51, 3) := by decide +kernel
theorem d_CellTransport_crossed_6 : decode b_CellTransport_crossed 6 = .ok (.ifCond .eq 12, 3) := by decide +kernel
theorem d_CellTransport_crossed_9 : decode b_CellTransport_crossed 9 = .ok (.iload_n 2, 1) := by decide +kernel
theorem d_CellTransport_crossed_10 : decode b_CellTransport_crossed 10 = .ok (.iconst 0, 1) := by decide +kernel
theorem d_CellTransport_crossed_11 : decode b_CellTransport_crossed 11 = .ok (.iconst 5, 1) := by decide +kernel
theorem d_CellTransport_crossed_12 : decode b_CellTransport_crossed 12 = .ok (.invokestatic 51, 3) := by decide +kernel
theorem d_CellTransport_crossed_15 : decode b_CellTransport_crossed 15 = .ok (.ifCond .ne 5, 3) := by decide +kernel
theorem d_CellTransport_crossed_18 : decode b_CellTransport_crossed 18 = .ok (.iconst (-1), 1) := by decide +kernel
theorem d_CellTransport_crossed_19 : decode b_CellTransport_crossed 19 = .ok (.ireturn, 1) := by decide +kernel
theorem d_CellTransport_crossed_20 : decode b_CellTransport_crossed 20 = .ok (.aload_n 0, 1) := by decide +kernel
theorem d_CellTransport_crossed_21 : decode b_CellTransport_crossed 21 = .ok (.getfield 33, 3) := by decide +kernel
theorem d_CellTransport_crossed_24 : decode b_CellTransport_crossed 24 = .ok (.getfield 144, 3) := by decide +kernel
theorem d_CellTransport_crossed_27 : decode b_CellTransport_crossed 27 = .ok (.iload_n 1, 1) := by decide +kernel
theorem d_CellTransport_crossed_28 : decode b_CellTransport_crossed 28 = .ok (.aaload, 1) := by decide +kernel
theorem d_CellTransport_crossed_29 : decode b_CellTransport_crossed 29 = .ok (.iload_n 2, 1) := by decide +kernel
theorem d_CellTransport_crossed_30 : decode b_CellTransport_crossed 30 = .ok (.iaload, 1) := by decide +kernel
theorem d_CellTransport_crossed_31 : decode b_CellTransport_crossed 31 = .ok (.ireturn, 1) := by decide +kernel
theorem d_CellTransport_count_0 : decode b_CellTransport_count 0 = .ok (.iload_n 1, 1) := by decide +kernel
theorem d_CellTransport_count_1 : decode b_CellTransport_count 1 = .ok (.iconst 0, 1) := by decide +kernel
theorem d_CellTransport_count_2 : decode b_CellTransport_count 2 = .ok (.iconst 4, 1) := by decide +kernel
theorem d_CellTransport_count_3 : decode b_CellTransport_count 3 = .ok (.invokestatic 51, 3) := by decide +kernel
theorem d_CellTransport_count_6 : decode b_CellTransport_count 6 = .ok (.ifCond .eq 13, 3) := by decide +kernel
theorem d_CellTransport_count_9 : decode b_CellTransport_count 9 = .ok (.aload_n 0, 1) := by decide +kernel
theorem d_CellTransport_count_10 : decode b_CellTransport_count 10 = .ok (.getfield 33, 3) := by decide +kernel
theorem d_CellTransport_count_13 : decode b_CellTransport_count 13 = .ok (.getfield 147, 3) := by decide +kernel
theorem d_CellTransport_count_16 : decode b_CellTransport_count 16 = .ok (.iload_n 1, 1) := by decide +kernel
theorem d_CellTransport_count_17 : decode b_CellTransport_count 17 = .ok (.iaload, 1) := by decide +kernel
theorem d_CellTransport_count_18 : decode b_CellTransport_count 18 = .ok (.ireturn, 1) := by decide +kernel
theorem d_CellTransport_count_19 : decode b_CellTransport_count 19 = .ok (.iload_n 1, 1) := by decide +kernel
theorem d_CellTransport_count_20 : decode b_CellTransport_count 20 = .ok (.lookupswitch 44 #[(5, 28), (6, 36)], 28) := by decide +kernel
theorem d_CellTransport_count_48 : decode b_CellTransport_count 48 = .ok (.aload_n 0, 1) := by decide +kernel
theorem d_CellTransport_count_49 : decode b_CellTransport_count 49 = .ok (.getfield 19, 3) := by decide +kernel
theorem d_CellTransport_count_52 : decode b_CellTransport_count 52 = .ok (.getfield 77, 3) := by decide +kernel
theorem d_CellTransport_count_55 : decode b_CellTransport_count 55 = .ok (.ireturn, 1) := by decide +kernel
theorem d_CellTransport_count_56 : decode b_CellTransport_count 56 = .ok (.aload_n 0, 1) := by decide +kernel
theorem d_CellTransport_count_57 : decode b_CellTransport_count 57 = .ok (.getfield 10, 3) := by decide +kernel
theorem d_CellTransport_count_60 : decode b_CellTransport_count 60 = .ok (.invokevirtual 150, 3) := by decide +kernel
theorem d_CellTransport_count_63 : decode b_CellTransport_count 63 = .ok (.ireturn, 1) := by decide +kernel
theorem d_CellTransport_count_64 : decode b_CellTransport_count 64 = .ok (.iconst (-1), 1) := by decide +kernel
theorem d_CellTransport_count_65 : decode b_CellTransport_count 65 = .ok (.ireturn, 1) := by decide +kernel
theorem d_CellTransport_clear_0 : decode b_CellTransport_clear 0 = .ok (.aload_n 0, 1) := by decide +kernel
theorem d_CellTransport_clear_1 : decode b_CellTransport_clear 1 = .ok (.getfield 33, 3) := by decide +kernel
theorem d_CellTransport_clear_4 : decode b_CellTransport_clear 4 = .ok (.invokevirtual 153, 3) := by decide +kernel
theorem d_CellTransport_clear_7 : decode b_CellTransport_clear 7 = .ok (.return_, 1) := by decide +kernel
theorem d_CellTransport_isBetween_0 : decode b_CellTransport_isBetween 0 = .ok (.iload_n 1, 1) := by decide +kernel
theorem d_CellTransport_isBetween_1 : decode b_CellTransport_isBetween 1 = .ok (.iload_n 0, 1) := by decide +kernel
theorem d_CellTransport_isBetween_2 : decode b_CellTransport_isBetween 2 = .ok (.if_icmp .gt 12, 3) := by decide +kernel
theorem d_CellTransport_isBetween_5 : decode b_CellTransport_isBetween 5 = .ok (.iload_n 0, 1) := by decide +kernel
theorem d_CellTransport_isBetween_6 : decode b_CellTransport_isBetween 6 = .ok (.iload_n 2, 1) := by decide +kernel
theorem d_CellTransport_isBetween_7 : decode b_CellTransport_isBetween 7 = .ok (.if_icmp .gt 7, 3) := by decide +kernel
theorem d_CellTransport_isBetween_10 : decode b_CellTransport_isBetween 10 = .ok (.iconst 1, 1) := by decide +kernel
theorem d_CellTransport_isBetween_11 : decode b_CellTransport_isBetween 11 = .ok (.goto 4, 3) := by decide +kernel
theorem d_CellTransport_isBetween_14 : decode b_CellTransport_isBetween 14 = .ok (.iconst 0, 1) := by decide +kernel
theorem d_CellTransport_isBetween_15 : decode b_CellTransport_isBetween 15 = .ok (.ireturn, 1) := by decide +kernel
theorem d_CellTransport_areWithin_0 : decode b_CellTransport_areWithin 0 = .ok (.iload_n 0, 1) := by decide +kernel
theorem d_CellTransport_areWithin_1 : decode b_CellTransport_areWithin 1 = .ok (.iload_n 2, 1) := by decide +kernel
theorem d_CellTransport_areWithin_2 : decode b_CellTransport_areWithin 2 = .ok (.ineg, 1) := by decide +kernel
theorem d_CellTransport_areWithin_3 : decode b_CellTransport_areWithin 3 = .ok (.iload_n 2, 1) := by decide +kernel
theorem d_CellTransport_areWithin_4 : decode b_CellTransport_areWithin 4 = .ok (.invokestatic 51, 3) := by decide +kernel
theorem d_CellTransport_areWithin_7 : decode b_CellTransport_areWithin 7 = .ok (.ifCond .eq 17, 3) := by decide +kernel
theorem d_CellTransport_areWithin_10 : decode b_CellTransport_areWithin 10 = .ok (.iload_n 1, 1) := by decide +kernel
theorem d_CellTransport_areWithin_11 : decode b_CellTransport_areWithin 11 = .ok (.iload_n 2, 1) := by decide +kernel
theorem d_CellTransport_areWithin_12 : decode b_CellTransport_areWithin 12 = .ok (.ineg, 1) := by decide +kernel
theorem d_CellTransport_areWithin_13 : decode b_CellTransport_areWithin 13 = .ok (.iload_n 2, 1) := by decide +kernel
theorem d_CellTransport_areWithin_14 : decode b_CellTransport_areWithin 14 = .ok (.invokestatic 51, 3) := by decide +kernel
theorem d_CellTransport_areWithin_17 : decode b_CellTransport_areWithin 17 = .ok (.ifCond .eq 7, 3) := by decide +kernel
theorem d_CellTransport_areWithin_20 : decode b_CellTransport_areWithin 20 = .ok (.iconst 1, 1) := by decide +kernel
theorem d_CellTransport_areWithin_21 : decode b_CellTransport_areWithin 21 = .ok (.goto 4, 3) := by decide +kernel
theorem d_CellTransport_areWithin_24 : decode b_CellTransport_areWithin 24 = .ok (.iconst 0, 1) := by decide +kernel
theorem d_CellTransport_areWithin_25 : decode b_CellTransport_areWithin 25 = .ok (.ireturn, 1) := by decide +kernel
theorem d_CellTransport_isSurface_0 : decode b_CellTransport_isSurface 0 = .ok (.iload_n 0, 1) := by decide +kernel
theorem d_CellTransport_isSurface_1 : decode b_CellTransport_isSurface 1 = .ok (.lookupswitch 84 #[(0, 27), (1, 56)], 27) := by decide +kernel
theorem d_CellTransport_isSurface_28 : decode b_CellTransport_isSurface 28 = .ok (.iload_n 1, 1) := by decide +kernel
theorem d_CellTransport_isSurface_29 : decode b_CellTransport_isSurface 29 = .ok (.iload_n 2, 1) := by decide +kernel
theorem d_CellTransport_isSurface_30 : decode b_CellTransport_isSurface 30 = .ok (.bipush 9, 2) := by decide +kernel
theorem d_CellTransport_isSurface_32 : decode b_CellTransport_isSurface 32 = .ok (.invokestatic 106, 3) := by decide +kernel
theorem d_CellTransport_isSurface_35 : decode b_CellTransport_isSurface 35 = .ok (.ifCond .eq 20, 3) := by decide +kernel
theorem d_CellTransport_isSurface_38 : decode b_CellTransport_isSurface 38 = .ok (.iload_n 3, 1) := by decide +kernel
theorem d_CellTransport_isSurface_39 : decode b_CellTransport_isSurface 39 = .ok (.sipush (-9999), 3) := by decide +kernel
theorem d_CellTransport_isSurface_42 : decode b_CellTransport_isSurface 42 = .ok (.sipush 9999, 3) := by decide +kernel
theorem d_CellTransport_isSurface_45 : decode b_CellTransport_isSurface 45 = .ok (.invokestatic 51, 3) := by decide +kernel
theorem d_CellTransport_isSurface_48 : decode b_CellTransport_isSurface 48 = .ok (.ifCond .eq 7, 3) := by decide +kernel
theorem d_CellTransport_isSurface_51 : decode b_CellTransport_isSurface 51 = .ok (.iconst 1, 1) := by decide +kernel
theorem d_CellTransport_isSurface_52 : decode b_CellTransport_isSurface 52 = .ok (.goto 4, 3) := by decide +kernel
theorem d_CellTransport_isSurface_55 : decode b_CellTransport_isSurface 55 = .ok (.iconst 0, 1) := by decide +kernel
theorem d_CellTransport_isSurface_56 : decode b_CellTransport_isSurface 56 = .ok (.ireturn, 1) := by decide +kernel
theorem d_CellTransport_isSurface_57 : decode b_CellTransport_isSurface 57 = .ok (.iload_n 1, 1) := by decide +kernel
theorem d_CellTransport_isSurface_58 : decode b_CellTransport_isSurface 58 = .ok (.iload_n 2, 1) := by decide +kernel
theorem d_CellTransport_isSurface_59 : decode b_CellTransport_isSurface 59 = .ok (.sipush 300, 3) := by decide +kernel
theorem d_CellTransport_isSurface_62 : decode b_CellTransport_isSurface 62 = .ok (.invokestatic 106, 3) := by decide +kernel
theorem d_CellTransport_isSurface_65 : decode b_CellTransport_isSurface 65 = .ok (.ifCond .eq 18, 3) := by decide +kernel
theorem d_CellTransport_isSurface_68 : decode b_CellTransport_isSurface 68 = .ok (.iload_n 3, 1) := by decide +kernel
theorem d_CellTransport_isSurface_69 : decode b_CellTransport_isSurface 69 = .ok (.iconst 0, 1) := by decide +kernel
theorem d_CellTransport_isSurface_70 : decode b_CellTransport_isSurface 70 = .ok (.sipush 300, 3) := by decide +kernel
theorem d_CellTransport_isSurface_73 : decode b_CellTransport_isSurface 73 = .ok (.invokestatic 51, 3) := by decide +kernel
theorem d_CellTransport_isSurface_76 : decode b_CellTransport_isSurface 76 = .ok (.ifCond .eq 7, 3) := by decide +kernel
theorem d_CellTransport_isSurface_79 : decode b_CellTransport_isSurface 79 = .ok (.iconst 1, 1) := by decide +kernel
theorem d_CellTransport_isSurface_80 : decode b_CellTransport_isSurface 80 = .ok (.goto 4, 3) := by decide +kernel
theorem d_CellTransport_isSurface_83 : decode b_CellTransport_isSurface 83 = .ok (.iconst 0, 1) := by decide +kernel
theorem d_CellTransport_isSurface_84 : decode b_CellTransport_isSurface 84 = .ok (.ireturn, 1) := by decide +kernel
theorem d_CellTransport_isSurface_85 : decode b_CellTransport_isSurface 85 = .ok (.iconst 0, 1) := by decide +kernel
theorem d_CellTransport_isSurface_86 : decode b_CellTransport_isSurface 86 = .ok (.ireturn, 1) := by decide +kernel
theorem d_CellTransport_areShares_0 : decode b_CellTransport_areShares 0 = .ok (.iload_n 0, 1) := by decide +kernel
theorem d_CellTransport_areShares_1 : decode b_CellTransport_areShares 1 = .ok (.iconst 0, 1) := by decide +kernel
theorem d_CellTransport_areShares_2 : decode b_CellTransport_areShares 2 = .ok (.sipush 1000, 3) := by decide +kernel
theorem d_CellTransport_areShares_5 : decode b_CellTransport_areShares 5 = .ok (.invokestatic 51, 3) := by decide +kernel
theorem d_CellTransport_areShares_8 : decode b_CellTransport_areShares 8 = .ok (.ifCond .eq 20, 3) := by decide +kernel
theorem d_CellTransport_areShares_11 : decode b_CellTransport_areShares 11 = .ok (.iload_n 1, 1) := by decide +kernel
theorem d_CellTransport_areShares_12 : decode b_CellTransport_areShares 12 = .ok (.iconst 0, 1) := by decide +kernel
theorem d_CellTransport_areShares_13 : decode b_CellTransport_areShares 13 = .ok (.sipush 1000, 3) := by decide +kernel
theorem d_CellTransport_areShares_16 : decode b_CellTransport_areShares 16 = .ok (.iload_n 0, 1) := by decide +kernel
theorem d_CellTransport_areShares_17 : decode b_CellTransport_areShares 17 = .ok (.isub, 1) := by decide +kernel
theorem d_CellTransport_areShares_18 : decode b_CellTransport_areShares 18 = .ok (.invokestatic 51, 3) := by decide +kernel
theorem d_CellTransport_areShares_21 : decode b_CellTransport_areShares 21 = .ok (.ifCond .eq 7, 3) := by decide +kernel
theorem d_CellTransport_areShares_24 : decode b_CellTransport_areShares 24 = .ok (.iconst 1, 1) := by decide +kernel
theorem d_CellTransport_areShares_25 : decode b_CellTransport_areShares 25 = .ok (.goto 4, 3) := by decide +kernel
theorem d_CellTransport_areShares_28 : decode b_CellTransport_areShares 28 = .ok (.iconst 0, 1) := by decide +kernel
theorem d_CellTransport_areShares_29 : decode b_CellTransport_areShares 29 = .ok (.ireturn, 1) := by decide +kernel
theorem d_CellTransport_oneIf_0 : decode b_CellTransport_oneIf 0 = .ok (.iload_n 0, 1) := by decide +kernel
theorem d_CellTransport_oneIf_1 : decode b_CellTransport_oneIf 1 = .ok (.ifCond .eq 7, 3) := by decide +kernel
theorem d_CellTransport_oneIf_4 : decode b_CellTransport_oneIf 4 = .ok (.iconst 1, 1) := by decide +kernel
theorem d_CellTransport_oneIf_5 : decode b_CellTransport_oneIf 5 = .ok (.goto 4, 3) := by decide +kernel
theorem d_CellTransport_oneIf_8 : decode b_CellTransport_oneIf 8 = .ok (.iconst 0, 1) := by decide +kernel
theorem d_CellTransport_oneIf_9 : decode b_CellTransport_oneIf 9 = .ok (.ireturn, 1) := by decide +kernel
theorem d_CellTransport_playHistory_0 : decode b_CellTransport_playHistory 0 = .ok (.aload_n 0, 1) := by decide +kernel
theorem d_CellTransport_playHistory_1 : decode b_CellTransport_playHistory 1 = .ok (.getfield 40, 3) := by decide +kernel
theorem d_CellTransport_playHistory_4 : decode b_CellTransport_playHistory 4 = .ok (.invokevirtual 156, 3) := by decide +kernel
theorem d_CellTransport_playHistory_7 : decode b_CellTransport_playHistory 7 = .ok (.aload_n 0, 1) := by decide +kernel
theorem d_CellTransport_playHistory_8 : decode b_CellTransport_playHistory 8 = .ok (.getfield 40, 3) := by decide +kernel
theorem d_CellTransport_playHistory_11 : decode b_CellTransport_playHistory 11 = .ok (.aload_n 0, 1) := by decide +kernel
theorem d_CellTransport_playHistory_12 : decode b_CellTransport_playHistory 12 = .ok (.getfield 109, 3) := by decide +kernel
theorem d_CellTransport_playHistory_15 : decode b_CellTransport_playHistory 15 = .ok (.aload_n 0, 1) := by decide +kernel
theorem d_CellTransport_playHistory_16 : decode b_CellTransport_playHistory 16 = .ok (.getfield 112, 3) := by decide +kernel
theorem d_CellTransport_playHistory_19 : decode b_CellTransport_playHistory 19 = .ok (.invokevirtual 159, 3) := by decide +kernel
theorem d_CellTransport_playHistory_22 : decode b_CellTransport_playHistory 22 = .ok (.pop, 1) := by decide +kernel
theorem d_CellTransport_playHistory_23 : decode b_CellTransport_playHistory 23 = .ok (.iconst 0, 1) := by decide +kernel
theorem d_CellTransport_playHistory_24 : decode b_CellTransport_playHistory 24 = .ok (.istore_n 1, 1) := by decide +kernel
theorem d_CellTransport_playHistory_25 : decode b_CellTransport_playHistory 25 = .ok (.aload_n 0, 1) := by decide +kernel
theorem d_CellTransport_playHistory_26 : decode b_CellTransport_playHistory 26 = .ok (.getfield 40, 3) := by decide +kernel
theorem d_CellTransport_playHistory_29 : decode b_CellTransport_playHistory 29 = .ok (.getfield 162, 3) := by decide +kernel
theorem d_CellTransport_playHistory_32 : decode b_CellTransport_playHistory 32 = .ok (.ifCond .le 30, 3) := by decide +kernel
theorem d_CellTransport_playHistory_35 : decode b_CellTransport_playHistory 35 = .ok (.iload_n 1, 1) := by decide +kernel
theorem d_CellTransport_playHistory_36 : decode b_CellTransport_playHistory 36 = .ok (.bipush 12, 2) := by decide +kernel
theorem d_CellTransport_playHistory_38 : decode b_CellTransport_playHistory 38 = .ok (.if_icmp .ge 24, 3) := by decide +kernel
theorem d_CellTransport_playHistory_41 : decode b_CellTransport_playHistory 41 = .ok (.aload_n 0, 1) := by decide +kernel
theorem d_CellTransport_playHistory_42 : decode b_CellTransport_playHistory 42 = .ok (.getfield 40, 3) := by decide +kernel
theorem d_CellTransport_playHistory_45 : decode b_CellTransport_playHistory 45 = .ok (.aload_n 0, 1) := by decide +kernel
theorem d_CellTransport_playHistory_46 : decode b_CellTransport_playHistory 46 = .ok (.getfield 47, 3) := by decide +kernel
theorem d_CellTransport_playHistory_49 : decode b_CellTransport_playHistory 49 = .ok (.invokevirtual 165, 3) := by decide +kernel
theorem d_CellTransport_playHistory_52 : decode b_CellTransport_playHistory 52 = .ok (.iinc 1 1, 3) := by decide +kernel
theorem d_CellTransport_playHistory_55 : decode b_CellTransport_playHistory 55 = .ok (.aload_n 0, 1) := by decide +kernel
theorem d_CellTransport_playHistory_56 : decode b_CellTransport_playHistory 56 = .ok (.invokevirtual 169, 3) := by decide +kernel
theorem d_CellTransport_playHistory_59 : decode b_CellTransport_playHistory 59 = .ok (.goto (-34), 3) := by decide +kernel
theorem d_CellTransport_playHistory_62 : decode b_CellTransport_playHistory 62 = .ok (.aload_n 0, 1) := by decide +kernel
theorem d_CellTransport_playHistory_63 : decode b_CellTransport_playHistory 63 = .ok (.getfield 33, 3) := by decide +kernel
theorem d_CellTransport_playHistory_66 : decode b_CellTransport_playHistory 66 = .ok (.getfield 147, 3) := by decide +kernel
theorem d_CellTransport_playHistory_69 : decode b_CellTransport_playHistory 69 = .ok (.iconst 0, 1) := by decide +kernel
theorem d_CellTransport_playHistory_70 : decode b_CellTransport_playHistory 70 = .ok (.dup2, 1) := by decide +kernel
theorem d_CellTransport_playHistory_71 : decode b_CellTransport_playHistory 71 = .ok (.iaload, 1) := by decide +kernel
theorem d_CellTransport_playHistory_72 : decode b_CellTransport_playHistory 72 = .ok (.iload_n 1, 1) := by decide +kernel
theorem d_CellTransport_playHistory_73 : decode b_CellTransport_playHistory 73 = .ok (.iadd, 1) := by decide +kernel
theorem d_CellTransport_playHistory_74 : decode b_CellTransport_playHistory 74 = .ok (.iastore, 1) := by decide +kernel
theorem d_CellTransport_playHistory_75 : decode b_CellTransport_playHistory 75 = .ok (.aload_n 0, 1) := by decide +kernel
theorem d_CellTransport_playHistory_76 : decode b_CellTransport_playHistory 76 = .ok (.getfield 33, 3) := by decide +kernel
theorem d_CellTransport_playHistory_79 : decode b_CellTransport_playHistory 79 = .ok (.getfield 147, 3) := by decide +kernel
theorem d_CellTransport_playHistory_82 : decode b_CellTransport_playHistory 82 = .ok (.iconst 4, 1) := by decide +kernel
theorem d_CellTransport_playHistory_83 : decode b_CellTransport_playHistory 83 = .ok (.dup2, 1) := by decide +kernel
theorem d_CellTransport_playHistory_84 : decode b_CellTransport_playHistory 84 = .ok (.iaload, 1) := by decide +kernel
theorem d_CellTransport_playHistory_85 : decode b_CellTransport_playHistory 85 = .ok (.iconst 1, 1) := by decide +kernel
theorem d_CellTransport_playHistory_86 : decode b_CellTransport_playHistory 86 = .ok (.iadd, 1) := by decide +kernel
theorem d_CellTransport_playHistory_87 : decode b_CellTransport_playHistory 87 = .ok (.iastore, 1) := by decide +kernel
theorem d_CellTransport_playHistory_88 : decode b_CellTransport_playHistory 88 = .ok (.iload_n 1, 1) := by decide +kernel
theorem d_CellTransport_playHistory_89 : decode b_CellTransport_playHistory 89 = .ok (.ireturn, 1) := by decide +kernel
theorem d_CellTransport_fly_0 : decode b_CellTransport_fly 0 = .ok (.aload_n 0, 1) := by decide +kernel
theorem d_CellTransport_fly_1 : decode b_CellTransport_fly 1 = .ok (.getfield 47, 3) := by decide +kernel
theorem d_CellTransport_fly_4 : decode b_CellTransport_fly 4 = .ok (.aload_n 0, 1) := by decide +kernel
theorem d_CellTransport_fly_5 : decode b_CellTransport_fly 5 = .ok (.getfield 10, 3) := by decide +kernel
theorem d_CellTransport_fly_8 : decode b_CellTransport_fly 8 = .ok (.aload_n 0, 1) := by decide +kernel
theorem d_CellTransport_fly_9 : decode b_CellTransport_fly 9 = .ok (.getfield 47, 3) := by decide +kernel
theorem d_CellTransport_fly_12 : decode b_CellTransport_fly 12 = .ok (.getfield 172, 3) := by decide +kernel
theorem d_CellTransport_fly_15 : decode b_CellTransport_fly 15 = .ok (.aload_n 0, 1) := by decide +kernel
theorem d_CellTransport_fly_16 : decode b_CellTransport_fly 16 = .ok (.getfield 47, 3) := by decide +kernel
theorem d_CellTransport_fly_19 : decode b_CellTransport_fly 19 = .ok (.getfield 175, 3) := by decide +kernel
theorem d_CellTransport_fly_22 : decode b_CellTransport_fly 22 = .ok (.invokevirtual 129, 3) := by decide +kernel
theorem d_CellTransport_fly_25 : decode b_CellTransport_fly 25 = .ok (.putfield 178, 3) := by decide +kernel
theorem d_CellTransport_fly_28 : decode b_CellTransport_fly 28 = .ok (.aload_n 0, 1) := by decide +kernel
theorem d_CellTransport_fly_29 : decode b_CellTransport_fly 29 = .ok (.invokevirtual 181, 3) := by decide +kernel
theorem d_CellTransport_fly_32 : decode b_CellTransport_fly 32 = .ok (.iconst 0, 1) := by decide +kernel
theorem d_CellTransport_fly_33 : decode b_CellTransport_fly 33 = .ok (.istore_n 1, 1) := by decide +kernel
theorem d_CellTransport_fly_34 : decode b_CellTransport_fly 34 = .ok (.iload_n 1, 1) := by decide +kernel
theorem d_CellTransport_fly_35 : decode b_CellTransport_fly 35 = .ok (.sipush 200, 3) := by decide +kernel
theorem d_CellTransport_fly_38 : decode b_CellTransport_fly 38 = .ok (.if_icmp .ge 17, 3) := by decide +kernel
theorem d_CellTransport_fly_41 : decode b_CellTransport_fly 41 = .ok (.aload_n 0, 1) := by decide +kernel
theorem d_CellTransport_fly_42 : decode b_CellTransport_fly 42 = .ok (.invokevirtual 184, 3) := by decide +kernel
theorem d_CellTransport_fly_45 : decode b_CellTransport_fly 45 = .ok (.ifCond .ne 4, 3) := by decide +kernel
theorem d_CellTransport_fly_48 : decode b_CellTransport_fly 48 = .ok (.return_, 1) := by decide +kernel
theorem d_CellTransport_fly_49 : decode b_CellTransport_fly 49 = .ok (.iinc 1 1, 3) := by decide +kernel
theorem d_CellTransport_fly_52 : decode b_CellTransport_fly 52 = .ok (.goto (-18), 3) := by decide +kernel
theorem d_CellTransport_fly_55 : decode b_CellTransport_fly 55 = .ok (.aload_n 0, 1) := by decide +kernel
theorem d_CellTransport_fly_56 : decode b_CellTransport_fly 56 = .ok (.getfield 33, 3) := by decide +kernel
theorem d_CellTransport_fly_59 : decode b_CellTransport_fly 59 = .ok (.getfield 147, 3) := by decide +kernel
theorem d_CellTransport_fly_62 : decode b_CellTransport_fly 62 = .ok (.iconst 2, 1) := by decide +kernel
theorem d_CellTransport_fly_63 : decode b_CellTransport_fly 63 = .ok (.dup2, 1) := by decide +kernel
theorem d_CellTransport_fly_64 : decode b_CellTransport_fly 64 = .ok (.iaload, 1) := by decide +kernel
theorem d_CellTransport_fly_65 : decode b_CellTransport_fly 65 = .ok (.iconst 1, 1) := by decide +kernel
theorem d_CellTransport_fly_66 : decode b_CellTransport_fly 66 = .ok (.iadd, 1) := by decide +kernel
theorem d_CellTransport_fly_67 : decode b_CellTransport_fly 67 = .ok (.iastore, 1) := by decide +kernel
theorem d_CellTransport_fly_68 : decode b_CellTransport_fly 68 = .ok (.return_, 1) := by decide +kernel
theorem d_CellTransport_aim_0 : decode b_CellTransport_aim 0 = .ok (.aload_n 0, 1) := by decide +kernel
theorem d_CellTransport_aim_1 : decode b_CellTransport_aim 1 = .ok (.getfield 47, 3) := by decide +kernel
theorem d_CellTransport_aim_4 : decode b_CellTransport_aim 4 = .ok (.aload_n 0, 1) := by decide +kernel
theorem d_CellTransport_aim_5 : decode b_CellTransport_aim 5 = .ok (.getfield 26, 3) := by decide +kernel
theorem d_CellTransport_aim_8 : decode b_CellTransport_aim 8 = .ok (.invokevirtual 187, 3) := by decide +kernel
theorem d_CellTransport_aim_11 : decode b_CellTransport_aim 11 = .ok (.bipush 8, 2) := by decide +kernel
theorem d_CellTransport_aim_13 : decode b_CellTransport_aim 13 = .ok (.irem, 1) := by decide +kernel
theorem d_CellTransport_aim_14 : decode b_CellTransport_aim 14 = .ok (.putfield 190, 3) := by decide +kernel
theorem d_CellTransport_aim_17 : decode b_CellTransport_aim 17 = .ok (.aload_n 0, 1) := by decide +kernel
theorem d_CellTransport_aim_18 : decode b_CellTransport_aim 18 = .ok (.getfield 47, 3) := by decide +kernel
theorem d_CellTransport_aim_21 : decode b_CellTransport_aim 21 = .ok (.iconst 1, 1) := by decide +kernel
theorem d_CellTransport_aim_22 : decode b_CellTransport_aim 22 = .ok (.aload_n 0, 1) := by decide +kernel
theorem d_CellTransport_aim_23 : decode b_CellTransport_aim 23 = .ok (.getfield 26, 3) := by decide +kernel
theorem d_CellTransport_aim_26 : decode b_CellTransport_aim 26 = .ok (.invokevirtual 187, 3) := by decide +kernel
theorem d_CellTransport_aim_29 : decode b_CellTransport_aim 29 = .ok (.sipush 2000, 3) := by decide +kernel
theorem d_CellTransport_aim_32 : decode b_CellTransport_aim 32 = .ok (.irem, 1) := by decide +kernel
theorem d_CellTransport_aim_33 : decode b_CellTransport_aim 33 = .ok (.iadd, 1) := by decide +kernel
theorem d_CellTransport_aim_34 : decode b_CellTransport_aim 34 = .ok (.putfield 193, 3) := by decide +kernel
theorem d_CellTransport_aim_37 : decode b_CellTransport_aim 37 = .ok (.return_, 1) := by decide +kernel
theorem d_CellTransport_survivesStep_0 : decode b_CellTransport_survivesStep 0 = .ok (.aload_n 0, 1) := by decide +kernel
theorem d_CellTransport_survivesStep_1 : decode b_CellTransport_survivesStep 1 = .ok (.getfield 47, 3) := by decide +kernel
theorem d_CellTransport_survivesStep_4 : decode b_CellTransport_survivesStep 4 = .ok (.getfield 178, 3) := by decide +kernel
theorem d_CellTransport_survivesStep_7 : decode b_CellTransport_survivesStep 7 = .ok (.istore_n 1, 1) := by decide +kernel
theorem d_CellTransport_survivesStep_8 : decode b_CellTransport_survivesStep 8 = .ok (.aload_n 0, 1) := by decide +kernel
theorem d_CellTransport_survivesStep_9 : decode b_CellTransport_survivesStep 9 = .ok (.getfield 47, 3) := by decide +kernel
theorem d_CellTransport_survivesStep_12 : decode b_CellTransport_survivesStep 12 = .ok (.invokevirtual 196, 3) := by decide +kernel
theorem d_CellTransport_survivesStep_15 : decode b_CellTransport_survivesStep 15 = .ok (.aload_n 0, 1) := by decide +kernel
theorem d_CellTransport_survivesStep_16 : decode b_CellTransport_survivesStep 16 = .ok (.getfield 47, 3) := by decide +kernel
theorem d_CellTransport_survivesStep_19 : decode b_CellTransport_survivesStep 19 = .ok (.aload_n 0, 1) := by decide +kernel
theorem d_CellTransport_survivesStep_20 : decode b_CellTransport_survivesStep 20 = .ok (.getfield 10, 3) := by decide +kernel
theorem d_CellTransport_survivesStep_23 : decode b_CellTransport_survivesStep 23 = .ok (.aload_n 0, 1) := by decide +kernel
theorem d_CellTransport_survivesStep_24 : decode b_CellTransport_survivesStep 24 = .ok (.getfield 47, 3) := by decide +kernel
theorem d_CellTransport_survivesStep_27 : decode b_CellTransport_survivesStep 27 = .ok (.getfield 172, 3) := by decide +kernel
theorem d_CellTransport_survivesStep_30 : decode b_CellTransport_survivesStep 30 = .ok (.aload_n 0, 1) := by decide +kernel
theorem d_CellTransport_survivesStep_31 : decode b_CellTransport_survivesStep 31 = .ok (.getfield 47, 3) := by decide +kernel
theorem d_CellTransport_survivesStep_34 : decode b_CellTransport_survivesStep 34 = .ok (.getfield 175, 3) := by decide +kernel
theorem d_CellTransport_survivesStep_37 : decode b_CellTransport_survivesStep 37 = .ok (.invokevirtual 129, 3) := by decide +kernel
theorem d_CellTransport_survivesStep_40 : decode b_CellTransport_survivesStep 40 = .ok (.putfield 178, 3) := by decide +kernel
theorem d_CellTransport_survivesStep_43 : decode b_CellTransport_survivesStep 43 = .ok (.aload_n 0, 1) := by decide +kernel
theorem d_CellTransport_survivesStep_44 : decode b_CellTransport_survivesStep 44 = .ok (.getfield 47, 3) := by decide +kernel
theorem d_CellTransport_survivesStep_47 : decode b_CellTransport_survivesStep 47 = .ok (.getfield 178, 3) := by decide +kernel
theorem d_CellTransport_survivesStep_50 : decode b_CellTransport_survivesStep 50 = .ok (.bipush 6, 2) := by decide +kernel
theorem d_CellTransport_survivesStep_52 : decode b_CellTransport_survivesStep 52 = .ok (.if_icmp .ne 18, 3) := by decide +kernel
theorem d_CellTransport_survivesStep_55 : decode b_CellTransport_survivesStep 55 = .ok (.aload_n 0, 1) := by decide +kernel
theorem d_CellTransport_survivesStep_56 : decode b_CellTransport_survivesStep 56 = .ok (.getfield 33, 3) := by decide +kernel
theorem d_CellTransport_survivesStep_59 : decode b_CellTransport_survivesStep 59 = .ok (.getfield 147, 3) := by decide +kernel
theorem d_CellTransport_survivesStep_62 : decode b_CellTransport_survivesStep 62 = .ok (.iconst 1, 1) := by decide +kernel
theorem d_CellTransport_survivesStep_63 : decode b_CellTransport_survivesStep 63 = .ok (.dup2, 1) := by decide +kernel
theorem d_CellTransport_survivesStep_64 : decode b_CellTransport_survivesStep 64 = .ok (.iaload, 1) := by decide +kernel
theorem d_CellTransport_survivesStep_65 : decode b_CellTransport_survivesStep 65 = .ok (.iconst 1, 1) := by decide +kernel
theorem d_CellTransport_survivesStep_66 : decode b_CellTransport_survivesStep 66 = .ok (.iadd, 1) := by decide +kernel
theorem d_CellTransport_survivesStep_67 : decode b_CellTransport_survivesStep 67 = .ok (.iastore, 1) := by decide +kernel
theorem d_CellTransport_survivesStep_68 : decode b_CellTransport_survivesStep 68 = .ok (.iconst 0, 1) := by decide +kernel
theorem d_CellTransport_survivesStep_69 : decode b_CellTransport_survivesStep 69 = .ok (.ireturn, 1) := by decide +kernel
theorem d_CellTransport_survivesStep_70 : decode b_CellTransport_survivesStep 70 = .ok (.aload_n 0, 1) := by decide +kernel
theorem d_CellTransport_survivesStep_71 : decode b_CellTransport_survivesStep 71 = .ok (.getfield 33, 3) := by decide +kernel
theorem d_CellTransport_survivesStep_74 : decode b_CellTransport_survivesStep 74 = .ok (.iload_n 1, 1) := by decide +kernel
theorem d_CellTransport_survivesStep_75 : decode b_CellTransport_survivesStep 75 = .ok (.aload_n 0, 1) := by decide +kernel
theorem d_CellTransport_survivesStep_76 : decode b_CellTransport_survivesStep 76 = .ok (.getfield 47, 3) := by decide +kernel
theorem d_CellTransport_survivesStep_79 : decode b_CellTransport_survivesStep 79 = .ok (.getfield 178, 3) := by decide +kernel
theorem d_CellTransport_survivesStep_82 : decode b_CellTransport_survivesStep 82 = .ok (.invokevirtual 199, 3) := by decide +kernel
theorem d_CellTransport_survivesStep_85 : decode b_CellTransport_survivesStep 85 = .ok (.aload_n 0, 1) := by decide +kernel
theorem d_CellTransport_survivesStep_86 : decode b_CellTransport_survivesStep 86 = .ok (.getfield 10, 3) := by decide +kernel
theorem d_CellTransport_survivesStep_89 : decode b_CellTransport_survivesStep 89 = .ok (.getfield 93, 3) := by decide +kernel
theorem d_CellTransport_survivesStep_92 : decode b_CellTransport_survivesStep 92 = .ok (.aload_n 0, 1) := by decide +kernel
theorem d_CellTransport_survivesStep_93 : decode b_CellTransport_survivesStep 93 = .ok (.getfield 47, 3) := by decide +kernel
theorem d_CellTransport_survivesStep_96 : decode b_CellTransport_survivesStep 96 = .ok (.getfield 178, 3) := by decide +kernel
theorem d_CellTransport_survivesStep_99 : decode b_CellTransport_survivesStep 99 = .ok (.aaload, 1) := by decide +kernel
theorem d_CellTransport_survivesStep_100 : decode b_CellTransport_survivesStep 100 = .ok (.astore_n 2, 1) := by decide +kernel
theorem d_CellTransport_survivesStep_101 : decode b_CellTransport_survivesStep 101 = .ok (.aload_n 0, 1) := by decide +kernel
theorem d_CellTransport_survivesStep_102 : decode b_CellTransport_survivesStep 102 = .ok (.getfield 47, 3) := by decide +kernel
theorem d_CellTransport_survivesStep_105 : decode b_CellTransport_survivesStep 105 = .ok (.dup, 1) := by decide +kernel
theorem d_CellTransport_survivesStep_106 : decode b_CellTransport_survivesStep 106 = .ok (.getfield 193, 3) := by decide +kernel
theorem d_CellTransport_survivesStep_109 : decode b_CellTransport_survivesStep 109 = .ok (.aload_n 2, 1) := by decide +kernel
theorem d_CellTransport_survivesStep_110 : decode b_CellTransport_survivesStep 110 = .ok (.getfield 203, 3) := by decide +kernel
theorem d_CellTransport_survivesStep_113 : decode b_CellTransport_survivesStep 113 = .ok (.isub, 1) := by decide +kernel
theorem d_CellTransport_survivesStep_114 : decode b_CellTransport_survivesStep 114 = .ok (.putfield 193, 3) := by decide +kernel
theorem d_CellTransport_survivesStep_117 : decode b_CellTransport_survivesStep 117 = .ok (.aload_n 0, 1) := by decide +kernel
theorem d_CellTransport_survivesStep_118 : decode b_CellTransport_survivesStep 118 = .ok (.getfield 47, 3) := by decide +kernel
theorem d_CellTransport_survivesStep_121 : decode b_CellTransport_survivesStep 121 = .ok (.getfield 193, 3) := by decide +kernel
theorem d_CellTransport_survivesStep_124 : decode b_CellTransport_survivesStep 124 = .ok (.ifCond .gt 11, 3) := by decide +kernel
theorem d_CellTransport_survivesStep_127 : decode b_CellTransport_survivesStep 127 = .ok (.aload_n 0, 1) := by decide +kernel
theorem d_CellTransport_survivesStep_128 : decode b_CellTransport_survivesStep 128 = .ok (.aload_n 2, 1) := by decide +kernel
theorem d_CellTransport_survivesStep_129 : decode b_CellTransport_survivesStep 129 = .ok (.invokevirtual 206, 3) := by decide +kernel
theorem d_CellTransport_survivesStep_132 : decode b_CellTransport_survivesStep 132 = .ok (.ifCond .eq 7, 3) := by decide +kernel
theorem d_CellTransport_survivesStep_135 : decode b_CellTransport_survivesStep 135 = .ok (.iconst 1, 1) := by decide +kernel
theorem d_CellTransport_survivesStep_136 : decode b_CellTransport_survivesStep 136 = .ok (.goto 4, 3) := by decide +kernel
theorem d_CellTransport_survivesStep_139 : decode b_CellTransport_survivesStep 139 = .ok (.iconst 0, 1) := by decide +kernel
theorem d_CellTransport_survivesStep_140 : decode b_CellTransport_survivesStep 140 = .ok (.ireturn, 1) := by decide +kernel
theorem d_CellTransport_survivesCollision_0 : decode b_CellTransport_survivesCollision 0 = .ok (.aload_n 0, 1) := by decide +kernel
theorem d_CellTransport_survivesCollision_1 : decode b_CellTransport_survivesCollision 1 = .ok (.getfield 33, 3) := by decide +kernel
theorem d_CellTransport_survivesCollision_4 : decode b_CellTransport_survivesCollision 4 = .ok (.getfield 140, 3) := by decide +kernel
theorem d_CellTransport_survivesCollision_7 : decode b_CellTransport_survivesCollision 7 = .ok (.aload_n 0, 1) := by decide +kernel
theorem d_CellTransport_survivesCollision_8 : decode b_CellTransport_survivesCollision 8 = .ok (.getfield 47, 3) := by decide +kernel
theorem d_CellTransport_survivesCollision_11 : decode b_CellTransport_survivesCollision 11 = .ok (.getfield 178, 3) := by decide +kernel
theorem d_CellTransport_survivesCollision_14 : decode b_CellTransport_survivesCollision 14 = .ok (.aaload, 1) := by decide +kernel
theorem d_CellTransport_survivesCollision_15 : decode b_CellTransport_survivesCollision 15 = .ok (.astore_n 2, 1) := by decide +kernel
theorem d_CellTransport_survivesCollision_16 : decode b_CellTransport_survivesCollision 16 = .ok (.aload_n 2, 1) := by decide +kernel
theorem d_CellTransport_survivesCollision_17 : decode b_CellTransport_survivesCollision 17 = .ok (.iconst 1, 1) := by decide +kernel
theorem d_CellTransport_survivesCollision_18 : decode b_CellTransport_survivesCollision 18 = .ok (.dup2, 1) := by decide +kernel
theorem d_CellTransport_survivesCollision_19 : decode b_CellTransport_survivesCollision 19 = .ok (.iaload, 1) := by decide +kernel
theorem d_CellTransport_survivesCollision_20 : decode b_CellTransport_survivesCollision 20 = .ok (.iconst 1, 1) := by decide +kernel
theorem d_CellTransport_survivesCollision_21 : decode b_CellTransport_survivesCollision 21 = .ok (.iadd, 1) := by decide +kernel
theorem d_CellTransport_survivesCollision_22 : decode b_CellTransport_survivesCollision 22 = .ok (.iastore, 1) := by decide +kernel
theorem d_CellTransport_survivesCollision_23 : decode b_CellTransport_survivesCollision 23 = .ok (.aload_n 0, 1) := by decide +kernel
theorem d_CellTransport_survivesCollision_24 : decode b_CellTransport_survivesCollision 24 = .ok (.getfield 26, 3) := by decide +kernel
theorem d_CellTransport_survivesCollision_27 : decode b_CellTransport_survivesCollision 27 = .ok (.invokevirtual 187, 3) := by decide +kernel
theorem d_CellTransport_survivesCollision_30 : decode b_CellTransport_survivesCollision 30 = .ok (.sipush 1000, 3) := by decide +kernel
theorem d_CellTransport_survivesCollision_33 : decode b_CellTransport_survivesCollision 33 = .ok (.irem, 1) := by decide +kernel
theorem d_CellTransport_survivesCollision_34 : decode b_CellTransport_survivesCollision 34 = .ok (.istore_n 3, 1) := by decide +kernel
theorem d_CellTransport_survivesCollision_35 : decode b_CellTransport_survivesCollision 35 = .ok (.iload_n 3, 1) := by decide +kernel
theorem d_CellTransport_survivesCollision_36 : decode b_CellTransport_survivesCollision 36 = .ok (.aload_n 1, 1) := by decide +kernel
theorem d_CellTransport_survivesCollision_37 : decode b_CellTransport_survivesCollision 37 = .ok (.getfield 210, 3) := by decide +kernel
theorem d_CellTransport_survivesCollision_40 : decode b_CellTransport_survivesCollision 40 = .ok (.if_icmp .ge 12, 3) := by decide +kernel
theorem d_CellTransport_survivesCollision_43 : decode b_CellTransport_survivesCollision 43 = .ok (.aload_n 2, 1) := by decide +kernel
theorem d_CellTransport_survivesCollision_44 : decode b_CellTransport_survivesCollision 44 = .ok (.iconst 2, 1) := by decide +kernel
theorem d_CellTransport_survivesCollision_45 : decode b_CellTransport_survivesCollision 45 = .ok (.dup2, 1) := by decide +kernel
theorem d_CellTransport_survivesCollision_46 : decode b_CellTransport_survivesCollision 46 = .ok (.iaload, 1) := by decide +kernel
theorem d_CellTransport_survivesCollision_47 : decode b_CellTransport_survivesCollision 47 = .ok (.iconst 1, 1) := by decide +kernel
theorem d_CellTransport_survivesCollision_48 : decode b_CellTransport_survivesCollision 48 = .ok (.iadd, 1) := by decide +kernel
theorem d_CellTransport_survivesCollision_49 : decode b_CellTransport_survivesCollision 49 = .ok (.iastore, 1) := by decide +kernel
theorem d_CellTransport_survivesCollision_50 : decode b_CellTransport_survivesCollision 50 = .ok (.iconst 0, 1) := by decide +kernel
theorem d_CellTransport_survivesCollision_51 : decode b_CellTransport_survivesCollision 51 = .ok (.ireturn, 1) := by decide +kernel
theorem d_CellTransport_survivesCollision_52 : decode b_CellTransport_survivesCollision 52 = .ok (.iload_n 3, 1) := by decide +kernel
theorem d_CellTransport_survivesCollision_53 : decode b_CellTransport_survivesCollision 53 = .ok (.aload_n 1, 1) := by decide +kernel
theorem d_CellTransport_survivesCollision_54 : decode b_CellTransport_survivesCollision 54 = .ok (.getfield 210, 3) := by decide +kernel
theorem d_CellTransport_survivesCollision_57 : decode b_CellTransport_survivesCollision 57 = .ok (.aload_n 1, 1) := by decide +kernel
theorem d_CellTransport_survivesCollision_58 : decode b_CellTransport_survivesCollision 58 = .ok (.getfield 213, 3) := by decide +kernel
theorem d_CellTransport_survivesCollision_61 : decode b_CellTransport_survivesCollision 61 = .ok (.iadd, 1) := by decide +kernel
theorem d_CellTransport_survivesCollision_62 : decode b_CellTransport_survivesCollision 62 = .ok (.if_icmp .ge 16, 3) := by decide +kernel
theorem d_CellTransport_survivesCollision_65 : decode b_CellTransport_survivesCollision 65 = .ok (.aload_n 2, 1) := by decide +kernel
theorem d_CellTransport_survivesCollision_66 : decode b_CellTransport_survivesCollision 66 = .ok (.iconst 3, 1) := by decide +kernel
theorem d_CellTransport_survivesCollision_67 : decode b_CellTransport_survivesCollision 67 = .ok (.dup2, 1) := by decide +kernel
theorem d_CellTransport_survivesCollision_68 : decode b_CellTransport_survivesCollision 68 = .ok (.iaload, 1) := by decide +kernel
theorem d_CellTransport_survivesCollision_69 : decode b_CellTransport_survivesCollision 69 = .ok (.iconst 1, 1) := by decide +kernel
theorem d_CellTransport_survivesCollision_70 : decode b_CellTransport_survivesCollision 70 = .ok (.iadd, 1) := by decide +kernel
theorem d_CellTransport_survivesCollision_71 : decode b_CellTransport_survivesCollision 71 = .ok (.iastore, 1) := by decide +kernel
theorem d_CellTransport_survivesCollision_72 : decode b_CellTransport_survivesCollision 72 = .ok (.aload_n 0, 1) := by decide +kernel
theorem d_CellTransport_survivesCollision_73 : decode b_CellTransport_survivesCollision 73 = .ok (.invokevirtual 216, 3) := by decide +kernel
theorem d_CellTransport_survivesCollision_76 : decode b_CellTransport_survivesCollision 76 = .ok (.iconst 0, 1) := by decide +kernel
theorem d_CellTransport_survivesCollision_77 : decode b_CellTransport_survivesCollision 77 = .ok (.ireturn, 1) := by decide +kernel
theorem d_CellTransport_survivesCollision_78 : decode b_CellTransport_survivesCollision 78 = .ok (.aload_n 0, 1) := by decide +kernel
theorem d_CellTransport_survivesCollision_79 : decode b_CellTransport_survivesCollision 79 = .ok (.invokevirtual 181, 3) := by decide +kernel
theorem d_CellTransport_survivesCollision_82 : decode b_CellTransport_survivesCollision 82 = .ok (.iconst 1, 1) := by decide +kernel
theorem d_CellTransport_survivesCollision_83 : decode b_CellTransport_survivesCollision 83 = .ok (.ireturn, 1) := by decide +kernel
theorem d_CellTransport_split_0 : decode b_CellTransport_split 0 = .ok (.iconst 0, 1) := by decide +kernel
theorem d_CellTransport_split_1 : decode b_CellTransport_split 1 = .ok (.istore_n 1, 1) := by decide +kernel
theorem d_CellTransport_split_2 : decode b_CellTransport_split 2 = .ok (.iload_n 1, 1) := by decide +kernel
theorem d_CellTransport_split_3 : decode b_CellTransport_split 3 = .ok (.iconst 2, 1) := by decide +kernel
theorem d_CellTransport_split_4 : decode b_CellTransport_split 4 = .ok (.if_icmp .ge 46, 3) := by decide +kernel
theorem d_CellTransport_split_7 : decode b_CellTransport_split 7 = .ok (.aload_n 0, 1) := by decide +kernel
theorem d_CellTransport_split_8 : decode b_CellTransport_split 8 = .ok (.getfield 40, 3) := by decide +kernel
theorem d_CellTransport_split_11 : decode b_CellTransport_split 11 = .ok (.aload_n 0, 1) := by decide +kernel
theorem d_CellTransport_split_12 : decode b_CellTransport_split 12 = .ok (.getfield 47, 3) := by decide +kernel
theorem d_CellTransport_split_15 : decode b_CellTransport_split 15 = .ok (.getfield 172, 3) := by decide +kernel
theorem d_CellTransport_split_18 : decode b_CellTransport_split 18 = .ok (.aload_n 0, 1) := by decide +kernel
theorem d_CellTransport_split_19 : decode b_CellTransport_split 19 = .ok (.getfield 47, 3) := by decide +kernel
theorem d_CellTransport_split_22 : decode b_CellTransport_split 22 = .ok (.getfield 175, 3) := by decide +kernel
theorem d_CellTransport_split_25 : decode b_CellTransport_split 25 = .ok (.invokevirtual 159, 3) := by decide +kernel
theorem d_CellTransport_split_28 : decode b_CellTransport_split 28 = .ok (.ifCond .ne 16, 3) := by decide +kernel
theorem d_CellTransport_split_31 : decode b_CellTransport_split 31 = .ok (.aload_n 0, 1) := by decide +kernel
theorem d_CellTransport_split_32 : decode b_CellTransport_split 32 = .ok (.getfield 33, 3) := by decide +kernel
theorem d_CellTransport_split_35 : decode b_CellTransport_split 35 = .ok (.getfield 147, 3) := by decide +kernel
theorem d_CellTransport_split_38 : decode b_CellTransport_split 38 = .ok (.iconst 3, 1) := by decide +kernel
theorem d_CellTransport_split_39 : decode b_CellTransport_split 39 = .ok (.dup2, 1) := by decide +kernel
theorem d_CellTransport_split_40 : decode b_CellTransport_split 40 = .ok (.iaload, 1) := by decide +kernel
theorem d_CellTransport_split_41 : decode b_CellTransport_split 41 = .ok (.iconst 1, 1) := by decide +kernel
theorem d_CellTransport_split_42 : decode b_CellTransport_split 42 = .ok (.iadd, 1) := by decide +kernel
theorem d_CellTransport_split_43 : decode b_CellTransport_split 43 = .ok (.iastore, 1) := by decide +kernel
theorem d_CellTransport_split_44 : decode b_CellTransport_split 44 = .ok (.iinc 1 1, 3) := by decide +kernel
theorem d_CellTransport_split_47 : decode b_CellTransport_split 47 = .ok (.goto (-45), 3) := by decide +kernel
theorem d_CellTransport_split_50 : decode b_CellTransport_split 50 = .ok (.return_, 1) := by decide +kernel
theorem d_Cell_init_0 : decode b_Cell_init 0 = .ok (.aload_n 0, 1) := by decide +kernel
theorem d_Cell_init_1 : decode b_Cell_init 1 = .ok (.invokespecial 1, 3) := by decide +kernel
theorem d_Cell_init_4 : decode b_Cell_init 4 = .ok (.aload_n 0, 1) := by decide +kernel
theorem d_Cell_init_5 : decode b_Cell_init 5 = .ok (.new 7, 3) := by decide +kernel
theorem d_Cell_init_8 : decode b_Cell_init 8 = .ok (.dup, 1) := by decide +kernel
theorem d_Cell_init_9 : decode b_Cell_init 9 = .ok (.invokespecial 9, 3) := by decide +kernel
theorem d_Cell_init_12 : decode b_Cell_init 12 = .ok (.putfield 10, 3) := by decide +kernel
theorem d_Cell_init_15 : decode b_Cell_init 15 = .ok (.return_, 1) := by decide +kernel
theorem d_Cell_define_0 : decode b_Cell_define 0 = .ok (.aload_n 0, 1) := by decide +kernel
theorem d_Cell_define_1 : decode b_Cell_define 1 = .ok (.iconst 1, 1) := by decide +kernel
theorem d_Cell_define_2 : decode b_Cell_define 2 = .ok (.putfield 16, 3) := by decide +kernel
theorem d_Cell_define_5 : decode b_Cell_define 5 = .ok (.aload_n 0, 1) := by decide +kernel
theorem d_Cell_define_6 : decode b_Cell_define 6 = .ok (.getfield 10, 3) := by decide +kernel
theorem d_Cell_define_9 : decode b_Cell_define 9 = .ok (.aload_n 1, 1) := by decide +kernel
theorem d_Cell_define_10 : decode b_Cell_define 10 = .ok (.invokevirtual 20, 3) := by decide +kernel
theorem d_Cell_define_13 : decode b_Cell_define 13 = .ok (.aload_n 0, 1) := by decide +kernel
theorem d_Cell_define_14 : decode b_Cell_define 14 = .ok (.iload_n 2, 1) := by decide +kernel
theorem d_Cell_define_15 : decode b_Cell_define 15 = .ok (.putfield 24, 3) := by decide +kernel
theorem d_Cell_define_18 : decode b_Cell_define 18 = .ok (.aload_n 0, 1) := by decide +kernel
theorem d_Cell_define_19 : decode b_Cell_define 19 = .ok (.iload_n 3, 1) := by decide +kernel
theorem d_Cell_define_20 : decode b_Cell_define 20 = .ok (.putfield 28, 3) := by decide +kernel
theorem d_Cell_define_23 : decode b_Cell_define 23 = .ok (.aload_n 0, 1) := by decide +kernel
theorem d_Cell_define_24 : decode b_Cell_define 24 = .ok (.iload 4, 2) := by decide +kernel
theorem d_Cell_define_26 : decode b_Cell_define 26 = .ok (.putfield 31, 3) := by decide +kernel
theorem d_Cell_define_29 : decode b_Cell_define 29 = .ok (.return_, 1) := by decide +kernel
theorem d_Counts_init_0 : decode b_Counts_init 0 = .ok (.aload_n 0, 1) := by decide +kernel
theorem d_Counts_init_1 : decode b_Counts_init 1 = .ok (.invokespecial 3, 3) := by decide +kernel
theorem d_Counts_init_4 : decode b_Counts_init 4 = .ok (.aload_n 0, 1) := by decide +kernel
theorem d_Counts_init_5 : decode b_Counts_init 5 = .ok (.iconst 5, 1) := by decide +kernel
theorem d_Counts_init_6 : decode b_Counts_init 6 = .ok (.newarray .int, 2) := by decide +kernel
theorem d_Counts_init_8 : decode b_Counts_init 8 = .ok (.putfield 9, 3) := by decide +kernel
theorem d_Counts_init_11 : decode b_Counts_init 11 = .ok (.aload_n 0, 1) := by decide +kernel
theorem d_Counts_init_12 : decode b_Counts_init 12 = .ok (.bipush 6, 2) := by decide +kernel
theorem d_Counts_init_14 : decode b_Counts_init 14 = .ok (.iconst 4, 1) := by decide +kernel
theorem d_Counts_init_15 : decode b_Counts_init 15 = .ok (.multianewarray 15 2, 4) := by decide +kernel
theorem d_Counts_init_19 : decode b_Counts_init 19 = .ok (.putfield 17, 3) := by decide +kernel
theorem d_Counts_init_22 : decode b_Counts_init 22 = .ok (.aload_n 0, 1) := by decide +kernel
theorem d_Counts_init_23 : decode b_Counts_init 23 = .ok (.bipush 6, 2) := by decide +kernel
theorem d_Counts_init_25 : decode b_Counts_init 25 = .ok (.bipush 6, 2) := by decide +kernel
theorem d_Counts_init_27 : decode b_Counts_init 27 = .ok (.multianewarray 15 2, 4) := by decide +kernel
theorem d_Counts_init_31 : decode b_Counts_init 31 = .ok (.putfield 20, 3) := by decide +kernel
theorem d_Counts_init_34 : decode b_Counts_init 34 = .ok (.return_, 1) := by decide +kernel
theorem d_Counts_addTrack_0 : decode b_Counts_addTrack 0 = .ok (.aload_n 0, 1) := by decide +kernel
theorem d_Counts_addTrack_1 : decode b_Counts_addTrack 1 = .ok (.getfield 17, 3) := by decide +kernel
theorem d_Counts_addTrack_4 : decode b_Counts_addTrack 4 = .ok (.iload_n 2, 1) := by decide +kernel
theorem d_Counts_addTrack_5 : decode b_Counts_addTrack 5 = .ok (.aaload, 1) := by decide +kernel
theorem d_Counts_addTrack_6 : decode b_Counts_addTrack 6 = .ok (.iconst 0, 1) := by decide +kernel
theorem d_Counts_addTrack_7 : decode b_Counts_addTrack 7 = .ok (.dup2, 1) := by decide +kernel
theorem d_Counts_addTrack_8 : decode b_Counts_addTrack 8 = .ok (.iaload, 1) := by decide +kernel
theorem d_Counts_addTrack_9 : decode b_Counts_addTrack 9 = .ok (.iconst 1, 1) := by decide +kernel
theorem d_Counts_addTrack_10 : decode b_Counts_addTrack 10 = .ok (.iadd, 1) := by decide +kernel
theorem d_Counts_addTrack_11 : decode b_Counts_addTrack 11 = .ok (.iastore, 1) := by decide +kernel
theorem d_Counts_addTrack_12 : decode b_Counts_addTrack 12 = .ok (.iload_n 1, 1) := by decide +kernel
theorem d_Counts_addTrack_13 : decode b_Counts_addTrack 13 = .ok (.iload_n 2, 1) := by decide +kernel
theorem d_Counts_addTrack_14 : decode b_Counts_addTrack 14 = .ok (.if_icmp .eq 21, 3) := by decide +kernel
theorem d_Counts_addTrack_17 : decode b_Counts_addTrack 17 = .ok (.iload_n 1, 1) := by decide +kernel
theorem d_Counts_addTrack_18 : decode b_Counts_addTrack 18 = .ok (.bipush 6, 2) := by decide +kernel
theorem d_Counts_addTrack_20 : decode b_Counts_addTrack 20 = .ok (.if_icmp .eq 15, 3) := by decide +kernel
theorem d_Counts_addTrack_23 : decode b_Counts_addTrack 23 = .ok (.aload_n 0, 1) := by decide +kernel
theorem d_Counts_addTrack_24 : decode b_Counts_addTrack 24 = .ok (.getfield 20, 3) := by decide +kernel
theorem d_Counts_addTrack_27 : decode b_Counts_addTrack 27 = .ok (.iload_n 1, 1) := by decide +kernel
theorem d_Counts_addTrack_28 : decode b_Counts_addTrack 28 = .ok (.aaload, 1) := by decide +kernel
theorem d_Counts_addTrack_29 : decode b_Counts_addTrack 29 = .ok (.iload_n 2, 1) := by decide +kernel
theorem d_Counts_addTrack_30 : decode b_Counts_addTrack 30 = .ok (.dup2, 1) := by decide +kernel
theorem d_Counts_addTrack_31 : decode b_Counts_addTrack 31 = .ok (.iaload, 1) := by decide +kernel
theorem d_Counts_addTrack_32 : decode b_Counts_addTrack 32 = .ok (.iconst 1, 1) := by decide +kernel
theorem d_Counts_addTrack_33 : decode b_Counts_addTrack 33 = .ok (.iadd, 1) := by decide +kernel
theorem d_Counts_addTrack_34 : decode b_Counts_addTrack 34 = .ok (.iastore, 1) := by decide +kernel
theorem d_Counts_addTrack_35 : decode b_Counts_addTrack 35 = .ok (.return_, 1) := by decide +kernel
theorem d_Counts_reset_0 : decode b_Counts_reset 0 = .ok (.aload_n 0, 1) := by decide +kernel
theorem d_Counts_reset_1 : decode b_Counts_reset 1 = .ok (.getfield 9, 3) := by decide +kernel
theorem d_Counts_reset_4 : decode b_Counts_reset 4 = .ok (.iconst 0, 1) := by decide +kernel
theorem d_Counts_reset_5 : decode b_Counts_reset 5 = .ok (.invokestatic 23, 3) := by decide +kernel
theorem d_Counts_reset_8 : decode b_Counts_reset 8 = .ok (.iconst 0, 1) := by decide +kernel
theorem d_Counts_reset_9 : decode b_Counts_reset 9 = .ok (.istore_n 1, 1) := by decide +kernel
theorem d_Counts_reset_10 : decode b_Counts_reset 10 = .ok (.iload_n 1, 1) := by decide +kernel
theorem d_Counts_reset_11 : decode b_Counts_reset 11 = .ok (.bipush 6, 2) := by decide +kernel
theorem d_Counts_reset_13 : decode b_Counts_reset 13 = .ok (.if_icmp .ge 29, 3) := by decide +kernel
theorem d_Counts_reset_16 : decode b_Counts_reset 16 = .ok (.aload_n 0, 1) := by decide +kernel
theorem d_Counts_reset_17 : decode b_Counts_reset 17 = .ok (.getfield 17, 3) := by decide +kernel
theorem d_Counts_reset_20 : decode b_Counts_reset 20 = .ok (.iload_n 1, 1) := by decide +kernel
theorem d_Counts_reset_21 : decode b_Counts_reset 21 = .ok (.aaload, 1) := by decide +kernel
theorem d_Counts_reset_22 : decode b_Counts_reset 22 = .ok (.iconst 0, 1) := by decide +kernel
theorem d_Counts_reset_23 : decode b_Counts_reset 23 = .ok (.invokestatic 23, 3) := by decide +kernel
theorem d_Counts_reset_26 : decode b_Counts_reset 26 = .ok (.aload_n 0, 1) := by decide +kernel
theorem d_Counts_reset_27 : decode b_Counts_reset 27 = .ok (.getfield 20, 3) := by decide +kernel
theorem d_Counts_reset_30 : decode b_Counts_reset 30 = .ok (.iload_n 1, 1) := by decide +kernel
theorem d_Counts_reset_31 : decode b_Counts_reset 31 = .ok (.aaload, 1) := by decide +kernel
theorem d_Counts_reset_32 : decode b_Counts_reset 32 = .ok (.iconst 0, 1) := by decide +kernel
theorem d_Counts_reset_33 : decode b_Counts_reset 33 = .ok (.invokestatic 23, 3) := by decide +kernel
theorem d_Counts_reset_36 : decode b_Counts_reset 36 = .ok (.iinc 1 1, 3) := by decide +kernel
theorem d_Counts_reset_39 : decode b_Counts_reset 39 = .ok (.goto (-29), 3) := by decide +kernel
theorem d_Counts_reset_42 : decode b_Counts_reset 42 = .ok (.return_, 1) := by decide +kernel
theorem d_Generator_init_0 : decode b_Generator_init 0 = .ok (.aload_n 0, 1) := by decide +kernel
theorem d_Generator_init_1 : decode b_Generator_init 1 = .ok (.invokespecial 3, 3) := by decide +kernel
theorem d_Generator_init_4 : decode b_Generator_init 4 = .ok (.aload_n 0, 1) := by decide +kernel
theorem d_Generator_init_5 : decode b_Generator_init 5 = .ok (.iconst 1, 1) := by decide +kernel
theorem d_Generator_init_6 : decode b_Generator_init 6 = .ok (.putfield 9, 3) := by decide +kernel
theorem d_Generator_init_9 : decode b_Generator_init 9 = .ok (.return_, 1) := by decide +kernel
theorem d_Generator_start_0 : decode b_Generator_start 0 = .ok (.aload_n 0, 1) := by decide +kernel
theorem d_Generator_start_1 : decode b_Generator_start 1 = .ok (.iload_n 1, 1) := by decide +kernel
theorem d_Generator_start_2 : decode b_Generator_start 2 = .ok (.ldc 15, 2) := by decide +kernel
theorem d_Generator_start_4 : decode b_Generator_start 4 = .ok (.iand, 1) := by decide +kernel
theorem d_Generator_start_5 : decode b_Generator_start 5 = .ok (.putfield 9, 3) := by decide +kernel
theorem d_Generator_start_8 : decode b_Generator_start 8 = .ok (.return_, 1) := by decide +kernel
theorem d_Generator_draw_0 : decode b_Generator_draw 0 = .ok (.aload_n 0, 1) := by decide +kernel
theorem d_Generator_draw_1 : decode b_Generator_draw 1 = .ok (.aload_n 0, 1) := by decide +kernel
theorem d_Generator_draw_2 : decode b_Generator_draw 2 = .ok (.getfield 9, 3) := by decide +kernel
theorem d_Generator_draw_5 : decode b_Generator_draw 5 = .ok (.ldc 16, 2) := by decide +kernel
theorem d_Generator_draw_7 : decode b_Generator_draw 7 = .ok (.imul, 1) := by decide +kernel
theorem d_Generator_draw_8 : decode b_Generator_draw 8 = .ok (.sipush 12345, 3) := by decide +kernel
theorem d_Generator_draw_11 : decode b_Generator_draw 11 = .ok (.iadd, 1) := by decide +kernel
theorem d_Generator_draw_12 : decode b_Generator_draw 12 = .ok (.ldc 15, 2) := by decide +kernel
theorem d_Generator_draw_14 : decode b_Generator_draw 14 = .ok (.iand, 1) := by decide +kernel
theorem d_Generator_draw_15 : decode b_Generator_draw 15 = .ok (.putfield 9, 3) := by decide +kernel
theorem d_Generator_draw_18 : decode b_Generator_draw 18 = .ok (.aload_n 0, 1) := by decide +kernel
theorem d_Generator_draw_19 : decode b_Generator_draw 19 = .ok (.getfield 9, 3) := by decide +kernel
theorem d_Generator_draw_22 : decode b_Generator_draw 22 = .ok (.sipush 256, 3) := by decide +kernel
theorem d_Generator_draw_25 : decode b_Generator_draw 25 = .ok (.idiv, 1) := by decide +kernel
theorem d_Generator_draw_26 : decode b_Generator_draw 26 = .ok (.ireturn, 1) := by decide +kernel
theorem d_Generator_leap_0 : decode b_Generator_leap 0 = .ok (.ldc 16, 2) := by decide +kernel
theorem d_Generator_leap_2 : decode b_Generator_leap 2 = .ok (.istore_n 2, 1) := by decide +kernel
theorem d_Generator_leap_3 : decode b_Generator_leap 3 = .ok (.sipush 12345, 3) := by decide +kernel
theorem d_Generator_leap_6 : decode b_Generator_leap 6 = .ok (.istore_n 3, 1) := by decide +kernel
theorem d_Generator_leap_7 : decode b_Generator_leap 7 = .ok (.iconst 0, 1) := by decide +kernel
theorem d_Generator_leap_8 : decode b_Generator_leap 8 = .ok (.istore 4, 2) := by decide +kernel
theorem d_Generator_leap_10 : decode b_Generator_leap 10 = .ok (.iload 4, 2) := by decide +kernel
theorem d_Generator_leap_12 : decode b_Generator_leap 12 = .ok (.bipush 17, 2) := by decide +kernel
theorem d_Generator_leap_14 : decode b_Generator_leap 14 = .ok (.if_icmp .ge 44, 3) := by decide +kernel
theorem d_Generator_leap_17 : decode b_Generator_leap 17 = .ok (.iload_n 1, 1) := by decide +kernel
theorem d_Generator_leap_18 : decode b_Generator_leap 18 = .ok (.iload 4, 2) := by decide +kernel
theorem d_Generator_leap_20 : decode b_Generator_leap 20 = .ok (.ishr, 1) := by decide +kernel
theorem d_Generator_leap_21 : decode b_Generator_leap 21 = .ok (.iconst 1, 1) := by decide +kernel
theorem d_Generator_leap_22 : decode b_Generator_leap 22 = .ok (.iand, 1) := by decide +kernel
theorem d_Generator_leap_23 : decode b_Generator_leap 23 = .ok (.iconst 1, 1) := by decide +kernel
theorem d_Generator_leap_24 : decode b_Generator_leap 24 = .ok (.if_icmp .ne 18, 3) := by decide +kernel
theorem d_Generator_leap_27 : decode b_Generator_leap 27 = .ok (.aload_n 0, 1) := by decide +kernel
theorem d_Generator_leap_28 : decode b_Generator_leap 28 = .ok (.aload_n 0, 1) := by decide +kernel
theorem d_Generator_leap_29 : decode b_Generator_leap 29 = .ok (.getfield 9, 3) := by decide +kernel
theorem d_Generator_leap_32 : decode b_Generator_leap 32 = .ok (.iload_n 2, 1) := by decide +kernel
theorem d_Generator_leap_33 : decode b_Generator_leap 33 = .ok (.imul, 1) := by decide +kernel
theorem d_Generator_leap_34 : decode b_Generator_leap 34 = .ok (.iload_n 3, 1) := by decide +kernel
theorem d_Generator_leap_35 : decode b_Generator_leap 35 = .ok (.iadd, 1) := by decide +kernel
theorem d_Generator_leap_36 : decode b_Generator_leap 36 = .ok (.ldc 15, 2) := by decide +kernel
theorem d_Generator_leap_38 : decode b_Generator_leap 38 = .ok (.iand, 1) := by decide +kernel
theorem d_Generator_leap_39 : decode b_Generator_leap 39 = .ok (.putfield 9, 3) := by decide +kernel
theorem d_Generator_leap_42 : decode b_Generator_leap 42 = .ok (.iload_n 3, 1) := by decide +kernel
theorem d_Generator_leap_43 : decode b_Generator_leap 43 = .ok (.iload_n 2, 1) := by decide +kernel
theorem d_Generator_leap_44 : decode b_Generator_leap 44 = .ok (.imul, 1) := by decide +kernel
theorem d_Generator_leap_45 : decode b_Generator_leap 45 = .ok (.iload_n 3, 1) := by decide +kernel
theorem d_Generator_leap_46 : decode b_Generator_leap 46 = .ok (.iadd, 1) := by decide +kernel
theorem d_Generator_leap_47 : decode b_Generator_leap 47 = .ok (.istore_n 3, 1) := by decide +kernel
theorem d_Generator_leap_48 : decode b_Generator_leap 48 = .ok (.iload_n 2, 1) := by decide +kernel
theorem d_Generator_leap_49 : decode b_Generator_leap 49 = .ok (.iload_n 2, 1) := by decide +kernel
theorem d_Generator_leap_50 : decode b_Generator_leap 50 = .ok (.imul, 1) := by decide +kernel
theorem d_Generator_leap_51 : decode b_Generator_leap 51 = .ok (.istore_n 2, 1) := by decide +kernel
theorem d_Generator_leap_52 : decode b_Generator_leap 52 = .ok (.iinc 4 1, 3) := by decide +kernel
theorem d_Generator_leap_55 : decode b_Generator_leap 55 = .ok (.goto (-45), 3) := by decide +kernel
theorem d_Generator_leap_58 : decode b_Generator_leap 58 = .ok (.return_, 1) := by decide +kernel
theorem d_Geometry_init_0 : decode b_Geometry_init 0 = .ok (.aload_n 0, 1) := by decide +kernel
theorem d_Geometry_init_1 : decode b_Geometry_init 1 = .ok (.invokespecial 3, 3) := by decide +kernel
theorem d_Geometry_init_4 : decode b_Geometry_init 4 = .ok (.aload_n 0, 1) := by decide +kernel
theorem d_Geometry_init_5 : decode b_Geometry_init 5 = .ok (.bipush 8, 2) := by decide +kernel
theorem d_Geometry_init_7 : decode b_Geometry_init 7 = .ok (.anewarray 9, 3) := by decide +kernel
theorem d_Geometry_init_10 : decode b_Geometry_init 10 = .ok (.putfield 11, 3) := by decide +kernel
theorem d_Geometry_init_13 : decode b_Geometry_init 13 = .ok (.aload_n 0, 1) := by decide +kernel
theorem d_Geometry_init_14 : decode b_Geometry_init 14 = .ok (.bipush 6, 2) := by decide +kernel
theorem d_Geometry_init_16 : decode b_Geometry_init 16 = .ok (.anewarray 17, 3) := by decide +kernel
theorem d_Geometry_init_19 : decode b_Geometry_init 19 = .ok (.putfield 19, 3) := by decide +kernel
theorem d_Geometry_init_22 : decode b_Geometry_init 22 = .ok (.iconst 0, 1) := by decide +kernel
theorem d_Geometry_init_23 : decode b_Geometry_init 23 = .ok (.istore_n 1, 1) := by decide +kernel
theorem d_Geometry_init_24 : decode b_Geometry_init 24 = .ok (.iload_n 1, 1) := by decide +kernel
theorem d_Geometry_init_25 : decode b_Geometry_init 25 = .ok (.bipush 8, 2) := by decide +kernel
theorem d_Geometry_init_27 : decode b_Geometry_init 27 = .ok (.if_icmp .ge 22, 3) := by decide +kernel
theorem d_Geometry_init_30 : decode b_Geometry_init 30 = .ok (.aload_n 0, 1) := by decide +kernel
theorem d_Geometry_init_31 : decode b_Geometry_init 31 = .ok (.getfield 11, 3) := by decide +kernel
theorem d_Geometry_init_34 : decode b_Geometry_init 34 = .ok (.iload_n 1, 1) := by decide +kernel
theorem d_Geometry_init_35 : decode b_Geometry_init 35 = .ok (.new 9, 3) := by decide +kernel
theorem d_Geometry_init_38 : decode b_Geometry_init 38 = .ok (.dup, 1) := by decide +kernel
theorem d_Geometry_init_39 : decode b_Geometry_init 39 = .ok (.invokespecial 23, 3) := by decide +kernel
theorem d_Geometry_init_42 : decode b_Geometry_init 42 = .ok (.aastore, 1) := by decide +kernel
theorem d_Geometry_init_43 : decode b_Geometry_init 43 = .ok (.iinc 1 1, 3) := by decide +kernel
theorem d_Geometry_init_46 : decode b_Geometry_init 46 = .ok (.goto (-22), 3) := by decide +kernel
theorem d_Geometry_init_49 : decode b_Geometry_init 49 = .ok (.iconst 0, 1) := by decide +kernel
theorem d_Geometry_init_50 : decode b_Geometry_init 50 = .ok (.istore_n 1, 1) := by decide +kernel
theorem d_Geometry_init_51 : decode b_Geometry_init 51 = .ok (.iload_n 1, 1) := by decide +kernel
theorem d_Geometry_init_52 : decode b_Geometry_init 52 = .ok (.bipush 6, 2) := by decide +kernel
theorem d_Geometry_init_54 : decode b_Geometry_init 54 = .ok (.if_icmp .ge 22, 3) := by decide +kernel
theorem d_Geometry_init_57 : decode b_Geometry_init 57 = .ok (.aload_n 0, 1) := by decide +kernel
theorem d_Geometry_init_58 : decode b_Geometry_init 58 = .ok (.getfield 19, 3) := by decide +kernel
theorem d_Geometry_init_61 : decode b_Geometry_init 61 = .ok (.iload_n 1, 1) := by decide +kernel
theorem d_Geometry_init_62 : decode b_Geometry_init 62 = .ok (.new 17, 3) := by decide +kernel
theorem d_Geometry_init_65 : decode b_Geometry_init 65 = .ok (.dup, 1) := by decide +kernel
theorem d_Geometry_init_66 : decode b_Geometry_init 66 = .ok (.invokespecial 24, 3) := by decide +kernel
theorem d_Geometry_init_69 : decode b_Geometry_init 69 = .ok (.aastore, 1) := by decide +kernel
theorem d_Geometry_init_70 : decode b_Geometry_init 70 = .ok (.iinc 1 1, 3) := by decide +kernel
theorem d_Geometry_init_73 : decode b_Geometry_init 73 = .ok (.goto (-22), 3) := by decide +kernel
theorem d_Geometry_init_76 : decode b_Geometry_init 76 = .ok (.return_, 1) := by decide +kernel
theorem d_Geometry_cellAt_0 : decode b_Geometry_cellAt 0 = .ok (.iconst 0, 1) := by decide +kernel
theorem d_Geometry_cellAt_1 : decode b_Geometry_cellAt 1 = .ok (.istore_n 3, 1) := by decide +kernel
theorem d_Geometry_cellAt_2 : decode b_Geometry_cellAt 2 = .ok (.iload_n 3, 1) := by decide +kernel
theorem d_Geometry_cellAt_3 : decode b_Geometry_cellAt 3 = .ok (.bipush 6, 2) := by decide +kernel
theorem d_Geometry_cellAt_5 : decode b_Geometry_cellAt 5 = .ok (.if_icmp .ge 44, 3) := by decide +kernel
theorem d_Geometry_cellAt_8 : decode b_Geometry_cellAt 8 = .ok (.aload_n 0, 1) := by decide +kernel
theorem d_Geometry_cellAt_9 : decode b_Geometry_cellAt 9 = .ok (.getfield 19, 3) := by decide +kernel
theorem d_Geometry_cellAt_12 : decode b_Geometry_cellAt 12 = .ok (.iload_n 3, 1) := by decide +kernel
theorem d_Geometry_cellAt_13 : decode b_Geometry_cellAt 13 = .ok (.aaload, 1) := by decide +kernel
theorem d_Geometry_cellAt_14 : decode b_Geometry_cellAt 14 = .ok (.getfield 25, 3) := by decide +kernel
theorem d_Geometry_cellAt_17 : decode b_Geometry_cellAt 17 = .ok (.ifCond .eq 26, 3) := by decide +kernel
theorem d_Geometry_cellAt_20 : decode b_Geometry_cellAt 20 = .ok (.aload_n 0, 1) := by decide +kernel
theorem d_Geometry_cellAt_21 : decode b_Geometry_cellAt 21 = .ok (.getfield 19, 3) := by decide +kernel
theorem d_Geometry_cellAt_24 : decode b_Geometry_cellAt 24 = .ok (.iload_n 3, 1) := by decide +kernel
theorem d_Geometry_cellAt_25 : decode b_Geometry_cellAt 25 = .ok (.aaload, 1) := by decide +kernel
theorem d_Geometry_cellAt_26 : decode b_Geometry_cellAt 26 = .ok (.getfield 29, 3) := by decide +kernel
theorem d_Geometry_cellAt_29 : decode b_Geometry_cellAt 29 = .ok (.aload_n 0, 1) := by decide +kernel
theorem d_Geometry_cellAt_30 : decode b_Geometry_cellAt 30 = .ok (.getfield 11, 3) := by decide +kernel
theorem d_Geometry_cellAt_33 : decode b_Geometry_cellAt 33 = .ok (.iload_n 1, 1) := by decide +kernel
theorem d_Geometry_cellAt_34 : decode b_Geometry_cellAt 34 = .ok (.iload_n 2, 1) := by decide +kernel
theorem d_Geometry_cellAt_35 : decode b_Geometry_cellAt 35 = .ok (.invokevirtual 33, 3) := by decide +kernel
theorem d_Geometry_cellAt_38 : decode b_Geometry_cellAt 38 = .ok (.ifCond .eq 5, 3) := by decide +kernel
theorem d_Geometry_cellAt_41 : decode b_Geometry_cellAt 41 = .ok (.iload_n 3, 1) := by decide +kernel
theorem d_Geometry_cellAt_42 : decode b_Geometry_cellAt 42 = .ok (.ireturn, 1) := by decide +kernel
theorem d_Geometry_cellAt_43 : decode b_Geometry_cellAt 43 = .ok (.iinc 3 1, 3) := by decide +kernel
theorem d_Geometry_cellAt_46 : decode b_Geometry_cellAt 46 = .ok (.goto (-44), 3) := by decide +kernel
theorem d_Geometry_cellAt_49 : decode b_Geometry_cellAt 49 = .ok (.bipush 6, 2) := by decide +kernel
theorem d_Geometry_cellAt_51 : decode b_Geometry_cellAt 51 = .ok (.ireturn, 1) := by decide +kernel
theorem d_Geometry_definedCells_0 : decode b_Geometry_definedCells 0 = .ok (.iconst 0, 1) := by decide +kernel
theorem d_Geometry_definedCells_1 : decode b_Geometry_definedCells 1 = .ok (.istore_n 1, 1) := by decide +kernel
theorem d_Geometry_definedCells_2 : decode b_Geometry_definedCells 2 = .ok (.iconst 0, 1) := by decide +kernel
theorem d_Geometry_definedCells_3 : decode b_Geometry_definedCells 3 = .ok (.istore_n 2, 1) := by decide +kernel
theorem d_Geometry_definedCells_4 : decode b_Geometry_definedCells 4 = .ok (.iload_n 2, 1) := by decide +kernel
theorem d_Geometry_definedCells_5 : decode b_Geometry_definedCells 5 = .ok (.bipush 6, 2) := by decide +kernel
theorem d_Geometry_definedCells_7 : decode b_Geometry_definedCells 7 = .ok (.if_icmp .ge 24, 3) := by decide +kernel
theorem d_Geometry_definedCells_10 : decode b_Geometry_definedCells 10 = .ok (.iload_n 1, 1) := by decide +kernel
theorem d_Geometry_definedCells_11 : decode b_Geometry_definedCells 11 = .ok (.aload_n 0, 1) := by decide +kernel
theorem d_Geometry_definedCells_12 : decode b_Geometry_definedCells 12 = .ok (.getfield 19, 3) := by decide +kernel
theorem d_Geometry_definedCells_15 : decode b_Geometry_definedCells 15 = .ok (.iload_n 2, 1) := by decide +kernel
theorem d_Geometry_definedCells_16 : decode b_Geometry_definedCells 16 = .ok (.aaload, 1) := by decide +kernel
theorem d_Geometry_definedCells_17 : decode b_Geometry_definedCells 17 = .ok (.getfield 25, 3) := by decide +kernel
theorem d_Geometry_definedCells_20 : decode b_Geometry_definedCells 20 = .ok (.invokestatic 39, 3) := by decide +kernel
theorem d_Geometry_definedCells_23 : decode b_Geometry_definedCells 23 = .ok (.iadd, 1) := by decide +kernel
theorem d_Geometry_definedCells_24 : decode b_Geometry_definedCells 24 = .ok (.istore_n 1, 1) := by decide +kernel
theorem d_Geometry_definedCells_25 : decode b_Geometry_definedCells 25 = .ok (.iinc 2 1, 3) := by decide +kernel
theorem d_Geometry_definedCells_28 : decode b_Geometry_definedCells 28 = .ok (.goto (-24), 3) := by decide +kernel
theorem d_Geometry_definedCells_31 : decode b_Geometry_definedCells 31 = .ok (.iload_n 1, 1) := by decide +kernel
theorem d_Geometry_definedCells_32 : decode b_Geometry_definedCells 32 = .ok (.ireturn, 1) := by decide +kernel
theorem d_Line_init_0 : decode b_Line_init 0 = .ok (.aload_n 0, 1) := by decide +kernel
theorem d_Line_init_1 : decode b_Line_init 1 = .ok (.invokespecial 3, 3) := by decide +kernel
theorem d_Line_init_4 : decode b_Line_init 4 = .ok (.aload_n 0, 1) := by decide +kernel
theorem d_Line_init_5 : decode b_Line_init 5 = .ok (.bipush 12, 2) := by decide +kernel
theorem d_Line_init_7 : decode b_Line_init 7 = .ok (.newarray .int, 2) := by decide +kernel
theorem d_Line_init_9 : decode b_Line_init 9 = .ok (.putfield 9, 3) := by decide +kernel
theorem d_Line_init_12 : decode b_Line_init 12 = .ok (.aload_n 0, 1) := by decide +kernel
theorem d_Line_init_13 : decode b_Line_init 13 = .ok (.bipush 12, 2) := by decide +kernel
theorem d_Line_init_15 : decode b_Line_init 15 = .ok (.newarray .int, 2) := by decide +kernel
theorem d_Line_init_17 : decode b_Line_init 17 = .ok (.putfield 15, 3) := by decide +kernel
theorem d_Line_init_20 : decode b_Line_init 20 = .ok (.return_, 1) := by decide +kernel
theorem d_Line_empty_0 : decode b_Line_empty 0 = .ok (.aload_n 0, 1) := by decide +kernel
theorem d_Line_empty_1 : decode b_Line_empty 1 = .ok (.iconst 0, 1) := by decide +kernel
theorem d_Line_empty_2 : decode b_Line_empty 2 = .ok (.putfield 18, 3) := by decide +kernel
theorem d_Line_empty_5 : decode b_Line_empty 5 = .ok (.aload_n 0, 1) := by decide +kernel
theorem d_Line_empty_6 : decode b_Line_empty 6 = .ok (.iconst 0, 1) := by decide +kernel
theorem d_Line_empty_7 : decode b_Line_empty 7 = .ok (.putfield 22, 3) := by decide +kernel
theorem d_Line_empty_10 : decode b_Line_empty 10 = .ok (.return_, 1) := by decide +kernel
theorem d_Line_join_0 : decode b_Line_join 0 = .ok (.aload_n 0, 1) := by decide +kernel
theorem d_Line_join_1 : decode b_Line_join 1 = .ok (.getfield 22, 3) := by decide +kernel
theorem d_Line_join_4 : decode b_Line_join 4 = .ok (.bipush 12, 2) := by decide +kernel
theorem d_Line_join_6 : decode b_Line_join 6 = .ok (.if_icmp .lt 5, 3) := by decide +kernel
theorem d_Line_join_9 : decode b_Line_join 9 = .ok (.iconst 0, 1) := by decide +kernel
theorem d_Line_join_10 : decode b_Line_join 10 = .ok (.ireturn, 1) := by decide +kernel
theorem d_Line_join_11 : decode b_Line_join 11 = .ok (.aload_n 0, 1) := by decide +kernel
theorem d_Line_join_12 : decode b_Line_join 12 = .ok (.getfield 9, 3) := by decide +kernel
theorem d_Line_join_15 : decode b_Line_join 15 = .ok (.aload_n 0, 1) := by decide +kernel
theorem d_Line_join_16 : decode b_Line_join 16 = .ok (.getfield 18, 3) := by decide +kernel
theorem d_Line_join_19 : decode b_Line_join 19 = .ok (.iload_n 1, 1) := by decide +kernel
theorem d_Line_join_20 : decode b_Line_join 20 = .ok (.iastore, 1) := by decide +kernel
theorem d_Line_join_21 : decode b_Line_join 21 = .ok (.aload_n 0, 1) := by decide +kernel
theorem d_Line_join_22 : decode b_Line_join 22 = .ok (.getfield 15, 3) := by decide +kernel
theorem d_Line_join_25 : decode b_Line_join 25 = .ok (.aload_n 0, 1) := by decide +kernel
theorem d_Line_join_26 : decode b_Line_join 26 = .ok (.getfield 18, 3) := by decide +kernel
theorem d_Line_join_29 : decode b_Line_join 29 = .ok (.iload_n 2, 1) := by decide +kernel
theorem d_Line_join_30 : decode b_Line_join 30 = .ok (.iastore, 1) := by decide +kernel
theorem d_Line_join_31 : decode b_Line_join 31 = .ok (.aload_n 0, 1) := by decide +kernel
theorem d_Line_join_32 : decode b_Line_join 32 = .ok (.dup, 1) := by decide +kernel
theorem d_Line_join_33 : decode b_Line_join 33 = .ok (.getfield 18, 3) := by decide +kernel
theorem d_Line_join_36 : decode b_Line_join 36 = .ok (.iconst 1, 1) := by decide +kernel
theorem d_Line_join_37 : decode b_Line_join 37 = .ok (.iadd, 1) := by decide +kernel
theorem d_Line_join_38 : decode b_Line_join 38 = .ok (.putfield 18, 3) := by decide +kernel
theorem d_Line_join_41 : decode b_Line_join 41 = .ok (.aload_n 0, 1) := by decide +kernel
theorem d_Line_join_42 : decode b_Line_join 42 = .ok (.dup, 1) := by decide +kernel
theorem d_Line_join_43 : decode b_Line_join 43 = .ok (.getfield 22, 3) := by decide +kernel
theorem d_Line_join_46 : decode b_Line_join 46 = .ok (.iconst 1, 1) := by decide +kernel
theorem d_Line_join_47 : decode b_Line_join 47 = .ok (.iadd, 1) := by decide +kernel
theorem d_Line_join_48 : decode b_Line_join 48 = .ok (.putfield 22, 3) := by decide +kernel
theorem d_Line_join_51 : decode b_Line_join 51 = .ok (.iconst 1, 1) := by decide +kernel
theorem d_Line_join_52 : decode b_Line_join 52 = .ok (.ireturn, 1) := by decide +kernel
theorem d_Line_sendLast_0 : decode b_Line_sendLast 0 = .ok (.aload_n 0, 1) := by decide +kernel
theorem d_Line_sendLast_1 : decode b_Line_sendLast 1 = .ok (.getfield 18, 3) := by decide +kernel
theorem d_Line_sendLast_4 : decode b_Line_sendLast 4 = .ok (.ifCond .le 39, 3) := by decide +kernel
theorem d_Line_sendLast_7 : decode b_Line_sendLast 7 = .ok (.aload_n 0, 1) := by decide +kernel
theorem d_Line_sendLast_8 : decode b_Line_sendLast 8 = .ok (.dup, 1) := by decide +kernel
theorem d_Line_sendLast_9 : decode b_Line_sendLast 9 = .ok (.getfield 18, 3) := by decide +kernel
theorem d_Line_sendLast_12 : decode b_Line_sendLast 12 = .ok (.iconst 1, 1) := by decide +kernel
theorem d_Line_sendLast_13 : decode b_Line_sendLast 13 = .ok (.isub, 1) := by decide +kernel
theorem d_Line_sendLast_14 : decode b_Line_sendLast 14 = .ok (.putfield 18, 3) := by decide +kernel
theorem d_Line_sendLast_17 : decode b_Line_sendLast 17 = .ok (.aload_n 1, 1) := by decide +kernel
theorem d_Line_sendLast_18 : decode b_Line_sendLast 18 = .ok (.aload_n 0, 1) := by decide +kernel
theorem d_Line_sendLast_19 : decode b_Line_sendLast 19 = .ok (.getfield 9, 3) := by decide +kernel
theorem d_Line_sendLast_22 : decode b_Line_sendLast 22 = .ok (.aload_n 0, 1) := by decide +kernel
theorem d_Line_sendLast_23 : decode b_Line_sendLast 23 = .ok (.getfield 18, 3) := by decide +kernel
theorem d_Line_sendLast_26 : decode b_Line_sendLast 26 = .ok (.iaload, 1) := by decide +kernel
theorem d_Line_sendLast_27 : decode b_Line_sendLast 27 = .ok (.putfield 25, 3) := by decide +kernel
theorem d_Line_sendLast_30 : decode b_Line_sendLast 30 = .ok (.aload_n 1, 1) := by decide +kernel
theorem d_Line_sendLast_31 : decode b_Line_sendLast 31 = .ok (.aload_n 0, 1) := by decide +kernel
theorem d_Line_sendLast_32 : decode b_Line_sendLast 32 = .ok (.getfield 15, 3) := by decide +kernel
theorem d_Line_sendLast_35 : decode b_Line_sendLast 35 = .ok (.aload_n 0, 1) := by decide +kernel
theorem d_Line_sendLast_36 : decode b_Line_sendLast 36 = .ok (.getfield 18, 3) := by decide +kernel
theorem d_Line_sendLast_39 : decode b_Line_sendLast 39 = .ok (.iaload, 1) := by decide +kernel
theorem d_Line_sendLast_40 : decode b_Line_sendLast 40 = .ok (.putfield 30, 3) := by decide +kernel
theorem d_Line_sendLast_43 : decode b_Line_sendLast 43 = .ok (.return_, 1) := by decide +kernel
theorem d_Particle_init_0 : decode b_Particle_init 0 = .ok (.aload_n 0, 1) := by decide +kernel
theorem d_Particle_init_1 : decode b_Particle_init 1 = .ok (.invokespecial 1, 3) := by decide +kernel
theorem d_Particle_init_4 : decode b_Particle_init 4 = .ok (.return_, 1) := by decide +kernel
theorem d_Particle_move_0 : decode b_Particle_move 0 = .ok (.aload_n 0, 1) := by decide +kernel
theorem d_Particle_move_1 : decode b_Particle_move 1 = .ok (.dup, 1) := by decide +kernel
theorem d_Particle_move_2 : decode b_Particle_move 2 = .ok (.getfield 7, 3) := by decide +kernel
theorem d_Particle_move_5 : decode b_Particle_move 5 = .ok (.getstatic 13, 3) := by decide +kernel
theorem d_Particle_move_8 : decode b_Particle_move 8 = .ok (.aload_n 0, 1) := by decide +kernel
theorem d_Particle_move_9 : decode b_Particle_move 9 = .ok (.getfield 19, 3) := by decide +kernel
theorem d_Particle_move_12 : decode b_Particle_move 12 = .ok (.iaload, 1) := by decide +kernel
theorem d_Particle_move_13 : decode b_Particle_move 13 = .ok (.iadd, 1) := by decide +kernel
theorem d_Particle_move_14 : decode b_Particle_move 14 = .ok (.putfield 7, 3) := by decide +kernel
theorem d_Particle_move_17 : decode b_Particle_move 17 = .ok (.aload_n 0, 1) := by decide +kernel
theorem d_Particle_move_18 : decode b_Particle_move 18 = .ok (.dup, 1) := by decide +kernel
theorem d_Particle_move_19 : decode b_Particle_move 19 = .ok (.getfield 22, 3) := by decide +kernel
theorem d_Particle_move_22 : decode b_Particle_move 22 = .ok (.getstatic 25, 3) := by decide +kernel
theorem d_Particle_move_25 : decode b_Particle_move 25 = .ok (.aload_n 0, 1) := by decide +kernel
theorem d_Particle_move_26 : decode b_Particle_move 26 = .ok (.getfield 19, 3) := by decide +kernel
theorem d_Particle_move_29 : decode b_Particle_move 29 = .ok (.iaload, 1) := by decide +kernel
theorem d_Particle_move_30 : decode b_Particle_move 30 = .ok (.iadd, 1) := by decide +kernel
theorem d_Particle_move_31 : decode b_Particle_move 31 = .ok (.putfield 22, 3) := by decide +kernel
theorem d_Particle_move_34 : decode b_Particle_move 34 = .ok (.return_, 1) := by decide +kernel
theorem d_Region_init_0 : decode b_Region_init 0 = .ok (.aload_n 0, 1) := by decide +kernel
theorem d_Region_init_1 : decode b_Region_init 1 = .ok (.invokespecial 3, 3) := by decide +kernel
theorem d_Region_init_4 : decode b_Region_init 4 = .ok (.aload_n 0, 1) := by decide +kernel
theorem d_Region_init_5 : decode b_Region_init 5 = .ok (.bipush 8, 2) := by decide +kernel
theorem d_Region_init_7 : decode b_Region_init 7 = .ok (.newarray .int, 2) := by decide +kernel
theorem d_Region_init_9 : decode b_Region_init 9 = .ok (.putfield 9, 3) := by decide +kernel
theorem d_Region_init_12 : decode b_Region_init 12 = .ok (.return_, 1) := by decide +kernel
theorem d_Region_add_0 : decode b_Region_add 0 = .ok (.aload_n 0, 1) := by decide +kernel
theorem d_Region_add_1 : decode b_Region_add 1 = .ok (.getfield 15, 3) := by decide +kernel
theorem d_Region_add_4 : decode b_Region_add 4 = .ok (.bipush 8, 2) := by decide +kernel
theorem d_Region_add_6 : decode b_Region_add 6 = .ok (.if_icmp .ge 23, 3) := by decide +kernel
theorem d_Region_add_9 : decode b_Region_add 9 = .ok (.aload_n 0, 1) := by decide +kernel
theorem d_Region_add_10 : decode b_Region_add 10 = .ok (.getfield 9, 3) := by decide +kernel
theorem d_Region_add_13 : decode b_Region_add 13 = .ok (.aload_n 0, 1) := by decide +kernel
theorem d_Region_add_14 : decode b_Region_add 14 = .ok (.getfield 15, 3) := by decide +kernel
theorem d_Region_add_17 : decode b_Region_add 17 = .ok (.iload_n 1, 1) := by decide +kernel
theorem d_Region_add_18 : decode b_Region_add 18 = .ok (.iastore, 1) := by decide +kernel
theorem d_Region_add_19 : decode b_Region_add 19 = .ok (.aload_n 0, 1) := by decide +kernel
theorem d_Region_add_20 : decode b_Region_add 20 = .ok (.dup, 1) := by decide +kernel
theorem d_Region_add_21 : decode b_Region_add 21 = .ok (.getfield 15, 3) := by decide +kernel
theorem d_Region_add_24 : decode b_Region_add 24 = .ok (.iconst 1, 1) := by decide +kernel
theorem d_Region_add_25 : decode b_Region_add 25 = .ok (.iadd, 1) := by decide +kernel
theorem d_Region_add_26 : decode b_Region_add 26 = .ok (.putfield 15, 3) := by decide +kernel
theorem d_Region_add_29 : decode b_Region_add 29 = .ok (.return_, 1) := by decide +kernel
theorem d_Region_copyFrom_0 : decode b_Region_copyFrom 0 = .ok (.aload_n 1, 1) := by decide +kernel
theorem d_Region_copyFrom_1 : decode b_Region_copyFrom 1 = .ok (.getfield 9, 3) := by decide +kernel
theorem d_Region_copyFrom_4 : decode b_Region_copyFrom 4 = .ok (.iconst 0, 1) := by decide +kernel
theorem d_Region_copyFrom_5 : decode b_Region_copyFrom 5 = .ok (.aload_n 0, 1) := by decide +kernel
theorem d_Region_copyFrom_6 : decode b_Region_copyFrom 6 = .ok (.getfield 9, 3) := by decide +kernel
theorem d_Region_copyFrom_9 : decode b_Region_copyFrom 9 = .ok (.iconst 0, 1) := by decide +kernel
theorem d_Region_copyFrom_10 : decode b_Region_copyFrom 10 = .ok (.bipush 8, 2) := by decide +kernel
theorem d_Region_copyFrom_12 : decode b_Region_copyFrom 12 = .ok (.invokestatic 19, 3) := by decide +kernel
theorem d_Region_copyFrom_15 : decode b_Region_copyFrom 15 = .ok (.aload_n 0, 1) := by decide +kernel
theorem d_Region_copyFrom_16 : decode b_Region_copyFrom 16 = .ok (.aload_n 1, 1) := by decide +kernel
theorem d_Region_copyFrom_17 : decode b_Region_copyFrom 17 = .ok (.getfield 15, 3) := by decide +kernel
theorem d_Region_copyFrom_20 : decode b_Region_copyFrom 20 = .ok (.putfield 15, 3) := by decide +kernel
theorem d_Region_copyFrom_23 : decode b_Region_copyFrom 23 = .ok (.return_, 1) := by decide +kernel
theorem d_Region_isWhole_0 : decode b_Region_isWhole 0 = .ok (.iconst 0, 1) := by decide +kernel
theorem d_Region_isWhole_1 : decode b_Region_isWhole 1 = .ok (.istore_n 1, 1) := by decide +kernel
theorem d_Region_isWhole_2 : decode b_Region_isWhole 2 = .ok (.iconst 0, 1) := by decide +kernel
theorem d_Region_isWhole_3 : decode b_Region_isWhole 3 = .ok (.istore_n 2, 1) := by decide +kernel
theorem d_Region_isWhole_4 : decode b_Region_isWhole 4 = .ok (.iload_n 2, 1) := by decide +kernel
theorem d_Region_isWhole_5 : decode b_Region_isWhole 5 = .ok (.aload_n 0, 1) := by decide +kernel
theorem d_Region_isWhole_6 : decode b_Region_isWhole 6 = .ok (.getfield 15, 3) := by decide +kernel
theorem d_Region_isWhole_9 : decode b_Region_isWhole 9 = .ok (.if_icmp .ge 38, 3) := by decide +kernel
theorem d_Region_isWhole_12 : decode b_Region_isWhole 12 = .ok (.iload_n 1, 1) := by decide +kernel
theorem d_Region_isWhole_13 : decode b_Region_isWhole 13 = .ok (.aload_n 0, 1) := by decide +kernel
theorem d_Region_isWhole_14 : decode b_Region_isWhole 14 = .ok (.getfield 9, 3) := by decide +kernel
theorem d_Region_isWhole_17 : decode b_Region_isWhole 17 = .ok (.iload_n 2, 1) := by decide +kernel
theorem d_Region_isWhole_18 : decode b_Region_isWhole 18 = .ok (.iaload, 1) := by decide +kernel
theorem d_Region_isWhole_19 : decode b_Region_isWhole 19 = .ok (.invokestatic 25, 3) := by decide +kernel
theorem d_Region_isWhole_22 : decode b_Region_isWhole 22 = .ok (.if_icmp .ge 5, 3) := by decide +kernel
theorem d_Region_isWhole_25 : decode b_Region_isWhole 25 = .ok (.iconst 0, 1) := by decide +kernel
theorem d_Region_isWhole_26 : decode b_Region_isWhole 26 = .ok (.ireturn, 1) := by decide +kernel
theorem d_Region_isWhole_27 : decode b_Region_isWhole 27 = .ok (.iload_n 1, 1) := by decide +kernel
theorem d_Region_isWhole_28 : decode b_Region_isWhole 28 = .ok (.iconst 1, 1) := by decide +kernel
theorem d_Region_isWhole_29 : decode b_Region_isWhole 29 = .ok (.aload_n 0, 1) := by decide +kernel
theorem d_Region_isWhole_30 : decode b_Region_isWhole 30 = .ok (.getfield 9, 3) := by decide +kernel
theorem d_Region_isWhole_33 : decode b_Region_isWhole 33 = .ok (.iload_n 2, 1) := by decide +kernel
theorem d_Region_isWhole_34 : decode b_Region_isWhole 34 = .ok (.iaload, 1) := by decide +kernel
theorem d_Region_isWhole_35 : decode b_Region_isWhole 35 = .ok (.invokestatic 25, 3) := by decide +kernel
theorem d_Region_isWhole_38 : decode b_Region_isWhole 38 = .ok (.isub, 1) := by decide +kernel
theorem d_Region_isWhole_39 : decode b_Region_isWhole 39 = .ok (.iadd, 1) := by decide +kernel
theorem d_Region_isWhole_40 : decode b_Region_isWhole 40 = .ok (.istore_n 1, 1) := by decide +kernel
theorem d_Region_isWhole_41 : decode b_Region_isWhole 41 = .ok (.iinc 2 1, 3) := by decide +kernel
theorem d_Region_isWhole_44 : decode b_Region_isWhole 44 = .ok (.goto (-40), 3) := by decide +kernel
theorem d_Region_isWhole_47 : decode b_Region_isWhole 47 = .ok (.iload_n 1, 1) := by decide +kernel
theorem d_Region_isWhole_48 : decode b_Region_isWhole 48 = .ok (.iconst 1, 1) := by decide +kernel
theorem d_Region_isWhole_49 : decode b_Region_isWhole 49 = .ok (.if_icmp .ne 7, 3) := by decide +kernel
theorem d_Region_isWhole_52 : decode b_Region_isWhole 52 = .ok (.iconst 1, 1) := by decide +kernel
theorem d_Region_isWhole_53 : decode b_Region_isWhole 53 = .ok (.goto 4, 3) := by decide +kernel
theorem d_Region_isWhole_56 : decode b_Region_isWhole 56 = .ok (.iconst 0, 1) := by decide +kernel
theorem d_Region_isWhole_57 : decode b_Region_isWhole 57 = .ok (.ireturn, 1) := by decide +kernel
theorem d_Region_operandsOf_0 : decode b_Region_operandsOf 0 = .ok (.iload_n 0, 1) := by decide +kernel
theorem d_Region_operandsOf_1 : decode b_Region_operandsOf 1 = .ok (.tableswitch 31 8 10 #[27, 27, 29], 27) := by decide +kernel
theorem d_Region_operandsOf_28 : decode b_Region_operandsOf 28 = .ok (.iconst 2, 1) := by decide +kernel
theorem d_Region_operandsOf_29 : decode b_Region_operandsOf 29 = .ok (.ireturn, 1) := by decide +kernel
theorem d_Region_operandsOf_30 : decode b_Region_operandsOf 30 = .ok (.iconst 1, 1) := by decide +kernel
theorem d_Region_operandsOf_31 : decode b_Region_operandsOf 31 = .ok (.ireturn, 1) := by decide +kernel
theorem d_Region_operandsOf_32 : decode b_Region_operandsOf 32 = .ok (.iconst 0, 1) := by decide +kernel
theorem d_Region_operandsOf_33 : decode b_Region_operandsOf 33 = .ok (.ireturn, 1) := by decide +kernel
theorem d_Region_holds_0 : decode b_Region_holds 0 = .ok (.iconst 0, 1) := by decide +kernel
theorem d_Region_holds_1 : decode b_Region_holds 1 = .ok (.istore 4, 2) := by decide +kernel
theorem d_Region_holds_3 : decode b_Region_holds 3 = .ok (.iconst 0, 1) := by decide +kernel
theorem d_Region_holds_4 : decode b_Region_holds 4 = .ok (.istore 5, 2) := by decide +kernel
theorem d_Region_holds_6 : decode b_Region_holds 6 = .ok (.iload 5, 2) := by decide +kernel
theorem d_Region_holds_8 : decode b_Region_holds 8 = .ok (.aload_n 0, 1) := by decide +kernel
theorem d_Region_holds_9 : decode b_Region_holds 9 = .ok (.getfield 15, 3) := by decide +kernel
theorem d_Region_holds_12 : decode b_Region_holds 12 = .ok (.if_icmp .ge 118, 3) := by decide +kernel
theorem d_Region_holds_15 : decode b_Region_holds 15 = .ok (.iload 4, 2) := by decide +kernel
theorem d_Region_holds_17 : decode b_Region_holds 17 = .ok (.iconst 1, 1) := by decide +kernel
theorem d_Region_holds_18 : decode b_Region_holds 18 = .ok (.iand, 1) := by decide +kernel
theorem d_Region_holds_19 : decode b_Region_holds 19 = .ok (.istore 6, 2) := by decide +kernel
theorem d_Region_holds_21 : decode b_Region_holds 21 = .ok (.iload 4, 2) := by decide +kernel
theorem d_Region_holds_23 : decode b_Region_holds 23 = .ok (.iconst 1, 1) := by decide +kernel
theorem d_Region_holds_24 : decode b_Region_holds 24 = .ok (.ishr, 1) := by decide +kernel
theorem d_Region_holds_25 : decode b_Region_holds 25 = .ok (.istore 7, 2) := by decide +kernel
theorem d_Region_holds_27 : decode b_Region_holds 27 = .ok (.aload_n 0, 1) := by decide +kernel
theorem d_Region_holds_28 : decode b_Region_holds 28 = .ok (.getfield 9, 3) := by decide +kernel
theorem d_Region_holds_31 : decode b_Region_holds 31 = .ok (.iload 5, 2) := by decide +kernel
theorem d_Region_holds_33 : decode b_Region_holds 33 = .ok (.iaload, 1) := by decide +kernel
theorem d_Region_holds_34 : decode b_Region_holds 34 = .ok (.tableswitch 66 8 10 #[26, 47, 57], 26) := by decide +kernel
theorem d_Region_holds_60 : decode b_Region_holds 60 = .ok (.iload 6, 2) := by decide +kernel
theorem d_Region_holds_62 : decode b_Region_holds 62 = .ok (.iconst 1, 1) := by decide +kernel
theorem d_Region_holds_63 : decode b_Region_holds 63 = .ok (.if_icmp .ne 8, 3) := by decide +kernel
theorem d_Region_holds_66 : decode b_Region_holds 66 = .ok (.iload 7, 2) := by decide +kernel
theorem d_Region_holds_68 : decode b_Region_holds 68 = .ok (.goto 8, 3) := by decide +kernel
theorem d_Region_holds_71 : decode b_Region_holds 71 = .ok (.iload 7, 2) := by decide +kernel
theorem d_Region_holds_73 : decode b_Region_holds 73 = .ok (.bipush (-2), 2) := by decide +kernel
theorem d_Region_holds_75 : decode b_Region_holds 75 = .ok (.iand, 1) := by decide +kernel
theorem d_Region_holds_76 : decode b_Region_holds 76 = .ok (.istore 4, 2) := by decide +kernel
theorem d_Region_holds_78 : decode b_Region_holds 78 = .ok (.goto 46, 3) := by decide +kernel
theorem d_Region_holds_81 : decode b_Region_holds 81 = .ok (.iload 7, 2) := by decide +kernel
theorem d_Region_holds_83 : decode b_Region_holds 83 = .ok (.iload 6, 2) := by decide +kernel
theorem d_Region_holds_85 : decode b_Region_holds 85 = .ok (.ior, 1) := by decide +kernel
theorem d_Region_holds_86 : decode b_Region_holds 86 = .ok (.istore 4, 2) := by decide +kernel
theorem d_Region_holds_88 : decode b_Region_holds 88 = .ok (.goto 36, 3) := by decide +kernel
theorem d_Region_holds_91 : decode b_Region_holds 91 = .ok (.iload 4, 2) := by decide +kernel
theorem d_Region_holds_93 : decode b_Region_holds 93 = .ok (.iconst 1, 1) := by decide +kernel
theorem d_Region_holds_94 : decode b_Region_holds 94 = .ok (.ixor, 1) := by decide +kernel
theorem d_Region_holds_95 : decode b_Region_holds 95 = .ok (.istore 4, 2) := by decide +kernel
theorem d_Region_holds_97 : decode b_Region_holds 97 = .ok (.goto 27, 3) := by decide +kernel
theorem d_Region_holds_100 : decode b_Region_holds 100 = .ok (.iload 4, 2) := by decide +kernel
theorem d_Region_holds_102 : decode b_Region_holds 102 = .ok (.iconst 1, 1) := by decide +kernel
theorem d_Region_holds_103 : decode b_Region_holds 103 = .ok (.ishl, 1) := by decide +kernel
theorem d_Region_holds_104 : decode b_Region_holds 104 = .ok (.aload_n 1, 1) := by decide +kernel
theorem d_Region_holds_105 : decode b_Region_holds 105 = .ok (.aload_n 0, 1) := by decide +kernel
theorem d_Region_holds_106 : decode b_Region_holds 106 = .ok (.getfield 9, 3) := by decide +kernel
theorem d_Region_holds_109 : decode b_Region_holds 109 = .ok (.iload 5, 2) := by decide +kernel
theorem d_Region_holds_111 : decode b_Region_holds 111 = .ok (.iaload, 1) := by decide +kernel
theorem d_Region_holds_112 : decode b_Region_holds 112 = .ok (.aaload, 1) := by decide +kernel
theorem d_Region_holds_113 : decode b_Region_holds 113 = .ok (.iload_n 2, 1) := by decide +kernel
theorem d_Region_holds_114 : decode b_Region_holds 114 = .ok (.iload_n 3, 1) := by decide +kernel
theorem d_Region_holds_115 : decode b_Region_holds 115 = .ok (.invokevirtual 29, 3) := by decide +kernel
theorem d_Region_holds_118 : decode b_Region_holds 118 = .ok (.invokestatic 35, 3) := by decide +kernel
theorem d_Region_holds_121 : decode b_Region_holds 121 = .ok (.ior, 1) := by decide +kernel
theorem d_Region_holds_122 : decode b_Region_holds 122 = .ok (.istore 4, 2) := by decide +kernel
theorem d_Region_holds_124 : decode b_Region_holds 124 = .ok (.iinc 5 1, 3) := by decide +kernel
theorem d_Region_holds_127 : decode b_Region_holds 127 = .ok (.goto (-121), 3) := by decide +kernel
theorem d_Region_holds_130 : decode b_Region_holds 130 = .ok (.iload 4, 2) := by decide +kernel
theorem d_Region_holds_132 : decode b_Region_holds 132 = .ok (.iconst 1, 1) := by decide +kernel
theorem d_Region_holds_133 : decode b_Region_holds 133 = .ok (.if_icmp .ne 7, 3) := by decide +kernel
theorem d_Region_holds_136 : decode b_Region_holds 136 = .ok (.iconst 1, 1) := by decide +kernel
theorem d_Region_holds_137 : decode b_Region_holds 137 = .ok (.goto 4, 3) := by decide +kernel
theorem d_Region_holds_140 : decode b_Region_holds 140 = .ok (.iconst 0, 1) := by decide +kernel
theorem d_Region_holds_141 : decode b_Region_holds 141 = .ok (.ireturn, 1) := by decide +kernel
theorem d_Surface_init_0 : decode b_Surface_init 0 = .ok (.aload_n 0, 1) := by decide +kernel
theorem d_Surface_init_1 : decode b_Surface_init 1 = .ok (.invokespecial 3, 3) := by decide +kernel
theorem d_Surface_init_4 : decode b_Surface_init 4 = .ok (.return_, 1) := by decide +kernel
theorem d_Surface_become_0 : decode b_Surface_become 0 = .ok (.aload_n 0, 1) := by decide +kernel
theorem d_Surface_become_1 : decode b_Surface_become 1 = .ok (.iconst 1, 1) := by decide +kernel
theorem d_Surface_become_2 : decode b_Surface_become 2 = .ok (.putfield 9, 3) := by decide +kernel
theorem d_Surface_become_5 : decode b_Surface_become 5 = .ok (.aload_n 0, 1) := by decide +kernel
theorem d_Surface_become_6 : decode b_Surface_become 6 = .ok (.iload_n 1, 1) := by decide +kernel
theorem d_Surface_become_7 : decode b_Surface_become 7 = .ok (.putfield 15, 3) := by decide +kernel
theorem d_Surface_become_10 : decode b_Surface_become 10 = .ok (.aload_n 0, 1) := by decide +kernel
theorem d_Surface_become_11 : decode b_Surface_become 11 = .ok (.iload_n 2, 1) := by decide +kernel
theorem d_Surface_become_12 : decode b_Surface_become 12 = .ok (.putfield 19, 3) := by decide +kernel
theorem d_Surface_become_15 : decode b_Surface_become 15 = .ok (.aload_n 0, 1) := by decide +kernel
theorem d_Surface_become_16 : decode b_Surface_become 16 = .ok (.iload_n 3, 1) := by decide +kernel
theorem d_Surface_become_17 : decode b_Surface_become 17 = .ok (.putfield 22, 3) := by decide +kernel
theorem d_Surface_become_20 : decode b_Surface_become 20 = .ok (.aload_n 0, 1) := by decide +kernel
theorem d_Surface_become_21 : decode b_Surface_become 21 = .ok (.iload 4, 2) := by decide +kernel
theorem d_Surface_become_23 : decode b_Surface_become 23 = .ok (.putfield 25, 3) := by decide +kernel
theorem d_Surface_become_26 : decode b_Surface_become 26 = .ok (.return_, 1) := by decide +kernel
theorem d_Surface_holds_0 : decode b_Surface_holds 0 = .ok (.aload_n 0, 1) := by decide +kernel
theorem d_Surface_holds_1 : decode b_Surface_holds 1 = .ok (.getfield 9, 3) := by decide +kernel
theorem d_Surface_holds_4 : decode b_Surface_holds 4 = .ok (.ifCond .ne 5, 3) := by decide +kernel
theorem d_Surface_holds_7 : decode b_Surface_holds 7 = .ok (.iconst 0, 1) := by decide +kernel
theorem d_Surface_holds_8 : decode b_Surface_holds 8 = .ok (.ireturn, 1) := by decide +kernel
theorem d_Surface_holds_9 : decode b_Surface_holds 9 = .ok (.aload_n 0, 1) := by decide +kernel
theorem d_Surface_holds_10 : decode b_Surface_holds 10 = .ok (.getfield 15, 3) := by decide +kernel
theorem d_Surface_holds_13 : decode b_Surface_holds 13 = .ok (.ifCond .ne 29, 3) := by decide +kernel
theorem d_Surface_holds_16 : decode b_Surface_holds 16 = .ok (.aload_n 0, 1) := by decide +kernel
theorem d_Surface_holds_17 : decode b_Surface_holds 17 = .ok (.getfield 19, 3) := by decide +kernel
theorem d_Surface_holds_20 : decode b_Surface_holds 20 = .ok (.iload_n 1, 1) := by decide +kernel
theorem d_Surface_holds_21 : decode b_Surface_holds 21 = .ok (.imul, 1) := by decide +kernel
theorem d_Surface_holds_22 : decode b_Surface_holds 22 = .ok (.aload_n 0, 1) := by decide +kernel
theorem d_Surface_holds_23 : decode b_Surface_holds 23 = .ok (.getfield 22, 3) := by decide +kernel
theorem d_Surface_holds_26 : decode b_Surface_holds 26 = .ok (.iload_n 2, 1) := by decide +kernel
theorem d_Surface_holds_27 : decode b_Surface_holds 27 = .ok (.imul, 1) := by decide +kernel
theorem d_Surface_holds_28 : decode b_Surface_holds 28 = .ok (.iadd, 1) := by decide +kernel
theorem d_Surface_holds_29 : decode b_Surface_holds 29 = .ok (.aload_n 0, 1) := by decide +kernel
theorem d_Surface_holds_30 : decode b_Surface_holds 30 = .ok (.getfield 25, 3) := by decide +kernel
theorem d_Surface_holds_33 : decode b_Surface_holds 33 = .ok (.if_icmp .gt 7, 3) := by decide +kernel
theorem d_Surface_holds_36 : decode b_Surface_holds 36 = .ok (.iconst 1, 1) := by decide +kernel
theorem d_Surface_holds_37 : decode b_Surface_holds 37 = .ok (.goto 4, 3) := by decide +kernel
theorem d_Surface_holds_40 : decode b_Surface_holds 40 = .ok (.iconst 0, 1) := by decide +kernel
theorem d_Surface_holds_41 : decode b_Surface_holds 41 = .ok (.ireturn, 1) := by decide +kernel
theorem d_Surface_holds_42 : decode b_Surface_holds 42 = .ok (.iload_n 1, 1) := by decide +kernel
theorem d_Surface_holds_43 : decode b_Surface_holds 43 = .ok (.aload_n 0, 1) := by decide +kernel
theorem d_Surface_holds_44 : decode b_Surface_holds 44 = .ok (.getfield 19, 3) := by decide +kernel
theorem d_Surface_holds_47 : decode b_Surface_holds 47 = .ok (.isub, 1) := by decide +kernel
theorem d_Surface_holds_48 : decode b_Surface_holds 48 = .ok (.iload_n 1, 1) := by decide +kernel
theorem d_Surface_holds_49 : decode b_Surface_holds 49 = .ok (.aload_n 0, 1) := by decide +kernel
theorem d_Surface_holds_50 : decode b_Surface_holds 50 = .ok (.getfield 19, 3) := by decide +kernel
theorem d_Surface_holds_53 : decode b_Surface_holds 53 = .ok (.isub, 1) := by decide +kernel
theorem d_Surface_holds_54 : decode b_Surface_holds 54 = .ok (.imul, 1) := by decide +kernel
theorem d_Surface_holds_55 : decode b_Surface_holds 55 = .ok (.iload_n 2, 1) := by decide +kernel
theorem d_Surface_holds_56 : decode b_Surface_holds 56 = .ok (.aload_n 0, 1) := by decide +kernel
theorem d_Surface_holds_57 : decode b_Surface_holds 57 = .ok (.getfield 22, 3) := by decide +kernel
theorem d_Surface_holds_60 : decode b_Surface_holds 60 = .ok (.isub, 1) := by decide +kernel
theorem d_Surface_holds_61 : decode b_Surface_holds 61 = .ok (.iload_n 2, 1) := by decide +kernel
theorem d_Surface_holds_62 : decode b_Surface_holds 62 = .ok (.aload_n 0, 1) := by decide +kernel
theorem d_Surface_holds_63 : decode b_Surface_holds 63 = .ok (.getfield 22, 3) := by decide +kernel
theorem d_Surface_holds_66 : decode b_Surface_holds 66 = .ok (.isub, 1) := by decide +kernel
theorem d_Surface_holds_67 : decode b_Surface_holds 67 = .ok (.imul, 1) := by decide +kernel
theorem d_Surface_holds_68 : decode b_Surface_holds 68 = .ok (.iadd, 1) := by decide +kernel
theorem d_Surface_holds_69 : decode b_Surface_holds 69 = .ok (.aload_n 0, 1) := by decide +kernel
theorem d_Surface_holds_70 : decode b_Surface_holds 70 = .ok (.getfield 25, 3) := by decide +kernel
theorem d_Surface_holds_73 : decode b_Surface_holds 73 = .ok (.aload_n 0, 1) := by decide +kernel
theorem d_Surface_holds_74 : decode b_Surface_holds 74 = .ok (.getfield 25, 3) := by decide +kernel
theorem d_Surface_holds_77 : decode b_Surface_holds 77 = .ok (.imul, 1) := by decide +kernel
theorem d_Surface_holds_78 : decode b_Surface_holds 78 = .ok (.if_icmp .gt 7, 3) := by decide +kernel
theorem d_Surface_holds_81 : decode b_Surface_holds 81 = .ok (.iconst 1, 1) := by decide +kernel
theorem d_Surface_holds_82 : decode b_Surface_holds 82 = .ok (.goto 4, 3) := by decide +kernel
theorem d_Surface_holds_85 : decode b_Surface_holds 85 = .ok (.iconst 0, 1) := by decide +kernel
theorem d_Surface_holds_86 : decode b_Surface_holds 86 = .ok (.ireturn, 1) := by decide +kernel
theorem d_Arrays_fill_0 : decode b_Arrays_fill 0 = .ok (.iconst 0, 1) := by decide +kernel
theorem d_Arrays_fill_1 : decode b_Arrays_fill 1 = .ok (.istore_n 2, 1) := by decide +kernel
theorem d_Arrays_fill_2 : decode b_Arrays_fill 2 = .ok (.aload_n 0, 1) := by decide +kernel
theorem d_Arrays_fill_3 : decode b_Arrays_fill 3 = .ok (.arraylength, 1) := by decide +kernel
theorem d_Arrays_fill_4 : decode b_Arrays_fill 4 = .ok (.istore_n 3, 1) := by decide +kernel
theorem d_Arrays_fill_5 : decode b_Arrays_fill 5 = .ok (.iload_n 2, 1) := by decide +kernel
theorem d_Arrays_fill_6 : decode b_Arrays_fill 6 = .ok (.iload_n 3, 1) := by decide +kernel
theorem d_Arrays_fill_7 : decode b_Arrays_fill 7 = .ok (.if_icmp .ge 13, 3) := by decide +kernel
theorem d_Arrays_fill_10 : decode b_Arrays_fill 10 = .ok (.aload_n 0, 1) := by decide +kernel
theorem d_Arrays_fill_11 : decode b_Arrays_fill 11 = .ok (.iload_n 2, 1) := by decide +kernel
theorem d_Arrays_fill_12 : decode b_Arrays_fill 12 = .ok (.iload_n 1, 1) := by decide +kernel
theorem d_Arrays_fill_13 : decode b_Arrays_fill 13 = .ok (.iastore, 1) := by decide +kernel
theorem d_Arrays_fill_14 : decode b_Arrays_fill 14 = .ok (.iinc 2 1, 3) := by decide +kernel
theorem d_Arrays_fill_17 : decode b_Arrays_fill 17 = .ok (.goto (-12), 3) := by decide +kernel
theorem d_Arrays_fill_20 : decode b_Arrays_fill 20 = .ok (.return_, 1) := by decide +kernel
end
section
theorem d_Model_init_0 : decode b_Model_init 0 = .ok (.aload_n 0, 1) := by decide +kernel
theorem d_Model_init_1 : decode b_Model_init 1 = .ok (.invokespecial 1, 3) := by decide +kernel
theorem d_Model_init_4 : decode b_Model_init 4 = .ok (.aload_n 0, 1) := by decide +kernel
theorem d_Model_init_5 : decode b_Model_init 5 = .ok (.bipush 8, 2) := by decide +kernel
theorem d_Model_init_7 : decode b_Model_init 7 = .ok (.newarray .int, 2) := by decide +kernel
theorem d_Model_init_9 : decode b_Model_init 9 = .ok (.putfield 7, 3) := by decide +kernel
theorem d_Model_init_12 : decode b_Model_init 12 = .ok (.aload_n 0, 1) := by decide +kernel
theorem d_Model_init_13 : decode b_Model_init 13 = .ok (.bipush 8, 2) := by decide +kernel
theorem d_Model_init_15 : decode b_Model_init 15 = .ok (.newarray .int, 2) := by decide +kernel
theorem d_Model_init_17 : decode b_Model_init 17 = .ok (.putfield 13, 3) := by decide +kernel
theorem d_Model_init_20 : decode b_Model_init 20 = .ok (.aload_n 0, 1) := by decide +kernel
theorem d_Model_init_21 : decode b_Model_init 21 = .ok (.bipush 8, 2) := by decide +kernel
theorem d_Model_init_23 : decode b_Model_init 23 = .ok (.newarray .int, 2) := by decide +kernel
theorem d_Model_init_25 : decode b_Model_init 25 = .ok (.putfield 16, 3) := by decide +kernel
theorem d_Model_init_28 : decode b_Model_init 28 = .ok (.aload_n 0, 1) := by decide +kernel
theorem d_Model_init_29 : decode b_Model_init 29 = .ok (.bipush 8, 2) := by decide +kernel
theorem d_Model_init_31 : decode b_Model_init 31 = .ok (.newarray .int, 2) := by decide +kernel
theorem d_Model_init_33 : decode b_Model_init 33 = .ok (.putfield 19, 3) := by decide +kernel
theorem d_Model_init_36 : decode b_Model_init 36 = .ok (.aload_n 0, 1) := by decide +kernel
theorem d_Model_init_37 : decode b_Model_init 37 = .ok (.bipush 8, 2) := by decide +kernel
theorem d_Model_init_39 : decode b_Model_init 39 = .ok (.newarray .boolean, 2) := by decide +kernel
theorem d_Model_init_41 : decode b_Model_init 41 = .ok (.putfield 22, 3) := by decide +kernel
theorem d_Model_init_44 : decode b_Model_init 44 = .ok (.aload_n 0, 1) := by decide +kernel
theorem d_Model_init_45 : decode b_Model_init 45 = .ok (.bipush 8, 2) := by decide +kernel
theorem d_Model_init_47 : decode b_Model_init 47 = .ok (.newarray .int, 2) := by decide +kernel
theorem d_Model_init_49 : decode b_Model_init 49 = .ok (.putfield 26, 3) := by decide +kernel
theorem d_Model_init_52 : decode b_Model_init 52 = .ok (.aload_n 0, 1) := by decide +kernel
theorem d_Model_init_53 : decode b_Model_init 53 = .ok (.bipush 48, 2) := by decide +kernel
theorem d_Model_init_55 : decode b_Model_init 55 = .ok (.newarray .int, 2) := by decide +kernel
theorem d_Model_init_57 : decode b_Model_init 57 = .ok (.putfield 29, 3) := by decide +kernel
theorem d_Model_init_60 : decode b_Model_init 60 = .ok (.aload_n 0, 1) := by decide +kernel
theorem d_Model_init_61 : decode b_Model_init 61 = .ok (.bipush 6, 2) := by decide +kernel
theorem d_Model_init_63 : decode b_Model_init 63 = .ok (.newarray .int, 2) := by decide +kernel
theorem d_Model_init_65 : decode b_Model_init 65 = .ok (.putfield 32, 3) := by decide +kernel
theorem d_Model_init_68 : decode b_Model_init 68 = .ok (.aload_n 0, 1) := by decide +kernel
theorem d_Model_init_69 : decode b_Model_init 69 = .ok (.bipush 6, 2) := by decide +kernel
theorem d_Model_init_71 : decode b_Model_init 71 = .ok (.newarray .boolean, 2) := by decide +kernel
theorem d_Model_init_73 : decode b_Model_init 73 = .ok (.putfield 35, 3) := by decide +kernel
theorem d_Model_init_76 : decode b_Model_init 76 = .ok (.aload_n 0, 1) := by decide +kernel
theorem d_Model_init_77 : decode b_Model_init 77 = .ok (.bipush 6, 2) := by decide +kernel
theorem d_Model_init_79 : decode b_Model_init 79 = .ok (.newarray .int, 2) := by decide +kernel
theorem d_Model_init_81 : decode b_Model_init 81 = .ok (.putfield 38, 3) := by decide +kernel
theorem d_Model_init_84 : decode b_Model_init 84 = .ok (.aload_n 0, 1) := by decide +kernel
theorem d_Model_init_85 : decode b_Model_init 85 = .ok (.bipush 6, 2) := by decide +kernel
theorem d_Model_init_87 : decode b_Model_init 87 = .ok (.newarray .int, 2) := by decide +kernel
theorem d_Model_init_89 : decode b_Model_init 89 = .ok (.putfield 41, 3) := by decide +kernel
theorem d_Model_init_92 : decode b_Model_init 92 = .ok (.aload_n 0, 1) := by decide +kernel
theorem d_Model_init_93 : decode b_Model_init 93 = .ok (.bipush 6, 2) := by decide +kernel
theorem d_Model_init_95 : decode b_Model_init 95 = .ok (.newarray .int, 2) := by decide +kernel
theorem d_Model_init_97 : decode b_Model_init 97 = .ok (.putfield 44, 3) := by decide +kernel
theorem d_Model_init_100 : decode b_Model_init 100 = .ok (.aload_n 0, 1) := by decide +kernel
theorem d_Model_init_101 : decode b_Model_init 101 = .ok (.lconst 1, 1) := by decide +kernel
theorem d_Model_init_102 : decode b_Model_init 102 = .ok (.putfield 47, 3) := by decide +kernel
theorem d_Model_init_105 : decode b_Model_init 105 = .ok (.aload_n 0, 1) := by decide +kernel
theorem d_Model_init_106 : decode b_Model_init 106 = .ok (.bipush 24, 2) := by decide +kernel
theorem d_Model_init_108 : decode b_Model_init 108 = .ok (.newarray .int, 2) := by decide +kernel
theorem d_Model_init_110 : decode b_Model_init 110 = .ok (.putfield 51, 3) := by decide +kernel
theorem d_Model_init_113 : decode b_Model_init 113 = .ok (.aload_n 0, 1) := by decide +kernel
theorem d_Model_init_114 : decode b_Model_init 114 = .ok (.bipush 36, 2) := by decide +kernel
theorem d_Model_init_116 : decode b_Model_init 116 = .ok (.newarray .int, 2) := by decide +kernel
theorem d_Model_init_118 : decode b_Model_init 118 = .ok (.putfield 54, 3) := by decide +kernel
theorem d_Model_init_121 : decode b_Model_init 121 = .ok (.aload_n 0, 1) := by decide +kernel
theorem d_Model_init_122 : decode b_Model_init 122 = .ok (.iconst 5, 1) := by decide +kernel
theorem d_Model_init_123 : decode b_Model_init 123 = .ok (.newarray .int, 2) := by decide +kernel
theorem d_Model_init_125 : decode b_Model_init 125 = .ok (.putfield 57, 3) := by decide +kernel
theorem d_Model_init_128 : decode b_Model_init 128 = .ok (.aload_n 0, 1) := by decide +kernel
theorem d_Model_init_129 : decode b_Model_init 129 = .ok (.bipush 12, 2) := by decide +kernel
theorem d_Model_init_131 : decode b_Model_init 131 = .ok (.newarray .int, 2) := by decide +kernel
theorem d_Model_init_133 : decode b_Model_init 133 = .ok (.putfield 60, 3) := by decide +kernel
theorem d_Model_init_136 : decode b_Model_init 136 = .ok (.aload_n 0, 1) := by decide +kernel
theorem d_Model_init_137 : decode b_Model_init 137 = .ok (.bipush 12, 2) := by decide +kernel
theorem d_Model_init_139 : decode b_Model_init 139 = .ok (.newarray .int, 2) := by decide +kernel
theorem d_Model_init_141 : decode b_Model_init 141 = .ok (.putfield 63, 3) := by decide +kernel
theorem d_Model_init_144 : decode b_Model_init 144 = .ok (.return_, 1) := by decide +kernel
theorem d_Model_out_0 : decode b_Model_out 0 = .ok (.iload_n 0, 1) := by decide +kernel
theorem d_Model_out_1 : decode b_Model_out 1 = .ok (.iload_n 1, 1) := by decide +kernel
theorem d_Model_out_2 : decode b_Model_out 2 = .ok (.if_icmp .lt 8, 3) := by decide +kernel
theorem d_Model_out_5 : decode b_Model_out 5 = .ok (.iload_n 0, 1) := by decide +kernel
theorem d_Model_out_6 : decode b_Model_out 6 = .ok (.iload_n 2, 1) := by decide +kernel
theorem d_Model_out_7 : decode b_Model_out 7 = .ok (.if_icmp .le 7, 3) := by decide +kernel
theorem d_Model_out_10 : decode b_Model_out 10 = .ok (.iconst 1, 1) := by decide +kernel
theorem d_Model_out_11 : decode b_Model_out 11 = .ok (.goto 4, 3) := by decide +kernel
theorem d_Model_out_14 : decode b_Model_out 14 = .ok (.iconst 0, 1) := by decide +kernel
theorem d_Model_out_15 : decode b_Model_out 15 = .ok (.ireturn, 1) := by decide +kernel
theorem d_Model_surface_0 : decode b_Model_surface 0 = .ok (.iload_n 1, 1) := by decide +kernel
theorem d_Model_surface_1 : decode b_Model_surface 1 = .ok (.iconst 0, 1) := by decide +kernel
theorem d_Model_surface_2 : decode b_Model_surface 2 = .ok (.bipush 7, 2) := by decide +kernel
theorem d_Model_surface_4 : decode b_Model_surface 4 = .ok (.invokestatic 66, 3) := by decide +kernel
theorem d_Model_surface_7 : decode b_Model_surface 7 = .ok (.ifCond .ne 12, 3) := by decide +kernel
theorem d_Model_surface_10 : decode b_Model_surface 10 = .ok (.iload_n 2, 1) := by decide +kernel
theorem d_Model_surface_11 : decode b_Model_surface 11 = .ok (.iconst 0, 1) := by decide +kernel
theorem d_Model_surface_12 : decode b_Model_surface 12 = .ok (.iconst 1, 1) := by decide +kernel
theorem d_Model_surface_13 : decode b_Model_surface 13 = .ok (.invokestatic 66, 3) := by decide +kernel
theorem d_Model_surface_16 : decode b_Model_surface 16 = .ok (.ifCond .eq 5, 3) := by decide +kernel
theorem d_Model_surface_19 : decode b_Model_surface 19 = .ok (.iconst (-1), 1) := by decide +kernel
theorem d_Model_surface_20 : decode b_Model_surface 20 = .ok (.ireturn, 1) := by decide +kernel
theorem d_Model_surface_21 : decode b_Model_surface 21 = .ok (.iload_n 2, 1) := by decide +kernel
theorem d_Model_surface_22 : decode b_Model_surface 22 = .ok (.ifCond .ne 8, 3) := by decide +kernel
theorem d_Model_surface_25 : decode b_Model_surface 25 = .ok (.bipush 9, 2) := by decide +kernel
theorem d_Model_surface_27 : decode b_Model_surface 27 = .ok (.goto 6, 3) := by decide +kernel
theorem d_Model_surface_30 : decode b_Model_surface 30 = .ok (.sipush 300, 3) := by decide +kernel
theorem d_Model_surface_33 : decode b_Model_surface 33 = .ok (.istore 6, 2) := by decide +kernel
theorem d_Model_surface_35 : decode b_Model_surface 35 = .ok (.iload_n 3, 1) := by decide +kernel
theorem d_Model_surface_36 : decode b_Model_surface 36 = .ok (.iload 6, 2) := by decide +kernel
theorem d_Model_surface_38 : decode b_Model_surface 38 = .ok (.ineg, 1) := by decide +kernel
theorem d_Model_surface_39 : decode b_Model_surface 39 = .ok (.iload 6, 2) := by decide +kernel
theorem d_Model_surface_41 : decode b_Model_surface 41 = .ok (.invokestatic 66, 3) := by decide +kernel
theorem d_Model_surface_44 : decode b_Model_surface 44 = .ok (.ifCond .ne 48, 3) := by decide +kernel
theorem d_Model_surface_47 : decode b_Model_surface 47 = .ok (.iload 4, 2) := by decide +kernel
theorem d_Model_surface_49 : decode b_Model_surface 49 = .ok (.iload 6, 2) := by decide +kernel
theorem d_Model_surface_51 : decode b_Model_surface 51 = .ok (.ineg, 1) := by decide +kernel
theorem d_Model_surface_52 : decode b_Model_surface 52 = .ok (.iload 6, 2) := by decide +kernel
theorem d_Model_surface_54 : decode b_Model_surface 54 = .ok (.invokestatic 66, 3) := by decide +kernel
theorem d_Model_surface_57 : decode b_Model_surface 57 = .ok (.ifCond .ne 35, 3) := by decide +kernel
theorem d_Model_surface_60 : decode b_Model_surface 60 = .ok (.iload 5, 2) := by decide +kernel
theorem d_Model_surface_62 : decode b_Model_surface 62 = .ok (.iload_n 2, 1) := by decide +kernel
theorem d_Model_surface_63 : decode b_Model_surface 63 = .ok (.ifCond .ne 9, 3) := by decide +kernel
theorem d_Model_surface_66 : decode b_Model_surface 66 = .ok (.sipush (-9999), 3) := by decide +kernel
theorem d_Model_surface_69 : decode b_Model_surface 69 = .ok (.goto 4, 3) := by decide +kernel
theorem d_Model_surface_72 : decode b_Model_surface 72 = .ok (.iconst 0, 1) := by decide +kernel
theorem d_Model_surface_73 : decode b_Model_surface 73 = .ok (.iload_n 2, 1) := by decide +kernel
theorem d_Model_surface_74 : decode b_Model_surface 74 = .ok (.ifCond .ne 9, 3) := by decide +kernel
theorem d_Model_surface_77 : decode b_Model_surface 77 = .ok (.sipush 9999, 3) := by decide +kernel
theorem d_Model_surface_80 : decode b_Model_surface 80 = .ok (.goto 6, 3) := by decide +kernel
theorem d_Model_surface_83 : decode b_Model_surface 83 = .ok (.sipush 300, 3) := by decide +kernel
theorem d_Model_surface_86 : decode b_Model_surface 86 = .ok (.invokestatic 66, 3) := by decide +kernel
theorem d_Model_surface_89 : decode b_Model_surface 89 = .ok (.ifCond .eq 5, 3) := by decide +kernel
theorem d_Model_surface_92 : decode b_Model_surface 92 = .ok (.iconst (-1), 1) := by decide +kernel
theorem d_Model_surface_93 : decode b_Model_surface 93 = .ok (.ireturn, 1) := by decide +kernel
theorem d_Model_surface_94 : decode b_Model_surface 94 = .ok (.aload_n 0, 1) := by decide +kernel
theorem d_Model_surface_95 : decode b_Model_surface 95 = .ok (.getfield 22, 3) := by decide +kernel
theorem d_Model_surface_98 : decode b_Model_surface 98 = .ok (.iload_n 1, 1) := by decide +kernel
theorem d_Model_surface_99 : decode b_Model_surface 99 = .ok (.baload, 1) := by decide +kernel
theorem d_Model_surface_100 : decode b_Model_surface 100 = .ok (.ifCond .eq 7, 3) := by decide +kernel
theorem d_Model_surface_103 : decode b_Model_surface 103 = .ok (.iconst 1, 1) := by decide +kernel
theorem d_Model_surface_104 : decode b_Model_surface 104 = .ok (.goto 4, 3) := by decide +kernel
theorem d_Model_surface_107 : decode b_Model_surface 107 = .ok (.iconst 0, 1) := by decide +kernel
theorem d_Model_surface_108 : decode b_Model_surface 108 = .ok (.istore 7, 2) := by decide +kernel
theorem d_Model_surface_110 : decode b_Model_surface 110 = .ok (.aload_n 0, 1) := by decide +kernel
theorem d_Model_surface_111 : decode b_Model_surface 111 = .ok (.getfield 22, 3) := by decide +kernel
theorem d_Model_surface_114 : decode b_Model_surface 114 = .ok (.iload_n 1, 1) := by decide +kernel
theorem d_Model_surface_115 : decode b_Model_surface 115 = .ok (.iconst 1, 1) := by decide +kernel
theorem d_Model_surface_116 : decode b_Model_surface 116 = .ok (.bastore, 1) := by decide +kernel
theorem d_Model_surface_117 : decode b_Model_surface 117 = .ok (.aload_n 0, 1) := by decide +kernel
theorem d_Model_surface_118 : decode b_Model_surface 118 = .ok (.getfield 7, 3) := by decide +kernel
theorem d_Model_surface_121 : decode b_Model_surface 121 = .ok (.iload_n 1, 1) := by decide +kernel
theorem d_Model_surface_122 : decode b_Model_surface 122 = .ok (.iload_n 2, 1) := by decide +kernel
theorem d_Model_surface_123 : decode b_Model_surface 123 = .ok (.iastore, 1) := by decide +kernel
theorem d_Model_surface_124 : decode b_Model_surface 124 = .ok (.aload_n 0, 1) := by decide +kernel
theorem d_Model_surface_125 : decode b_Model_surface 125 = .ok (.getfield 13, 3) := by decide +kernel
theorem d_Model_surface_128 : decode b_Model_surface 128 = .ok (.iload_n 1, 1) := by decide +kernel
theorem d_Model_surface_129 : decode b_Model_surface 129 = .ok (.iload_n 3, 1) := by decide +kernel
theorem d_Model_surface_130 : decode b_Model_surface 130 = .ok (.iastore, 1) := by decide +kernel
theorem d_Model_surface_131 : decode b_Model_surface 131 = .ok (.aload_n 0, 1) := by decide +kernel
theorem d_Model_surface_132 : decode b_Model_surface 132 = .ok (.getfield 16, 3) := by decide +kernel
theorem d_Model_surface_135 : decode b_Model_surface 135 = .ok (.iload_n 1, 1) := by decide +kernel
theorem d_Model_surface_136 : decode b_Model_surface 136 = .ok (.iload 4, 2) := by decide +kernel
theorem d_Model_surface_138 : decode b_Model_surface 138 = .ok (.iastore, 1) := by decide +kernel
theorem d_Model_surface_139 : decode b_Model_surface 139 = .ok (.aload_n 0, 1) := by decide +kernel
theorem d_Model_surface_140 : decode b_Model_surface 140 = .ok (.getfield 19, 3) := by decide +kernel
theorem d_Model_surface_143 : decode b_Model_surface 143 = .ok (.iload_n 1, 1) := by decide +kernel
theorem d_Model_surface_144 : decode b_Model_surface 144 = .ok (.iload 5, 2) := by decide +kernel
theorem d_Model_surface_146 : decode b_Model_surface 146 = .ok (.iastore, 1) := by decide +kernel
theorem d_Model_surface_147 : decode b_Model_surface 147 = .ok (.iload 7, 2) := by decide +kernel
theorem d_Model_surface_149 : decode b_Model_surface 149 = .ok (.ireturn, 1) := by decide +kernel
theorem d_Model_token_0 : decode b_Model_token 0 = .ok (.iload_n 1, 1) := by decide +kernel
theorem d_Model_token_1 : decode b_Model_token 1 = .ok (.iconst 0, 1) := by decide +kernel
theorem d_Model_token_2 : decode b_Model_token 2 = .ok (.bipush 10, 2) := by decide +kernel
theorem d_Model_token_4 : decode b_Model_token 4 = .ok (.invokestatic 66, 3) := by decide +kernel
theorem d_Model_token_7 : decode b_Model_token 7 = .ok (.ifCond .ne 12, 3) := by decide +kernel
theorem d_Model_token_10 : decode b_Model_token 10 = .ok (.aload_n 0, 1) := by decide +kernel
theorem d_Model_token_11 : decode b_Model_token 11 = .ok (.getfield 70, 3) := by decide +kernel
theorem d_Model_token_14 : decode b_Model_token 14 = .ok (.bipush 8, 2) := by decide +kernel
theorem d_Model_token_16 : decode b_Model_token 16 = .ok (.if_icmp .ne 5, 3) := by decide +kernel
theorem d_Model_token_19 : decode b_Model_token 19 = .ok (.iconst (-1), 1) := by decide +kernel
theorem d_Model_token_20 : decode b_Model_token 20 = .ok (.ireturn, 1) := by decide +kernel
theorem d_Model_token_21 : decode b_Model_token 21 = .ok (.aload_n 0, 1) := by decide +kernel
theorem d_Model_token_22 : decode b_Model_token 22 = .ok (.getfield 26, 3) := by decide +kernel
theorem d_Model_token_25 : decode b_Model_token 25 = .ok (.aload_n 0, 1) := by decide +kernel
theorem d_Model_token_26 : decode b_Model_token 26 = .ok (.getfield 70, 3) := by decide +kernel
theorem d_Model_token_29 : decode b_Model_token 29 = .ok (.iload_n 1, 1) := by decide +kernel
theorem d_Model_token_30 : decode b_Model_token 30 = .ok (.iastore, 1) := by decide +kernel
theorem d_Model_token_31 : decode b_Model_token 31 = .ok (.aload_n 0, 1) := by decide +kernel
theorem d_Model_token_32 : decode b_Model_token 32 = .ok (.dup, 1) := by decide +kernel
theorem d_Model_token_33 : decode b_Model_token 33 = .ok (.getfield 70, 3) := by decide +kernel
theorem d_Model_token_36 : decode b_Model_token 36 = .ok (.iconst 1, 1) := by decide +kernel
theorem d_Model_token_37 : decode b_Model_token 37 = .ok (.iadd, 1) := by decide +kernel
theorem d_Model_token_38 : decode b_Model_token 38 = .ok (.putfield 70, 3) := by decide +kernel
theorem d_Model_token_41 : decode b_Model_token 41 = .ok (.aload_n 0, 1) := by decide +kernel
theorem d_Model_token_42 : decode b_Model_token 42 = .ok (.getfield 70, 3) := by decide +kernel
theorem d_Model_token_45 : decode b_Model_token 45 = .ok (.ireturn, 1) := by decide +kernel
theorem d_Model_told_0 : decode b_Model_told 0 = .ok (.iconst 0, 1) := by decide +kernel
theorem d_Model_told_1 : decode b_Model_told 1 = .ok (.istore_n 1, 1) := by decide +kernel
theorem d_Model_told_2 : decode b_Model_told 2 = .ok (.iconst 0, 1) := by decide +kernel
theorem d_Model_told_3 : decode b_Model_told 3 = .ok (.istore_n 2, 1) := by decide +kernel
theorem d_Model_told_4 : decode b_Model_told 4 = .ok (.iload_n 2, 1) := by decide +kernel
theorem d_Model_told_5 : decode b_Model_told 5 = .ok (.aload_n 0, 1) := by decide +kernel
theorem d_Model_told_6 : decode b_Model_told 6 = .ok (.getfield 70, 3) := by decide +kernel
theorem d_Model_told_9 : decode b_Model_told 9 = .ok (.if_icmp .ge 54, 3) := by decide +kernel
theorem d_Model_told_12 : decode b_Model_told 12 = .ok (.aload_n 0, 1) := by decide +kernel
theorem d_Model_told_13 : decode b_Model_told 13 = .ok (.getfield 26, 3) := by decide +kernel
theorem d_Model_told_16 : decode b_Model_told 16 = .ok (.iload_n 2, 1) := by decide +kernel
theorem d_Model_told_17 : decode b_Model_told 17 = .ok (.iaload, 1) := by decide +kernel
theorem d_Model_told_18 : decode b_Model_told 18 = .ok (.bipush 8, 2) := by decide +kernel
theorem d_Model_told_20 : decode b_Model_told 20 = .ok (.if_icmp .ge 7, 3) := by decide +kernel
theorem d_Model_told_23 : decode b_Model_told 23 = .ok (.iconst 0, 1) := by decide +kernel
theorem d_Model_told_24 : decode b_Model_told 24 = .ok (.goto 19, 3) := by decide +kernel
theorem d_Model_told_27 : decode b_Model_told 27 = .ok (.aload_n 0, 1) := by decide +kernel
theorem d_Model_told_28 : decode b_Model_told 28 = .ok (.getfield 26, 3) := by decide +kernel
theorem d_Model_told_31 : decode b_Model_told 31 = .ok (.iload_n 2, 1) := by decide +kernel
theorem d_Model_told_32 : decode b_Model_told 32 = .ok (.iaload, 1) := by decide +kernel
theorem d_Model_told_33 : decode b_Model_told 33 = .ok (.bipush 10, 2) := by decide +kernel
theorem d_Model_told_35 : decode b_Model_told 35 = .ok (.if_icmp .ne 7, 3) := by decide +kernel
theorem d_Model_told_38 : decode b_Model_told 38 = .ok (.iconst 1, 1) := by decide +kernel
theorem d_Model_told_39 : decode b_Model_told 39 = .ok (.goto 4, 3) := by decide +kernel
theorem d_Model_told_42 : decode b_Model_told 42 = .ok (.iconst 2, 1) := by decide +kernel
theorem d_Model_told_43 : decode b_Model_told 43 = .ok (.istore_n 3, 1) := by decide +kernel
theorem d_Model_told_44 : decode b_Model_told 44 = .ok (.iload_n 1, 1) := by decide +kernel
theorem d_Model_told_45 : decode b_Model_told 45 = .ok (.iload_n 3, 1) := by decide +kernel
theorem d_Model_told_46 : decode b_Model_told 46 = .ok (.if_icmp .ge 5, 3) := by decide +kernel
theorem d_Model_told_49 : decode b_Model_told 49 = .ok (.iconst 0, 1) := by decide +kernel
theorem d_Model_told_50 : decode b_Model_told 50 = .ok (.ireturn, 1) := by decide +kernel
theorem d_Model_told_51 : decode b_Model_told 51 = .ok (.iload_n 1, 1) := by decide +kernel
theorem d_Model_told_52 : decode b_Model_told 52 = .ok (.iconst 1, 1) := by decide +kernel
theorem d_Model_told_53 : decode b_Model_told 53 = .ok (.iload_n 3, 1) := by decide +kernel
theorem d_Model_told_54 : decode b_Model_told 54 = .ok (.isub, 1) := by decide +kernel
theorem d_Model_told_55 : decode b_Model_told 55 = .ok (.iadd, 1) := by decide +kernel
theorem d_Model_told_56 : decode b_Model_told 56 = .ok (.istore_n 1, 1) := by decide +kernel
theorem d_Model_told_57 : decode b_Model_told 57 = .ok (.iinc 2 1, 3) := by decide +kernel
theorem d_Model_told_60 : decode b_Model_told 60 = .ok (.goto (-56), 3) := by decide +kernel
theorem d_Model_told_63 : decode b_Model_told 63 = .ok (.iload_n 1, 1) := by decide +kernel
theorem d_Model_told_64 : decode b_Model_told 64 = .ok (.iconst 1, 1) := by decide +kernel
theorem d_Model_told_65 : decode b_Model_told 65 = .ok (.if_icmp .ne 7, 3) := by decide +kernel
theorem d_Model_told_68 : decode b_Model_told 68 = .ok (.iconst 1, 1) := by decide +kernel
theorem d_Model_told_69 : decode b_Model_told 69 = .ok (.goto 4, 3) := by decide +kernel
theorem d_Model_told_72 : decode b_Model_told 72 = .ok (.iconst 0, 1) := by decide +kernel
theorem d_Model_told_73 : decode b_Model_told 73 = .ok (.ireturn, 1) := by decide +kernel
theorem d_Model_cell_0 : decode b_Model_cell 0 = .ok (.iload_n 1, 1) := by decide +kernel
theorem d_Model_cell_1 : decode b_Model_cell 1 = .ok (.iconst 0, 1) := by decide +kernel
theorem d_Model_cell_2 : decode b_Model_cell 2 = .ok (.iconst 5, 1) := by decide +kernel
theorem d_Model_cell_3 : decode b_Model_cell 3 = .ok (.invokestatic 66, 3) := by decide +kernel
theorem d_Model_cell_6 : decode b_Model_cell 6 = .ok (.ifCond .ne 39, 3) := by decide +kernel
theorem d_Model_cell_9 : decode b_Model_cell 9 = .ok (.iload_n 2, 1) := by decide +kernel
theorem d_Model_cell_10 : decode b_Model_cell 10 = .ok (.iconst 0, 1) := by decide +kernel
theorem d_Model_cell_11 : decode b_Model_cell 11 = .ok (.sipush 1000, 3) := by decide +kernel
theorem d_Model_cell_14 : decode b_Model_cell 14 = .ok (.invokestatic 66, 3) := by decide +kernel
theorem d_Model_cell_17 : decode b_Model_cell 17 = .ok (.ifCond .ne 28, 3) := by decide +kernel
theorem d_Model_cell_20 : decode b_Model_cell 20 = .ok (.iload_n 3, 1) := by decide +kernel
theorem d_Model_cell_21 : decode b_Model_cell 21 = .ok (.iconst 0, 1) := by decide +kernel
theorem d_Model_cell_22 : decode b_Model_cell 22 = .ok (.sipush 1000, 3) := by decide +kernel
theorem d_Model_cell_25 : decode b_Model_cell 25 = .ok (.invokestatic 66, 3) := by decide +kernel
theorem d_Model_cell_28 : decode b_Model_cell 28 = .ok (.ifCond .ne 17, 3) := by decide +kernel
theorem d_Model_cell_31 : decode b_Model_cell 31 = .ok (.iload 4, 2) := by decide +kernel
theorem d_Model_cell_33 : decode b_Model_cell 33 = .ok (.iconst 0, 1) := by decide +kernel
theorem d_Model_cell_34 : decode b_Model_cell 34 = .ok (.sipush 1000, 3) := by decide +kernel
theorem d_Model_cell_37 : decode b_Model_cell 37 = .ok (.iload_n 3, 1) := by decide +kernel
theorem d_Model_cell_38 : decode b_Model_cell 38 = .ok (.isub, 1) := by decide +kernel
theorem d_Model_cell_39 : decode b_Model_cell 39 = .ok (.invokestatic 66, 3) := by decide +kernel
theorem d_Model_cell_42 : decode b_Model_cell 42 = .ok (.ifCond .eq 5, 3) := by decide +kernel
theorem d_Model_cell_45 : decode b_Model_cell 45 = .ok (.iconst (-1), 1) := by decide +kernel
theorem d_Model_cell_46 : decode b_Model_cell 46 = .ok (.ireturn, 1) := by decide +kernel
theorem d_Model_cell_47 : decode b_Model_cell 47 = .ok (.aload_n 0, 1) := by decide +kernel
theorem d_Model_cell_48 : decode b_Model_cell 48 = .ok (.invokevirtual 74, 3) := by decide +kernel
theorem d_Model_cell_51 : decode b_Model_cell 51 = .ok (.istore 5, 2) := by decide +kernel
theorem d_Model_cell_53 : decode b_Model_cell 53 = .ok (.aload_n 0, 1) := by decide +kernel
theorem d_Model_cell_54 : decode b_Model_cell 54 = .ok (.getfield 70, 3) := by decide +kernel
theorem d_Model_cell_57 : decode b_Model_cell 57 = .ok (.istore 6, 2) := by decide +kernel
theorem d_Model_cell_59 : decode b_Model_cell 59 = .ok (.aload_n 0, 1) := by decide +kernel
theorem d_Model_cell_60 : decode b_Model_cell 60 = .ok (.iconst 0, 1) := by decide +kernel
theorem d_Model_cell_61 : decode b_Model_cell 61 = .ok (.putfield 70, 3) := by decide +kernel
theorem d_Model_cell_64 : decode b_Model_cell 64 = .ok (.iload 5, 2) := by decide +kernel
theorem d_Model_cell_66 : decode b_Model_cell 66 = .ok (.ifCond .ne 5, 3) := by decide +kernel
theorem d_Model_cell_69 : decode b_Model_cell 69 = .ok (.iconst (-1), 1) := by decide +kernel
theorem d_Model_cell_70 : decode b_Model_cell 70 = .ok (.ireturn, 1) := by decide +kernel
theorem d_Model_cell_71 : decode b_Model_cell 71 = .ok (.iconst 0, 1) := by decide +kernel
theorem d_Model_cell_72 : decode b_Model_cell 72 = .ok (.istore 7, 2) := by decide +kernel
theorem d_Model_cell_74 : decode b_Model_cell 74 = .ok (.iload 7, 2) := by decide +kernel
theorem d_Model_cell_76 : decode b_Model_cell 76 = .ok (.iload 6, 2) := by decide +kernel
theorem d_Model_cell_78 : decode b_Model_cell 78 = .ok (.if_icmp .ge 28, 3) := by decide +kernel
theorem d_Model_cell_81 : decode b_Model_cell 81 = .ok (.aload_n 0, 1) := by decide +kernel
theorem d_Model_cell_82 : decode b_Model_cell 82 = .ok (.getfield 29, 3) := by decide +kernel
theorem d_Model_cell_85 : decode b_Model_cell 85 = .ok (.bipush 8, 2) := by decide +kernel
theorem d_Model_cell_87 : decode b_Model_cell 87 = .ok (.iload_n 1, 1) := by decide +kernel
theorem d_Model_cell_88 : decode b_Model_cell 88 = .ok (.imul, 1) := by decide +kernel
theorem d_Model_cell_89 : decode b_Model_cell 89 = .ok (.iload 7, 2) := by decide +kernel
theorem d_Model_cell_91 : decode b_Model_cell 91 = .ok (.iadd, 1) := by decide +kernel
theorem d_Model_cell_92 : decode b_Model_cell 92 = .ok (.aload_n 0, 1) := by decide +kernel
theorem d_Model_cell_93 : decode b_Model_cell 93 = .ok (.getfield 26, 3) := by decide +kernel
theorem d_Model_cell_96 : decode b_Model_cell 96 = .ok (.iload 7, 2) := by decide +kernel
theorem d_Model_cell_98 : decode b_Model_cell 98 = .ok (.iaload, 1) := by decide +kernel
theorem d_Model_cell_99 : decode b_Model_cell 99 = .ok (.iastore, 1) := by decide +kernel
theorem d_Model_cell_100 : decode b_Model_cell 100 = .ok (.iinc 7 1, 3) := by decide +kernel
theorem d_Model_cell_103 : decode b_Model_cell 103 = .ok (.goto (-29), 3) := by decide +kernel
theorem d_Model_cell_106 : decode b_Model_cell 106 = .ok (.aload_n 0, 1) := by decide +kernel
theorem d_Model_cell_107 : decode b_Model_cell 107 = .ok (.getfield 32, 3) := by decide +kernel
theorem d_Model_cell_110 : decode b_Model_cell 110 = .ok (.iload_n 1, 1) := by decide +kernel
theorem d_Model_cell_111 : decode b_Model_cell 111 = .ok (.iload 6, 2) := by decide +kernel
theorem d_Model_cell_113 : decode b_Model_cell 113 = .ok (.iastore, 1) := by decide +kernel
theorem d_Model_cell_114 : decode b_Model_cell 114 = .ok (.aload_n 0, 1) := by decide +kernel
theorem d_Model_cell_115 : decode b_Model_cell 115 = .ok (.getfield 38, 3) := by decide +kernel
theorem d_Model_cell_118 : decode b_Model_cell 118 = .ok (.iload_n 1, 1) := by decide +kernel
theorem d_Model_cell_119 : decode b_Model_cell 119 = .ok (.iload_n 2, 1) := by decide +kernel
theorem d_Model_cell_120 : decode b_Model_cell 120 = .ok (.iastore, 1) := by decide +kernel
theorem d_Model_cell_121 : decode b_Model_cell 121 = .ok (.aload_n 0, 1) := by decide +kernel
theorem d_Model_cell_122 : decode b_Model_cell 122 = .ok (.getfield 41, 3) := by decide +kernel
theorem d_Model_cell_125 : decode b_Model_cell 125 = .ok (.iload_n 1, 1) := by decide +kernel
theorem d_Model_cell_126 : decode b_Model_cell 126 = .ok (.iload_n 3, 1) := by decide +kernel
theorem d_Model_cell_127 : decode b_Model_cell 127 = .ok (.iastore, 1) := by decide +kernel
theorem d_Model_cell_128 : decode b_Model_cell 128 = .ok (.aload_n 0, 1) := by decide +kernel
theorem d_Model_cell_129 : decode b_Model_cell 129 = .ok (.getfield 44, 3) := by decide +kernel
theorem d_Model_cell_132 : decode b_Model_cell 132 = .ok (.iload_n 1, 1) := by decide +kernel
theorem d_Model_cell_133 : decode b_Model_cell 133 = .ok (.iload 4, 2) := by decide +kernel
theorem d_Model_cell_135 : decode b_Model_cell 135 = .ok (.iastore, 1) := by decide +kernel
theorem d_Model_cell_136 : decode b_Model_cell 136 = .ok (.aload_n 0, 1) := by decide +kernel
theorem d_Model_cell_137 : decode b_Model_cell 137 = .ok (.getfield 35, 3) := by decide +kernel
theorem d_Model_cell_140 : decode b_Model_cell 140 = .ok (.iload_n 1, 1) := by decide +kernel
theorem d_Model_cell_141 : decode b_Model_cell 141 = .ok (.baload, 1) := by decide +kernel
theorem d_Model_cell_142 : decode b_Model_cell 142 = .ok (.ifCond .eq 7, 3) := by decide +kernel
theorem d_Model_cell_145 : decode b_Model_cell 145 = .ok (.iconst 1, 1) := by decide +kernel
theorem d_Model_cell_146 : decode b_Model_cell 146 = .ok (.goto 4, 3) := by decide +kernel
theorem d_Model_cell_149 : decode b_Model_cell 149 = .ok (.iconst 0, 1) := by decide +kernel
theorem d_Model_cell_150 : decode b_Model_cell 150 = .ok (.istore 7, 2) := by decide +kernel
theorem d_Model_cell_152 : decode b_Model_cell 152 = .ok (.aload_n 0, 1) := by decide +kernel
theorem d_Model_cell_153 : decode b_Model_cell 153 = .ok (.getfield 35, 3) := by decide +kernel
theorem d_Model_cell_156 : decode b_Model_cell 156 = .ok (.iload_n 1, 1) := by decide +kernel
theorem d_Model_cell_157 : decode b_Model_cell 157 = .ok (.iconst 1, 1) := by decide +kernel
theorem d_Model_cell_158 : decode b_Model_cell 158 = .ok (.bastore, 1) := by decide +kernel
theorem d_Model_cell_159 : decode b_Model_cell 159 = .ok (.iload 7, 2) := by decide +kernel
theorem d_Model_cell_161 : decode b_Model_cell 161 = .ok (.ireturn, 1) := by decide +kernel
theorem d_Model_undefine_0 : decode b_Model_undefine 0 = .ok (.iload_n 1, 1) := by decide +kernel
theorem d_Model_undefine_1 : decode b_Model_undefine 1 = .ok (.iconst 0, 1) := by decide +kernel
theorem d_Model_undefine_2 : decode b_Model_undefine 2 = .ok (.iconst 5, 1) := by decide +kernel
theorem d_Model_undefine_3 : decode b_Model_undefine 3 = .ok (.invokestatic 66, 3) := by decide +kernel
theorem d_Model_undefine_6 : decode b_Model_undefine 6 = .ok (.ifCond .eq 5, 3) := by decide +kernel
theorem d_Model_undefine_9 : decode b_Model_undefine 9 = .ok (.iconst (-1), 1) := by decide +kernel
theorem d_Model_undefine_10 : decode b_Model_undefine 10 = .ok (.ireturn, 1) := by decide +kernel
theorem d_Model_undefine_11 : decode b_Model_undefine 11 = .ok (.aload_n 0, 1) := by decide +kernel
theorem d_Model_undefine_12 : decode b_Model_undefine 12 = .ok (.getfield 35, 3) := by decide +kernel
theorem d_Model_undefine_15 : decode b_Model_undefine 15 = .ok (.iload_n 1, 1) := by decide +kernel
theorem d_Model_undefine_16 : decode b_Model_undefine 16 = .ok (.baload, 1) := by decide +kernel
theorem d_Model_undefine_17 : decode b_Model_undefine 17 = .ok (.ifCond .eq 7, 3) := by decide +kernel
theorem d_Model_undefine_20 : decode b_Model_undefine 20 = .ok (.iconst 1, 1) := by decide +kernel
theorem d_Model_undefine_21 : decode b_Model_undefine 21 = .ok (.goto 4, 3) := by decide +kernel
theorem d_Model_undefine_24 : decode b_Model_undefine 24 = .ok (.iconst 0, 1) := by decide +kernel
theorem d_Model_undefine_25 : decode b_Model_undefine 25 = .ok (.istore_n 2, 1) := by decide +kernel
theorem d_Model_undefine_26 : decode b_Model_undefine 26 = .ok (.aload_n 0, 1) := by decide +kernel
theorem d_Model_undefine_27 : decode b_Model_undefine 27 = .ok (.getfield 35, 3) := by decide +kernel
theorem d_Model_undefine_30 : decode b_Model_undefine 30 = .ok (.iload_n 1, 1) := by decide +kernel
theorem d_Model_undefine_31 : decode b_Model_undefine 31 = .ok (.iconst 0, 1) := by decide +kernel
theorem d_Model_undefine_32 : decode b_Model_undefine 32 = .ok (.bastore, 1) := by decide +kernel
theorem d_Model_undefine_33 : decode b_Model_undefine 33 = .ok (.iload_n 2, 1) := by decide +kernel
theorem d_Model_undefine_34 : decode b_Model_undefine 34 = .ok (.ireturn, 1) := by decide +kernel
theorem d_Model_source_0 : decode b_Model_source 0 = .ok (.iload_n 1, 1) := by decide +kernel
theorem d_Model_source_1 : decode b_Model_source 1 = .ok (.sipush (-300), 3) := by decide +kernel
theorem d_Model_source_4 : decode b_Model_source 4 = .ok (.sipush 300, 3) := by decide +kernel
theorem d_Model_source_7 : decode b_Model_source 7 = .ok (.invokestatic 66, 3) := by decide +kernel
theorem d_Model_source_10 : decode b_Model_source 10 = .ok (.ifCond .ne 16, 3) := by decide +kernel
theorem d_Model_source_13 : decode b_Model_source 13 = .ok (.iload_n 2, 1) := by decide +kernel
theorem d_Model_source_14 : decode b_Model_source 14 = .ok (.sipush (-300), 3) := by decide +kernel
theorem d_Model_source_17 : decode b_Model_source 17 = .ok (.sipush 300, 3) := by decide +kernel
theorem d_Model_source_20 : decode b_Model_source 20 = .ok (.invokestatic 66, 3) := by decide +kernel
theorem d_Model_source_23 : decode b_Model_source 23 = .ok (.ifCond .eq 5, 3) := by decide +kernel
theorem d_Model_source_26 : decode b_Model_source 26 = .ok (.iconst (-1), 1) := by decide +kernel
theorem d_Model_source_27 : decode b_Model_source 27 = .ok (.ireturn, 1) := by decide +kernel
theorem d_Model_source_28 : decode b_Model_source 28 = .ok (.aload_n 0, 1) := by decide +kernel
theorem d_Model_source_29 : decode b_Model_source 29 = .ok (.iload_n 1, 1) := by decide +kernel
theorem d_Model_source_30 : decode b_Model_source 30 = .ok (.putfield 78, 3) := by decide +kernel
theorem d_Model_source_33 : decode b_Model_source 33 = .ok (.aload_n 0, 1) := by decide +kernel
theorem d_Model_source_34 : decode b_Model_source 34 = .ok (.iload_n 2, 1) := by decide +kernel
theorem d_Model_source_35 : decode b_Model_source 35 = .ok (.putfield 81, 3) := by decide +kernel
theorem d_Model_source_38 : decode b_Model_source 38 = .ok (.iconst 0, 1) := by decide +kernel
theorem d_Model_source_39 : decode b_Model_source 39 = .ok (.ireturn, 1) := by decide +kernel
theorem d_Model_seed_0 : decode b_Model_seed 0 = .ok (.aload_n 0, 1) := by decide +kernel
theorem d_Model_seed_1 : decode b_Model_seed 1 = .ok (.iload_n 1, 1) := by decide +kernel
theorem d_Model_seed_2 : decode b_Model_seed 2 = .ok (.ifCond .ge 12, 3) := by decide +kernel
theorem d_Model_seed_5 : decode b_Model_seed 5 = .ok (.iload_n 1, 1) := by decide +kernel
theorem d_Model_seed_6 : decode b_Model_seed 6 = .ok (.i2l, 1) := by decide +kernel
theorem d_Model_seed_7 : decode b_Model_seed 7 = .ok (.ldc2_w 84, 3) := by decide +kernel
theorem d_Model_seed_10 : decode b_Model_seed 10 = .ok (.ladd, 1) := by decide +kernel
theorem d_Model_seed_11 : decode b_Model_seed 11 = .ok (.goto 5, 3) := by decide +kernel
theorem d_Model_seed_14 : decode b_Model_seed 14 = .ok (.iload_n 1, 1) := by decide +kernel
theorem d_Model_seed_15 : decode b_Model_seed 15 = .ok (.i2l, 1) := by decide +kernel
theorem d_Model_seed_16 : decode b_Model_seed 16 = .ok (.putfield 47, 3) := by decide +kernel
theorem d_Model_seed_19 : decode b_Model_seed 19 = .ok (.return_, 1) := by decide +kernel
theorem d_Model_draw_0 : decode b_Model_draw 0 = .ok (.aload_n 0, 1) := by decide +kernel
theorem d_Model_draw_1 : decode b_Model_draw 1 = .ok (.aload_n 0, 1) := by decide +kernel
theorem d_Model_draw_2 : decode b_Model_draw 2 = .ok (.getfield 47, 3) := by decide +kernel
theorem d_Model_draw_5 : decode b_Model_draw 5 = .ok (.ldc2_w 86, 3) := by decide +kernel
theorem d_Model_draw_8 : decode b_Model_draw 8 = .ok (.lmul, 1) := by decide +kernel
theorem d_Model_draw_9 : decode b_Model_draw 9 = .ok (.ldc2_w 88, 3) := by decide +kernel
theorem d_Model_draw_12 : decode b_Model_draw 12 = .ok (.ladd, 1) := by decide +kernel
theorem d_Model_draw_13 : decode b_Model_draw 13 = .ok (.ldc2_w 84, 3) := by decide +kernel
theorem d_Model_draw_16 : decode b_Model_draw 16 = .ok (.lrem, 1) := by decide +kernel
theorem d_Model_draw_17 : decode b_Model_draw 17 = .ok (.putfield 47, 3) := by decide +kernel
theorem d_Model_draw_20 : decode b_Model_draw 20 = .ok (.aload_n 0, 1) := by decide +kernel
theorem d_Model_draw_21 : decode b_Model_draw 21 = .ok (.getfield 47, 3) := by decide +kernel
theorem d_Model_draw_24 : decode b_Model_draw 24 = .ok (.ldc2_w 90, 3) := by decide +kernel
theorem d_Model_draw_27 : decode b_Model_draw 27 = .ok (.ldiv, 1) := by decide +kernel
theorem d_Model_draw_28 : decode b_Model_draw 28 = .ok (.iload_n 1, 1) := by decide +kernel
theorem d_Model_draw_29 : decode b_Model_draw 29 = .ok (.i2l, 1) := by decide +kernel
theorem d_Model_draw_30 : decode b_Model_draw 30 = .ok (.lrem, 1) := by decide +kernel
theorem d_Model_draw_31 : decode b_Model_draw 31 = .ok (.l2i, 1) := by decide +kernel
theorem d_Model_draw_32 : decode b_Model_draw 32 = .ok (.ireturn, 1) := by decide +kernel
theorem d_Model_skip_0 : decode b_Model_skip 0 = .ok (.iload_n 1, 1) := by decide +kernel
theorem d_Model_skip_1 : decode b_Model_skip 1 = .ok (.iconst 0, 1) := by decide +kernel
theorem d_Model_skip_2 : decode b_Model_skip 2 = .ok (.ldc 92, 2) := by decide +kernel
theorem d_Model_skip_4 : decode b_Model_skip 4 = .ok (.invokestatic 66, 3) := by decide +kernel
theorem d_Model_skip_7 : decode b_Model_skip 7 = .ok (.ifCond .eq 5, 3) := by decide +kernel
theorem d_Model_skip_10 : decode b_Model_skip 10 = .ok (.iconst (-1), 1) := by decide +kernel
theorem d_Model_skip_11 : decode b_Model_skip 11 = .ok (.ireturn, 1) := by decide +kernel
theorem d_Model_skip_12 : decode b_Model_skip 12 = .ok (.iconst 0, 1) := by decide +kernel
theorem d_Model_skip_13 : decode b_Model_skip 13 = .ok (.istore_n 2, 1) := by decide +kernel
theorem d_Model_skip_14 : decode b_Model_skip 14 = .ok (.iconst 0, 1) := by decide +kernel
theorem d_Model_skip_15 : decode b_Model_skip 15 = .ok (.istore_n 3, 1) := by decide +kernel
theorem d_Model_skip_16 : decode b_Model_skip 16 = .ok (.iload_n 3, 1) := by decide +kernel
theorem d_Model_skip_17 : decode b_Model_skip 17 = .ok (.iload_n 1, 1) := by decide +kernel
theorem d_Model_skip_18 : decode b_Model_skip 18 = .ok (.if_icmp .ge 15, 3) := by decide +kernel
theorem d_Model_skip_21 : decode b_Model_skip 21 = .ok (.aload_n 0, 1) := by decide +kernel
theorem d_Model_skip_22 : decode b_Model_skip 22 = .ok (.iconst 2, 1) := by decide +kernel
theorem d_Model_skip_23 : decode b_Model_skip 23 = .ok (.invokevirtual 93, 3) := by decide +kernel
theorem d_Model_skip_26 : decode b_Model_skip 26 = .ok (.istore_n 2, 1) := by decide +kernel
theorem d_Model_skip_27 : decode b_Model_skip 27 = .ok (.iinc 3 1, 3) := by decide +kernel
theorem d_Model_skip_30 : decode b_Model_skip 30 = .ok (.goto (-14), 3) := by decide +kernel
theorem d_Model_skip_33 : decode b_Model_skip 33 = .ok (.iload_n 2, 1) := by decide +kernel
theorem d_Model_skip_34 : decode b_Model_skip 34 = .ok (.ifCond .ge 7, 3) := by decide +kernel
theorem d_Model_skip_37 : decode b_Model_skip 37 = .ok (.iconst (-1), 1) := by decide +kernel
theorem d_Model_skip_38 : decode b_Model_skip 38 = .ok (.goto 8, 3) := by decide +kernel
theorem d_Model_skip_41 : decode b_Model_skip 41 = .ok (.aload_n 0, 1) := by decide +kernel
theorem d_Model_skip_42 : decode b_Model_skip 42 = .ok (.getfield 47, 3) := by decide +kernel
theorem d_Model_skip_45 : decode b_Model_skip 45 = .ok (.l2i, 1) := by decide +kernel
theorem d_Model_skip_46 : decode b_Model_skip 46 = .ok (.ireturn, 1) := by decide +kernel
theorem d_Model_state_0 : decode b_Model_state 0 = .ok (.aload_n 0, 1) := by decide +kernel
theorem d_Model_state_1 : decode b_Model_state 1 = .ok (.getfield 47, 3) := by decide +kernel
theorem d_Model_state_4 : decode b_Model_state 4 = .ok (.l2i, 1) := by decide +kernel
theorem d_Model_state_5 : decode b_Model_state 5 = .ok (.ireturn, 1) := by decide +kernel
theorem d_Model_holds_0 : decode b_Model_holds 0 = .ok (.aload_n 0, 1) := by decide +kernel
theorem d_Model_holds_1 : decode b_Model_holds 1 = .ok (.getfield 22, 3) := by decide +kernel
theorem d_Model_holds_4 : decode b_Model_holds 4 = .ok (.iload_n 1, 1) := by decide +kernel
theorem d_Model_holds_5 : decode b_Model_holds 5 = .ok (.baload, 1) := by decide +kernel
theorem d_Model_holds_6 : decode b_Model_holds 6 = .ok (.ifCond .ne 5, 3) := by decide +kernel
theorem d_Model_holds_9 : decode b_Model_holds 9 = .ok (.iconst 0, 1) := by decide +kernel
theorem d_Model_holds_10 : decode b_Model_holds 10 = .ok (.ireturn, 1) := by decide +kernel
theorem d_Model_holds_11 : decode b_Model_holds 11 = .ok (.aload_n 0, 1) := by decide +kernel
theorem d_Model_holds_12 : decode b_Model_holds 12 = .ok (.getfield 7, 3) := by decide +kernel
theorem d_Model_holds_15 : decode b_Model_holds 15 = .ok (.iload_n 1, 1) := by decide +kernel
theorem d_Model_holds_16 : decode b_Model_holds 16 = .ok (.iaload, 1) := by decide +kernel
theorem d_Model_holds_17 : decode b_Model_holds 17 = .ok (.ifCond .ne 35, 3) := by decide +kernel
theorem d_Model_holds_20 : decode b_Model_holds 20 = .ok (.aload_n 0, 1) := by decide +kernel
theorem d_Model_holds_21 : decode b_Model_holds 21 = .ok (.getfield 13, 3) := by decide +kernel
theorem d_Model_holds_24 : decode b_Model_holds 24 = .ok (.iload_n 1, 1) := by decide +kernel
theorem d_Model_holds_25 : decode b_Model_holds 25 = .ok (.iaload, 1) := by decide +kernel
theorem d_Model_holds_26 : decode b_Model_holds 26 = .ok (.iload_n 2, 1) := by decide +kernel
theorem d_Model_holds_27 : decode b_Model_holds 27 = .ok (.imul, 1) := by decide +kernel
theorem d_Model_holds_28 : decode b_Model_holds 28 = .ok (.aload_n 0, 1) := by decide +kernel
theorem d_Model_holds_29 : decode b_Model_holds 29 = .ok (.getfield 16, 3) := by decide +kernel
theorem d_Model_holds_32 : decode b_Model_holds 32 = .ok (.iload_n 1, 1) := by decide +kernel
theorem d_Model_holds_33 : decode b_Model_holds 33 = .ok (.iaload, 1) := by decide +kernel
theorem d_Model_holds_34 : decode b_Model_holds 34 = .ok (.iload_n 3, 1) := by decide +kernel
theorem d_Model_holds_35 : decode b_Model_holds 35 = .ok (.imul, 1) := by decide +kernel
theorem d_Model_holds_36 : decode b_Model_holds 36 = .ok (.iadd, 1) := by decide +kernel
theorem d_Model_holds_37 : decode b_Model_holds 37 = .ok (.aload_n 0, 1) := by decide +kernel
theorem d_Model_holds_38 : decode b_Model_holds 38 = .ok (.getfield 19, 3) := by decide +kernel
theorem d_Model_holds_41 : decode b_Model_holds 41 = .ok (.iload_n 1, 1) := by decide +kernel
theorem d_Model_holds_42 : decode b_Model_holds 42 = .ok (.iaload, 1) := by decide +kernel
theorem d_Model_holds_43 : decode b_Model_holds 43 = .ok (.if_icmp .gt 7, 3) := by decide +kernel
theorem d_Model_holds_46 : decode b_Model_holds 46 = .ok (.iconst 1, 1) := by decide +kernel
theorem d_Model_holds_47 : decode b_Model_holds 47 = .ok (.goto 4, 3) := by decide +kernel
theorem d_Model_holds_50 : decode b_Model_holds 50 = .ok (.iconst 0, 1) := by decide +kernel
theorem d_Model_holds_51 : decode b_Model_holds 51 = .ok (.ireturn, 1) := by decide +kernel
theorem d_Model_holds_52 : decode b_Model_holds 52 = .ok (.iload_n 2, 1) := by decide +kernel
theorem d_Model_holds_53 : decode b_Model_holds 53 = .ok (.aload_n 0, 1) := by decide +kernel
theorem d_Model_holds_54 : decode b_Model_holds 54 = .ok (.getfield 13, 3) := by decide +kernel
theorem d_Model_holds_57 : decode b_Model_holds 57 = .ok (.iload_n 1, 1) := by decide +kernel
theorem d_Model_holds_58 : decode b_Model_holds 58 = .ok (.iaload, 1) := by decide +kernel
theorem d_Model_holds_59 : decode b_Model_holds 59 = .ok (.isub, 1) := by decide +kernel
theorem d_Model_holds_60 : decode b_Model_holds 60 = .ok (.istore 4, 2) := by decide +kernel
theorem d_Model_holds_62 : decode b_Model_holds 62 = .ok (.iload_n 3, 1) := by decide +kernel
theorem d_Model_holds_63 : decode b_Model_holds 63 = .ok (.aload_n 0, 1) := by decide +kernel
theorem d_Model_holds_64 : decode b_Model_holds 64 = .ok (.getfield 16, 3) := by decide +kernel
theorem d_Model_holds_67 : decode b_Model_holds 67 = .ok (.iload_n 1, 1) := by decide +kernel
theorem d_Model_holds_68 : decode b_Model_holds 68 = .ok (.iaload, 1) := by decide +kernel
theorem d_Model_holds_69 : decode b_Model_holds 69 = .ok (.isub, 1) := by decide +kernel
theorem d_Model_holds_70 : decode b_Model_holds 70 = .ok (.istore 5, 2) := by decide +kernel
theorem d_Model_holds_72 : decode b_Model_holds 72 = .ok (.iload 4, 2) := by decide +kernel
theorem d_Model_holds_74 : decode b_Model_holds 74 = .ok (.iload 4, 2) := by decide +kernel
theorem d_Model_holds_76 : decode b_Model_holds 76 = .ok (.imul, 1) := by decide +kernel
theorem d_Model_holds_77 : decode b_Model_holds 77 = .ok (.iload 5, 2) := by decide +kernel
theorem d_Model_holds_79 : decode b_Model_holds 79 = .ok (.iload 5, 2) := by decide +kernel
theorem d_Model_holds_81 : decode b_Model_holds 81 = .ok (.imul, 1) := by decide +kernel
theorem d_Model_holds_82 : decode b_Model_holds 82 = .ok (.iadd, 1) := by decide +kernel
theorem d_Model_holds_83 : decode b_Model_holds 83 = .ok (.aload_n 0, 1) := by decide +kernel
theorem d_Model_holds_84 : decode b_Model_holds 84 = .ok (.getfield 19, 3) := by decide +kernel
theorem d_Model_holds_87 : decode b_Model_holds 87 = .ok (.iload_n 1, 1) := by decide +kernel
theorem d_Model_holds_88 : decode b_Model_holds 88 = .ok (.iaload, 1) := by decide +kernel
theorem d_Model_holds_89 : decode b_Model_holds 89 = .ok (.aload_n 0, 1) := by decide +kernel
theorem d_Model_holds_90 : decode b_Model_holds 90 = .ok (.getfield 19, 3) := by decide +kernel
theorem d_Model_holds_93 : decode b_Model_holds 93 = .ok (.iload_n 1, 1) := by decide +kernel
theorem d_Model_holds_94 : decode b_Model_holds 94 = .ok (.iaload, 1) := by decide +kernel
theorem d_Model_holds_95 : decode b_Model_holds 95 = .ok (.imul, 1) := by decide +kernel
theorem d_Model_holds_96 : decode b_Model_holds 96 = .ok (.if_icmp .gt 7, 3) := by decide +kernel
theorem d_Model_holds_99 : decode b_Model_holds 99 = .ok (.iconst 1, 1) := by decide +kernel
theorem d_Model_holds_100 : decode b_Model_holds 100 = .ok (.goto 4, 3) := by decide +kernel
theorem d_Model_holds_103 : decode b_Model_holds 103 = .ok (.iconst 0, 1) := by decide +kernel
theorem d_Model_holds_104 : decode b_Model_holds 104 = .ok (.ireturn, 1) := by decide +kernel
theorem d_Model_inside_0 : decode b_Model_inside 0 = .ok (.iconst 0, 1) := by decide +kernel
theorem d_Model_inside_1 : decode b_Model_inside 1 = .ok (.istore 4, 2) := by decide +kernel
theorem d_Model_inside_3 : decode b_Model_inside 3 = .ok (.bipush 8, 2) := by decide +kernel
theorem d_Model_inside_5 : decode b_Model_inside 5 = .ok (.iload_n 1, 1) := by decide +kernel
theorem d_Model_inside_6 : decode b_Model_inside 6 = .ok (.imul, 1) := by decide +kernel
theorem d_Model_inside_7 : decode b_Model_inside 7 = .ok (.istore 5, 2) := by decide +kernel
theorem d_Model_inside_9 : decode b_Model_inside 9 = .ok (.iload 5, 2) := by decide +kernel
theorem d_Model_inside_11 : decode b_Model_inside 11 = .ok (.bipush 8, 2) := by decide +kernel
theorem d_Model_inside_13 : decode b_Model_inside 13 = .ok (.iload_n 1, 1) := by decide +kernel
theorem d_Model_inside_14 : decode b_Model_inside 14 = .ok (.imul, 1) := by decide +kernel
theorem d_Model_inside_15 : decode b_Model_inside 15 = .ok (.aload_n 0, 1) := by decide +kernel
theorem d_Model_inside_16 : decode b_Model_inside 16 = .ok (.getfield 32, 3) := by decide +kernel
theorem d_Model_inside_19 : decode b_Model_inside 19 = .ok (.iload_n 1, 1) := by decide +kernel
theorem d_Model_inside_20 : decode b_Model_inside 20 = .ok (.iaload, 1) := by decide +kernel
theorem d_Model_inside_21 : decode b_Model_inside 21 = .ok (.iadd, 1) := by decide +kernel
theorem d_Model_inside_22 : decode b_Model_inside 22 = .ok (.if_icmp .ge 110, 3) := by decide +kernel
theorem d_Model_inside_25 : decode b_Model_inside 25 = .ok (.aload_n 0, 1) := by decide +kernel
theorem d_Model_inside_26 : decode b_Model_inside 26 = .ok (.getfield 29, 3) := by decide +kernel
theorem d_Model_inside_29 : decode b_Model_inside 29 = .ok (.iload 5, 2) := by decide +kernel
theorem d_Model_inside_31 : decode b_Model_inside 31 = .ok (.iaload, 1) := by decide +kernel
theorem d_Model_inside_32 : decode b_Model_inside 32 = .ok (.istore 6, 2) := by decide +kernel
theorem d_Model_inside_34 : decode b_Model_inside 34 = .ok (.iload 6, 2) := by decide +kernel
theorem d_Model_inside_36 : decode b_Model_inside 36 = .ok (.bipush 8, 2) := by decide +kernel
theorem d_Model_inside_38 : decode b_Model_inside 38 = .ok (.if_icmp .ge 29, 3) := by decide +kernel
theorem d_Model_inside_41 : decode b_Model_inside 41 = .ok (.iload 4, 2) := by decide +kernel
theorem d_Model_inside_43 : decode b_Model_inside 43 = .ok (.iconst 2, 1) := by decide +kernel
theorem d_Model_inside_44 : decode b_Model_inside 44 = .ok (.imul, 1) := by decide +kernel
theorem d_Model_inside_45 : decode b_Model_inside 45 = .ok (.aload_n 0, 1) := by decide +kernel
theorem d_Model_inside_46 : decode b_Model_inside 46 = .ok (.iload 6, 2) := by decide +kernel
theorem d_Model_inside_48 : decode b_Model_inside 48 = .ok (.iload_n 2, 1) := by decide +kernel
theorem d_Model_inside_49 : decode b_Model_inside 49 = .ok (.iload_n 3, 1) := by decide +kernel
theorem d_Model_inside_50 : decode b_Model_inside 50 = .ok (.invokevirtual 97, 3) := by decide +kernel
theorem d_Model_inside_53 : decode b_Model_inside 53 = .ok (.ifCond .eq 7, 3) := by decide +kernel
theorem d_Model_inside_56 : decode b_Model_inside 56 = .ok (.iconst 1, 1) := by decide +kernel
theorem d_Model_inside_57 : decode b_Model_inside 57 = .ok (.goto 4, 3) := by decide +kernel
theorem d_Model_inside_60 : decode b_Model_inside 60 = .ok (.iconst 0, 1) := by decide +kernel
theorem d_Model_inside_61 : decode b_Model_inside 61 = .ok (.iadd, 1) := by decide +kernel
theorem d_Model_inside_62 : decode b_Model_inside 62 = .ok (.istore 4, 2) := by decide +kernel
theorem d_Model_inside_64 : decode b_Model_inside 64 = .ok (.goto 62, 3) := by decide +kernel
theorem d_Model_inside_67 : decode b_Model_inside 67 = .ok (.iload 6, 2) := by decide +kernel
theorem d_Model_inside_69 : decode b_Model_inside 69 = .ok (.bipush 10, 2) := by decide +kernel
theorem d_Model_inside_71 : decode b_Model_inside 71 = .ok (.if_icmp .ne 12, 3) := by decide +kernel
theorem d_Model_inside_74 : decode b_Model_inside 74 = .ok (.iload 4, 2) := by decide +kernel
theorem d_Model_inside_76 : decode b_Model_inside 76 = .ok (.iconst 1, 1) := by decide +kernel
theorem d_Model_inside_77 : decode b_Model_inside 77 = .ok (.ixor, 1) := by decide +kernel
theorem d_Model_inside_78 : decode b_Model_inside 78 = .ok (.istore 4, 2) := by decide +kernel
theorem d_Model_inside_80 : decode b_Model_inside 80 = .ok (.goto 46, 3) := by decide +kernel
theorem d_Model_inside_83 : decode b_Model_inside 83 = .ok (.iload 4, 2) := by decide +kernel
theorem d_Model_inside_85 : decode b_Model_inside 85 = .ok (.iconst 1, 1) := by decide +kernel
theorem d_Model_inside_86 : decode b_Model_inside 86 = .ok (.iand, 1) := by decide +kernel
theorem d_Model_inside_87 : decode b_Model_inside 87 = .ok (.istore 7, 2) := by decide +kernel
theorem d_Model_inside_89 : decode b_Model_inside 89 = .ok (.iload 4, 2) := by decide +kernel
theorem d_Model_inside_91 : decode b_Model_inside 91 = .ok (.iconst 1, 1) := by decide +kernel
theorem d_Model_inside_92 : decode b_Model_inside 92 = .ok (.ishr, 1) := by decide +kernel
theorem d_Model_inside_93 : decode b_Model_inside 93 = .ok (.iconst 1, 1) := by decide +kernel
theorem d_Model_inside_94 : decode b_Model_inside 94 = .ok (.iand, 1) := by decide +kernel
theorem d_Model_inside_95 : decode b_Model_inside 95 = .ok (.istore 8, 2) := by decide +kernel
theorem d_Model_inside_97 : decode b_Model_inside 97 = .ok (.iload 4, 2) := by decide +kernel
theorem d_Model_inside_99 : decode b_Model_inside 99 = .ok (.iconst 2, 1) := by decide +kernel
theorem d_Model_inside_100 : decode b_Model_inside 100 = .ok (.ishr, 1) := by decide +kernel
theorem d_Model_inside_101 : decode b_Model_inside 101 = .ok (.iconst 1, 1) := by decide +kernel
theorem d_Model_inside_102 : decode b_Model_inside 102 = .ok (.ishl, 1) := by decide +kernel
theorem d_Model_inside_103 : decode b_Model_inside 103 = .ok (.iload 6, 2) := by decide +kernel
theorem d_Model_inside_105 : decode b_Model_inside 105 = .ok (.bipush 8, 2) := by decide +kernel
theorem d_Model_inside_107 : decode b_Model_inside 107 = .ok (.if_icmp .ne 11, 3) := by decide +kernel
theorem d_Model_inside_110 : decode b_Model_inside 110 = .ok (.iload 7, 2) := by decide +kernel
theorem d_Model_inside_112 : decode b_Model_inside 112 = .ok (.iload 8, 2) := by decide +kernel
theorem d_Model_inside_114 : decode b_Model_inside 114 = .ok (.iand, 1) := by decide +kernel
theorem d_Model_inside_115 : decode b_Model_inside 115 = .ok (.goto 8, 3) := by decide +kernel
theorem d_Model_inside_118 : decode b_Model_inside 118 = .ok (.iload 7, 2) := by decide +kernel
theorem d_Model_inside_120 : decode b_Model_inside 120 = .ok (.iload 8, 2) := by decide +kernel
theorem d_Model_inside_122 : decode b_Model_inside 122 = .ok (.ior, 1) := by decide +kernel
theorem d_Model_inside_123 : decode b_Model_inside 123 = .ok (.ior, 1) := by decide +kernel
theorem d_Model_inside_124 : decode b_Model_inside 124 = .ok (.istore 4, 2) := by decide +kernel
theorem d_Model_inside_126 : decode b_Model_inside 126 = .ok (.iinc 5 1, 3) := by decide +kernel
theorem d_Model_inside_129 : decode b_Model_inside 129 = .ok (.goto (-120), 3) := by decide +kernel
theorem d_Model_inside_132 : decode b_Model_inside 132 = .ok (.iload 4, 2) := by decide +kernel
theorem d_Model_inside_134 : decode b_Model_inside 134 = .ok (.iconst 1, 1) := by decide +kernel
theorem d_Model_inside_135 : decode b_Model_inside 135 = .ok (.if_icmp .ne 7, 3) := by decide +kernel
theorem d_Model_inside_138 : decode b_Model_inside 138 = .ok (.iconst 1, 1) := by decide +kernel
theorem d_Model_inside_139 : decode b_Model_inside 139 = .ok (.goto 4, 3) := by decide +kernel
theorem d_Model_inside_142 : decode b_Model_inside 142 = .ok (.iconst 0, 1) := by decide +kernel
theorem d_Model_inside_143 : decode b_Model_inside 143 = .ok (.ireturn, 1) := by decide +kernel
theorem d_Model_at_0 : decode b_Model_at 0 = .ok (.iconst 0, 1) := by decide +kernel
theorem d_Model_at_1 : decode b_Model_at 1 = .ok (.istore_n 3, 1) := by decide +kernel
theorem d_Model_at_2 : decode b_Model_at 2 = .ok (.iload_n 3, 1) := by decide +kernel
theorem d_Model_at_3 : decode b_Model_at 3 = .ok (.bipush 6, 2) := by decide +kernel
theorem d_Model_at_5 : decode b_Model_at 5 = .ok (.if_icmp .ge 30, 3) := by decide +kernel
theorem d_Model_at_8 : decode b_Model_at 8 = .ok (.aload_n 0, 1) := by decide +kernel
theorem d_Model_at_9 : decode b_Model_at 9 = .ok (.getfield 35, 3) := by decide +kernel
theorem d_Model_at_12 : decode b_Model_at 12 = .ok (.iload_n 3, 1) := by decide +kernel
theorem d_Model_at_13 : decode b_Model_at 13 = .ok (.baload, 1) := by decide +kernel
theorem d_Model_at_14 : decode b_Model_at 14 = .ok (.ifCond .eq 15, 3) := by decide +kernel
theorem d_Model_at_17 : decode b_Model_at 17 = .ok (.aload_n 0, 1) := by decide +kernel
theorem d_Model_at_18 : decode b_Model_at 18 = .ok (.iload_n 3, 1) := by decide +kernel
theorem d_Model_at_19 : decode b_Model_at 19 = .ok (.iload_n 1, 1) := by decide +kernel
theorem d_Model_at_20 : decode b_Model_at 20 = .ok (.iload_n 2, 1) := by decide +kernel
theorem d_Model_at_21 : decode b_Model_at 21 = .ok (.invokevirtual 100, 3) := by decide +kernel
theorem d_Model_at_24 : decode b_Model_at 24 = .ok (.ifCond .eq 5, 3) := by decide +kernel
theorem d_Model_at_27 : decode b_Model_at 27 = .ok (.iload_n 3, 1) := by decide +kernel
theorem d_Model_at_28 : decode b_Model_at 28 = .ok (.ireturn, 1) := by decide +kernel
theorem d_Model_at_29 : decode b_Model_at 29 = .ok (.iinc 3 1, 3) := by decide +kernel
theorem d_Model_at_32 : decode b_Model_at 32 = .ok (.goto (-30), 3) := by decide +kernel
theorem d_Model_at_35 : decode b_Model_at 35 = .ok (.bipush 6, 2) := by decide +kernel
theorem d_Model_at_37 : decode b_Model_at 37 = .ok (.ireturn, 1) := by decide +kernel
theorem d_Model_stepX_0 : decode b_Model_stepX 0 = .ok (.iload_n 0, 1) := by decide +kernel
theorem d_Model_stepX_1 : decode b_Model_stepX 1 = .ok (.ifCond .eq 14, 3) := by decide +kernel
theorem d_Model_stepX_4 : decode b_Model_stepX 4 = .ok (.iload_n 0, 1) := by decide +kernel
theorem d_Model_stepX_5 : decode b_Model_stepX 5 = .ok (.iconst 1, 1) := by decide +kernel
theorem d_Model_stepX_6 : decode b_Model_stepX 6 = .ok (.if_icmp .eq 9, 3) := by decide +kernel
theorem d_Model_stepX_9 : decode b_Model_stepX 9 = .ok (.iload_n 0, 1) := by decide +kernel
theorem d_Model_stepX_10 : decode b_Model_stepX 10 = .ok (.bipush 7, 2) := by decide +kernel
theorem d_Model_stepX_12 : decode b_Model_stepX 12 = .ok (.if_icmp .ne 7, 3) := by decide +kernel
theorem d_Model_stepX_15 : decode b_Model_stepX 15 = .ok (.iconst 1, 1) := by decide +kernel
theorem d_Model_stepX_16 : decode b_Model_stepX 16 = .ok (.goto 19, 3) := by decide +kernel
theorem d_Model_stepX_19 : decode b_Model_stepX 19 = .ok (.iload_n 0, 1) := by decide +kernel
theorem d_Model_stepX_20 : decode b_Model_stepX 20 = .ok (.iconst 2, 1) := by decide +kernel
theorem d_Model_stepX_21 : decode b_Model_stepX 21 = .ok (.if_icmp .eq 9, 3) := by decide +kernel
theorem d_Model_stepX_24 : decode b_Model_stepX 24 = .ok (.iload_n 0, 1) := by decide +kernel
theorem d_Model_stepX_25 : decode b_Model_stepX 25 = .ok (.bipush 6, 2) := by decide +kernel
theorem d_Model_stepX_27 : decode b_Model_stepX 27 = .ok (.if_icmp .ne 7, 3) := by decide +kernel
theorem d_Model_stepX_30 : decode b_Model_stepX 30 = .ok (.iconst 0, 1) := by decide +kernel
theorem d_Model_stepX_31 : decode b_Model_stepX 31 = .ok (.goto 4, 3) := by decide +kernel
theorem d_Model_stepX_34 : decode b_Model_stepX 34 = .ok (.iconst (-1), 1) := by decide +kernel
theorem d_Model_stepX_35 : decode b_Model_stepX 35 = .ok (.ireturn, 1) := by decide +kernel
theorem d_Model_stepY_0 : decode b_Model_stepY 0 = .ok (.iload_n 0, 1) := by decide +kernel
theorem d_Model_stepY_1 : decode b_Model_stepY 1 = .ok (.ifCond .eq 8, 3) := by decide +kernel
theorem d_Model_stepY_4 : decode b_Model_stepY 4 = .ok (.iload_n 0, 1) := by decide +kernel
theorem d_Model_stepY_5 : decode b_Model_stepY 5 = .ok (.iconst 4, 1) := by decide +kernel
theorem d_Model_stepY_6 : decode b_Model_stepY 6 = .ok (.if_icmp .ne 7, 3) := by decide +kernel
theorem d_Model_stepY_9 : decode b_Model_stepY 9 = .ok (.iconst 0, 1) := by decide +kernel
theorem d_Model_stepY_10 : decode b_Model_stepY 10 = .ok (.goto 13, 3) := by decide +kernel
theorem d_Model_stepY_13 : decode b_Model_stepY 13 = .ok (.iload_n 0, 1) := by decide +kernel
theorem d_Model_stepY_14 : decode b_Model_stepY 14 = .ok (.iconst 4, 1) := by decide +kernel
theorem d_Model_stepY_15 : decode b_Model_stepY 15 = .ok (.if_icmp .ge 7, 3) := by decide +kernel
theorem d_Model_stepY_18 : decode b_Model_stepY 18 = .ok (.iconst 1, 1) := by decide +kernel
theorem d_Model_stepY_19 : decode b_Model_stepY 19 = .ok (.goto 4, 3) := by decide +kernel
theorem d_Model_stepY_22 : decode b_Model_stepY 22 = .ok (.iconst (-1), 1) := by decide +kernel
theorem d_Model_stepY_23 : decode b_Model_stepY 23 = .ok (.ireturn, 1) := by decide +kernel
theorem d_Model_where_0 : decode b_Model_where 0 = .ok (.iload_n 1, 1) := by decide +kernel
theorem d_Model_where_1 : decode b_Model_where 1 = .ok (.sipush (-1000), 3) := by decide +kernel
theorem d_Model_where_4 : decode b_Model_where 4 = .ok (.sipush 1000, 3) := by decide +kernel
theorem d_Model_where_7 : decode b_Model_where 7 = .ok (.invokestatic 66, 3) := by decide +kernel
theorem d_Model_where_10 : decode b_Model_where 10 = .ok (.ifCond .ne 16, 3) := by decide +kernel
theorem d_Model_where_13 : decode b_Model_where 13 = .ok (.iload_n 2, 1) := by decide +kernel
theorem d_Model_where_14 : decode b_Model_where 14 = .ok (.sipush (-1000), 3) := by decide +kernel
theorem d_Model_where_17 : decode b_Model_where 17 = .ok (.sipush 1000, 3) := by decide +kernel
theorem d_Model_where_20 : decode b_Model_where 20 = .ok (.invokestatic 66, 3) := by decide +kernel
theorem d_Model_where_23 : decode b_Model_where 23 = .ok (.ifCond .eq 5, 3) := by decide +kernel
theorem d_Model_where_26 : decode b_Model_where 26 = .ok (.iconst (-1), 1) := by decide +kernel
theorem d_Model_where_27 : decode b_Model_where 27 = .ok (.ireturn, 1) := by decide +kernel
theorem d_Model_where_28 : decode b_Model_where 28 = .ok (.aload_n 0, 1) := by decide +kernel
theorem d_Model_where_29 : decode b_Model_where 29 = .ok (.iload_n 1, 1) := by decide +kernel
theorem d_Model_where_30 : decode b_Model_where 30 = .ok (.iload_n 2, 1) := by decide +kernel
theorem d_Model_where_31 : decode b_Model_where 31 = .ok (.invokevirtual 103, 3) := by decide +kernel
theorem d_Model_where_34 : decode b_Model_where 34 = .ok (.ireturn, 1) := by decide +kernel
theorem d_Model_reach_0 : decode b_Model_reach 0 = .ok (.iload_n 1, 1) := by decide +kernel
theorem d_Model_reach_1 : decode b_Model_reach 1 = .ok (.sipush (-1000), 3) := by decide +kernel
theorem d_Model_reach_4 : decode b_Model_reach 4 = .ok (.sipush 1000, 3) := by decide +kernel
theorem d_Model_reach_7 : decode b_Model_reach 7 = .ok (.invokestatic 66, 3) := by decide +kernel
theorem d_Model_reach_10 : decode b_Model_reach 10 = .ok (.ifCond .ne 26, 3) := by decide +kernel
theorem d_Model_reach_13 : decode b_Model_reach 13 = .ok (.iload_n 2, 1) := by decide +kernel
theorem d_Model_reach_14 : decode b_Model_reach 14 = .ok (.sipush (-1000), 3) := by decide +kernel
theorem d_Model_reach_17 : decode b_Model_reach 17 = .ok (.sipush 1000, 3) := by decide +kernel
theorem d_Model_reach_20 : decode b_Model_reach 20 = .ok (.invokestatic 66, 3) := by decide +kernel
theorem d_Model_reach_23 : decode b_Model_reach 23 = .ok (.ifCond .ne 13, 3) := by decide +kernel
theorem d_Model_reach_26 : decode b_Model_reach 26 = .ok (.iload_n 3, 1) := by decide +kernel
theorem d_Model_reach_27 : decode b_Model_reach 27 = .ok (.iconst 0, 1) := by decide +kernel
theorem d_Model_reach_28 : decode b_Model_reach 28 = .ok (.bipush 7, 2) := by decide +kernel
theorem d_Model_reach_30 : decode b_Model_reach 30 = .ok (.invokestatic 66, 3) := by decide +kernel
theorem d_Model_reach_33 : decode b_Model_reach 33 = .ok (.ifCond .eq 5, 3) := by decide +kernel
theorem d_Model_reach_36 : decode b_Model_reach 36 = .ok (.iconst (-1), 1) := by decide +kernel
theorem d_Model_reach_37 : decode b_Model_reach 37 = .ok (.ireturn, 1) := by decide +kernel
theorem d_Model_reach_38 : decode b_Model_reach 38 = .ok (.aload_n 0, 1) := by decide +kernel
theorem d_Model_reach_39 : decode b_Model_reach 39 = .ok (.iload_n 1, 1) := by decide +kernel
theorem d_Model_reach_40 : decode b_Model_reach 40 = .ok (.iload_n 2, 1) := by decide +kernel
theorem d_Model_reach_41 : decode b_Model_reach 41 = .ok (.invokevirtual 103, 3) := by decide +kernel
theorem d_Model_reach_44 : decode b_Model_reach 44 = .ok (.istore 4, 2) := by decide +kernel
theorem d_Model_reach_46 : decode b_Model_reach 46 = .ok (.iconst 0, 1) := by decide +kernel
theorem d_Model_reach_47 : decode b_Model_reach 47 = .ok (.istore 5, 2) := by decide +kernel
theorem d_Model_reach_49 : decode b_Model_reach 49 = .ok (.iload 5, 2) := by decide +kernel
theorem d_Model_reach_51 : decode b_Model_reach 51 = .ok (.sipush 200, 3) := by decide +kernel
theorem d_Model_reach_54 : decode b_Model_reach 54 = .ok (.if_icmp .ge 40, 3) := by decide +kernel
theorem d_Model_reach_57 : decode b_Model_reach 57 = .ok (.aload_n 0, 1) := by decide +kernel
theorem d_Model_reach_58 : decode b_Model_reach 58 = .ok (.iload_n 1, 1) := by decide +kernel
theorem d_Model_reach_59 : decode b_Model_reach 59 = .ok (.iload 5, 2) := by decide +kernel
theorem d_Model_reach_61 : decode b_Model_reach 61 = .ok (.iconst 1, 1) := by decide +kernel
theorem d_Model_reach_62 : decode b_Model_reach 62 = .ok (.iadd, 1) := by decide +kernel
theorem d_Model_reach_63 : decode b_Model_reach 63 = .ok (.iload_n 3, 1) := by decide +kernel
theorem d_Model_reach_64 : decode b_Model_reach 64 = .ok (.invokestatic 107, 3) := by decide +kernel
theorem d_Model_reach_67 : decode b_Model_reach 67 = .ok (.imul, 1) := by decide +kernel
theorem d_Model_reach_68 : decode b_Model_reach 68 = .ok (.iadd, 1) := by decide +kernel
theorem d_Model_reach_69 : decode b_Model_reach 69 = .ok (.iload_n 2, 1) := by decide +kernel
theorem d_Model_reach_70 : decode b_Model_reach 70 = .ok (.iload 5, 2) := by decide +kernel
theorem d_Model_reach_72 : decode b_Model_reach 72 = .ok (.iconst 1, 1) := by decide +kernel
theorem d_Model_reach_73 : decode b_Model_reach 73 = .ok (.iadd, 1) := by decide +kernel
theorem d_Model_reach_74 : decode b_Model_reach 74 = .ok (.iload_n 3, 1) := by decide +kernel
theorem d_Model_reach_75 : decode b_Model_reach 75 = .ok (.invokestatic 110, 3) := by decide +kernel
theorem d_Model_reach_78 : decode b_Model_reach 78 = .ok (.imul, 1) := by decide +kernel
theorem d_Model_reach_79 : decode b_Model_reach 79 = .ok (.iadd, 1) := by decide +kernel
theorem d_Model_reach_80 : decode b_Model_reach 80 = .ok (.invokevirtual 103, 3) := by decide +kernel
theorem d_Model_reach_83 : decode b_Model_reach 83 = .ok (.iload 4, 2) := by decide +kernel
theorem d_Model_reach_85 : decode b_Model_reach 85 = .ok (.if_icmp .ne 9, 3) := by decide +kernel
theorem d_Model_reach_88 : decode b_Model_reach 88 = .ok (.iinc 5 1, 3) := by decide +kernel
theorem d_Model_reach_91 : decode b_Model_reach 91 = .ok (.goto (-42), 3) := by decide +kernel
theorem d_Model_reach_94 : decode b_Model_reach 94 = .ok (.iload 5, 2) := by decide +kernel
theorem d_Model_reach_96 : decode b_Model_reach 96 = .ok (.ireturn, 1) := by decide +kernel
theorem d_Model_turn_0 : decode b_Model_turn 0 = .ok (.aload_n 0, 1) := by decide +kernel
theorem d_Model_turn_1 : decode b_Model_turn 1 = .ok (.aload_n 0, 1) := by decide +kernel
theorem d_Model_turn_2 : decode b_Model_turn 2 = .ok (.bipush 8, 2) := by decide +kernel
theorem d_Model_turn_4 : decode b_Model_turn 4 = .ok (.invokevirtual 93, 3) := by decide +kernel
theorem d_Model_turn_7 : decode b_Model_turn 7 = .ok (.putfield 113, 3) := by decide +kernel
theorem d_Model_turn_10 : decode b_Model_turn 10 = .ok (.aload_n 0, 1) := by decide +kernel
theorem d_Model_turn_11 : decode b_Model_turn 11 = .ok (.iconst 1, 1) := by decide +kernel
theorem d_Model_turn_12 : decode b_Model_turn 12 = .ok (.aload_n 0, 1) := by decide +kernel
theorem d_Model_turn_13 : decode b_Model_turn 13 = .ok (.sipush 2000, 3) := by decide +kernel
theorem d_Model_turn_16 : decode b_Model_turn 16 = .ok (.invokevirtual 93, 3) := by decide +kernel
theorem d_Model_turn_19 : decode b_Model_turn 19 = .ok (.iadd, 1) := by decide +kernel
theorem d_Model_turn_20 : decode b_Model_turn 20 = .ok (.putfield 116, 3) := by decide +kernel
theorem d_Model_turn_23 : decode b_Model_turn 23 = .ok (.return_, 1) := by decide +kernel
theorem d_Model_join_0 : decode b_Model_join 0 = .ok (.aload_n 0, 1) := by decide +kernel
theorem d_Model_join_1 : decode b_Model_join 1 = .ok (.getfield 119, 3) := by decide +kernel
theorem d_Model_join_4 : decode b_Model_join 4 = .ok (.bipush 12, 2) := by decide +kernel
theorem d_Model_join_6 : decode b_Model_join 6 = .ok (.if_icmp .ne 14, 3) := by decide +kernel
theorem d_Model_join_9 : decode b_Model_join 9 = .ok (.aload_n 0, 1) := by decide +kernel
theorem d_Model_join_10 : decode b_Model_join 10 = .ok (.getfield 57, 3) := by decide +kernel
theorem d_Model_join_13 : decode b_Model_join 13 = .ok (.iconst 3, 1) := by decide +kernel
theorem d_Model_join_14 : decode b_Model_join 14 = .ok (.dup2, 1) := by decide +kernel
theorem d_Model_join_15 : decode b_Model_join 15 = .ok (.iaload, 1) := by decide +kernel
theorem d_Model_join_16 : decode b_Model_join 16 = .ok (.iconst 1, 1) := by decide +kernel
theorem d_Model_join_17 : decode b_Model_join 17 = .ok (.iadd, 1) := by decide +kernel
theorem d_Model_join_18 : decode b_Model_join 18 = .ok (.iastore, 1) := by decide +kernel
theorem d_Model_join_19 : decode b_Model_join 19 = .ok (.return_, 1) := by decide +kernel
theorem d_Model_join_20 : decode b_Model_join 20 = .ok (.aload_n 0, 1) := by decide +kernel
theorem d_Model_join_21 : decode b_Model_join 21 = .ok (.getfield 60, 3) := by decide +kernel
theorem d_Model_join_24 : decode b_Model_join 24 = .ok (.aload_n 0, 1) := by decide +kernel
theorem d_Model_join_25 : decode b_Model_join 25 = .ok (.getfield 122, 3) := by decide +kernel
theorem d_Model_join_28 : decode b_Model_join 28 = .ok (.aload_n 0, 1) := by decide +kernel
theorem d_Model_join_29 : decode b_Model_join 29 = .ok (.getfield 125, 3) := by decide +kernel
theorem d_Model_join_32 : decode b_Model_join 32 = .ok (.iastore, 1) := by decide +kernel
theorem d_Model_join_33 : decode b_Model_join 33 = .ok (.aload_n 0, 1) := by decide +kernel
theorem d_Model_join_34 : decode b_Model_join 34 = .ok (.getfield 63, 3) := by decide +kernel
theorem d_Model_join_37 : decode b_Model_join 37 = .ok (.aload_n 0, 1) := by decide +kernel
theorem d_Model_join_38 : decode b_Model_join 38 = .ok (.getfield 122, 3) := by decide +kernel
theorem d_Model_join_41 : decode b_Model_join 41 = .ok (.aload_n 0, 1) := by decide +kernel
theorem d_Model_join_42 : decode b_Model_join 42 = .ok (.getfield 128, 3) := by decide +kernel
theorem d_Model_join_45 : decode b_Model_join 45 = .ok (.iastore, 1) := by decide +kernel
theorem d_Model_join_46 : decode b_Model_join 46 = .ok (.aload_n 0, 1) := by decide +kernel
theorem d_Model_join_47 : decode b_Model_join 47 = .ok (.dup, 1) := by decide +kernel
theorem d_Model_join_48 : decode b_Model_join 48 = .ok (.getfield 122, 3) := by decide +kernel
theorem d_Model_join_51 : decode b_Model_join 51 = .ok (.iconst 1, 1) := by decide +kernel
theorem d_Model_join_52 : decode b_Model_join 52 = .ok (.iadd, 1) := by decide +kernel
theorem d_Model_join_53 : decode b_Model_join 53 = .ok (.putfield 122, 3) := by decide +kernel
theorem d_Model_join_56 : decode b_Model_join 56 = .ok (.aload_n 0, 1) := by decide +kernel
theorem d_Model_join_57 : decode b_Model_join 57 = .ok (.dup, 1) := by decide +kernel
theorem d_Model_join_58 : decode b_Model_join 58 = .ok (.getfield 119, 3) := by decide +kernel
theorem d_Model_join_61 : decode b_Model_join 61 = .ok (.iconst 1, 1) := by decide +kernel
theorem d_Model_join_62 : decode b_Model_join 62 = .ok (.iadd, 1) := by decide +kernel
theorem d_Model_join_63 : decode b_Model_join 63 = .ok (.putfield 119, 3) := by decide +kernel
theorem d_Model_join_66 : decode b_Model_join 66 = .ok (.return_, 1) := by decide +kernel
theorem d_Model_collide_0 : decode b_Model_collide 0 = .ok (.aload_n 0, 1) := by decide +kernel
theorem d_Model_collide_1 : decode b_Model_collide 1 = .ok (.getfield 51, 3) := by decide +kernel
theorem d_Model_collide_4 : decode b_Model_collide 4 = .ok (.iconst 4, 1) := by decide +kernel
theorem d_Model_collide_5 : decode b_Model_collide 5 = .ok (.iload_n 1, 1) := by decide +kernel
theorem d_Model_collide_6 : decode b_Model_collide 6 = .ok (.imul, 1) := by decide +kernel
theorem d_Model_collide_7 : decode b_Model_collide 7 = .ok (.iconst 1, 1) := by decide +kernel
theorem d_Model_collide_8 : decode b_Model_collide 8 = .ok (.iadd, 1) := by decide +kernel
theorem d_Model_collide_9 : decode b_Model_collide 9 = .ok (.dup2, 1) := by decide +kernel
theorem d_Model_collide_10 : decode b_Model_collide 10 = .ok (.iaload, 1) := by decide +kernel
theorem d_Model_collide_11 : decode b_Model_collide 11 = .ok (.iconst 1, 1) := by decide +kernel
theorem d_Model_collide_12 : decode b_Model_collide 12 = .ok (.iadd, 1) := by decide +kernel
theorem d_Model_collide_13 : decode b_Model_collide 13 = .ok (.iastore, 1) := by decide +kernel
theorem d_Model_collide_14 : decode b_Model_collide 14 = .ok (.aload_n 0, 1) := by decide +kernel
theorem d_Model_collide_15 : decode b_Model_collide 15 = .ok (.sipush 1000, 3) := by decide +kernel
theorem d_Model_collide_18 : decode b_Model_collide 18 = .ok (.invokevirtual 93, 3) := by decide +kernel
theorem d_Model_collide_21 : decode b_Model_collide 21 = .ok (.istore_n 2, 1) := by decide +kernel
theorem d_Model_collide_22 : decode b_Model_collide 22 = .ok (.iload_n 2, 1) := by decide +kernel
theorem d_Model_collide_23 : decode b_Model_collide 23 = .ok (.aload_n 0, 1) := by decide +kernel
theorem d_Model_collide_24 : decode b_Model_collide 24 = .ok (.getfield 41, 3) := by decide +kernel
theorem d_Model_collide_27 : decode b_Model_collide 27 = .ok (.iload_n 1, 1) := by decide +kernel
theorem d_Model_collide_28 : decode b_Model_collide 28 = .ok (.iaload, 1) := by decide +kernel
theorem d_Model_collide_29 : decode b_Model_collide 29 = .ok (.if_icmp .ge 19, 3) := by decide +kernel
theorem d_Model_collide_32 : decode b_Model_collide 32 = .ok (.aload_n 0, 1) := by decide +kernel
theorem d_Model_collide_33 : decode b_Model_collide 33 = .ok (.getfield 51, 3) := by decide +kernel
theorem d_Model_collide_36 : decode b_Model_collide 36 = .ok (.iconst 4, 1) := by decide +kernel
theorem d_Model_collide_37 : decode b_Model_collide 37 = .ok (.iload_n 1, 1) := by decide +kernel
theorem d_Model_collide_38 : decode b_Model_collide 38 = .ok (.imul, 1) := by decide +kernel
theorem d_Model_collide_39 : decode b_Model_collide 39 = .ok (.iconst 2, 1) := by decide +kernel
theorem d_Model_collide_40 : decode b_Model_collide 40 = .ok (.iadd, 1) := by decide +kernel
theorem d_Model_collide_41 : decode b_Model_collide 41 = .ok (.dup2, 1) := by decide +kernel
theorem d_Model_collide_42 : decode b_Model_collide 42 = .ok (.iaload, 1) := by decide +kernel
theorem d_Model_collide_43 : decode b_Model_collide 43 = .ok (.iconst 1, 1) := by decide +kernel
theorem d_Model_collide_44 : decode b_Model_collide 44 = .ok (.iadd, 1) := by decide +kernel
theorem d_Model_collide_45 : decode b_Model_collide 45 = .ok (.iastore, 1) := by decide +kernel
theorem d_Model_collide_46 : decode b_Model_collide 46 = .ok (.iconst 1, 1) := by decide +kernel
theorem d_Model_collide_47 : decode b_Model_collide 47 = .ok (.ireturn, 1) := by decide +kernel
theorem d_Model_collide_48 : decode b_Model_collide 48 = .ok (.iload_n 2, 1) := by decide +kernel
theorem d_Model_collide_49 : decode b_Model_collide 49 = .ok (.aload_n 0, 1) := by decide +kernel
theorem d_Model_collide_50 : decode b_Model_collide 50 = .ok (.getfield 41, 3) := by decide +kernel
theorem d_Model_collide_53 : decode b_Model_collide 53 = .ok (.iload_n 1, 1) := by decide +kernel
theorem d_Model_collide_54 : decode b_Model_collide 54 = .ok (.iaload, 1) := by decide +kernel
theorem d_Model_collide_55 : decode b_Model_collide 55 = .ok (.aload_n 0, 1) := by decide +kernel
theorem d_Model_collide_56 : decode b_Model_collide 56 = .ok (.getfield 44, 3) := by decide +kernel
theorem d_Model_collide_59 : decode b_Model_collide 59 = .ok (.iload_n 1, 1) := by decide +kernel
theorem d_Model_collide_60 : decode b_Model_collide 60 = .ok (.iaload, 1) := by decide +kernel
theorem d_Model_collide_61 : decode b_Model_collide 61 = .ok (.iadd, 1) := by decide +kernel
theorem d_Model_collide_62 : decode b_Model_collide 62 = .ok (.if_icmp .ge 27, 3) := by decide +kernel
theorem d_Model_collide_65 : decode b_Model_collide 65 = .ok (.aload_n 0, 1) := by decide +kernel
theorem d_Model_collide_66 : decode b_Model_collide 66 = .ok (.getfield 51, 3) := by decide +kernel
theorem d_Model_collide_69 : decode b_Model_collide 69 = .ok (.iconst 4, 1) := by decide +kernel
theorem d_Model_collide_70 : decode b_Model_collide 70 = .ok (.iload_n 1, 1) := by decide +kernel
theorem d_Model_collide_71 : decode b_Model_collide 71 = .ok (.imul, 1) := by decide +kernel
theorem d_Model_collide_72 : decode b_Model_collide 72 = .ok (.iconst 3, 1) := by decide +kernel
theorem d_Model_collide_73 : decode b_Model_collide 73 = .ok (.iadd, 1) := by decide +kernel
theorem d_Model_collide_74 : decode b_Model_collide 74 = .ok (.dup2, 1) := by decide +kernel
theorem d_Model_collide_75 : decode b_Model_collide 75 = .ok (.iaload, 1) := by decide +kernel
theorem d_Model_collide_76 : decode b_Model_collide 76 = .ok (.iconst 1, 1) := by decide +kernel
theorem d_Model_collide_77 : decode b_Model_collide 77 = .ok (.iadd, 1) := by decide +kernel
theorem d_Model_collide_78 : decode b_Model_collide 78 = .ok (.iastore, 1) := by decide +kernel
theorem d_Model_collide_79 : decode b_Model_collide 79 = .ok (.aload_n 0, 1) := by decide +kernel
theorem d_Model_collide_80 : decode b_Model_collide 80 = .ok (.invokevirtual 131, 3) := by decide +kernel
theorem d_Model_collide_83 : decode b_Model_collide 83 = .ok (.aload_n 0, 1) := by decide +kernel
theorem d_Model_collide_84 : decode b_Model_collide 84 = .ok (.invokevirtual 131, 3) := by decide +kernel
theorem d_Model_collide_87 : decode b_Model_collide 87 = .ok (.iconst 1, 1) := by decide +kernel
theorem d_Model_collide_88 : decode b_Model_collide 88 = .ok (.ireturn, 1) := by decide +kernel
theorem d_Model_collide_89 : decode b_Model_collide 89 = .ok (.aload_n 0, 1) := by decide +kernel
theorem d_Model_collide_90 : decode b_Model_collide 90 = .ok (.invokevirtual 134, 3) := by decide +kernel
theorem d_Model_collide_93 : decode b_Model_collide 93 = .ok (.iconst 0, 1) := by decide +kernel
theorem d_Model_collide_94 : decode b_Model_collide 94 = .ok (.ireturn, 1) := by decide +kernel
theorem d_Model_fly_0 : decode b_Model_fly 0 = .ok (.aload_n 0, 1) := by decide +kernel
theorem d_Model_fly_1 : decode b_Model_fly 1 = .ok (.invokevirtual 134, 3) := by decide +kernel
theorem d_Model_fly_4 : decode b_Model_fly 4 = .ok (.iconst 1, 1) := by decide +kernel
theorem d_Model_fly_5 : decode b_Model_fly 5 = .ok (.istore_n 1, 1) := by decide +kernel
theorem d_Model_fly_6 : decode b_Model_fly 6 = .ok (.iload_n 1, 1) := by decide +kernel
theorem d_Model_fly_7 : decode b_Model_fly 7 = .ok (.sipush 200, 3) := by decide +kernel
theorem d_Model_fly_10 : decode b_Model_fly 10 = .ok (.if_icmp .gt 153, 3) := by decide +kernel
theorem d_Model_fly_13 : decode b_Model_fly 13 = .ok (.aload_n 0, 1) := by decide +kernel
theorem d_Model_fly_14 : decode b_Model_fly 14 = .ok (.aload_n 0, 1) := by decide +kernel
theorem d_Model_fly_15 : decode b_Model_fly 15 = .ok (.getfield 125, 3) := by decide +kernel
theorem d_Model_fly_18 : decode b_Model_fly 18 = .ok (.aload_n 0, 1) := by decide +kernel
theorem d_Model_fly_19 : decode b_Model_fly 19 = .ok (.getfield 128, 3) := by decide +kernel
theorem d_Model_fly_22 : decode b_Model_fly 22 = .ok (.invokevirtual 103, 3) := by decide +kernel
theorem d_Model_fly_25 : decode b_Model_fly 25 = .ok (.istore_n 2, 1) := by decide +kernel
theorem d_Model_fly_26 : decode b_Model_fly 26 = .ok (.aload_n 0, 1) := by decide +kernel
theorem d_Model_fly_27 : decode b_Model_fly 27 = .ok (.dup, 1) := by decide +kernel
theorem d_Model_fly_28 : decode b_Model_fly 28 = .ok (.getfield 125, 3) := by decide +kernel
theorem d_Model_fly_31 : decode b_Model_fly 31 = .ok (.aload_n 0, 1) := by decide +kernel
theorem d_Model_fly_32 : decode b_Model_fly 32 = .ok (.getfield 113, 3) := by decide +kernel
theorem d_Model_fly_35 : decode b_Model_fly 35 = .ok (.invokestatic 107, 3) := by decide +kernel
theorem d_Model_fly_38 : decode b_Model_fly 38 = .ok (.iadd, 1) := by decide +kernel
theorem d_Model_fly_39 : decode b_Model_fly 39 = .ok (.putfield 125, 3) := by decide +kernel
theorem d_Model_fly_42 : decode b_Model_fly 42 = .ok (.aload_n 0, 1) := by decide +kernel
theorem d_Model_fly_43 : decode b_Model_fly 43 = .ok (.dup, 1) := by decide +kernel
theorem d_Model_fly_44 : decode b_Model_fly 44 = .ok (.getfield 128, 3) := by decide +kernel
theorem d_Model_fly_47 : decode b_Model_fly 47 = .ok (.aload_n 0, 1) := by decide +kernel
theorem d_Model_fly_48 : decode b_Model_fly 48 = .ok (.getfield 113, 3) := by decide +kernel
theorem d_Model_fly_51 : decode b_Model_fly 51 = .ok (.invokestatic 110, 3) := by decide +kernel
theorem d_Model_fly_54 : decode b_Model_fly 54 = .ok (.iadd, 1) := by decide +kernel
theorem d_Model_fly_55 : decode b_Model_fly 55 = .ok (.putfield 128, 3) := by decide +kernel
theorem d_Model_fly_58 : decode b_Model_fly 58 = .ok (.aload_n 0, 1) := by decide +kernel
theorem d_Model_fly_59 : decode b_Model_fly 59 = .ok (.aload_n 0, 1) := by decide +kernel
theorem d_Model_fly_60 : decode b_Model_fly 60 = .ok (.getfield 125, 3) := by decide +kernel
theorem d_Model_fly_63 : decode b_Model_fly 63 = .ok (.aload_n 0, 1) := by decide +kernel
theorem d_Model_fly_64 : decode b_Model_fly 64 = .ok (.getfield 128, 3) := by decide +kernel
theorem d_Model_fly_67 : decode b_Model_fly 67 = .ok (.invokevirtual 103, 3) := by decide +kernel
theorem d_Model_fly_70 : decode b_Model_fly 70 = .ok (.istore_n 3, 1) := by decide +kernel
theorem d_Model_fly_71 : decode b_Model_fly 71 = .ok (.iload_n 3, 1) := by decide +kernel
theorem d_Model_fly_72 : decode b_Model_fly 72 = .ok (.bipush 6, 2) := by decide +kernel
theorem d_Model_fly_74 : decode b_Model_fly 74 = .ok (.if_icmp .ne 14, 3) := by decide +kernel
theorem d_Model_fly_77 : decode b_Model_fly 77 = .ok (.aload_n 0, 1) := by decide +kernel
theorem d_Model_fly_78 : decode b_Model_fly 78 = .ok (.getfield 57, 3) := by decide +kernel
theorem d_Model_fly_81 : decode b_Model_fly 81 = .ok (.iconst 1, 1) := by decide +kernel
theorem d_Model_fly_82 : decode b_Model_fly 82 = .ok (.dup2, 1) := by decide +kernel
theorem d_Model_fly_83 : decode b_Model_fly 83 = .ok (.iaload, 1) := by decide +kernel
theorem d_Model_fly_84 : decode b_Model_fly 84 = .ok (.iconst 1, 1) := by decide +kernel
theorem d_Model_fly_85 : decode b_Model_fly 85 = .ok (.iadd, 1) := by decide +kernel
theorem d_Model_fly_86 : decode b_Model_fly 86 = .ok (.iastore, 1) := by decide +kernel
theorem d_Model_fly_87 : decode b_Model_fly 87 = .ok (.return_, 1) := by decide +kernel
theorem d_Model_fly_88 : decode b_Model_fly 88 = .ok (.aload_n 0, 1) := by decide +kernel
theorem d_Model_fly_89 : decode b_Model_fly 89 = .ok (.getfield 51, 3) := by decide +kernel
theorem d_Model_fly_92 : decode b_Model_fly 92 = .ok (.iconst 4, 1) := by decide +kernel
theorem d_Model_fly_93 : decode b_Model_fly 93 = .ok (.iload_n 3, 1) := by decide +kernel
theorem d_Model_fly_94 : decode b_Model_fly 94 = .ok (.imul, 1) := by decide +kernel
theorem d_Model_fly_95 : decode b_Model_fly 95 = .ok (.dup2, 1) := by decide +kernel
theorem d_Model_fly_96 : decode b_Model_fly 96 = .ok (.iaload, 1) := by decide +kernel
theorem d_Model_fly_97 : decode b_Model_fly 97 = .ok (.iconst 1, 1) := by decide +kernel
theorem d_Model_fly_98 : decode b_Model_fly 98 = .ok (.iadd, 1) := by decide +kernel
theorem d_Model_fly_99 : decode b_Model_fly 99 = .ok (.iastore, 1) := by decide +kernel
theorem d_Model_fly_100 : decode b_Model_fly 100 = .ok (.iload_n 2, 1) := by decide +kernel
theorem d_Model_fly_101 : decode b_Model_fly 101 = .ok (.bipush 6, 2) := by decide +kernel
theorem d_Model_fly_103 : decode b_Model_fly 103 = .ok (.if_icmp .eq 23, 3) := by decide +kernel
theorem d_Model_fly_106 : decode b_Model_fly 106 = .ok (.iload_n 2, 1) := by decide +kernel
theorem d_Model_fly_107 : decode b_Model_fly 107 = .ok (.iload_n 3, 1) := by decide +kernel
theorem d_Model_fly_108 : decode b_Model_fly 108 = .ok (.if_icmp .eq 18, 3) := by decide +kernel
theorem d_Model_fly_111 : decode b_Model_fly 111 = .ok (.aload_n 0, 1) := by decide +kernel
theorem d_Model_fly_112 : decode b_Model_fly 112 = .ok (.getfield 54, 3) := by decide +kernel
theorem d_Model_fly_115 : decode b_Model_fly 115 = .ok (.bipush 6, 2) := by decide +kernel
theorem d_Model_fly_117 : decode b_Model_fly 117 = .ok (.iload_n 2, 1) := by decide +kernel
theorem d_Model_fly_118 : decode b_Model_fly 118 = .ok (.imul, 1) := by decide +kernel
theorem d_Model_fly_119 : decode b_Model_fly 119 = .ok (.iload_n 3, 1) := by decide +kernel
theorem d_Model_fly_120 : decode b_Model_fly 120 = .ok (.iadd, 1) := by decide +kernel
theorem d_Model_fly_121 : decode b_Model_fly 121 = .ok (.dup2, 1) := by decide +kernel
theorem d_Model_fly_122 : decode b_Model_fly 122 = .ok (.iaload, 1) := by decide +kernel
theorem d_Model_fly_123 : decode b_Model_fly 123 = .ok (.iconst 1, 1) := by decide +kernel
theorem d_Model_fly_124 : decode b_Model_fly 124 = .ok (.iadd, 1) := by decide +kernel
theorem d_Model_fly_125 : decode b_Model_fly 125 = .ok (.iastore, 1) := by decide +kernel
theorem d_Model_fly_126 : decode b_Model_fly 126 = .ok (.aload_n 0, 1) := by decide +kernel
theorem d_Model_fly_127 : decode b_Model_fly 127 = .ok (.dup, 1) := by decide +kernel
theorem d_Model_fly_128 : decode b_Model_fly 128 = .ok (.getfield 116, 3) := by decide +kernel
theorem d_Model_fly_131 : decode b_Model_fly 131 = .ok (.aload_n 0, 1) := by decide +kernel
theorem d_Model_fly_132 : decode b_Model_fly 132 = .ok (.getfield 38, 3) := by decide +kernel
theorem d_Model_fly_135 : decode b_Model_fly 135 = .ok (.iload_n 3, 1) := by decide +kernel
theorem d_Model_fly_136 : decode b_Model_fly 136 = .ok (.iaload, 1) := by decide +kernel
theorem d_Model_fly_137 : decode b_Model_fly 137 = .ok (.isub, 1) := by decide +kernel
theorem d_Model_fly_138 : decode b_Model_fly 138 = .ok (.putfield 116, 3) := by decide +kernel
theorem d_Model_fly_141 : decode b_Model_fly 141 = .ok (.aload_n 0, 1) := by decide +kernel
theorem d_Model_fly_142 : decode b_Model_fly 142 = .ok (.getfield 116, 3) := by decide +kernel
theorem d_Model_fly_145 : decode b_Model_fly 145 = .ok (.ifCond .gt 12, 3) := by decide +kernel
theorem d_Model_fly_148 : decode b_Model_fly 148 = .ok (.aload_n 0, 1) := by decide +kernel
theorem d_Model_fly_149 : decode b_Model_fly 149 = .ok (.iload_n 3, 1) := by decide +kernel
theorem d_Model_fly_150 : decode b_Model_fly 150 = .ok (.invokevirtual 137, 3) := by decide +kernel
theorem d_Model_fly_153 : decode b_Model_fly 153 = .ok (.ifCond .eq 4, 3) := by decide +kernel
theorem d_Model_fly_156 : decode b_Model_fly 156 = .ok (.return_, 1) := by decide +kernel
theorem d_Model_fly_157 : decode b_Model_fly 157 = .ok (.iinc 1 1, 3) := by decide +kernel
theorem d_Model_fly_160 : decode b_Model_fly 160 = .ok (.goto (-154), 3) := by decide +kernel
theorem d_Model_fly_163 : decode b_Model_fly 163 = .ok (.aload_n 0, 1) := by decide +kernel
theorem d_Model_fly_164 : decode b_Model_fly 164 = .ok (.getfield 57, 3) := by decide +kernel
theorem d_Model_fly_167 : decode b_Model_fly 167 = .ok (.iconst 2, 1) := by decide +kernel
theorem d_Model_fly_168 : decode b_Model_fly 168 = .ok (.dup2, 1) := by decide +kernel
theorem d_Model_fly_169 : decode b_Model_fly 169 = .ok (.iaload, 1) := by decide +kernel
theorem d_Model_fly_170 : decode b_Model_fly 170 = .ok (.iconst 1, 1) := by decide +kernel
theorem d_Model_fly_171 : decode b_Model_fly 171 = .ok (.iadd, 1) := by decide +kernel
theorem d_Model_fly_172 : decode b_Model_fly 172 = .ok (.iastore, 1) := by decide +kernel
theorem d_Model_fly_173 : decode b_Model_fly 173 = .ok (.return_, 1) := by decide +kernel
theorem d_Model_history_0 : decode b_Model_history 0 = .ok (.aload_n 0, 1) := by decide +kernel
theorem d_Model_history_1 : decode b_Model_history 1 = .ok (.getfield 60, 3) := by decide +kernel
theorem d_Model_history_4 : decode b_Model_history 4 = .ok (.iconst 0, 1) := by decide +kernel
theorem d_Model_history_5 : decode b_Model_history 5 = .ok (.aload_n 0, 1) := by decide +kernel
theorem d_Model_history_6 : decode b_Model_history 6 = .ok (.getfield 78, 3) := by decide +kernel
theorem d_Model_history_9 : decode b_Model_history 9 = .ok (.iastore, 1) := by decide +kernel
theorem d_Model_history_10 : decode b_Model_history 10 = .ok (.aload_n 0, 1) := by decide +kernel
theorem d_Model_history_11 : decode b_Model_history 11 = .ok (.getfield 63, 3) := by decide +kernel
theorem d_Model_history_14 : decode b_Model_history 14 = .ok (.iconst 0, 1) := by decide +kernel
theorem d_Model_history_15 : decode b_Model_history 15 = .ok (.aload_n 0, 1) := by decide +kernel
theorem d_Model_history_16 : decode b_Model_history 16 = .ok (.getfield 81, 3) := by decide +kernel
theorem d_Model_history_19 : decode b_Model_history 19 = .ok (.iastore, 1) := by decide +kernel
theorem d_Model_history_20 : decode b_Model_history 20 = .ok (.aload_n 0, 1) := by decide +kernel
theorem d_Model_history_21 : decode b_Model_history 21 = .ok (.iconst 1, 1) := by decide +kernel
theorem d_Model_history_22 : decode b_Model_history 22 = .ok (.putfield 122, 3) := by decide +kernel
theorem d_Model_history_25 : decode b_Model_history 25 = .ok (.aload_n 0, 1) := by decide +kernel
theorem d_Model_history_26 : decode b_Model_history 26 = .ok (.iconst 1, 1) := by decide +kernel
theorem d_Model_history_27 : decode b_Model_history 27 = .ok (.putfield 119, 3) := by decide +kernel
theorem d_Model_history_30 : decode b_Model_history 30 = .ok (.iconst 0, 1) := by decide +kernel
theorem d_Model_history_31 : decode b_Model_history 31 = .ok (.istore_n 1, 1) := by decide +kernel
theorem d_Model_history_32 : decode b_Model_history 32 = .ok (.aload_n 0, 1) := by decide +kernel
theorem d_Model_history_33 : decode b_Model_history 33 = .ok (.getfield 122, 3) := by decide +kernel
theorem d_Model_history_36 : decode b_Model_history 36 = .ok (.ifCond .le 49, 3) := by decide +kernel
theorem d_Model_history_39 : decode b_Model_history 39 = .ok (.aload_n 0, 1) := by decide +kernel
theorem d_Model_history_40 : decode b_Model_history 40 = .ok (.dup, 1) := by decide +kernel
theorem d_Model_history_41 : decode b_Model_history 41 = .ok (.getfield 122, 3) := by decide +kernel
theorem d_Model_history_44 : decode b_Model_history 44 = .ok (.iconst 1, 1) := by decide +kernel
theorem d_Model_history_45 : decode b_Model_history 45 = .ok (.isub, 1) := by decide +kernel
theorem d_Model_history_46 : decode b_Model_history 46 = .ok (.putfield 122, 3) := by decide +kernel
theorem d_Model_history_49 : decode b_Model_history 49 = .ok (.aload_n 0, 1) := by decide +kernel
theorem d_Model_history_50 : decode b_Model_history 50 = .ok (.aload_n 0, 1) := by decide +kernel
theorem d_Model_history_51 : decode b_Model_history 51 = .ok (.getfield 60, 3) := by decide +kernel
theorem d_Model_history_54 : decode b_Model_history 54 = .ok (.aload_n 0, 1) := by decide +kernel
theorem d_Model_history_55 : decode b_Model_history 55 = .ok (.getfield 122, 3) := by decide +kernel
theorem d_Model_history_58 : decode b_Model_history 58 = .ok (.iaload, 1) := by decide +kernel
theorem d_Model_history_59 : decode b_Model_history 59 = .ok (.putfield 125, 3) := by decide +kernel
theorem d_Model_history_62 : decode b_Model_history 62 = .ok (.aload_n 0, 1) := by decide +kernel
theorem d_Model_history_63 : decode b_Model_history 63 = .ok (.aload_n 0, 1) := by decide +kernel
theorem d_Model_history_64 : decode b_Model_history 64 = .ok (.getfield 63, 3) := by decide +kernel
theorem d_Model_history_67 : decode b_Model_history 67 = .ok (.aload_n 0, 1) := by decide +kernel
theorem d_Model_history_68 : decode b_Model_history 68 = .ok (.getfield 122, 3) := by decide +kernel
theorem d_Model_history_71 : decode b_Model_history 71 = .ok (.iaload, 1) := by decide +kernel
theorem d_Model_history_72 : decode b_Model_history 72 = .ok (.putfield 128, 3) := by decide +kernel
theorem d_Model_history_75 : decode b_Model_history 75 = .ok (.iinc 1 1, 3) := by decide +kernel
theorem d_Model_history_78 : decode b_Model_history 78 = .ok (.aload_n 0, 1) := by decide +kernel
theorem d_Model_history_79 : decode b_Model_history 79 = .ok (.invokevirtual 141, 3) := by decide +kernel
theorem d_Model_history_82 : decode b_Model_history 82 = .ok (.goto (-50), 3) := by decide +kernel
theorem d_Model_history_85 : decode b_Model_history 85 = .ok (.aload_n 0, 1) := by decide +kernel
theorem d_Model_history_86 : decode b_Model_history 86 = .ok (.getfield 57, 3) := by decide +kernel
theorem d_Model_history_89 : decode b_Model_history 89 = .ok (.iconst 0, 1) := by decide +kernel
theorem d_Model_history_90 : decode b_Model_history 90 = .ok (.dup2, 1) := by decide +kernel
theorem d_Model_history_91 : decode b_Model_history 91 = .ok (.iaload, 1) := by decide +kernel
theorem d_Model_history_92 : decode b_Model_history 92 = .ok (.iload_n 1, 1) := by decide +kernel
theorem d_Model_history_93 : decode b_Model_history 93 = .ok (.iadd, 1) := by decide +kernel
theorem d_Model_history_94 : decode b_Model_history 94 = .ok (.iastore, 1) := by decide +kernel
theorem d_Model_history_95 : decode b_Model_history 95 = .ok (.aload_n 0, 1) := by decide +kernel
theorem d_Model_history_96 : decode b_Model_history 96 = .ok (.getfield 57, 3) := by decide +kernel
theorem d_Model_history_99 : decode b_Model_history 99 = .ok (.iconst 4, 1) := by decide +kernel
theorem d_Model_history_100 : decode b_Model_history 100 = .ok (.dup2, 1) := by decide +kernel
theorem d_Model_history_101 : decode b_Model_history 101 = .ok (.iaload, 1) := by decide +kernel
theorem d_Model_history_102 : decode b_Model_history 102 = .ok (.iconst 1, 1) := by decide +kernel
theorem d_Model_history_103 : decode b_Model_history 103 = .ok (.iadd, 1) := by decide +kernel
theorem d_Model_history_104 : decode b_Model_history 104 = .ok (.iastore, 1) := by decide +kernel
theorem d_Model_history_105 : decode b_Model_history 105 = .ok (.iload_n 1, 1) := by decide +kernel
theorem d_Model_history_106 : decode b_Model_history 106 = .ok (.ireturn, 1) := by decide +kernel
theorem d_Model_run_0 : decode b_Model_run 0 = .ok (.iload_n 1, 1) := by decide +kernel
theorem d_Model_run_1 : decode b_Model_run 1 = .ok (.iconst 1, 1) := by decide +kernel
theorem d_Model_run_2 : decode b_Model_run 2 = .ok (.iconst 2, 1) := by decide +kernel
theorem d_Model_run_3 : decode b_Model_run 3 = .ok (.invokestatic 66, 3) := by decide +kernel
theorem d_Model_run_6 : decode b_Model_run 6 = .ok (.ifCond .eq 5, 3) := by decide +kernel
theorem d_Model_run_9 : decode b_Model_run 9 = .ok (.iconst (-1), 1) := by decide +kernel
theorem d_Model_run_10 : decode b_Model_run 10 = .ok (.ireturn, 1) := by decide +kernel
theorem d_Model_run_11 : decode b_Model_run 11 = .ok (.iconst 0, 1) := by decide +kernel
theorem d_Model_run_12 : decode b_Model_run 12 = .ok (.istore_n 2, 1) := by decide +kernel
theorem d_Model_run_13 : decode b_Model_run 13 = .ok (.iconst 0, 1) := by decide +kernel
theorem d_Model_run_14 : decode b_Model_run 14 = .ok (.istore_n 3, 1) := by decide +kernel
theorem d_Model_run_15 : decode b_Model_run 15 = .ok (.iload_n 3, 1) := by decide +kernel
theorem d_Model_run_16 : decode b_Model_run 16 = .ok (.iload_n 1, 1) := by decide +kernel
theorem d_Model_run_17 : decode b_Model_run 17 = .ok (.if_icmp .ge 16, 3) := by decide +kernel
theorem d_Model_run_20 : decode b_Model_run 20 = .ok (.iload_n 2, 1) := by decide +kernel
theorem d_Model_run_21 : decode b_Model_run 21 = .ok (.aload_n 0, 1) := by decide +kernel
theorem d_Model_run_22 : decode b_Model_run 22 = .ok (.invokevirtual 144, 3) := by decide +kernel
theorem d_Model_run_25 : decode b_Model_run 25 = .ok (.iadd, 1) := by decide +kernel
theorem d_Model_run_26 : decode b_Model_run 26 = .ok (.istore_n 2, 1) := by decide +kernel
theorem d_Model_run_27 : decode b_Model_run 27 = .ok (.iinc 3 1, 3) := by decide +kernel
theorem d_Model_run_30 : decode b_Model_run 30 = .ok (.goto (-15), 3) := by decide +kernel
theorem d_Model_run_33 : decode b_Model_run 33 = .ok (.iload_n 2, 1) := by decide +kernel
theorem d_Model_run_34 : decode b_Model_run 34 = .ok (.ireturn, 1) := by decide +kernel
theorem d_Model_tally_0 : decode b_Model_tally 0 = .ok (.iload_n 1, 1) := by decide +kernel
theorem d_Model_tally_1 : decode b_Model_tally 1 = .ok (.iconst 0, 1) := by decide +kernel
theorem d_Model_tally_2 : decode b_Model_tally 2 = .ok (.iconst 5, 1) := by decide +kernel
theorem d_Model_tally_3 : decode b_Model_tally 3 = .ok (.invokestatic 66, 3) := by decide +kernel
theorem d_Model_tally_6 : decode b_Model_tally 6 = .ok (.ifCond .ne 12, 3) := by decide +kernel
theorem d_Model_tally_9 : decode b_Model_tally 9 = .ok (.iload_n 2, 1) := by decide +kernel
theorem d_Model_tally_10 : decode b_Model_tally 10 = .ok (.iconst 0, 1) := by decide +kernel
theorem d_Model_tally_11 : decode b_Model_tally 11 = .ok (.iconst 3, 1) := by decide +kernel
theorem d_Model_tally_12 : decode b_Model_tally 12 = .ok (.invokestatic 66, 3) := by decide +kernel
theorem d_Model_tally_15 : decode b_Model_tally 15 = .ok (.ifCond .eq 7, 3) := by decide +kernel
theorem d_Model_tally_18 : decode b_Model_tally 18 = .ok (.iconst (-1), 1) := by decide +kernel
theorem d_Model_tally_19 : decode b_Model_tally 19 = .ok (.goto 13, 3) := by decide +kernel
theorem d_Model_tally_22 : decode b_Model_tally 22 = .ok (.aload_n 0, 1) := by decide +kernel
theorem d_Model_tally_23 : decode b_Model_tally 23 = .ok (.getfield 51, 3) := by decide +kernel
theorem d_Model_tally_26 : decode b_Model_tally 26 = .ok (.iconst 4, 1) := by decide +kernel
theorem d_Model_tally_27 : decode b_Model_tally 27 = .ok (.iload_n 1, 1) := by decide +kernel
theorem d_Model_tally_28 : decode b_Model_tally 28 = .ok (.imul, 1) := by decide +kernel
theorem d_Model_tally_29 : decode b_Model_tally 29 = .ok (.iload_n 2, 1) := by decide +kernel
theorem d_Model_tally_30 : decode b_Model_tally 30 = .ok (.iadd, 1) := by decide +kernel
theorem d_Model_tally_31 : decode b_Model_tally 31 = .ok (.iaload, 1) := by decide +kernel
theorem d_Model_tally_32 : decode b_Model_tally 32 = .ok (.ireturn, 1) := by decide +kernel
theorem d_Model_crossed_0 : decode b_Model_crossed 0 = .ok (.iload_n 1, 1) := by decide +kernel
theorem d_Model_crossed_1 : decode b_Model_crossed 1 = .ok (.iconst 0, 1) := by decide +kernel
theorem d_Model_crossed_2 : decode b_Model_crossed 2 = .ok (.iconst 5, 1) := by decide +kernel
theorem d_Model_crossed_3 : decode b_Model_crossed 3 = .ok (.invokestatic 66, 3) := by decide +kernel
theorem d_Model_crossed_6 : decode b_Model_crossed 6 = .ok (.ifCond .ne 12, 3) := by decide +kernel
theorem d_Model_crossed_9 : decode b_Model_crossed 9 = .ok (.iload_n 2, 1) := by decide +kernel
theorem d_Model_crossed_10 : decode b_Model_crossed 10 = .ok (.iconst 0, 1) := by decide +kernel
theorem d_Model_crossed_11 : decode b_Model_crossed 11 = .ok (.iconst 5, 1) := by decide +kernel
theorem d_Model_crossed_12 : decode b_Model_crossed 12 = .ok (.invokestatic 66, 3) := by decide +kernel
theorem d_Model_crossed_15 : decode b_Model_crossed 15 = .ok (.ifCond .eq 7, 3) := by decide +kernel
theorem d_Model_crossed_18 : decode b_Model_crossed 18 = .ok (.iconst (-1), 1) := by decide +kernel
theorem d_Model_crossed_19 : decode b_Model_crossed 19 = .ok (.goto 14, 3) := by decide +kernel
theorem d_Model_crossed_22 : decode b_Model_crossed 22 = .ok (.aload_n 0, 1) := by decide +kernel
theorem d_Model_crossed_23 : decode b_Model_crossed 23 = .ok (.getfield 54, 3) := by decide +kernel
theorem d_Model_crossed_26 : decode b_Model_crossed 26 = .ok (.bipush 6, 2) := by decide +kernel
theorem d_Model_crossed_28 : decode b_Model_crossed 28 = .ok (.iload_n 1, 1) := by decide +kernel
theorem d_Model_crossed_29 : decode b_Model_crossed 29 = .ok (.imul, 1) := by decide +kernel
theorem d_Model_crossed_30 : decode b_Model_crossed 30 = .ok (.iload_n 2, 1) := by decide +kernel
theorem d_Model_crossed_31 : decode b_Model_crossed 31 = .ok (.iadd, 1) := by decide +kernel
theorem d_Model_crossed_32 : decode b_Model_crossed 32 = .ok (.iaload, 1) := by decide +kernel
theorem d_Model_crossed_33 : decode b_Model_crossed 33 = .ok (.ireturn, 1) := by decide +kernel
theorem d_Model_count_0 : decode b_Model_count 0 = .ok (.iload_n 1, 1) := by decide +kernel
theorem d_Model_count_1 : decode b_Model_count 1 = .ok (.iconst 0, 1) := by decide +kernel
theorem d_Model_count_2 : decode b_Model_count 2 = .ok (.bipush 6, 2) := by decide +kernel
theorem d_Model_count_4 : decode b_Model_count 4 = .ok (.invokestatic 66, 3) := by decide +kernel
theorem d_Model_count_7 : decode b_Model_count 7 = .ok (.ifCond .eq 5, 3) := by decide +kernel
theorem d_Model_count_10 : decode b_Model_count 10 = .ok (.iconst (-1), 1) := by decide +kernel
theorem d_Model_count_11 : decode b_Model_count 11 = .ok (.ireturn, 1) := by decide +kernel
theorem d_Model_count_12 : decode b_Model_count 12 = .ok (.iload_n 1, 1) := by decide +kernel
theorem d_Model_count_13 : decode b_Model_count 13 = .ok (.iconst 5, 1) := by decide +kernel
theorem d_Model_count_14 : decode b_Model_count 14 = .ok (.if_icmp .ge 10, 3) := by decide +kernel
theorem d_Model_count_17 : decode b_Model_count 17 = .ok (.aload_n 0, 1) := by decide +kernel
theorem d_Model_count_18 : decode b_Model_count 18 = .ok (.getfield 57, 3) := by decide +kernel
theorem d_Model_count_21 : decode b_Model_count 21 = .ok (.iload_n 1, 1) := by decide +kernel
theorem d_Model_count_22 : decode b_Model_count 22 = .ok (.iaload, 1) := by decide +kernel
theorem d_Model_count_23 : decode b_Model_count 23 = .ok (.ireturn, 1) := by decide +kernel
theorem d_Model_count_24 : decode b_Model_count 24 = .ok (.iload_n 1, 1) := by decide +kernel
theorem d_Model_count_25 : decode b_Model_count 25 = .ok (.iconst 5, 1) := by decide +kernel
theorem d_Model_count_26 : decode b_Model_count 26 = .ok (.if_icmp .ne 8, 3) := by decide +kernel
theorem d_Model_count_29 : decode b_Model_count 29 = .ok (.aload_n 0, 1) := by decide +kernel
theorem d_Model_count_30 : decode b_Model_count 30 = .ok (.getfield 70, 3) := by decide +kernel
theorem d_Model_count_33 : decode b_Model_count 33 = .ok (.ireturn, 1) := by decide +kernel
theorem d_Model_count_34 : decode b_Model_count 34 = .ok (.iconst 0, 1) := by decide +kernel
theorem d_Model_count_35 : decode b_Model_count 35 = .ok (.istore_n 2, 1) := by decide +kernel
theorem d_Model_count_36 : decode b_Model_count 36 = .ok (.iconst 0, 1) := by decide +kernel
theorem d_Model_count_37 : decode b_Model_count 37 = .ok (.istore_n 3, 1) := by decide +kernel
theorem d_Model_count_38 : decode b_Model_count 38 = .ok (.iload_n 3, 1) := by decide +kernel
theorem d_Model_count_39 : decode b_Model_count 39 = .ok (.bipush 6, 2) := by decide +kernel
theorem d_Model_count_41 : decode b_Model_count 41 = .ok (.if_icmp .ge 21, 3) := by decide +kernel
theorem d_Model_count_44 : decode b_Model_count 44 = .ok (.aload_n 0, 1) := by decide +kernel
theorem d_Model_count_45 : decode b_Model_count 45 = .ok (.getfield 35, 3) := by decide +kernel
theorem d_Model_count_48 : decode b_Model_count 48 = .ok (.iload_n 3, 1) := by decide +kernel
theorem d_Model_count_49 : decode b_Model_count 49 = .ok (.baload, 1) := by decide +kernel
theorem d_Model_count_50 : decode b_Model_count 50 = .ok (.ifCond .eq 6, 3) := by decide +kernel
theorem d_Model_count_53 : decode b_Model_count 53 = .ok (.iinc 2 1, 3) := by decide +kernel
theorem d_Model_count_56 : decode b_Model_count 56 = .ok (.iinc 3 1, 3) := by decide +kernel
theorem d_Model_count_59 : decode b_Model_count 59 = .ok (.goto (-21), 3) := by decide +kernel
theorem d_Model_count_62 : decode b_Model_count 62 = .ok (.iload_n 2, 1) := by decide +kernel
theorem d_Model_count_63 : decode b_Model_count 63 = .ok (.ireturn, 1) := by decide +kernel
theorem d_Model_clear_0 : decode b_Model_clear 0 = .ok (.iconst 0, 1) := by decide +kernel
theorem d_Model_clear_1 : decode b_Model_clear 1 = .ok (.istore_n 1, 1) := by decide +kernel
theorem d_Model_clear_2 : decode b_Model_clear 2 = .ok (.iload_n 1, 1) := by decide +kernel
theorem d_Model_clear_3 : decode b_Model_clear 3 = .ok (.bipush 24, 2) := by decide +kernel
theorem d_Model_clear_5 : decode b_Model_clear 5 = .ok (.if_icmp .ge 16, 3) := by decide +kernel
theorem d_Model_clear_8 : decode b_Model_clear 8 = .ok (.aload_n 0, 1) := by decide +kernel
theorem d_Model_clear_9 : decode b_Model_clear 9 = .ok (.getfield 51, 3) := by decide +kernel
theorem d_Model_clear_12 : decode b_Model_clear 12 = .ok (.iload_n 1, 1) := by decide +kernel
theorem d_Model_clear_13 : decode b_Model_clear 13 = .ok (.iconst 0, 1) := by decide +kernel
theorem d_Model_clear_14 : decode b_Model_clear 14 = .ok (.iastore, 1) := by decide +kernel
theorem d_Model_clear_15 : decode b_Model_clear 15 = .ok (.iinc 1 1, 3) := by decide +kernel
theorem d_Model_clear_18 : decode b_Model_clear 18 = .ok (.goto (-16), 3) := by decide +kernel
theorem d_Model_clear_21 : decode b_Model_clear 21 = .ok (.iconst 0, 1) := by decide +kernel
theorem d_Model_clear_22 : decode b_Model_clear 22 = .ok (.istore_n 1, 1) := by decide +kernel
theorem d_Model_clear_23 : decode b_Model_clear 23 = .ok (.iload_n 1, 1) := by decide +kernel
theorem d_Model_clear_24 : decode b_Model_clear 24 = .ok (.bipush 36, 2) := by decide +kernel
theorem d_Model_clear_26 : decode b_Model_clear 26 = .ok (.if_icmp .ge 16, 3) := by decide +kernel
theorem d_Model_clear_29 : decode b_Model_clear 29 = .ok (.aload_n 0, 1) := by decide +kernel
theorem d_Model_clear_30 : decode b_Model_clear 30 = .ok (.getfield 54, 3) := by decide +kernel
theorem d_Model_clear_33 : decode b_Model_clear 33 = .ok (.iload_n 1, 1) := by decide +kernel
theorem d_Model_clear_34 : decode b_Model_clear 34 = .ok (.iconst 0, 1) := by decide +kernel
theorem d_Model_clear_35 : decode b_Model_clear 35 = .ok (.iastore, 1) := by decide +kernel
theorem d_Model_clear_36 : decode b_Model_clear 36 = .ok (.iinc 1 1, 3) := by decide +kernel
theorem d_Model_clear_39 : decode b_Model_clear 39 = .ok (.goto (-16), 3) := by decide +kernel
theorem d_Model_clear_42 : decode b_Model_clear 42 = .ok (.iconst 0, 1) := by decide +kernel
theorem d_Model_clear_43 : decode b_Model_clear 43 = .ok (.istore_n 1, 1) := by decide +kernel
theorem d_Model_clear_44 : decode b_Model_clear 44 = .ok (.iload_n 1, 1) := by decide +kernel
theorem d_Model_clear_45 : decode b_Model_clear 45 = .ok (.iconst 5, 1) := by decide +kernel
theorem d_Model_clear_46 : decode b_Model_clear 46 = .ok (.if_icmp .ge 16, 3) := by decide +kernel
theorem d_Model_clear_49 : decode b_Model_clear 49 = .ok (.aload_n 0, 1) := by decide +kernel
theorem d_Model_clear_50 : decode b_Model_clear 50 = .ok (.getfield 57, 3) := by decide +kernel
theorem d_Model_clear_53 : decode b_Model_clear 53 = .ok (.iload_n 1, 1) := by decide +kernel
theorem d_Model_clear_54 : decode b_Model_clear 54 = .ok (.iconst 0, 1) := by decide +kernel
theorem d_Model_clear_55 : decode b_Model_clear 55 = .ok (.iastore, 1) := by decide +kernel
theorem d_Model_clear_56 : decode b_Model_clear 56 = .ok (.iinc 1 1, 3) := by decide +kernel
theorem d_Model_clear_59 : decode b_Model_clear 59 = .ok (.goto (-15), 3) := by decide +kernel
theorem d_Model_clear_62 : decode b_Model_clear 62 = .ok (.return_, 1) := by decide +kernel
end
section
/-! rows with an index by its number; small helpers -/
def z_b (P : Prop) [Decidable P] : Int32 := if P then 1 else 0
theorem z_b_t {P : Prop} [Decidable P] (h : P) : z_b P = 1 := if_pos h
theorem z_b_f {P : Prop} [Decidable P] (h : ¬ P) : z_b P = 0 := if_neg h
theorem z_b_0 {P : Prop} [Decidable P] : z_b P = 0 ↔ ¬ P := by
  by_cases h : P <;> simp [z_b, h]
theorem z_b_n0 {P : Prop} [Decidable P] : ¬ z_b P = 0 ↔ P := by
  by_cases h : P <;> simp [z_b, h]
theorem z_b_iff {P Q : Prop} [Decidable P] [Decidable Q] (h : P ↔ Q) : z_b P = z_b Q := by
  by_cases q : P
  · rw [z_b_t q, z_b_t (h.mp q)]
  · rw [z_b_f q, z_b_f (fun z => q (h.mpr z))]
theorem z_b_narrow {P : Prop} [Decidable P] : narrow .boolean (.int (z_b P)) = .int (z_b P) := by
  by_cases h : P
  · rw [z_b_t h]; rfl
  · rw [z_b_f h]; rfl
theorem z_le {a b : Int32} (h : ¬ a < b) : b ≤ a := Int32.not_lt.mp h
theorem z_nle {a b : Int32} (h : ¬ a ≤ b) : b < a := Int32.not_le.mp h
theorem z_inc (i : Nat) : nI i + Int32.ofInt 1 = nI (i + 1) := by rw [nI_succ]; rfl
theorem z_nI_le {a b : Nat} (ha : a < 2 ^ 31) (hb : b < 2 ^ 31) (h : nI a ≤ nI b) : a ≤ b := (nI_leI ha hb).mp h
section ZM
variable {dA : Nat → ClassId} {ad : Nat → Nat} {k : z_K} {cc : ByteArray} {own : String} {d n pc : Nat} {lv : List (Option Value)} {st : List Value} {M : z_M}
theorem x_eqi {x y : Int32} (h : x = y) (kk : z_X dA ad k pc lv (.int y :: st) M) : z_X dA ad k pc lv (.int x :: st) M := by rw [h]; exact kk
theorem x_eqM {M2 : z_M} (h : M = M2) (kk : z_X dA ad k pc lv st M2) : z_X dA ad k pc lv st M := by rw [h]; exact kk
theorem rn_al_surfaces (C : z_C dA ad k cc own d n) {i : Nat} (hi : i < 8) (hdg : decode cc pc = .ok (.aaload, 1)) (kk : z_X dA ad k (pc + 1) lv (.ref (ad (i_surf i)) :: st) M) : z_X dA ad k pc lv (.int (nI i) :: .ref (ad 2) :: st) M := r_al_surfaces C (vp_in_nI hi (by decide)) hdg (by rw [nI_clamp (Nat.lt_trans hi (by decide))]; exact kk)
theorem rn_al_cells (C : z_C dA ad k cc own d n) {i : Nat} (hi : i < 6) (hdg : decode cc pc = .ok (.aaload, 1)) (kk : z_X dA ad k (pc + 1) lv (.ref (ad (i_cell i)) :: st) M) : z_X dA ad k pc lv (.int (nI i) :: .ref (ad 3) :: st) M := r_al_cells C (vp_in_nI hi (by decide)) hdg (by rw [nI_clamp (Nat.lt_trans hi (by decide))]; exact kk)
theorem rn_ld_tokens (C : z_C dA ad k cc own d n) {j : Nat} (hj : j < 7) {i : Nat} (hi : i < 8) (hdg : decode cc pc = .ok (.iaload, 1)) (kk : z_X dA ad k (pc + 1) lv (.int (M (i_tok j) i) :: st) M) : z_X dA ad k pc lv (.int (nI i) :: .ref (ad (i_tok j)) :: st) M := r_ld_tokens C hj (vp_in_nI hi (by decide)) hdg (by rw [nI_clamp (Nat.lt_trans hi (by decide))]; exact kk)
theorem rn_st_tokens (C : z_C dA ad k cc own d n) {j : Nat} (hj : j < 7) {i : Nat} {x : Int32} (hi : i < 8) (hdg : decode cc pc = .ok (.iastore, 1)) (kk : z_X dA ad k (pc + 1) lv st (z_sv M (i_tok j) i x)) : z_X dA ad k pc lv (.int x :: .int (nI i) :: .ref (ad (i_tok j)) :: st) M := r_st_tokens C hj (vp_in_nI hi (by decide)) hdg (by rw [nI_clamp (Nat.lt_trans hi (by decide))]; exact kk)
theorem rn_ld_totals (C : z_C dA ad k cc own d n) {i : Nat} (hi : i < 5) (hdg : decode cc pc = .ok (.iaload, 1)) (kk : z_X dA ad k (pc + 1) lv (.int (M 34 i) :: st) M) : z_X dA ad k pc lv (.int (nI i) :: .ref (ad 34) :: st) M := r_ld_totals C (vp_in_nI hi (by decide)) hdg (by rw [nI_clamp (Nat.lt_trans hi (by decide))]; exact kk)
theorem rn_st_totals (C : z_C dA ad k cc own d n) {i : Nat} {x : Int32} (hi : i < 5) (hdg : decode cc pc = .ok (.iastore, 1)) (kk : z_X dA ad k (pc + 1) lv st (z_sv M 34 i x)) : z_X dA ad k pc lv (.int x :: .int (nI i) :: .ref (ad 34) :: st) M := r_st_totals C (vp_in_nI hi (by decide)) hdg (by rw [nI_clamp (Nat.lt_trans hi (by decide))]; exact kk)
theorem rn_al_tallies (C : z_C dA ad k cc own d n) {i : Nat} (hi : i < 6) (hdg : decode cc pc = .ok (.aaload, 1)) (kk : z_X dA ad k (pc + 1) lv (.ref (ad (i_talr i)) :: st) M) : z_X dA ad k pc lv (.int (nI i) :: .ref (ad 35) :: st) M := r_al_tallies C (vp_in_nI hi (by decide)) hdg (by rw [nI_clamp (Nat.lt_trans hi (by decide))]; exact kk)
theorem rn_ld_talrow (C : z_C dA ad k cc own d n) {j : Nat} (hj : j < 6) {i : Nat} (hi : i < 4) (hdg : decode cc pc = .ok (.iaload, 1)) (kk : z_X dA ad k (pc + 1) lv (.int (M (i_talr j) i) :: st) M) : z_X dA ad k pc lv (.int (nI i) :: .ref (ad (i_talr j)) :: st) M := r_ld_talrow C hj (vp_in_nI hi (by decide)) hdg (by rw [nI_clamp (Nat.lt_trans hi (by decide))]; exact kk)
theorem rn_st_talrow (C : z_C dA ad k cc own d n) {j : Nat} (hj : j < 6) {i : Nat} {x : Int32} (hi : i < 4) (hdg : decode cc pc = .ok (.iastore, 1)) (kk : z_X dA ad k (pc + 1) lv st (z_sv M (i_talr j) i x)) : z_X dA ad k pc lv (.int x :: .int (nI i) :: .ref (ad (i_talr j)) :: st) M := r_st_talrow C hj (vp_in_nI hi (by decide)) hdg (by rw [nI_clamp (Nat.lt_trans hi (by decide))]; exact kk)
theorem rn_al_crossings (C : z_C dA ad k cc own d n) {i : Nat} (hi : i < 6) (hdg : decode cc pc = .ok (.aaload, 1)) (kk : z_X dA ad k (pc + 1) lv (.ref (ad (i_cror i)) :: st) M) : z_X dA ad k pc lv (.int (nI i) :: .ref (ad 42) :: st) M := r_al_crossings C (vp_in_nI hi (by decide)) hdg (by rw [nI_clamp (Nat.lt_trans hi (by decide))]; exact kk)
theorem rn_ld_crorow (C : z_C dA ad k cc own d n) {j : Nat} (hj : j < 6) {i : Nat} (hi : i < 6) (hdg : decode cc pc = .ok (.iaload, 1)) (kk : z_X dA ad k (pc + 1) lv (.int (M (i_cror j) i) :: st) M) : z_X dA ad k pc lv (.int (nI i) :: .ref (ad (i_cror j)) :: st) M := r_ld_crorow C hj (vp_in_nI hi (by decide)) hdg (by rw [nI_clamp (Nat.lt_trans hi (by decide))]; exact kk)
theorem rn_st_crorow (C : z_C dA ad k cc own d n) {j : Nat} (hj : j < 6) {i : Nat} {x : Int32} (hi : i < 6) (hdg : decode cc pc = .ok (.iastore, 1)) (kk : z_X dA ad k (pc + 1) lv st (z_sv M (i_cror j) i x)) : z_X dA ad k pc lv (.int x :: .int (nI i) :: .ref (ad (i_cror j)) :: st) M := r_st_crorow C hj (vp_in_nI hi (by decide)) hdg (by rw [nI_clamp (Nat.lt_trans hi (by decide))]; exact kk)
theorem rn_ld_placesX (C : z_C dA ad k cc own d n) {i : Nat} (hi : i < 12) (hdg : decode cc pc = .ok (.iaload, 1)) (kk : z_X dA ad k (pc + 1) lv (.int (M 50 i) :: st) M) : z_X dA ad k pc lv (.int (nI i) :: .ref (ad 50) :: st) M := r_ld_placesX C (vp_in_nI hi (by decide)) hdg (by rw [nI_clamp (Nat.lt_trans hi (by decide))]; exact kk)
theorem rn_st_placesX (C : z_C dA ad k cc own d n) {i : Nat} {x : Int32} (hi : i < 12) (hdg : decode cc pc = .ok (.iastore, 1)) (kk : z_X dA ad k (pc + 1) lv st (z_sv M 50 i x)) : z_X dA ad k pc lv (.int x :: .int (nI i) :: .ref (ad 50) :: st) M := r_st_placesX C (vp_in_nI hi (by decide)) hdg (by rw [nI_clamp (Nat.lt_trans hi (by decide))]; exact kk)
theorem rn_ld_placesY (C : z_C dA ad k cc own d n) {i : Nat} (hi : i < 12) (hdg : decode cc pc = .ok (.iaload, 1)) (kk : z_X dA ad k (pc + 1) lv (.int (M 51 i) :: st) M) : z_X dA ad k pc lv (.int (nI i) :: .ref (ad 51) :: st) M := r_ld_placesY C (vp_in_nI hi (by decide)) hdg (by rw [nI_clamp (Nat.lt_trans hi (by decide))]; exact kk)
theorem rn_st_placesY (C : z_C dA ad k cc own d n) {i : Nat} {x : Int32} (hi : i < 12) (hdg : decode cc pc = .ok (.iastore, 1)) (kk : z_X dA ad k (pc + 1) lv st (z_sv M 51 i x)) : z_X dA ad k pc lv (.int x :: .int (nI i) :: .ref (ad 51) :: st) M := r_st_placesY C (vp_in_nI hi (by decide)) hdg (by rw [nI_clamp (Nat.lt_trans hi (by decide))]; exact kk)
theorem rn_ld_m_kind (C : z_C dA ad k cc own d n) {i : Nat} (hi : i < 8) (hdg : decode cc pc = .ok (.iaload, 1)) (kk : z_X dA ad k (pc + 1) lv (.int (M 54 i) :: st) M) : z_X dA ad k pc lv (.int (nI i) :: .ref (ad 54) :: st) M := r_ld_m_kind C (vp_in_nI hi (by decide)) hdg (by rw [nI_clamp (Nat.lt_trans hi (by decide))]; exact kk)
theorem rn_st_m_kind (C : z_C dA ad k cc own d n) {i : Nat} {x : Int32} (hi : i < 8) (hdg : decode cc pc = .ok (.iastore, 1)) (kk : z_X dA ad k (pc + 1) lv st (z_sv M 54 i x)) : z_X dA ad k pc lv (.int x :: .int (nI i) :: .ref (ad 54) :: st) M := r_st_m_kind C (vp_in_nI hi (by decide)) hdg (by rw [nI_clamp (Nat.lt_trans hi (by decide))]; exact kk)
theorem rn_ld_m_sa (C : z_C dA ad k cc own d n) {i : Nat} (hi : i < 8) (hdg : decode cc pc = .ok (.iaload, 1)) (kk : z_X dA ad k (pc + 1) lv (.int (M 55 i) :: st) M) : z_X dA ad k pc lv (.int (nI i) :: .ref (ad 55) :: st) M := r_ld_m_sa C (vp_in_nI hi (by decide)) hdg (by rw [nI_clamp (Nat.lt_trans hi (by decide))]; exact kk)
theorem rn_st_m_sa (C : z_C dA ad k cc own d n) {i : Nat} {x : Int32} (hi : i < 8) (hdg : decode cc pc = .ok (.iastore, 1)) (kk : z_X dA ad k (pc + 1) lv st (z_sv M 55 i x)) : z_X dA ad k pc lv (.int x :: .int (nI i) :: .ref (ad 55) :: st) M := r_st_m_sa C (vp_in_nI hi (by decide)) hdg (by rw [nI_clamp (Nat.lt_trans hi (by decide))]; exact kk)
theorem rn_ld_m_sb (C : z_C dA ad k cc own d n) {i : Nat} (hi : i < 8) (hdg : decode cc pc = .ok (.iaload, 1)) (kk : z_X dA ad k (pc + 1) lv (.int (M 56 i) :: st) M) : z_X dA ad k pc lv (.int (nI i) :: .ref (ad 56) :: st) M := r_ld_m_sb C (vp_in_nI hi (by decide)) hdg (by rw [nI_clamp (Nat.lt_trans hi (by decide))]; exact kk)
theorem rn_st_m_sb (C : z_C dA ad k cc own d n) {i : Nat} {x : Int32} (hi : i < 8) (hdg : decode cc pc = .ok (.iastore, 1)) (kk : z_X dA ad k (pc + 1) lv st (z_sv M 56 i x)) : z_X dA ad k pc lv (.int x :: .int (nI i) :: .ref (ad 56) :: st) M := r_st_m_sb C (vp_in_nI hi (by decide)) hdg (by rw [nI_clamp (Nat.lt_trans hi (by decide))]; exact kk)
theorem rn_ld_m_sc (C : z_C dA ad k cc own d n) {i : Nat} (hi : i < 8) (hdg : decode cc pc = .ok (.iaload, 1)) (kk : z_X dA ad k (pc + 1) lv (.int (M 57 i) :: st) M) : z_X dA ad k pc lv (.int (nI i) :: .ref (ad 57) :: st) M := r_ld_m_sc C (vp_in_nI hi (by decide)) hdg (by rw [nI_clamp (Nat.lt_trans hi (by decide))]; exact kk)
theorem rn_st_m_sc (C : z_C dA ad k cc own d n) {i : Nat} {x : Int32} (hi : i < 8) (hdg : decode cc pc = .ok (.iastore, 1)) (kk : z_X dA ad k (pc + 1) lv st (z_sv M 57 i x)) : z_X dA ad k pc lv (.int x :: .int (nI i) :: .ref (ad 57) :: st) M := r_st_m_sc C (vp_in_nI hi (by decide)) hdg (by rw [nI_clamp (Nat.lt_trans hi (by decide))]; exact kk)
theorem rn_ld_m_set (C : z_C dA ad k cc own d n) {i : Nat} (hi : i < 8) (hdg : decode cc pc = .ok (.baload, 1)) (kk : z_X dA ad k (pc + 1) lv (.int (M 58 i) :: st) M) : z_X dA ad k pc lv (.int (nI i) :: .ref (ad 58) :: st) M := r_ld_m_set C (vp_in_nI hi (by decide)) hdg (by rw [nI_clamp (Nat.lt_trans hi (by decide))]; exact kk)
theorem rn_st_m_set (C : z_C dA ad k cc own d n) {i : Nat} {x : Int32} (hi : i < 8) (hnr : vp_nar .boolean x = x) (hdg : decode cc pc = .ok (.bastore, 1)) (kk : z_X dA ad k (pc + 1) lv st (z_sv M 58 i x)) : z_X dA ad k pc lv (.int x :: .int (nI i) :: .ref (ad 58) :: st) M := r_st_m_set C (vp_in_nI hi (by decide)) hnr hdg (by rw [nI_clamp (Nat.lt_trans hi (by decide))]; exact kk)
theorem rn_ld_m_buffer (C : z_C dA ad k cc own d n) {i : Nat} (hi : i < 8) (hdg : decode cc pc = .ok (.iaload, 1)) (kk : z_X dA ad k (pc + 1) lv (.int (M 59 i) :: st) M) : z_X dA ad k pc lv (.int (nI i) :: .ref (ad 59) :: st) M := r_ld_m_buffer C (vp_in_nI hi (by decide)) hdg (by rw [nI_clamp (Nat.lt_trans hi (by decide))]; exact kk)
theorem rn_st_m_buffer (C : z_C dA ad k cc own d n) {i : Nat} {x : Int32} (hi : i < 8) (hdg : decode cc pc = .ok (.iastore, 1)) (kk : z_X dA ad k (pc + 1) lv st (z_sv M 59 i x)) : z_X dA ad k pc lv (.int x :: .int (nI i) :: .ref (ad 59) :: st) M := r_st_m_buffer C (vp_in_nI hi (by decide)) hdg (by rw [nI_clamp (Nat.lt_trans hi (by decide))]; exact kk)
theorem rn_ld_m_region (C : z_C dA ad k cc own d n) {i : Nat} (hi : i < 48) (hdg : decode cc pc = .ok (.iaload, 1)) (kk : z_X dA ad k (pc + 1) lv (.int (M 60 i) :: st) M) : z_X dA ad k pc lv (.int (nI i) :: .ref (ad 60) :: st) M := r_ld_m_region C (vp_in_nI hi (by decide)) hdg (by rw [nI_clamp (Nat.lt_trans hi (by decide))]; exact kk)
theorem rn_st_m_region (C : z_C dA ad k cc own d n) {i : Nat} {x : Int32} (hi : i < 48) (hdg : decode cc pc = .ok (.iastore, 1)) (kk : z_X dA ad k (pc + 1) lv st (z_sv M 60 i x)) : z_X dA ad k pc lv (.int x :: .int (nI i) :: .ref (ad 60) :: st) M := r_st_m_region C (vp_in_nI hi (by decide)) hdg (by rw [nI_clamp (Nat.lt_trans hi (by decide))]; exact kk)
theorem rn_ld_m_tokens (C : z_C dA ad k cc own d n) {i : Nat} (hi : i < 6) (hdg : decode cc pc = .ok (.iaload, 1)) (kk : z_X dA ad k (pc + 1) lv (.int (M 61 i) :: st) M) : z_X dA ad k pc lv (.int (nI i) :: .ref (ad 61) :: st) M := r_ld_m_tokens C (vp_in_nI hi (by decide)) hdg (by rw [nI_clamp (Nat.lt_trans hi (by decide))]; exact kk)
theorem rn_st_m_tokens (C : z_C dA ad k cc own d n) {i : Nat} {x : Int32} (hi : i < 6) (hdg : decode cc pc = .ok (.iastore, 1)) (kk : z_X dA ad k (pc + 1) lv st (z_sv M 61 i x)) : z_X dA ad k pc lv (.int x :: .int (nI i) :: .ref (ad 61) :: st) M := r_st_m_tokens C (vp_in_nI hi (by decide)) hdg (by rw [nI_clamp (Nat.lt_trans hi (by decide))]; exact kk)
theorem rn_ld_m_defined (C : z_C dA ad k cc own d n) {i : Nat} (hi : i < 6) (hdg : decode cc pc = .ok (.baload, 1)) (kk : z_X dA ad k (pc + 1) lv (.int (M 62 i) :: st) M) : z_X dA ad k pc lv (.int (nI i) :: .ref (ad 62) :: st) M := r_ld_m_defined C (vp_in_nI hi (by decide)) hdg (by rw [nI_clamp (Nat.lt_trans hi (by decide))]; exact kk)
theorem rn_st_m_defined (C : z_C dA ad k cc own d n) {i : Nat} {x : Int32} (hi : i < 6) (hnr : vp_nar .boolean x = x) (hdg : decode cc pc = .ok (.bastore, 1)) (kk : z_X dA ad k (pc + 1) lv st (z_sv M 62 i x)) : z_X dA ad k pc lv (.int x :: .int (nI i) :: .ref (ad 62) :: st) M := r_st_m_defined C (vp_in_nI hi (by decide)) hnr hdg (by rw [nI_clamp (Nat.lt_trans hi (by decide))]; exact kk)
theorem rn_ld_m_density (C : z_C dA ad k cc own d n) {i : Nat} (hi : i < 6) (hdg : decode cc pc = .ok (.iaload, 1)) (kk : z_X dA ad k (pc + 1) lv (.int (M 63 i) :: st) M) : z_X dA ad k pc lv (.int (nI i) :: .ref (ad 63) :: st) M := r_ld_m_density C (vp_in_nI hi (by decide)) hdg (by rw [nI_clamp (Nat.lt_trans hi (by decide))]; exact kk)
theorem rn_st_m_density (C : z_C dA ad k cc own d n) {i : Nat} {x : Int32} (hi : i < 6) (hdg : decode cc pc = .ok (.iastore, 1)) (kk : z_X dA ad k (pc + 1) lv st (z_sv M 63 i x)) : z_X dA ad k pc lv (.int x :: .int (nI i) :: .ref (ad 63) :: st) M := r_st_m_density C (vp_in_nI hi (by decide)) hdg (by rw [nI_clamp (Nat.lt_trans hi (by decide))]; exact kk)
theorem rn_ld_m_absorbs (C : z_C dA ad k cc own d n) {i : Nat} (hi : i < 6) (hdg : decode cc pc = .ok (.iaload, 1)) (kk : z_X dA ad k (pc + 1) lv (.int (M 64 i) :: st) M) : z_X dA ad k pc lv (.int (nI i) :: .ref (ad 64) :: st) M := r_ld_m_absorbs C (vp_in_nI hi (by decide)) hdg (by rw [nI_clamp (Nat.lt_trans hi (by decide))]; exact kk)
theorem rn_st_m_absorbs (C : z_C dA ad k cc own d n) {i : Nat} {x : Int32} (hi : i < 6) (hdg : decode cc pc = .ok (.iastore, 1)) (kk : z_X dA ad k (pc + 1) lv st (z_sv M 64 i x)) : z_X dA ad k pc lv (.int x :: .int (nI i) :: .ref (ad 64) :: st) M := r_st_m_absorbs C (vp_in_nI hi (by decide)) hdg (by rw [nI_clamp (Nat.lt_trans hi (by decide))]; exact kk)
theorem rn_ld_m_splits (C : z_C dA ad k cc own d n) {i : Nat} (hi : i < 6) (hdg : decode cc pc = .ok (.iaload, 1)) (kk : z_X dA ad k (pc + 1) lv (.int (M 65 i) :: st) M) : z_X dA ad k pc lv (.int (nI i) :: .ref (ad 65) :: st) M := r_ld_m_splits C (vp_in_nI hi (by decide)) hdg (by rw [nI_clamp (Nat.lt_trans hi (by decide))]; exact kk)
theorem rn_st_m_splits (C : z_C dA ad k cc own d n) {i : Nat} {x : Int32} (hi : i < 6) (hdg : decode cc pc = .ok (.iastore, 1)) (kk : z_X dA ad k (pc + 1) lv st (z_sv M 65 i x)) : z_X dA ad k pc lv (.int x :: .int (nI i) :: .ref (ad 65) :: st) M := r_st_m_splits C (vp_in_nI hi (by decide)) hdg (by rw [nI_clamp (Nat.lt_trans hi (by decide))]; exact kk)
theorem rn_ld_m_tallies (C : z_C dA ad k cc own d n) {i : Nat} (hi : i < 24) (hdg : decode cc pc = .ok (.iaload, 1)) (kk : z_X dA ad k (pc + 1) lv (.int (M 66 i) :: st) M) : z_X dA ad k pc lv (.int (nI i) :: .ref (ad 66) :: st) M := r_ld_m_tallies C (vp_in_nI hi (by decide)) hdg (by rw [nI_clamp (Nat.lt_trans hi (by decide))]; exact kk)
theorem rn_st_m_tallies (C : z_C dA ad k cc own d n) {i : Nat} {x : Int32} (hi : i < 24) (hdg : decode cc pc = .ok (.iastore, 1)) (kk : z_X dA ad k (pc + 1) lv st (z_sv M 66 i x)) : z_X dA ad k pc lv (.int x :: .int (nI i) :: .ref (ad 66) :: st) M := r_st_m_tallies C (vp_in_nI hi (by decide)) hdg (by rw [nI_clamp (Nat.lt_trans hi (by decide))]; exact kk)
theorem rn_ld_m_crossings (C : z_C dA ad k cc own d n) {i : Nat} (hi : i < 36) (hdg : decode cc pc = .ok (.iaload, 1)) (kk : z_X dA ad k (pc + 1) lv (.int (M 67 i) :: st) M) : z_X dA ad k pc lv (.int (nI i) :: .ref (ad 67) :: st) M := r_ld_m_crossings C (vp_in_nI hi (by decide)) hdg (by rw [nI_clamp (Nat.lt_trans hi (by decide))]; exact kk)
theorem rn_st_m_crossings (C : z_C dA ad k cc own d n) {i : Nat} {x : Int32} (hi : i < 36) (hdg : decode cc pc = .ok (.iastore, 1)) (kk : z_X dA ad k (pc + 1) lv st (z_sv M 67 i x)) : z_X dA ad k pc lv (.int x :: .int (nI i) :: .ref (ad 67) :: st) M := r_st_m_crossings C (vp_in_nI hi (by decide)) hdg (by rw [nI_clamp (Nat.lt_trans hi (by decide))]; exact kk)
theorem rn_ld_m_counts (C : z_C dA ad k cc own d n) {i : Nat} (hi : i < 5) (hdg : decode cc pc = .ok (.iaload, 1)) (kk : z_X dA ad k (pc + 1) lv (.int (M 68 i) :: st) M) : z_X dA ad k pc lv (.int (nI i) :: .ref (ad 68) :: st) M := r_ld_m_counts C (vp_in_nI hi (by decide)) hdg (by rw [nI_clamp (Nat.lt_trans hi (by decide))]; exact kk)
theorem rn_st_m_counts (C : z_C dA ad k cc own d n) {i : Nat} {x : Int32} (hi : i < 5) (hdg : decode cc pc = .ok (.iastore, 1)) (kk : z_X dA ad k (pc + 1) lv st (z_sv M 68 i x)) : z_X dA ad k pc lv (.int x :: .int (nI i) :: .ref (ad 68) :: st) M := r_st_m_counts C (vp_in_nI hi (by decide)) hdg (by rw [nI_clamp (Nat.lt_trans hi (by decide))]; exact kk)
theorem rn_ld_m_px (C : z_C dA ad k cc own d n) {i : Nat} (hi : i < 12) (hdg : decode cc pc = .ok (.iaload, 1)) (kk : z_X dA ad k (pc + 1) lv (.int (M 69 i) :: st) M) : z_X dA ad k pc lv (.int (nI i) :: .ref (ad 69) :: st) M := r_ld_m_px C (vp_in_nI hi (by decide)) hdg (by rw [nI_clamp (Nat.lt_trans hi (by decide))]; exact kk)
theorem rn_st_m_px (C : z_C dA ad k cc own d n) {i : Nat} {x : Int32} (hi : i < 12) (hdg : decode cc pc = .ok (.iastore, 1)) (kk : z_X dA ad k (pc + 1) lv st (z_sv M 69 i x)) : z_X dA ad k pc lv (.int x :: .int (nI i) :: .ref (ad 69) :: st) M := r_st_m_px C (vp_in_nI hi (by decide)) hdg (by rw [nI_clamp (Nat.lt_trans hi (by decide))]; exact kk)
theorem rn_ld_m_py (C : z_C dA ad k cc own d n) {i : Nat} (hi : i < 12) (hdg : decode cc pc = .ok (.iaload, 1)) (kk : z_X dA ad k (pc + 1) lv (.int (M 70 i) :: st) M) : z_X dA ad k pc lv (.int (nI i) :: .ref (ad 70) :: st) M := r_ld_m_py C (vp_in_nI hi (by decide)) hdg (by rw [nI_clamp (Nat.lt_trans hi (by decide))]; exact kk)
theorem rn_st_m_py (C : z_C dA ad k cc own d n) {i : Nat} {x : Int32} (hi : i < 12) (hdg : decode cc pc = .ok (.iastore, 1)) (kk : z_X dA ad k (pc + 1) lv st (z_sv M 70 i x)) : z_X dA ad k pc lv (.int x :: .int (nI i) :: .ref (ad 70) :: st) M := r_st_m_py C (vp_in_nI hi (by decide)) hdg (by rw [nI_clamp (Nat.lt_trans hi (by decide))]; exact kk)
theorem rn_ld_tab (C : z_C dA ad k cc own d n) {t : Nat} {g : Nat → Int32} (hT : z_tb k t g) {i : Nat} (hi : i < 8) (hdg : decode cc pc = .ok (.iaload, 1)) (kk : z_X dA ad k (pc + 1) lv (.int (g i) :: st) M) : z_X dA ad k pc lv (.int (nI i) :: .ref t :: st) M := r_ld_tab C hT (vp_in_nI hi (by decide)) hdg (by rw [nI_clamp (Nat.lt_trans hi (by decide))]; exact kk)
end ZM
end
section
abbrev p_btw (v lo hi : Int32) : Prop := lo ≤ v ∧ v ≤ hi
abbrev p_wth (x y m : Int32) : Prop := p_btw x (-m) m ∧ p_btw y (-m) m
abbrev p_isS (kd a b c : Int32) : Prop := (kd = 0 ∧ p_wth a b 9 ∧ p_btw c (-9999) 9999) ∨ (kd = 1 ∧ p_wth a b 300 ∧ p_btw c 0 300)
abbrev p_shr (a f : Int32) : Prop := p_btw a 0 1000 ∧ p_btw f 0 (1000 - a)
theorem c_CellTransport_isBetween {dA : Nat → ClassId} {ad : Nat → Nat} {M : z_M} (v lo hi : Int32) : z_CI y_CellTransport_isBetween b_CellTransport_isBetween 3 .boolean 0 dA ad [.int v, .int lo, .int hi] M (z_b (p_btw v lo hi)) (M) := by
  refine z_ofI [some (.int v), some (.int lo), some (.int hi)] (by decide) (Nat.le_of_ble_eq_true rfl) rfl (fun k C E => ?_)
  have C : z_C dA ad k b_CellTransport_isBetween "CellTransport" 0 3 := C
  refine x_iload_n C d_CellTransport_isBetween_0 (i := 1) rfl rfl ?_
  refine x_iload_n C d_CellTransport_isBetween_1 (i := 0) rfl rfl ?_
  refine x_icmp_gt C 14 d_CellTransport_isBetween_2 rfl (fun h_2 => ?_) (fun h_2 => ?_)
  · refine x_iconst C (0) d_CellTransport_isBetween_14 rfl ?_
    exact x_zret C E (z_b_f (fun q => Int32.not_lt.mpr q.1 h_2)).symm rfl rfl d_CellTransport_isBetween_15
  · refine x_iload_n C d_CellTransport_isBetween_5 (i := 0) rfl rfl ?_
    refine x_iload_n C d_CellTransport_isBetween_6 (i := 2) rfl rfl ?_
    refine x_icmp_gt C 14 d_CellTransport_isBetween_7 rfl (fun h_7 => ?_) (fun h_7 => ?_)
    · refine x_iconst C (0) d_CellTransport_isBetween_14 rfl ?_
      exact x_zret C E (z_b_f (fun q => Int32.not_lt.mpr q.2 h_7)).symm rfl rfl d_CellTransport_isBetween_15
    · refine x_iconst C (1) d_CellTransport_isBetween_10 rfl ?_
      refine x_goto C 15 d_CellTransport_isBetween_11 rfl ?_
      exact x_zret C E (z_b_t ⟨z_le h_2, z_le h_7⟩).symm rfl rfl d_CellTransport_isBetween_15
theorem c_CellTransport_areWithin {dA : Nat → ClassId} {ad : Nat → Nat} {M : z_M} (x y m : Int32) : z_CI y_CellTransport_areWithin b_CellTransport_areWithin 3 .boolean 1 dA ad [.int x, .int y, .int m] M (z_b (p_wth x y m)) (M) := by
  refine z_ofI [some (.int x), some (.int y), some (.int m)] (by decide) (Nat.le_of_ble_eq_true rfl) rfl (fun k C E => ?_)
  have C : z_C dA ad k b_CellTransport_areWithin "CellTransport" 1 3 := C
  refine x_iload_n C d_CellTransport_areWithin_0 (i := 0) rfl rfl ?_
  refine x_iload_n C d_CellTransport_areWithin_1 (i := 2) rfl rfl ?_
  refine x_ineg C d_CellTransport_areWithin_2 ?_
  refine x_iload_n C d_CellTransport_areWithin_3 (i := 2) rfl rfl ?_
  refine x_callSi C (c_CellTransport_isBetween _ _ _) mt_CellTransport_isBetween rfl rfl (Nat.le_of_ble_eq_true rfl) (Nat.le_of_ble_eq_true rfl) lk_CellTransport_51 d_CellTransport_areWithin_4 ?_
  refine x_if_eq C 24 d_CellTransport_areWithin_7 rfl (fun h_7 => ?_) (fun h_7 => ?_)
  · refine x_iconst C (0) d_CellTransport_areWithin_24 rfl ?_
    exact x_zret C E (z_b_f (fun q => z_b_0.mp h_7 q.1)).symm rfl rfl d_CellTransport_areWithin_25
  · refine x_iload_n C d_CellTransport_areWithin_10 (i := 1) rfl rfl ?_
    refine x_iload_n C d_CellTransport_areWithin_11 (i := 2) rfl rfl ?_
    refine x_ineg C d_CellTransport_areWithin_12 ?_
    refine x_iload_n C d_CellTransport_areWithin_13 (i := 2) rfl rfl ?_
    refine x_callSi C (c_CellTransport_isBetween _ _ _) mt_CellTransport_isBetween rfl rfl (Nat.le_of_ble_eq_true rfl) (Nat.le_of_ble_eq_true rfl) lk_CellTransport_51 d_CellTransport_areWithin_14 ?_
    refine x_if_eq C 24 d_CellTransport_areWithin_17 rfl (fun h_17 => ?_) (fun h_17 => ?_)
    · refine x_iconst C (0) d_CellTransport_areWithin_24 rfl ?_
      exact x_zret C E (z_b_f (fun q => z_b_0.mp h_17 q.2)).symm rfl rfl d_CellTransport_areWithin_25
    · refine x_iconst C (1) d_CellTransport_areWithin_20 rfl ?_
      refine x_goto C 25 d_CellTransport_areWithin_21 rfl ?_
      exact x_zret C E (z_b_t ⟨z_b_n0.mp h_7, z_b_n0.mp h_17⟩).symm rfl rfl d_CellTransport_areWithin_25
theorem c_CellTransport_areShares {dA : Nat → ClassId} {ad : Nat → Nat} {M : z_M} (a f : Int32) : z_CI y_CellTransport_areShares b_CellTransport_areShares 2 .boolean 1 dA ad [.int a, .int f] M (z_b (p_shr a f)) (M) := by
  refine z_ofI [some (.int a), some (.int f)] (by decide) (Nat.le_of_ble_eq_true rfl) rfl (fun k C E => ?_)
  have C : z_C dA ad k b_CellTransport_areShares "CellTransport" 1 2 := C
  refine x_iload_n C d_CellTransport_areShares_0 (i := 0) rfl rfl ?_
  refine x_iconst C (0) d_CellTransport_areShares_1 rfl ?_
  refine x_sipush C (1000) d_CellTransport_areShares_2 rfl ?_
  refine x_callSi C (c_CellTransport_isBetween _ _ _) mt_CellTransport_isBetween rfl rfl (Nat.le_of_ble_eq_true rfl) (Nat.le_of_ble_eq_true rfl) lk_CellTransport_51 d_CellTransport_areShares_5 ?_
  refine x_if_eq C 28 d_CellTransport_areShares_8 rfl (fun h_8 => ?_) (fun h_8 => ?_)
  · refine x_iconst C (0) d_CellTransport_areShares_28 rfl ?_
    exact x_zret C E (z_b_f (fun q => z_b_0.mp h_8 q.1)).symm rfl rfl d_CellTransport_areShares_29
  · refine x_iload_n C d_CellTransport_areShares_11 (i := 1) rfl rfl ?_
    refine x_iconst C (0) d_CellTransport_areShares_12 rfl ?_
    refine x_sipush C (1000) d_CellTransport_areShares_13 rfl ?_
    refine x_iload_n C d_CellTransport_areShares_16 (i := 0) rfl rfl ?_
    refine x_isub C d_CellTransport_areShares_17 ?_
    refine x_callSi C (c_CellTransport_isBetween _ _ _) mt_CellTransport_isBetween rfl rfl (Nat.le_of_ble_eq_true rfl) (Nat.le_of_ble_eq_true rfl) lk_CellTransport_51 d_CellTransport_areShares_18 ?_
    refine x_if_eq C 28 d_CellTransport_areShares_21 rfl (fun h_21 => ?_) (fun h_21 => ?_)
    · refine x_iconst C (0) d_CellTransport_areShares_28 rfl ?_
      exact x_zret C E (z_b_f (fun q => z_b_0.mp h_21 q.2)).symm rfl rfl d_CellTransport_areShares_29
    · refine x_iconst C (1) d_CellTransport_areShares_24 rfl ?_
      refine x_goto C 29 d_CellTransport_areShares_25 rfl ?_
      exact x_zret C E (z_b_t ⟨z_b_n0.mp h_8, z_b_n0.mp h_21⟩).symm rfl rfl d_CellTransport_areShares_29
theorem c_CellTransport_oneIf {dA : Nat → ClassId} {ad : Nat → Nat} {M : z_M} (b : Int32) : z_CI y_CellTransport_oneIf b_CellTransport_oneIf 1 .int 0 dA ad [.int b] M (z_b (¬ b = 0)) (M) := by
  refine z_ofI [some (.int b)] (by decide) (Nat.le_of_ble_eq_true rfl) rfl (fun k C E => ?_)
  have C : z_C dA ad k b_CellTransport_oneIf "CellTransport" 0 1 := C
  refine x_iload_n C d_CellTransport_oneIf_0 (i := 0) rfl rfl ?_
  refine x_if_eq C 8 d_CellTransport_oneIf_1 rfl (fun h_1 => ?_) (fun h_1 => ?_)
  · refine x_iconst C (0) d_CellTransport_oneIf_8 rfl ?_
    exact x_iret C E (z_b_f (fun q => q h_1)).symm rfl d_CellTransport_oneIf_9
  · refine x_iconst C (1) d_CellTransport_oneIf_4 rfl ?_
    refine x_goto C 9 d_CellTransport_oneIf_5 rfl ?_
    exact x_iret C E (z_b_t h_1).symm rfl d_CellTransport_oneIf_9
theorem z_toInt_ne {x y : Int32} (h : ¬ x = y) : ¬ x.toInt = y.toInt := fun q => h (Int32.toInt_inj.mp q)
theorem z_lk01 {x : Int32} (h0 : ¬ x = 0) (h1 : ¬ x = 1) : Op.lookupswitch.offset ([(0, 27), (1, 56)] : List (Int × Int)) 84 x.toInt = 84 := by
  have e0 := z_toInt_ne h0
  have e1 := z_toInt_ne h1
  have e0 : ¬ x.toInt = 0 := e0
  have e1 : ¬ x.toInt = 1 := e1
  have f0 : ¬ (0 : Int) = x.toInt := fun q => e0 q.symm
  have f1 : ¬ (1 : Int) = x.toInt := fun q => e1 q.symm
  simp [Op.lookupswitch.offset, e0, e1, f0, f1]
theorem c_CellTransport_isSurface {dA : Nat → ClassId} {ad : Nat → Nat} {M : z_M} (kd a b c : Int32) : z_CI y_CellTransport_isSurface b_CellTransport_isSurface 4 .boolean 2 dA ad [.int kd, .int a, .int b, .int c] M (z_b (p_isS kd a b c)) (M) := by
  refine z_ofI [some (.int kd), some (.int a), some (.int b), some (.int c)] (by decide) (Nat.le_of_ble_eq_true rfl) rfl (fun k C E => ?_)
  have C : z_C dA ad k b_CellTransport_isSurface "CellTransport" 2 4 := C
  refine x_iload_n C d_CellTransport_isSurface_0 (i := 0) rfl rfl ?_
  by_cases k0 : kd = 0
  · subst k0
    refine x_lookup C 28 d_CellTransport_isSurface_1 rfl rfl rfl ?_
    refine x_iload_n C d_CellTransport_isSurface_28 (i := 1) rfl rfl ?_
    refine x_iload_n C d_CellTransport_isSurface_29 (i := 2) rfl rfl ?_
    refine x_bipush C (9) d_CellTransport_isSurface_30 rfl ?_
    refine x_callSi C (c_CellTransport_areWithin _ _ _) mt_CellTransport_areWithin rfl rfl (Nat.le_of_ble_eq_true rfl) (Nat.le_of_ble_eq_true rfl) lk_CellTransport_106 d_CellTransport_isSurface_32 ?_
    refine x_if_eq C 55 d_CellTransport_isSurface_35 rfl (fun h_35 => ?_) (fun h_35 => ?_)
    · refine x_iconst C (0) d_CellTransport_isSurface_55 rfl ?_
      exact x_zret C E (z_b_f (fun q => q.elim (fun q => z_b_0.mp h_35 q.2.1) (fun q => absurd q.1 (by decide)))).symm rfl rfl d_CellTransport_isSurface_56
    · refine x_iload_n C d_CellTransport_isSurface_38 (i := 3) rfl rfl ?_
      refine x_sipush C (-9999) d_CellTransport_isSurface_39 rfl ?_
      refine x_sipush C (9999) d_CellTransport_isSurface_42 rfl ?_
      refine x_callSi C (c_CellTransport_isBetween _ _ _) mt_CellTransport_isBetween rfl rfl (Nat.le_of_ble_eq_true rfl) (Nat.le_of_ble_eq_true rfl) lk_CellTransport_51 d_CellTransport_isSurface_45 ?_
      refine x_if_eq C 55 d_CellTransport_isSurface_48 rfl (fun h_48 => ?_) (fun h_48 => ?_)
      · refine x_iconst C (0) d_CellTransport_isSurface_55 rfl ?_
        exact x_zret C E (z_b_f (fun q => q.elim (fun q => z_b_0.mp h_48 q.2.2) (fun q => absurd q.1 (by decide)))).symm rfl rfl d_CellTransport_isSurface_56
      · refine x_iconst C (1) d_CellTransport_isSurface_51 rfl ?_
        refine x_goto C 56 d_CellTransport_isSurface_52 rfl ?_
        exact x_zret C E (z_b_t (Or.inl ⟨rfl, z_b_n0.mp h_35, z_b_n0.mp h_48⟩)).symm rfl rfl d_CellTransport_isSurface_56
  · by_cases k1 : kd = 1
    · subst k1
      refine x_lookup C 57 d_CellTransport_isSurface_1 rfl rfl rfl ?_
      refine x_iload_n C d_CellTransport_isSurface_57 (i := 1) rfl rfl ?_
      refine x_iload_n C d_CellTransport_isSurface_58 (i := 2) rfl rfl ?_
      refine x_sipush C (300) d_CellTransport_isSurface_59 rfl ?_
      refine x_callSi C (c_CellTransport_areWithin _ _ _) mt_CellTransport_areWithin rfl rfl (Nat.le_of_ble_eq_true rfl) (Nat.le_of_ble_eq_true rfl) lk_CellTransport_106 d_CellTransport_isSurface_62 ?_
      refine x_if_eq C 83 d_CellTransport_isSurface_65 rfl (fun h_65 => ?_) (fun h_65 => ?_)
      · refine x_iconst C (0) d_CellTransport_isSurface_83 rfl ?_
        exact x_zret C E (z_b_f (fun q => q.elim (fun q => absurd q.1 (by decide)) (fun q => z_b_0.mp h_65 q.2.1))).symm rfl rfl d_CellTransport_isSurface_84
      · refine x_iload_n C d_CellTransport_isSurface_68 (i := 3) rfl rfl ?_
        refine x_iconst C (0) d_CellTransport_isSurface_69 rfl ?_
        refine x_sipush C (300) d_CellTransport_isSurface_70 rfl ?_
        refine x_callSi C (c_CellTransport_isBetween _ _ _) mt_CellTransport_isBetween rfl rfl (Nat.le_of_ble_eq_true rfl) (Nat.le_of_ble_eq_true rfl) lk_CellTransport_51 d_CellTransport_isSurface_73 ?_
        refine x_if_eq C 83 d_CellTransport_isSurface_76 rfl (fun h_76 => ?_) (fun h_76 => ?_)
        · refine x_iconst C (0) d_CellTransport_isSurface_83 rfl ?_
          exact x_zret C E (z_b_f (fun q => q.elim (fun q => absurd q.1 (by decide)) (fun q => z_b_0.mp h_76 q.2.2))).symm rfl rfl d_CellTransport_isSurface_84
        · refine x_iconst C (1) d_CellTransport_isSurface_79 rfl ?_
          refine x_goto C 84 d_CellTransport_isSurface_80 rfl ?_
          exact x_zret C E (z_b_t (Or.inr ⟨rfl, z_b_n0.mp h_65, z_b_n0.mp h_76⟩)).symm rfl rfl d_CellTransport_isSurface_84
    · refine x_lookup C 85 d_CellTransport_isSurface_1 rfl (z_lk01 k0 k1) rfl ?_
      refine x_iconst C (0) d_CellTransport_isSurface_85 rfl ?_
      exact x_zret C E (z_b_f (fun q => q.elim (fun q => k0 q.1) (fun q => k1 q.1))).symm rfl rfl d_CellTransport_isSurface_86
def f_bec (M : z_M) (j : Nat) (kd a b c : Int32) : z_M := z_sv (z_sv (z_sv (z_sv (z_sv M (i_surf j) 0 1) (i_surf j) 1 kd) (i_surf j) 2 a) (i_surf j) 3 b) (i_surf j) 4 c
theorem c_Surface_become {dA : Nat → ClassId} {ad : Nat → Nat} {M : z_M} {j : Nat} (hj : j < 8) (kd a b c : Int32) : z_CV y_Surface_become b_Surface_become 5 0 dA ad [.ref (ad (i_surf j)), .int kd, .int a, .int b, .int c] M (f_bec M j kd a b c) := by
  refine z_ofV [some (.ref (ad (i_surf j))), some (.int kd), some (.int a), some (.int b), some (.int c)] (by decide) (Nat.le_of_ble_eq_true rfl) rfl (fun k C E => ?_)
  have C : z_C dA ad k b_Surface_become "CellTransport$Surface" 0 5 := C
  refine x_aload_n C d_Surface_become_0 (i := 0) rfl rfl ?_
  refine x_iconst C (1) d_Surface_become_1 rfl ?_
  refine u_Surface_isSet C hj rfl rfl lk_Surface_9 d_Surface_become_2 ?_
  refine x_aload_n C d_Surface_become_5 (i := 0) rfl rfl ?_
  refine x_iload_n C d_Surface_become_6 (i := 1) rfl rfl ?_
  refine u_Surface_kind C hj lk_Surface_15 d_Surface_become_7 ?_
  refine x_aload_n C d_Surface_become_10 (i := 0) rfl rfl ?_
  refine x_iload_n C d_Surface_become_11 (i := 2) rfl rfl ?_
  refine u_Surface_a C hj lk_Surface_19 d_Surface_become_12 ?_
  refine x_aload_n C d_Surface_become_15 (i := 0) rfl rfl ?_
  refine x_iload_n C d_Surface_become_16 (i := 3) rfl rfl ?_
  refine u_Surface_b C hj lk_Surface_22 d_Surface_become_17 ?_
  refine x_aload_n C d_Surface_become_20 (i := 0) rfl rfl ?_
  refine x_iload C d_Surface_become_21 rfl ?_
  refine u_Surface_c C hj lk_Surface_25 d_Surface_become_23 ?_
  exact x_vret C E rfl d_Surface_become_26
abbrev p_sh (f : Nat → Int32) (x y : Int32) : Prop := ¬ f 0 = 0 ∧ (if f 1 = 0 then f 2 * x + f 3 * y ≤ f 4 else (x - f 2) * (x - f 2) + (y - f 3) * (y - f 3) ≤ f 4 * f 4)
theorem c_Surface_holds {dA : Nat → ClassId} {ad : Nat → Nat} {M : z_M} {j : Nat} (hj : j < 8) (x y : Int32) : z_CI y_Surface_holds b_Surface_holds 3 .boolean 0 dA ad [.ref (ad (i_surf j)), .int x, .int y] M (z_b (p_sh (M (i_surf j)) x y)) (M) := by
  refine z_ofI [some (.ref (ad (i_surf j))), some (.int x), some (.int y)] (by decide) (Nat.le_of_ble_eq_true rfl) rfl (fun k C E => ?_)
  have C : z_C dA ad k b_Surface_holds "CellTransport$Surface" 0 3 := C
  refine x_aload_n C d_Surface_holds_0 (i := 0) rfl rfl ?_
  refine g_Surface_isSet C hj lk_Surface_9 d_Surface_holds_1 ?_
  refine x_if_ne C 9 d_Surface_holds_4 rfl (fun h_4 => ?_) (fun h_4 => ?_)
  · refine x_aload_n C d_Surface_holds_9 (i := 0) rfl rfl ?_
    refine g_Surface_kind C hj lk_Surface_15 d_Surface_holds_10 ?_
    refine x_if_ne C 42 d_Surface_holds_13 rfl (fun h_13 => ?_) (fun h_13 => ?_)
    · refine x_iload_n C d_Surface_holds_42 (i := 1) rfl rfl ?_
      refine x_aload_n C d_Surface_holds_43 (i := 0) rfl rfl ?_
      refine g_Surface_a C hj lk_Surface_19 d_Surface_holds_44 ?_
      refine x_isub C d_Surface_holds_47 ?_
      refine x_iload_n C d_Surface_holds_48 (i := 1) rfl rfl ?_
      refine x_aload_n C d_Surface_holds_49 (i := 0) rfl rfl ?_
      refine g_Surface_a C hj lk_Surface_19 d_Surface_holds_50 ?_
      refine x_isub C d_Surface_holds_53 ?_
      refine x_imul C d_Surface_holds_54 ?_
      refine x_iload_n C d_Surface_holds_55 (i := 2) rfl rfl ?_
      refine x_aload_n C d_Surface_holds_56 (i := 0) rfl rfl ?_
      refine g_Surface_b C hj lk_Surface_22 d_Surface_holds_57 ?_
      refine x_isub C d_Surface_holds_60 ?_
      refine x_iload_n C d_Surface_holds_61 (i := 2) rfl rfl ?_
      refine x_aload_n C d_Surface_holds_62 (i := 0) rfl rfl ?_
      refine g_Surface_b C hj lk_Surface_22 d_Surface_holds_63 ?_
      refine x_isub C d_Surface_holds_66 ?_
      refine x_imul C d_Surface_holds_67 ?_
      refine x_iadd C d_Surface_holds_68 ?_
      refine x_aload_n C d_Surface_holds_69 (i := 0) rfl rfl ?_
      refine g_Surface_c C hj lk_Surface_25 d_Surface_holds_70 ?_
      refine x_aload_n C d_Surface_holds_73 (i := 0) rfl rfl ?_
      refine g_Surface_c C hj lk_Surface_25 d_Surface_holds_74 ?_
      refine x_imul C d_Surface_holds_77 ?_
      refine x_icmp_gt C 85 d_Surface_holds_78 rfl (fun h_78 => ?_) (fun h_78 => ?_)
      · refine x_iconst C (0) d_Surface_holds_85 rfl ?_
        exact x_zret C E (z_b_f (fun q => by have q2 := q.2; rw [if_neg h_13] at q2; exact Int32.not_lt.mpr q2 h_78)).symm rfl rfl d_Surface_holds_86
      · refine x_iconst C (1) d_Surface_holds_81 rfl ?_
        refine x_goto C 86 d_Surface_holds_82 rfl ?_
        exact x_zret C E (z_b_t ⟨h_4, by rw [if_neg h_13]; exact z_le h_78⟩).symm rfl rfl d_Surface_holds_86
    · refine x_aload_n C d_Surface_holds_16 (i := 0) rfl rfl ?_
      refine g_Surface_a C hj lk_Surface_19 d_Surface_holds_17 ?_
      refine x_iload_n C d_Surface_holds_20 (i := 1) rfl rfl ?_
      refine x_imul C d_Surface_holds_21 ?_
      refine x_aload_n C d_Surface_holds_22 (i := 0) rfl rfl ?_
      refine g_Surface_b C hj lk_Surface_22 d_Surface_holds_23 ?_
      refine x_iload_n C d_Surface_holds_26 (i := 2) rfl rfl ?_
      refine x_imul C d_Surface_holds_27 ?_
      refine x_iadd C d_Surface_holds_28 ?_
      refine x_aload_n C d_Surface_holds_29 (i := 0) rfl rfl ?_
      refine g_Surface_c C hj lk_Surface_25 d_Surface_holds_30 ?_
      refine x_icmp_gt C 40 d_Surface_holds_33 rfl (fun h_33 => ?_) (fun h_33 => ?_)
      · refine x_iconst C (0) d_Surface_holds_40 rfl ?_
        exact x_zret C E (z_b_f (fun q => by have q2 := q.2; rw [if_pos h_13] at q2; exact Int32.not_lt.mpr q2 h_33)).symm rfl rfl d_Surface_holds_41
      · refine x_iconst C (1) d_Surface_holds_36 rfl ?_
        refine x_goto C 41 d_Surface_holds_37 rfl ?_
        exact x_zret C E (z_b_t ⟨h_4, by rw [if_pos h_13]; exact z_le h_33⟩).symm rfl rfl d_Surface_holds_41
  · refine x_iconst C (0) d_Surface_holds_7 rfl ?_
    exact x_zret C E (z_b_f (fun q => q.1 h_4)).symm rfl rfl d_Surface_holds_8
end
section
theorem lk_cp1 : Cond.native arraycopyName ∈ z_T := z_T_mem (List.mem_append_right _ (List.mem_of_getElem? (i := 262) (by decide +kernel))) rfl
theorem lk_cp2 : Cond.static arraycopyName ∈ z_T := by decide +kernel
theorem lk_cp3 : Cond.initialized "java/lang/System" ∈ z_T := by decide +kernel
theorem z_sv_id (M : z_M) (k j : Nat) : z_sv M k j (M k j) = M := by
  funext a b
  rw [z_sv_at]
  split
  · rename_i h; rw [h.1, h.2]
  · rfl
theorem z_sv_sv (M : z_M) (k j : Nat) (v w : Int32) : z_sv (z_sv M k j v) k j w = z_sv M k j w := by
  funext a b
  rw [z_sv_at, z_sv_at, z_sv_at]
  split <;> rfl
theorem z_sv_get (M : z_M) (k j a b : Nat) (v : Int32) (h : a ≠ k ∨ b ≠ j) : z_sv M k j v a b = M a b := by
  rw [z_sv_at, if_neg (fun q => h.elim (fun z => z q.1) (fun z => z q.2))]
def f_ops (t : Int32) : Int32 := if t = 8 then 2 else if t = 9 then 2 else if t = 10 then 1 else 0
theorem z_o810 {x : Int32} (h8 : ¬ x = 8) (h9 : ¬ x = 9) (h10 : ¬ x = 10) : x.toInt < 8 ∨ 10 < x.toInt := by
  have e8 : ¬ x.toInt = 8 := z_toInt_ne h8
  have e9 : ¬ x.toInt = 9 := z_toInt_ne h9
  have e10 : ¬ x.toInt = 10 := z_toInt_ne h10
  omega
theorem c_Region_operandsOf {dA : Nat → ClassId} {ad : Nat → Nat} {M : z_M} (t : Int32) : z_CI y_Region_operandsOf b_Region_operandsOf 1 .int 0 dA ad [.int t] M (f_ops t) (M) := by
  refine z_ofI [some (.int t)] (by decide) (Nat.le_of_ble_eq_true rfl) rfl (fun k C E => ?_)
  have C : z_C dA ad k b_Region_operandsOf "CellTransport$Region" 0 1 := C
  refine x_iload_n C d_Region_operandsOf_0 (i := 0) rfl rfl ?_
  by_cases h8 : t = 8
  · subst h8
    refine x_tableIn C 28 d_Region_operandsOf_1 (by decide) (by decide) rfl rfl ?_
    refine x_iconst C (2) d_Region_operandsOf_28 rfl ?_
    exact x_iret C E rfl rfl d_Region_operandsOf_29
  · by_cases h9 : t = 9
    · subst h9
      refine x_tableIn C 28 d_Region_operandsOf_1 (by decide) (by decide) rfl rfl ?_
      refine x_iconst C (2) d_Region_operandsOf_28 rfl ?_
      exact x_iret C E rfl rfl d_Region_operandsOf_29
    · by_cases h10 : t = 10
      · subst h10
        refine x_tableIn C 30 d_Region_operandsOf_1 (by decide) (by decide) rfl rfl ?_
        refine x_iconst C (1) d_Region_operandsOf_30 rfl ?_
        exact x_iret C E rfl rfl d_Region_operandsOf_31
      · refine x_tableOut C 32 d_Region_operandsOf_1 (z_o810 h8 h9 h10) rfl ?_
        refine x_iconst C (0) d_Region_operandsOf_32 rfl ?_
        exact x_iret C E (by simp [f_ops, h8, h9, h10]) rfl d_Region_operandsOf_33
theorem c_Region_add {dA : Nat → ClassId} {ad : Nat → Nat} {M : z_M} {j : Nat} (hj : j < 7) (v : Int32) {sz : Nat} (hsz : sz < 8) (hs : M (i_reg j) 1 = nI sz) : z_CV y_Region_add b_Region_add 2 0 dA ad [.ref (ad (i_reg j)), .int v] M (z_sv (z_sv M (i_tok j) sz v) (i_reg j) 1 (nI (sz + 1))) := by
  refine z_ofV [some (.ref (ad (i_reg j))), some (.int v)] (by decide) (Nat.le_of_ble_eq_true rfl) rfl (fun k C E => ?_)
  have C : z_C dA ad k b_Region_add "CellTransport$Region" 0 2 := C
  refine x_aload_n C d_Region_add_0 (i := 0) rfl rfl ?_
  refine g_Region_size C hj lk_Region_15 d_Region_add_1 ?_
  refine x_bipush C (8) d_Region_add_4 rfl ?_
  refine x_icmp_ge C 29 d_Region_add_6 rfl (fun h_6 => ?_) (fun h_6 => ?_)
  · exact x_vret C E (absurd (hs ▸ h_6) (nI_ge hsz (by decide))) d_Region_add_29
  · refine x_aload_n C d_Region_add_9 (i := 0) rfl rfl ?_
    refine g_Region_tokens C hj lk_Region_9 d_Region_add_10 ?_
    refine x_aload_n C d_Region_add_13 (i := 0) rfl rfl ?_
    refine g_Region_size C hj lk_Region_15 d_Region_add_14 ?_
    refine x_eqi hs ?_
    refine x_iload_n C d_Region_add_17 (i := 1) rfl rfl ?_
    refine rn_st_tokens C hj  hsz d_Region_add_18 ?_
    refine x_aload_n C d_Region_add_19 (i := 0) rfl rfl ?_
    refine x_dup C d_Region_add_20 rfl ?_
    refine g_Region_size C hj lk_Region_15 d_Region_add_21 ?_
    refine x_eqi ((z_sv_get M _ _ _ _ v (Or.inl (by unfold i_reg i_tok; omega))).trans hs) ?_
    refine x_iconst C (1) d_Region_add_24 rfl ?_
    refine x_iadd C d_Region_add_25 ?_
    refine x_eqi (nI_1 sz) ?_
    refine u_Region_size C hj lk_Region_15 d_Region_add_26 ?_
    exact x_vret C E rfl d_Region_add_29
def f_cpy (M : z_M) (j : Nat) : z_M := z_sv (va_up M (i_tok j) (va_cpy (M (i_tok 6)) (M (i_tok j)) 0 0 8)) (i_reg j) 1 (M (i_reg 6) 1)
theorem c_Region_copyFrom {dA : Nat → ClassId} {ad : Nat → Nat} {M : z_M} {j : Nat} (hj : j < 6) : z_CV y_Region_copyFrom b_Region_copyFrom 2 1 dA ad [.ref (ad (i_reg j)), .ref (ad (i_reg 6))] M (f_cpy M j) := by
  refine z_ofV [some (.ref (ad (i_reg j))), some (.ref (ad (i_reg 6)))] (by decide) (Nat.le_of_ble_eq_true rfl) rfl (fun k C E => ?_)
  have C : z_C dA ad k b_Region_copyFrom "CellTransport$Region" 1 2 := C
  refine x_aload_n C d_Region_copyFrom_0 (i := 1) rfl rfl ?_
  refine g_Region_tokens C z_6 lk_Region_9 d_Region_copyFrom_1 ?_
  refine x_iconst C (0) d_Region_copyFrom_4 rfl ?_
  refine x_aload_n C d_Region_copyFrom_5 (i := 0) rfl rfl ?_
  refine g_Region_tokens C (z_67 hj) lk_Region_9 d_Region_copyFrom_6 ?_
  refine x_iconst C (0) d_Region_copyFrom_9 rfl ?_
  refine x_bipush C (8) d_Region_copyFrom_10 rfl ?_
  refine x_copy C (t0 := 0) (zl_tokens z_6) (zl_tokens (z_67 hj)) (fun f => zc_tokens z_6 f) (fun f => zc_tokens (z_67 hj) f) rfl (by decide) (by decide) (by decide) (by decide) (by decide) (by decide) (by decide) lk_Region_19 lk_cp1 lk_cp2 lk_cp3 d_Region_copyFrom_12 ?_
  refine x_aload_n C d_Region_copyFrom_15 (i := 0) rfl rfl ?_
  refine x_aload_n C d_Region_copyFrom_16 (i := 1) rfl rfl ?_
  refine g_Region_size C z_6 lk_Region_15 d_Region_copyFrom_17 ?_
  refine x_eqi (show va_up M (i_tok j) _ (i_reg 6) 1 = M (i_reg 6) 1 from congrFun (va_up_ne M _ (show i_reg 6 ≠ i_tok j by unfold i_reg i_tok; omega)) 1) ?_
  refine u_Region_size C (z_67 hj) lk_Region_15 d_Region_copyFrom_20 ?_
  exact x_vret C E rfl d_Region_copyFrom_23
def f_wh (tok : Nat → Int32) : Nat → Nat → Int32 → Int32
  | 0, _, o => z_b (o = 1)
  | n + 1, i, o => if f_ops (tok i) ≤ o then f_wh tok n (i + 1) (o + (1 - f_ops (tok i))) else 0
theorem lp_Region_isWhole {dA : Nat → ClassId} {ad : Nat → Nat} {M : z_M} {k : z_K} {j : Nat} (hj : j < 7) {sz : Nat} (hsz : sz ≤ 8) (hs : M (i_reg j) 1 = nI sz) {r0 : Int32} (C : z_C dA ad k b_Region_isWhole "CellTransport$Region" 1 3) (E : z_RI dA ad k .boolean r0 M) :
    ∀ (n i : Nat) (o : Int32), i + n = sz → f_wh (M (i_tok j)) n i o = r0 → z_X dA ad k 4 [some (.ref (ad (i_reg j))), some (.int o), some (.int (nI i))] [] M := by
  intro n
  induction n with
  | zero =>
    intro i o hi hr
    refine x_iload_n C d_Region_isWhole_4 (i := 2) rfl rfl ?_
    refine x_aload_n C d_Region_isWhole_5 (i := 0) rfl rfl ?_
    refine g_Region_size C hj lk_Region_15 d_Region_isWhole_6 ?_
    refine x_eqi hs ?_
    refine x_icmp_ge C 47 d_Region_isWhole_9 rfl (fun h_9 => ?_) (fun h_9 => ?_)
    · refine x_iload_n C d_Region_isWhole_47 (i := 1) rfl rfl ?_
      refine x_iconst C (1) d_Region_isWhole_48 rfl ?_
      refine x_icmp_ne C 56 d_Region_isWhole_49 rfl (fun h_49 => ?_) (fun h_49 => ?_)
      · refine x_iconst C (0) d_Region_isWhole_56 rfl ?_
        exact x_zret C E (hr ▸ (z_b_f h_49).symm) rfl rfl d_Region_isWhole_57
      · refine x_iconst C (1) d_Region_isWhole_52 rfl ?_
        refine x_goto C 57 d_Region_isWhole_53 rfl ?_
        exact x_zret C E (hr ▸ (z_b_t h_49).symm) rfl rfl d_Region_isWhole_57
    · exact absurd (nI_le (by omega) (by omega)) h_9
  | succ n ih =>
    intro i o hi hr
    have hi8 : i < 8 := by omega
    refine x_iload_n C d_Region_isWhole_4 (i := 2) rfl rfl ?_
    refine x_aload_n C d_Region_isWhole_5 (i := 0) rfl rfl ?_
    refine g_Region_size C hj lk_Region_15 d_Region_isWhole_6 ?_
    refine x_eqi hs ?_
    refine x_icmp_ge C 47 d_Region_isWhole_9 rfl (fun h_9 => ?_) (fun h_9 => ?_)
    · exact absurd h_9 (nI_ge (by omega) (by omega))
    · refine x_iload_n C d_Region_isWhole_12 (i := 1) rfl rfl ?_
      refine x_aload_n C d_Region_isWhole_13 (i := 0) rfl rfl ?_
      refine g_Region_tokens C hj lk_Region_9 d_Region_isWhole_14 ?_
      refine x_iload_n C d_Region_isWhole_17 (i := 2) rfl rfl ?_
      refine rn_ld_tokens C hj  hi8 d_Region_isWhole_18 ?_
      refine x_callSi C (c_Region_operandsOf _) mt_Region_operandsOf rfl rfl (Nat.le_of_ble_eq_true rfl) (Nat.le_of_ble_eq_true rfl) lk_Region_25 d_Region_isWhole_19 ?_
      refine x_icmp_ge C 27 d_Region_isWhole_22 rfl (fun h_22 => ?_) (fun h_22 => ?_)
      · refine x_iload_n C d_Region_isWhole_27 (i := 1) rfl rfl ?_
        refine x_iconst C (1) d_Region_isWhole_28 rfl ?_
        refine x_aload_n C d_Region_isWhole_29 (i := 0) rfl rfl ?_
        refine g_Region_tokens C hj lk_Region_9 d_Region_isWhole_30 ?_
        refine x_iload_n C d_Region_isWhole_33 (i := 2) rfl rfl ?_
        refine rn_ld_tokens C hj  hi8 d_Region_isWhole_34 ?_
        refine x_callSi C (c_Region_operandsOf _) mt_Region_operandsOf rfl rfl (Nat.le_of_ble_eq_true rfl) (Nat.le_of_ble_eq_true rfl) lk_Region_25 d_Region_isWhole_35 ?_
        refine x_isub C d_Region_isWhole_38 ?_
        refine x_iadd C d_Region_isWhole_39 ?_
        refine x_istore_n C d_Region_isWhole_40 (i := 1) rfl rfl ?_
        refine x_iinc C (nI (i + 1)) d_Region_isWhole_41 rfl (z_inc i) rfl ?_
        refine x_goto C 4 d_Region_isWhole_44 rfl ?_
        exact ih (i + 1) _ (by omega) (by rw [← hr]; exact (if_pos h_22).symm)
      · refine x_iconst C (0) d_Region_isWhole_25 rfl ?_
        exact x_zret C E (by rw [← hr]; exact (if_neg h_22).symm) rfl rfl d_Region_isWhole_26
theorem c_Region_isWhole {dA : Nat → ClassId} {ad : Nat → Nat} {M : z_M} {j : Nat} (hj : j < 7) {sz : Nat} (hsz : sz ≤ 8) (hs : M (i_reg j) 1 = nI sz) : z_CI y_Region_isWhole b_Region_isWhole 3 .boolean 1 dA ad [.ref (ad (i_reg j))] M (f_wh (M (i_tok j)) sz 0 0) (M) := by
  refine z_ofI [some (.ref (ad (i_reg j))), none, none] (by decide) (Nat.le_of_ble_eq_true rfl) rfl (fun k C E => ?_)
  have C : z_C dA ad k b_Region_isWhole "CellTransport$Region" 1 3 := C
  refine x_iconst C (0) d_Region_isWhole_0 rfl ?_
  refine x_istore_n C d_Region_isWhole_1 (i := 1) rfl rfl ?_
  refine x_iconst C (0) d_Region_isWhole_2 rfl ?_
  refine x_istore_n C d_Region_isWhole_3 (i := 2) rfl rfl ?_
  exact lp_Region_isWhole hj hsz hs C E sz 0 0 (by omega) rfl
def f_rs (M : z_M) (x y o t : Int32) : Int32 := if t = 8 then (if o &&& 1 = 1 then o >>> ((1 : Int32) &&& 31) else (o >>> ((1 : Int32) &&& 31)) &&& (-2)) else if t = 9 then (o >>> ((1 : Int32) &&& 31)) ||| (o &&& 1) else if t = 10 then o ^^^ 1 else (o <<< ((1 : Int32) &&& 31)) ||| z_b (p_sh (M (i_surf t.toNatClampNeg)) x y)
def f_rl (M : z_M) (tok : Nat → Int32) (x y : Int32) : Nat → Nat → Int32 → Int32
  | 0, _, o => o
  | n + 1, i, o => f_rl M tok x y n (i + 1) (f_rs M x y o (tok i))
def z_okR (M : z_M) (r : Nat) : Prop := ∃ sz, sz ≤ 8 ∧ M (i_reg r) 1 = nI sz ∧ ∀ t, t < sz → ∃ v, v ≤ 10 ∧ M (i_tok r) t = nI v
theorem z_small {t : Int32} {v : Nat} (hv : v ≤ 10) (e : t = nI v) (h8 : ¬ t = 8) (h9 : ¬ t = 9) (h10 : ¬ t = 10) : v < 8 := by
  have a8 : v ≠ 8 := fun q => h8 (by rw [e, q]; rfl)
  have a9 : v ≠ 9 := fun q => h9 (by rw [e, q]; rfl)
  have a10 : v ≠ 10 := fun q => h10 (by rw [e, q]; rfl)
  omega
theorem z_bb {P : Prop} [Decidable P] : z_b (¬ z_b P = 0) = z_b P := z_b_iff z_b_n0
theorem lp_Region_holds {dA : Nat → ClassId} {ad : Nat → Nat} {M : z_M} {k : z_K} {j : Nat} (hj : j < 6) {sz : Nat} (hsz : sz ≤ 8) (hs : M (i_reg j) 1 = nI sz) (ht : ∀ t, t < sz → ∃ v, v ≤ 10 ∧ M (i_tok j) t = nI v) {x y r0 : Int32} (C : z_C dA ad k b_Region_holds "CellTransport$Region" 1 8) (E : z_RI dA ad k .boolean r0 M) :
    ∀ (n i : Nat) (o : Int32) (a6 a7 : Option Value), i + n = sz → z_b (f_rl M (M (i_tok j)) x y n i o = 1) = r0 → z_X dA ad k 6 [some (.ref (ad (i_reg j))), some (.ref (ad 2)), some (.int x), some (.int y), some (.int o), some (.int (nI i)), a6, a7] [] M := by
  have hj7 := z_67 hj
  intro n
  induction n with
  | zero =>
    intro i o a6 a7 hi hr
    refine x_iload C d_Region_holds_6 rfl ?_
    refine x_aload_n C d_Region_holds_8 (i := 0) rfl rfl ?_
    refine g_Region_size C hj7 lk_Region_15 d_Region_holds_9 ?_
    refine x_eqi hs ?_
    refine x_icmp_ge C 130 d_Region_holds_12 rfl (fun h_12 => ?_) (fun h_12 => ?_)
    · refine x_iload C d_Region_holds_130 rfl ?_
      refine x_iconst C (1) d_Region_holds_132 rfl ?_
      refine x_icmp_ne C 140 d_Region_holds_133 rfl (fun h_133 => ?_) (fun h_133 => ?_)
      · refine x_iconst C (0) d_Region_holds_140 rfl ?_
        exact x_zret C E (hr ▸ (z_b_f h_133).symm) rfl rfl d_Region_holds_141
      · refine x_iconst C (1) d_Region_holds_136 rfl ?_
        refine x_goto C 141 d_Region_holds_137 rfl ?_
        exact x_zret C E (hr ▸ (z_b_t h_133).symm) rfl rfl d_Region_holds_141
    · exact absurd (nI_le (by omega) (by omega)) h_12
  | succ n ih =>
    intro i o a6 a7 hi hr
    have hi8 : i < 8 := by omega
    refine x_iload C d_Region_holds_6 rfl ?_
    refine x_aload_n C d_Region_holds_8 (i := 0) rfl rfl ?_
    refine g_Region_size C hj7 lk_Region_15 d_Region_holds_9 ?_
    refine x_eqi hs ?_
    refine x_icmp_ge C 130 d_Region_holds_12 rfl (fun h_12 => ?_) (fun h_12 => ?_)
    · exact absurd h_12 (nI_ge (by omega) (by omega))
    · refine x_iload C d_Region_holds_15 rfl ?_
      refine x_iconst C (1) d_Region_holds_17 rfl ?_
      refine x_iand C d_Region_holds_18 ?_
      refine x_istore C d_Region_holds_19 rfl ?_
      refine x_iload C d_Region_holds_21 rfl ?_
      refine x_iconst C (1) d_Region_holds_23 rfl ?_
      refine x_ishr C d_Region_holds_24 ?_
      refine x_istore C d_Region_holds_25 rfl ?_
      refine x_aload_n C d_Region_holds_27 (i := 0) rfl rfl ?_
      refine g_Region_tokens C hj7 lk_Region_9 d_Region_holds_28 ?_
      refine x_iload C d_Region_holds_31 rfl ?_
      refine rn_ld_tokens C hj7  hi8 d_Region_holds_33 ?_
      obtain ⟨v, hv, ev⟩ := ht i (by omega)
      by_cases h8 : M (i_tok j) i = 8
      · refine x_eqi h8 ?_
        refine x_tableIn C 60 d_Region_holds_34 (by decide) (by decide) rfl rfl ?_
        refine x_iload C d_Region_holds_60 rfl ?_
        refine x_iconst C (1) d_Region_holds_62 rfl ?_
        refine x_icmp_ne C 71 d_Region_holds_63 rfl (fun h_63 => ?_) (fun h_63 => ?_)
        · refine x_iload C d_Region_holds_71 rfl ?_
          refine x_bipush C (-2) d_Region_holds_73 rfl ?_
          refine x_iand C d_Region_holds_75 ?_
          refine x_istore C d_Region_holds_76 rfl ?_
          refine x_goto C 124 d_Region_holds_78 rfl ?_
          refine x_iinc C (nI (i + 1)) d_Region_holds_124 rfl (z_inc i) rfl ?_
          refine x_goto C 6 d_Region_holds_127 rfl ?_
          exact ih (i + 1) _ _ _ (by omega) (by rw [← hr]; show _ = z_b (f_rl M (M (i_tok j)) x y n (i + 1) (f_rs M x y o (M (i_tok j) i)) = 1); simp only [f_rs, if_pos h8, h_63, if_true, if_false, ite_true, ite_false, if_neg, not_false_eq_true]; try rfl)
        · refine x_iload C d_Region_holds_66 rfl ?_
          refine x_goto C 76 d_Region_holds_68 rfl ?_
          refine x_istore C d_Region_holds_76 rfl ?_
          refine x_goto C 124 d_Region_holds_78 rfl ?_
          refine x_iinc C (nI (i + 1)) d_Region_holds_124 rfl (z_inc i) rfl ?_
          refine x_goto C 6 d_Region_holds_127 rfl ?_
          exact ih (i + 1) _ _ _ (by omega) (by rw [← hr]; show _ = z_b (f_rl M (M (i_tok j)) x y n (i + 1) (f_rs M x y o (M (i_tok j) i)) = 1); simp only [f_rs, if_pos h8, h_63, if_true, if_false, ite_true, ite_false, if_neg, not_false_eq_true]; try rfl)
      · by_cases h9 : M (i_tok j) i = 9
        · refine x_eqi h9 ?_
          refine x_tableIn C 81 d_Region_holds_34 (by decide) (by decide) rfl rfl ?_
          refine x_iload C d_Region_holds_81 rfl ?_
          refine x_iload C d_Region_holds_83 rfl ?_
          refine x_ior C d_Region_holds_85 ?_
          refine x_istore C d_Region_holds_86 rfl ?_
          refine x_goto C 124 d_Region_holds_88 rfl ?_
          refine x_iinc C (nI (i + 1)) d_Region_holds_124 rfl (z_inc i) rfl ?_
          refine x_goto C 6 d_Region_holds_127 rfl ?_
          exact ih (i + 1) _ _ _ (by omega) (by rw [← hr]; show _ = z_b (f_rl M (M (i_tok j)) x y n (i + 1) (f_rs M x y o (M (i_tok j) i)) = 1); rw [f_rs, if_neg h8, if_pos h9])
        · by_cases h10 : M (i_tok j) i = 10
          · refine x_eqi h10 ?_
            refine x_tableIn C 91 d_Region_holds_34 (by decide) (by decide) rfl rfl ?_
            refine x_iload C d_Region_holds_91 rfl ?_
            refine x_iconst C (1) d_Region_holds_93 rfl ?_
            refine x_ixor C d_Region_holds_94 ?_
            refine x_istore C d_Region_holds_95 rfl ?_
            refine x_goto C 124 d_Region_holds_97 rfl ?_
            refine x_iinc C (nI (i + 1)) d_Region_holds_124 rfl (z_inc i) rfl ?_
            refine x_goto C 6 d_Region_holds_127 rfl ?_
            exact ih (i + 1) _ _ _ (by omega) (by rw [← hr]; show _ = z_b (f_rl M (M (i_tok j)) x y n (i + 1) (f_rs M x y o (M (i_tok j) i)) = 1); rw [f_rs, if_neg h8, if_neg h9, if_pos h10])
          · have hv8 : v < 8 := z_small hv ev h8 h9 h10
            refine x_tableOut C 100 d_Region_holds_34 (z_o810 h8 h9 h10) rfl ?_
            refine x_iload C d_Region_holds_100 rfl ?_
            refine x_iconst C (1) d_Region_holds_102 rfl ?_
            refine x_ishl C d_Region_holds_103 ?_
            refine x_aload_n C d_Region_holds_104 (i := 1) rfl rfl ?_
            refine x_aload_n C d_Region_holds_105 (i := 0) rfl rfl ?_
            refine g_Region_tokens C hj7 lk_Region_9 d_Region_holds_106 ?_
            refine x_iload C d_Region_holds_109 rfl ?_
            refine rn_ld_tokens C hj7  hi8 d_Region_holds_111 ?_
            refine x_eqi ev ?_
            refine rn_al_surfaces C hv8 d_Region_holds_112 ?_
            refine x_iload_n C d_Region_holds_113 (i := 2) rfl rfl ?_
            refine x_iload_n C d_Region_holds_114 (i := 3) rfl rfl ?_
            refine x_callVNi C (c_Surface_holds hv8 _ _) mt_Surface_holds (zl_Surface hv8 ) (zc_Surface hv8 _) rfl rfl rfl (Nat.le_of_ble_eq_true rfl) (Nat.le_of_ble_eq_true rfl) lk_Region_29 d_Region_holds_115 ?_
            refine x_callSNi C (c_CellTransport_oneIf _) mt_CellTransport_oneIf rfl rfl (Nat.le_of_ble_eq_true rfl) (Nat.le_of_ble_eq_true rfl) lk_Region_35 d_Region_holds_118 ?_
            refine x_eqi z_bb ?_
            refine x_ior C d_Region_holds_121 ?_
            refine x_istore C d_Region_holds_122 rfl ?_
            refine x_iinc C (nI (i + 1)) d_Region_holds_124 rfl (z_inc i) rfl ?_
            refine x_goto C 6 d_Region_holds_127 rfl ?_
            exact ih (i + 1) _ _ _ (by omega) (by rw [← hr]; show _ = z_b (f_rl M (M (i_tok j)) x y n (i + 1) (f_rs M x y o (M (i_tok j) i)) = 1); rw [f_rs, if_neg h8, if_neg h9, if_neg h10, ev, nI_clamp (Nat.lt_trans hv8 (by decide))])
theorem c_Region_holds {dA : Nat → ClassId} {ad : Nat → Nat} {M : z_M} {j : Nat} (hj : j < 6) {sz : Nat} (hsz : sz ≤ 8) (hs : M (i_reg j) 1 = nI sz) (ht : ∀ t, t < sz → ∃ v, v ≤ 10 ∧ M (i_tok j) t = nI v) (x y : Int32) : z_CI y_Region_holds b_Region_holds 8 .boolean 1 dA ad [.ref (ad (i_reg j)), .ref (ad 2), .int x, .int y] M (z_b (f_rl M (M (i_tok j)) x y sz 0 0 = 1)) (M) := by
  refine z_ofI [some (.ref (ad (i_reg j))), some (.ref (ad 2)), some (.int x), some (.int y), none, none, none, none] (by decide) (Nat.le_of_ble_eq_true rfl) rfl (fun k C E => ?_)
  have C : z_C dA ad k b_Region_holds "CellTransport$Region" 1 8 := C
  refine x_iconst C (0) d_Region_holds_0 rfl ?_
  refine x_istore C d_Region_holds_1 rfl ?_
  refine x_iconst C (0) d_Region_holds_3 rfl ?_
  refine x_istore C d_Region_holds_4 rfl ?_
  exact lp_Region_holds hj hsz hs ht C E sz 0 0 none none (by omega) rfl
end
section
def f_def (M : z_M) (j : Nat) (de ab fi : Int32) : z_M := z_sv (z_sv (z_sv (f_cpy (z_sv M (i_cell j) 1 1) j) (i_cell j) 2 de) (i_cell j) 3 ab) (i_cell j) 4 fi
theorem c_Cell_define {dA : Nat → ClassId} {ad : Nat → Nat} {M : z_M} {j : Nat} (hj : j < 6) (de ab fi : Int32) : z_CV y_Cell_define b_Cell_define 5 2 dA ad [.ref (ad (i_cell j)), .ref (ad (i_reg 6)), .int de, .int ab, .int fi] M (f_def M j de ab fi) := by
  refine z_ofV [some (.ref (ad (i_cell j))), some (.ref (ad (i_reg 6))), some (.int de), some (.int ab), some (.int fi)] (by decide) (Nat.le_of_ble_eq_true rfl) rfl (fun k C E => ?_)
  have C : z_C dA ad k b_Cell_define "CellTransport$Cell" 2 5 := C
  refine x_aload_n C d_Cell_define_0 (i := 0) rfl rfl ?_
  refine x_iconst C (1) d_Cell_define_1 rfl ?_
  refine u_Cell_isDefined C hj rfl rfl lk_Cell_16 d_Cell_define_2 ?_
  refine x_aload_n C d_Cell_define_5 (i := 0) rfl rfl ?_
  refine g_Cell_region C hj lk_Cell_10 d_Cell_define_6 ?_
  refine x_aload_n C d_Cell_define_9 (i := 1) rfl rfl ?_
  refine x_callVNv C (c_Region_copyFrom hj) mt_Region_copyFrom (zl_Region (z_67 hj) ) (zc_Region (z_67 hj) _) rfl rfl rfl (Nat.le_of_ble_eq_true rfl) (Nat.le_of_ble_eq_true rfl) lk_Cell_20 d_Cell_define_10 ?_
  refine x_aload_n C d_Cell_define_13 (i := 0) rfl rfl ?_
  refine x_iload_n C d_Cell_define_14 (i := 2) rfl rfl ?_
  refine u_Cell_density C hj lk_Cell_24 d_Cell_define_15 ?_
  refine x_aload_n C d_Cell_define_18 (i := 0) rfl rfl ?_
  refine x_iload_n C d_Cell_define_19 (i := 3) rfl rfl ?_
  refine u_Cell_absorption C hj lk_Cell_28 d_Cell_define_20 ?_
  refine x_aload_n C d_Cell_define_23 (i := 0) rfl rfl ?_
  refine x_iload C d_Cell_define_24 rfl ?_
  refine u_Cell_fission C hj lk_Cell_31 d_Cell_define_26 ?_
  exact x_vret C E rfl d_Cell_define_29
abbrev p_in (M : z_M) (x y : Int32) (i : Nat) : Prop := f_rl M (M (i_tok i)) x y (M (i_reg i) 1).toNatClampNeg 0 0 = 1
def f_ca (M : z_M) (x y : Int32) : Nat → Nat → Int32
  | 0, _ => 6
  | n + 1, i => if ¬ M (i_cell i) 1 = 0 ∧ p_in M x y i then nI i else f_ca M x y n (i + 1)
theorem lp_Geometry_cellAt {dA : Nat → ClassId} {ad : Nat → Nat} {M : z_M} {k : z_K} (hR : ∀ r, r < 6 → z_okR M r) {x y r0 : Int32} (C : z_C dA ad k b_Geometry_cellAt "CellTransport$Geometry" 2 4) (E : z_RI dA ad k .int r0 M) :
    ∀ (n i : Nat), i + n = 6 → f_ca M x y n i = r0 → z_X dA ad k 2 [some (.ref (ad 1)), some (.int x), some (.int y), some (.int (nI i))] [] M := by
  intro n
  induction n with
  | zero =>
    intro i hi hr
    refine x_iload_n C d_Geometry_cellAt_2 (i := 3) rfl rfl ?_
    refine x_bipush C (6) d_Geometry_cellAt_3 rfl ?_
    refine x_icmp_ge C 49 d_Geometry_cellAt_5 rfl (fun h_5 => ?_) (fun h_5 => ?_)
    · refine x_bipush C (6) d_Geometry_cellAt_49 rfl ?_
      exact x_iret C E hr rfl d_Geometry_cellAt_51
    · exact absurd (show (6 : Int32) ≤ nI i from nI_le (a := 6) (by omega) (by omega)) h_5
  | succ n ih =>
    intro i hi hr
    have hi6 : i < 6 := by omega
    obtain ⟨sz, hsz, hs, ht⟩ := hR i hi6
    have ez : (M (i_reg i) 1).toNatClampNeg = sz := by rw [hs]; exact nI_clamp (by omega)
    refine x_iload_n C d_Geometry_cellAt_2 (i := 3) rfl rfl ?_
    refine x_bipush C (6) d_Geometry_cellAt_3 rfl ?_
    refine x_icmp_ge C 49 d_Geometry_cellAt_5 rfl (fun h_5 => ?_) (fun h_5 => ?_)
    · exact absurd (show nI 6 ≤ nI i from h_5) (nI_ge (by omega) (by decide))
    · refine x_aload_n C d_Geometry_cellAt_8 (i := 0) rfl rfl ?_
      refine g_Geometry_cells C lk_Geometry_19 d_Geometry_cellAt_9 ?_
      refine x_iload_n C d_Geometry_cellAt_12 (i := 3) rfl rfl ?_
      refine rn_al_cells C hi6 d_Geometry_cellAt_13 ?_
      refine g_Cell_isDefinedN C hi6 lk_Geometry_25 d_Geometry_cellAt_14 ?_
      refine x_if_eq C 43 d_Geometry_cellAt_17 rfl (fun h_17 => ?_) (fun h_17 => ?_)
      · refine x_iinc C (nI (i + 1)) d_Geometry_cellAt_43 rfl (z_inc i) rfl ?_
        refine x_goto C 2 d_Geometry_cellAt_46 rfl ?_
        exact ih (i + 1) (by omega) (by rw [← hr]; exact (if_neg (fun q => q.1 h_17)).symm)
      · refine x_aload_n C d_Geometry_cellAt_20 (i := 0) rfl rfl ?_
        refine g_Geometry_cells C lk_Geometry_19 d_Geometry_cellAt_21 ?_
        refine x_iload_n C d_Geometry_cellAt_24 (i := 3) rfl rfl ?_
        refine rn_al_cells C hi6 d_Geometry_cellAt_25 ?_
        refine g_Cell_regionN C hi6 lk_Geometry_29 d_Geometry_cellAt_26 ?_
        refine x_aload_n C d_Geometry_cellAt_29 (i := 0) rfl rfl ?_
        refine g_Geometry_surfaces C lk_Geometry_11 d_Geometry_cellAt_30 ?_
        refine x_iload_n C d_Geometry_cellAt_33 (i := 1) rfl rfl ?_
        refine x_iload_n C d_Geometry_cellAt_34 (i := 2) rfl rfl ?_
        refine x_callVNi C (c_Region_holds hi6 hsz hs ht _ _) mt_Region_holds (zl_Region (z_67 hi6) ) (zc_Region (z_67 hi6) _) rfl rfl rfl (Nat.le_of_ble_eq_true rfl) (Nat.le_of_ble_eq_true rfl) lk_Geometry_33 d_Geometry_cellAt_35 ?_
        refine x_if_eq C 43 d_Geometry_cellAt_38 rfl (fun h_38 => ?_) (fun h_38 => ?_)
        · refine x_iinc C (nI (i + 1)) d_Geometry_cellAt_43 rfl (z_inc i) rfl ?_
          refine x_goto C 2 d_Geometry_cellAt_46 rfl ?_
          exact ih (i + 1) (by omega) (by rw [← hr]; exact (if_neg (fun q => z_b_0.mp h_38 (by have q2 : f_rl M (M (i_tok i)) x y (M (i_reg i) 1).toNatClampNeg 0 0 = 1 := q.2; rw [ez] at q2; exact q2))).symm)
        · refine x_iload_n C d_Geometry_cellAt_41 (i := 3) rfl rfl ?_
          exact x_iret C E (by rw [← hr]; exact (if_pos ⟨h_17, by have h9 := z_b_n0.mp h_38; show f_rl M (M (i_tok i)) x y (M (i_reg i) 1).toNatClampNeg 0 0 = 1; rw [ez]; exact h9⟩).symm) rfl d_Geometry_cellAt_42
theorem c_Geometry_cellAt {dA : Nat → ClassId} {ad : Nat → Nat} {M : z_M} (hR : ∀ r, r < 6 → z_okR M r) (x y : Int32) : z_CI y_Geometry_cellAt b_Geometry_cellAt 4 .int 2 dA ad [.ref (ad 1), .int x, .int y] M (f_ca M x y 6 0) (M) := by
  refine z_ofI [some (.ref (ad 1)), some (.int x), some (.int y), none] (by decide) (Nat.le_of_ble_eq_true rfl) rfl (fun k C E => ?_)
  have C : z_C dA ad k b_Geometry_cellAt "CellTransport$Geometry" 2 4 := C
  refine x_iconst C (0) d_Geometry_cellAt_0 rfl ?_
  refine x_istore_n C d_Geometry_cellAt_1 (i := 3) rfl rfl ?_
  exact lp_Geometry_cellAt hR C E 6 0 (by omega) rfl
def f_dc (M : z_M) : Nat → Nat → Int32 → Int32
  | 0, _, a => a
  | n + 1, i, a => f_dc M n (i + 1) (a + z_b (¬ M (i_cell i) 1 = 0))
theorem lp_Geometry_definedCells {dA : Nat → ClassId} {ad : Nat → Nat} {M : z_M} {k : z_K} {r0 : Int32} (C : z_C dA ad k b_Geometry_definedCells "CellTransport$Geometry" 1 3) (E : z_RI dA ad k .int r0 M) :
    ∀ (n i : Nat) (a : Int32), i + n = 6 → f_dc M n i a = r0 → z_X dA ad k 4 [some (.ref (ad 1)), some (.int a), some (.int (nI i))] [] M := by
  intro n
  induction n with
  | zero =>
    intro i a hi hr
    refine x_iload_n C d_Geometry_definedCells_4 (i := 2) rfl rfl ?_
    refine x_bipush C (6) d_Geometry_definedCells_5 rfl ?_
    refine x_icmp_ge C 31 d_Geometry_definedCells_7 rfl (fun h_7 => ?_) (fun h_7 => ?_)
    · refine x_iload_n C d_Geometry_definedCells_31 (i := 1) rfl rfl ?_
      exact x_iret C E hr rfl d_Geometry_definedCells_32
    · exact absurd (show (6 : Int32) ≤ nI i from nI_le (a := 6) (by omega) (by omega)) h_7
  | succ n ih =>
    intro i a hi hr
    have hi6 : i < 6 := by omega
    refine x_iload_n C d_Geometry_definedCells_4 (i := 2) rfl rfl ?_
    refine x_bipush C (6) d_Geometry_definedCells_5 rfl ?_
    refine x_icmp_ge C 31 d_Geometry_definedCells_7 rfl (fun h_7 => ?_) (fun h_7 => ?_)
    · exact absurd (show nI 6 ≤ nI i from h_7) (nI_ge (by omega) (by decide))
    · refine x_iload_n C d_Geometry_definedCells_10 (i := 1) rfl rfl ?_
      refine x_aload_n C d_Geometry_definedCells_11 (i := 0) rfl rfl ?_
      refine g_Geometry_cells C lk_Geometry_19 d_Geometry_definedCells_12 ?_
      refine x_iload_n C d_Geometry_definedCells_15 (i := 2) rfl rfl ?_
      refine rn_al_cells C hi6 d_Geometry_definedCells_16 ?_
      refine g_Cell_isDefinedN C hi6 lk_Geometry_25 d_Geometry_definedCells_17 ?_
      refine x_callSNi C (c_CellTransport_oneIf _) mt_CellTransport_oneIf rfl rfl (Nat.le_of_ble_eq_true rfl) (Nat.le_of_ble_eq_true rfl) lk_Geometry_39 d_Geometry_definedCells_20 ?_
      refine x_iadd C d_Geometry_definedCells_23 ?_
      refine x_istore_n C d_Geometry_definedCells_24 (i := 1) rfl rfl ?_
      refine x_iinc C (nI (i + 1)) d_Geometry_definedCells_25 rfl (z_inc i) rfl ?_
      refine x_goto C 4 d_Geometry_definedCells_28 rfl ?_
      exact ih (i + 1) _ (by omega) hr
theorem c_Geometry_definedCells {dA : Nat → ClassId} {ad : Nat → Nat} {M : z_M}  : z_CI y_Geometry_definedCells b_Geometry_definedCells 3 .int 1 dA ad [.ref (ad 1)] M (f_dc M 6 0 0) (M) := by
  refine z_ofI [some (.ref (ad 1)), none, none] (by decide) (Nat.le_of_ble_eq_true rfl) rfl (fun k C E => ?_)
  have C : z_C dA ad k b_Geometry_definedCells "CellTransport$Geometry" 1 3 := C
  refine x_iconst C (0) d_Geometry_definedCells_0 rfl ?_
  refine x_istore_n C d_Geometry_definedCells_1 (i := 1) rfl rfl ?_
  refine x_iconst C (0) d_Geometry_definedCells_2 rfl ?_
  refine x_istore_n C d_Geometry_definedCells_3 (i := 2) rfl rfl ?_
  exact lp_Geometry_definedCells C E 6 0 0 (by omega) rfl
def f_nx (s : Int32) : Int32 := (s * 1103515245 + 12345) &&& 2147483647
theorem c_Generator_start {dA : Nat → ClassId} {ad : Nat → Nat} {M : z_M} (v : Int32) : z_CV y_Generator_start b_Generator_start 2 0 dA ad [.ref (ad 32), .int v] M (z_sv M 32 0 (v &&& 2147483647)) := by
  refine z_ofV [some (.ref (ad 32)), some (.int v)] (by decide) (Nat.le_of_ble_eq_true rfl) rfl (fun k C E => ?_)
  have C : z_C dA ad k b_Generator_start "CellTransport$Generator" 0 2 := C
  refine x_aload_n C d_Generator_start_0 (i := 0) rfl rfl ?_
  refine x_iload_n C d_Generator_start_1 (i := 1) rfl rfl ?_
  refine x_ldc C (2147483647) d_Generator_start_2 lk_Generator_15 ?_
  refine x_iand C d_Generator_start_4 ?_
  refine u_Generator_state C lk_Generator_9 d_Generator_start_5 ?_
  exact x_vret C E rfl d_Generator_start_8
theorem c_Generator_draw {dA : Nat → ClassId} {ad : Nat → Nat} {M : z_M}  : z_CI y_Generator_draw b_Generator_draw 1 .int 0 dA ad [.ref (ad 32)] M (f_nx (M 32 0) / 256) (z_sv M 32 0 (f_nx (M 32 0))) := by
  refine z_ofI [some (.ref (ad 32))] (by decide) (Nat.le_of_ble_eq_true rfl) rfl (fun k C E => ?_)
  have C : z_C dA ad k b_Generator_draw "CellTransport$Generator" 0 1 := C
  refine x_aload_n C d_Generator_draw_0 (i := 0) rfl rfl ?_
  refine x_aload_n C d_Generator_draw_1 (i := 0) rfl rfl ?_
  refine g_Generator_state C lk_Generator_9 d_Generator_draw_2 ?_
  refine x_ldc C (1103515245) d_Generator_draw_5 lk_Generator_16 ?_
  refine x_imul C d_Generator_draw_7 ?_
  refine x_sipush C (12345) d_Generator_draw_8 rfl ?_
  refine x_iadd C d_Generator_draw_11 ?_
  refine x_ldc C (2147483647) d_Generator_draw_12 lk_Generator_15 ?_
  refine x_iand C d_Generator_draw_14 ?_
  refine u_Generator_state C lk_Generator_9 d_Generator_draw_15 ?_
  refine x_aload_n C d_Generator_draw_18 (i := 0) rfl rfl ?_
  refine g_Generator_state C lk_Generator_9 d_Generator_draw_19 ?_
  refine x_eqi (z_sv_self _ _ _ _) ?_
  refine x_sipush C (256) d_Generator_draw_22 rfl ?_
  refine x_idiv C d_Generator_draw_25 (by decide) ?_
  exact x_iret C E rfl rfl d_Generator_draw_26
def f_lp (a : Int32) : Nat → Nat → Int32 → Int32 → Int32 → Int32
  | 0, _, s, _, _ => s
  | n + 1, b, s, f, h => f_lp a n (b + 1) (if (a >>> (nI b &&& 31)) &&& 1 = 1 then (s * f + h) &&& 2147483647 else s) (f * f) (h * f + h)
theorem lp_Generator_leap {dA : Nat → ClassId} {ad : Nat → Nat} {M M1 : z_M} {k : z_K} {a : Int32} (C : z_C dA ad k b_Generator_leap "CellTransport$Generator" 0 5) (E : z_RV dA ad k M1) :
    ∀ (n b : Nat) (s f h : Int32), b + n = 17 → z_sv M 32 0 (f_lp a n b s f h) = M1 → z_X dA ad k 10 [some (.ref (ad 32)), some (.int a), some (.int f), some (.int h), some (.int (nI b))] [] (z_sv M 32 0 s) := by
  intro n
  induction n with
  | zero =>
    intro b s f h hi hr
    refine x_iload C d_Generator_leap_10 rfl ?_
    refine x_bipush C (17) d_Generator_leap_12 rfl ?_
    refine x_icmp_ge C 58 d_Generator_leap_14 rfl (fun h_14 => ?_) (fun h_14 => ?_)
    · exact x_vret C E hr d_Generator_leap_58
    · exact absurd (show (17 : Int32) ≤ nI b from nI_le (a := 17) (by omega) (by omega)) h_14
  | succ n ih =>
    intro b s f h hi hr
    refine x_iload C d_Generator_leap_10 rfl ?_
    refine x_bipush C (17) d_Generator_leap_12 rfl ?_
    refine x_icmp_ge C 58 d_Generator_leap_14 rfl (fun h_14 => ?_) (fun h_14 => ?_)
    · exact absurd (show nI 17 ≤ nI b from h_14) (nI_ge (by omega) (by decide))
    · refine x_iload_n C d_Generator_leap_17 (i := 1) rfl rfl ?_
      refine x_iload C d_Generator_leap_18 rfl ?_
      refine x_ishr C d_Generator_leap_20 ?_
      refine x_iconst C (1) d_Generator_leap_21 rfl ?_
      refine x_iand C d_Generator_leap_22 ?_
      refine x_iconst C (1) d_Generator_leap_23 rfl ?_
      refine x_icmp_ne C 42 d_Generator_leap_24 rfl (fun h_24 => ?_) (fun h_24 => ?_)
      · refine x_iload_n C d_Generator_leap_42 (i := 3) rfl rfl ?_
        refine x_iload_n C d_Generator_leap_43 (i := 2) rfl rfl ?_
        refine x_imul C d_Generator_leap_44 ?_
        refine x_iload_n C d_Generator_leap_45 (i := 3) rfl rfl ?_
        refine x_iadd C d_Generator_leap_46 ?_
        refine x_istore_n C d_Generator_leap_47 (i := 3) rfl rfl ?_
        refine x_iload_n C d_Generator_leap_48 (i := 2) rfl rfl ?_
        refine x_iload_n C d_Generator_leap_49 (i := 2) rfl rfl ?_
        refine x_imul C d_Generator_leap_50 ?_
        refine x_istore_n C d_Generator_leap_51 (i := 2) rfl rfl ?_
        refine x_iinc C (nI (b + 1)) d_Generator_leap_52 rfl (z_inc b) rfl ?_
        refine x_goto C 10 d_Generator_leap_55 rfl ?_
        exact ih (b + 1) _ _ _ (by omega) (by rw [← hr]; show _ = z_sv M 32 0 (f_lp a n (b + 1) (if (a >>> (nI b &&& 31)) &&& 1 = 1 then (s * f + h) &&& 2147483647 else s) (f * f) (h * f + h)); rw [if_neg h_24])
      · refine x_aload_n C d_Generator_leap_27 (i := 0) rfl rfl ?_
        refine x_aload_n C d_Generator_leap_28 (i := 0) rfl rfl ?_
        refine g_Generator_state C lk_Generator_9 d_Generator_leap_29 ?_
        refine x_eqi (z_sv_self _ _ _ _) ?_
        refine x_iload_n C d_Generator_leap_32 (i := 2) rfl rfl ?_
        refine x_imul C d_Generator_leap_33 ?_
        refine x_iload_n C d_Generator_leap_34 (i := 3) rfl rfl ?_
        refine x_iadd C d_Generator_leap_35 ?_
        refine x_ldc C (2147483647) d_Generator_leap_36 lk_Generator_15 ?_
        refine x_iand C d_Generator_leap_38 ?_
        refine u_Generator_state C lk_Generator_9 d_Generator_leap_39 ?_
        refine x_eqM (z_sv_sv _ _ _ _ _) ?_
        refine x_iload_n C d_Generator_leap_42 (i := 3) rfl rfl ?_
        refine x_iload_n C d_Generator_leap_43 (i := 2) rfl rfl ?_
        refine x_imul C d_Generator_leap_44 ?_
        refine x_iload_n C d_Generator_leap_45 (i := 3) rfl rfl ?_
        refine x_iadd C d_Generator_leap_46 ?_
        refine x_istore_n C d_Generator_leap_47 (i := 3) rfl rfl ?_
        refine x_iload_n C d_Generator_leap_48 (i := 2) rfl rfl ?_
        refine x_iload_n C d_Generator_leap_49 (i := 2) rfl rfl ?_
        refine x_imul C d_Generator_leap_50 ?_
        refine x_istore_n C d_Generator_leap_51 (i := 2) rfl rfl ?_
        refine x_iinc C (nI (b + 1)) d_Generator_leap_52 rfl (z_inc b) rfl ?_
        refine x_goto C 10 d_Generator_leap_55 rfl ?_
        exact ih (b + 1) _ _ _ (by omega) (by rw [← hr]; show _ = z_sv M 32 0 (f_lp a n (b + 1) (if (a >>> (nI b &&& 31)) &&& 1 = 1 then (s * f + h) &&& 2147483647 else s) (f * f) (h * f + h)); rw [if_pos h_24])
theorem c_Generator_leap {dA : Nat → ClassId} {ad : Nat → Nat} {M : z_M} (a : Int32) : z_CV y_Generator_leap b_Generator_leap 5 0 dA ad [.ref (ad 32), .int a] M (z_sv M 32 0 (f_lp a 17 0 (M 32 0) 1103515245 12345)) := by
  refine z_ofV [some (.ref (ad 32)), some (.int a), none, none, none] (by decide) (Nat.le_of_ble_eq_true rfl) rfl (fun k C E => ?_)
  have C : z_C dA ad k b_Generator_leap "CellTransport$Generator" 0 5 := C
  refine x_ldc C (1103515245) d_Generator_leap_0 lk_Generator_16 ?_
  refine x_istore_n C d_Generator_leap_2 (i := 2) rfl rfl ?_
  refine x_sipush C (12345) d_Generator_leap_3 rfl ?_
  refine x_istore_n C d_Generator_leap_6 (i := 3) rfl rfl ?_
  refine x_iconst C (0) d_Generator_leap_7 rfl ?_
  refine x_istore C d_Generator_leap_8 rfl ?_
  refine x_eqM (z_sv_id M 32 0).symm ?_
  exact lp_Generator_leap C E 17 0 _ _ _ (by omega) rfl
end
section
def f_mv (M : z_M) (dd : Nat) : z_M := z_sv (z_sv M 52 0 (M 52 0 + z_sX dd)) 52 1 (M 52 1 + z_sY dd)
theorem c_Particle_move {dA : Nat → ClassId} {ad : Nat → Nat} {M : z_M} {dd : Nat} (hd : dd < 8) (hdd : M 52 3 = nI dd) : z_CV y_Particle_move b_Particle_move 1 0 dA ad [.ref (ad 52)] M (f_mv M dd) := by
  refine z_ofV [some (.ref (ad 52))] (by decide) (Nat.le_of_ble_eq_true rfl) rfl (fun k C E => ?_)
  have C : z_C dA ad k b_Particle_move "CellTransport$Particle" 0 1 := C
  refine x_aload_n C d_Particle_move_0 (i := 0) rfl rfl ?_
  refine x_dup C d_Particle_move_1 rfl ?_
  refine g_Particle_x C lk_Particle_7 d_Particle_move_2 ?_
  refine s_STEP_XN C lk_Particle_13 d_Particle_move_5 (fun t_5 hT_5 => ?_)
  refine x_aload_n C d_Particle_move_8 (i := 0) rfl rfl ?_
  refine g_Particle_direction C lk_Particle_19 d_Particle_move_9 ?_
  refine x_eqi hdd ?_
  refine rn_ld_tab C hT_5  hd d_Particle_move_12 ?_
  refine x_iadd C d_Particle_move_13 ?_
  refine u_Particle_x C lk_Particle_7 d_Particle_move_14 ?_
  refine x_aload_n C d_Particle_move_17 (i := 0) rfl rfl ?_
  refine x_dup C d_Particle_move_18 rfl ?_
  refine g_Particle_y C lk_Particle_22 d_Particle_move_19 ?_
  refine x_eqi (z_sv_get M _ _ _ _ _ (Or.inr (by decide))) ?_
  refine s_STEP_YN C lk_Particle_25 d_Particle_move_22 (fun t_22 hT_22 => ?_)
  refine x_aload_n C d_Particle_move_25 (i := 0) rfl rfl ?_
  refine g_Particle_direction C lk_Particle_19 d_Particle_move_26 ?_
  refine x_eqi ((z_sv_get M _ _ _ _ _ (Or.inr (by decide))).trans hdd) ?_
  refine rn_ld_tab C hT_22  hd d_Particle_move_29 ?_
  refine x_iadd C d_Particle_move_30 ?_
  refine u_Particle_y C lk_Particle_22 d_Particle_move_31 ?_
  exact x_vret C E rfl d_Particle_move_34
theorem c_Line_empty {dA : Nat → ClassId} {ad : Nat → Nat} {M : z_M}  : z_CV y_Line_empty b_Line_empty 1 0 dA ad [.ref (ad 49)] M (z_sv (z_sv M 49 2 0) 49 3 0) := by
  refine z_ofV [some (.ref (ad 49))] (by decide) (Nat.le_of_ble_eq_true rfl) rfl (fun k C E => ?_)
  have C : z_C dA ad k b_Line_empty "CellTransport$Line" 0 1 := C
  refine x_aload_n C d_Line_empty_0 (i := 0) rfl rfl ?_
  refine x_iconst C (0) d_Line_empty_1 rfl ?_
  refine u_Line_waiting C lk_Line_18 d_Line_empty_2 ?_
  refine x_aload_n C d_Line_empty_5 (i := 0) rfl rfl ?_
  refine x_iconst C (0) d_Line_empty_6 rfl ?_
  refine u_Line_joined C lk_Line_22 d_Line_empty_7 ?_
  exact x_vret C E rfl d_Line_empty_10
def f_jn (M : z_M) (w jn : Nat) (x y : Int32) : z_M := z_sv (z_sv (z_sv (z_sv M 50 w x) 51 w y) 49 2 (nI (w + 1))) 49 3 (nI (jn + 1))
theorem c_Line_join {dA : Nat → ClassId} {ad : Nat → Nat} {M : z_M} {w jn : Nat} (hw : w < 12) (hj : jn < 12) (ew : M 49 2 = nI w) (ej : M 49 3 = nI jn) (x y : Int32) : z_CI y_Line_join b_Line_join 3 .boolean 0 dA ad [.ref (ad 49), .int x, .int y] M (1) (f_jn M w jn x y) := by
  refine z_ofI [some (.ref (ad 49)), some (.int x), some (.int y)] (by decide) (Nat.le_of_ble_eq_true rfl) rfl (fun k C E => ?_)
  have C : z_C dA ad k b_Line_join "CellTransport$Line" 0 3 := C
  refine x_aload_n C d_Line_join_0 (i := 0) rfl rfl ?_
  refine g_Line_joined C lk_Line_22 d_Line_join_1 ?_
  refine x_eqi ej ?_
  refine x_bipush C (12) d_Line_join_4 rfl ?_
  refine x_icmp_lt C 11 d_Line_join_6 rfl (fun h_6 => ?_) (fun h_6 => ?_)
  · refine x_aload_n C d_Line_join_11 (i := 0) rfl rfl ?_
    refine g_Line_placesX C lk_Line_9 d_Line_join_12 ?_
    refine x_aload_n C d_Line_join_15 (i := 0) rfl rfl ?_
    refine g_Line_waiting C lk_Line_18 d_Line_join_16 ?_
    refine x_eqi ew ?_
    refine x_iload_n C d_Line_join_19 (i := 1) rfl rfl ?_
    refine rn_st_placesX C  hw d_Line_join_20 ?_
    refine x_aload_n C d_Line_join_21 (i := 0) rfl rfl ?_
    refine g_Line_placesY C lk_Line_15 d_Line_join_22 ?_
    refine x_aload_n C d_Line_join_25 (i := 0) rfl rfl ?_
    refine g_Line_waiting C lk_Line_18 d_Line_join_26 ?_
    refine x_eqi ((z_sv_get M _ _ _ _ _ (Or.inl (by decide))).trans ew) ?_
    refine x_iload_n C d_Line_join_29 (i := 2) rfl rfl ?_
    refine rn_st_placesY C  hw d_Line_join_30 ?_
    refine x_aload_n C d_Line_join_31 (i := 0) rfl rfl ?_
    refine x_dup C d_Line_join_32 rfl ?_
    refine g_Line_waiting C lk_Line_18 d_Line_join_33 ?_
    refine x_eqi (((z_sv_get _ _ _ _ _ _ (Or.inl (by decide))).trans (z_sv_get M _ _ _ _ _ (Or.inl (by decide)))).trans ew) ?_
    refine x_iconst C (1) d_Line_join_36 rfl ?_
    refine x_iadd C d_Line_join_37 ?_
    refine x_eqi (nI_1 w) ?_
    refine u_Line_waiting C lk_Line_18 d_Line_join_38 ?_
    refine x_aload_n C d_Line_join_41 (i := 0) rfl rfl ?_
    refine x_dup C d_Line_join_42 rfl ?_
    refine g_Line_joined C lk_Line_22 d_Line_join_43 ?_
    refine x_eqi ((((z_sv_get _ _ _ _ _ _ (Or.inr (by decide))).trans (z_sv_get _ _ _ _ _ _ (Or.inl (by decide)))).trans (z_sv_get M _ _ _ _ _ (Or.inl (by decide)))).trans ej) ?_
    refine x_iconst C (1) d_Line_join_46 rfl ?_
    refine x_iadd C d_Line_join_47 ?_
    refine x_eqi (nI_1 jn) ?_
    refine u_Line_joined C lk_Line_22 d_Line_join_48 ?_
    refine x_iconst C (1) d_Line_join_51 rfl ?_
    exact x_zret C E rfl rfl rfl d_Line_join_52
  · exact absurd (show nI jn < 12 from nI_lt (b := 12) hj (by decide)) h_6
theorem c_Line_joinF {dA : Nat → ClassId} {ad : Nat → Nat} {M : z_M} (ej : M 49 3 = nI 12) (x y : Int32) : z_CI y_Line_join b_Line_join 3 .boolean 0 dA ad [.ref (ad 49), .int x, .int y] M (0) (M) := by
  refine z_ofI [some (.ref (ad 49)), some (.int x), some (.int y)] (by decide) (Nat.le_of_ble_eq_true rfl) rfl (fun k C E => ?_)
  have C : z_C dA ad k b_Line_join "CellTransport$Line" 0 3 := C
  refine x_aload_n C d_Line_join_0 (i := 0) rfl rfl ?_
  refine g_Line_joined C lk_Line_22 d_Line_join_1 ?_
  refine x_eqi ej ?_
  refine x_bipush C (12) d_Line_join_4 rfl ?_
  refine x_icmp_lt C 11 d_Line_join_6 rfl (fun h_6 => ?_) (fun h_6 => ?_)
  · exact absurd h_6 (show ¬ nI 12 < 12 from nI_nlt (b := 12) (Nat.le_refl 12) (by decide))
  · refine x_iconst C (0) d_Line_join_9 rfl ?_
    exact x_zret C E rfl rfl rfl d_Line_join_10
theorem c_Line_sendLast {dA : Nat → ClassId} {ad : Nat → Nat} {M : z_M} {w : Nat} (hw : w < 12) (ew : M 49 2 = nI (w + 1)) : z_CV y_Line_sendLast b_Line_sendLast 2 0 dA ad [.ref (ad 49), .ref (ad 52)] M (z_sv (z_sv (z_sv M 49 2 (nI w)) 52 0 (M 50 w)) 52 1 (M 51 w)) := by
  refine z_ofV [some (.ref (ad 49)), some (.ref (ad 52))] (by decide) (Nat.le_of_ble_eq_true rfl) rfl (fun k C E => ?_)
  have C : z_C dA ad k b_Line_sendLast "CellTransport$Line" 0 2 := C
  refine x_aload_n C d_Line_sendLast_0 (i := 0) rfl rfl ?_
  refine g_Line_waiting C lk_Line_18 d_Line_sendLast_1 ?_
  refine x_eqi ew ?_
  refine x_if_le C 43 d_Line_sendLast_4 rfl (fun h_4 => ?_) (fun h_4 => ?_)
  · exact x_vret C E (absurd h_4 (nI_nle (Nat.succ_pos w) (by omega))) d_Line_sendLast_43
  · refine x_aload_n C d_Line_sendLast_7 (i := 0) rfl rfl ?_
    refine x_dup C d_Line_sendLast_8 rfl ?_
    refine g_Line_waiting C lk_Line_18 d_Line_sendLast_9 ?_
    refine x_eqi ew ?_
    refine x_iconst C (1) d_Line_sendLast_12 rfl ?_
    refine x_isub C d_Line_sendLast_13 ?_
    refine x_eqi (nI_pred w) ?_
    refine u_Line_waiting C lk_Line_18 d_Line_sendLast_14 ?_
    refine x_aload_n C d_Line_sendLast_17 (i := 1) rfl rfl ?_
    refine x_aload_n C d_Line_sendLast_18 (i := 0) rfl rfl ?_
    refine g_Line_placesX C lk_Line_9 d_Line_sendLast_19 ?_
    refine x_aload_n C d_Line_sendLast_22 (i := 0) rfl rfl ?_
    refine g_Line_waiting C lk_Line_18 d_Line_sendLast_23 ?_
    refine x_eqi (z_sv_self _ _ _ _) ?_
    refine rn_ld_placesX C  hw d_Line_sendLast_26 ?_
    refine x_eqi (z_sv_get M _ _ _ _ _ (Or.inl (by decide))) ?_
    refine u_Particle_xN C lk_Line_25 d_Line_sendLast_27 ?_
    refine x_aload_n C d_Line_sendLast_30 (i := 1) rfl rfl ?_
    refine x_aload_n C d_Line_sendLast_31 (i := 0) rfl rfl ?_
    refine g_Line_placesY C lk_Line_15 d_Line_sendLast_32 ?_
    refine x_aload_n C d_Line_sendLast_35 (i := 0) rfl rfl ?_
    refine g_Line_waiting C lk_Line_18 d_Line_sendLast_36 ?_
    refine x_eqi ((z_sv_get _ _ _ _ _ _ (Or.inl (by decide))).trans (z_sv_self _ _ _ _)) ?_
    refine rn_ld_placesY C  hw d_Line_sendLast_39 ?_
    refine x_eqi ((z_sv_get _ _ _ _ _ _ (Or.inl (by decide))).trans (z_sv_get M _ _ _ _ _ (Or.inl (by decide)))) ?_
    refine u_Particle_yN C lk_Line_30 d_Line_sendLast_40 ?_
    exact x_vret C E rfl d_Line_sendLast_43
def f_tk (M : z_M) (c : Nat) : z_M := z_sv M (i_talr c) 0 (M (i_talr c) 0 + 1)
def f_at (M : z_M) (b c : Nat) : z_M := if b = c ∨ b = 6 then f_tk M c else z_sv (f_tk M c) (i_cror b) c (f_tk M c (i_cror b) c + 1)
theorem z_b6 {b : Nat} (hb : b ≤ 6) (h : ¬ nI b = 6) : b < 6 := by
  have a : b ≠ 6 := fun q => h (by rw [q]; rfl)
  omega
theorem c_Counts_addTrack {dA : Nat → ClassId} {ad : Nat → Nat} {M : z_M} {b c : Nat} (hb : b ≤ 6) (hc : c < 6) : z_CV y_Counts_addTrack b_Counts_addTrack 3 0 dA ad [.ref (ad 33), .int (nI b), .int (nI c)] M (f_at M b c) := by
  refine z_ofV [some (.ref (ad 33)), some (.int (nI b)), some (.int (nI c))] (by decide) (Nat.le_of_ble_eq_true rfl) rfl (fun k C E => ?_)
  have C : z_C dA ad k b_Counts_addTrack "CellTransport$Counts" 0 3 := C
  refine x_aload_n C d_Counts_addTrack_0 (i := 0) rfl rfl ?_
  refine g_Counts_tallies C lk_Counts_17 d_Counts_addTrack_1 ?_
  refine x_iload_n C d_Counts_addTrack_4 (i := 2) rfl rfl ?_
  refine rn_al_tallies C hc d_Counts_addTrack_5 ?_
  refine x_iconst C (nI 0) d_Counts_addTrack_6 rfl ?_
  refine x_dup2 C d_Counts_addTrack_7 rfl rfl ?_
  refine rn_ld_talrow C hc  (show 0 < 4 by decide) d_Counts_addTrack_8 ?_
  refine x_iconst C (1) d_Counts_addTrack_9 rfl ?_
  refine x_iadd C d_Counts_addTrack_10 ?_
  refine rn_st_talrow C hc  (show 0 < 4 by decide) d_Counts_addTrack_11 ?_
  refine x_iload_n C d_Counts_addTrack_12 (i := 1) rfl rfl ?_
  refine x_iload_n C d_Counts_addTrack_13 (i := 2) rfl rfl ?_
  refine x_icmp_eq C 35 d_Counts_addTrack_14 rfl (fun h_14 => ?_) (fun h_14 => ?_)
  · exact x_vret C E (if_pos (Or.inl ((nI_eq (by omega) (by omega)).mp h_14))).symm d_Counts_addTrack_35
  · refine x_iload_n C d_Counts_addTrack_17 (i := 1) rfl rfl ?_
    refine x_bipush C (6) d_Counts_addTrack_18 rfl ?_
    refine x_icmp_eq C 35 d_Counts_addTrack_20 rfl (fun h_20 => ?_) (fun h_20 => ?_)
    · exact x_vret C E (if_pos (Or.inr ((nI_eq (a := b) (b := 6) (by omega) (by omega)).mp h_20))).symm d_Counts_addTrack_35
    · refine x_aload_n C d_Counts_addTrack_23 (i := 0) rfl rfl ?_
      refine g_Counts_crossings C lk_Counts_20 d_Counts_addTrack_24 ?_
      refine x_iload_n C d_Counts_addTrack_27 (i := 1) rfl rfl ?_
      refine rn_al_crossings C (z_b6 hb h_20) d_Counts_addTrack_28 ?_
      refine x_iload_n C d_Counts_addTrack_29 (i := 2) rfl rfl ?_
      refine x_dup2 C d_Counts_addTrack_30 rfl rfl ?_
      refine rn_ld_crorow C (z_b6 hb h_20)  hc d_Counts_addTrack_31 ?_
      refine x_iconst C (1) d_Counts_addTrack_32 rfl ?_
      refine x_iadd C d_Counts_addTrack_33 ?_
      refine rn_st_crorow C (z_b6 hb h_20)  hc d_Counts_addTrack_34 ?_
      exact x_vret C E (if_neg (fun q => q.elim (fun q => h_14 (by rw [q])) (fun q => h_20 (by rw [q]; rfl)))).symm d_Counts_addTrack_35
def f_fl (M : z_M) (q n : Nat) (v : Int32) : z_M := va_up M q (fun j => if j < n then v else M q j)
theorem f_fl_step (M : z_M) (q i : Nat) (v : Int32) : z_sv (f_fl M q i v) q i v = f_fl M q (i + 1) v := by
  funext a b
  rw [z_sv_at]
  unfold f_fl va_up
  by_cases h : a = q
  · subst h
    by_cases h2 : b = i
    · subst h2; simp
    · have e : (b < i + 1) ↔ b < i := by omega
      simp [h2, e]
  · simp [h]
theorem f_fl_0 (M : z_M) (q : Nat) (v : Int32) : f_fl M q 0 v = M := by
  funext a b
  unfold f_fl va_up
  by_cases h : a = q
  · subst h; simp
  · simp [h]
theorem lp_Arrays_fill {dA : Nat → ClassId} {ad : Nat → Nat} {M : z_M} {k : z_K} {q N : Nat} {v : Int32} (hq : q < z_N) (hN : N < 100) (hc : ∀ f : Nat → Int32, z_c dA ad q f = .inl (dA 0, N, .inl f)) (C : z_C dA ad k b_Arrays_fill "java/util/Arrays" 0 4) (E : z_RV dA ad k (f_fl M q N v)) :
    ∀ (n i : Nat), i + n = N → z_X dA ad k 5 [some (.ref (ad q)), some (.int v), some (.int (nI i)), some (.int (nI N))] [] (f_fl M q i v) := by
  intro n
  induction n with
  | zero =>
    intro i hi
    refine x_iload_n C d_Arrays_fill_5 (i := 2) rfl rfl ?_
    refine x_iload_n C d_Arrays_fill_6 (i := 3) rfl rfl ?_
    refine x_icmp_ge C 20 d_Arrays_fill_7 rfl (fun h_7 => ?_) (fun h_7 => ?_)
    · exact x_vret C E (by rw [show i = N by omega]) d_Arrays_fill_20
    · exact absurd (nI_le (by omega) (by omega)) h_7
  | succ n ih =>
    intro i hi
    refine x_iload_n C d_Arrays_fill_5 (i := 2) rfl rfl ?_
    refine x_iload_n C d_Arrays_fill_6 (i := 3) rfl rfl ?_
    refine x_icmp_ge C 20 d_Arrays_fill_7 rfl (fun h_7 => ?_) (fun h_7 => ?_)
    · exact absurd h_7 (nI_ge (by omega) (by omega))
    · refine x_aload_n C d_Arrays_fill_10 (i := 0) rfl rfl ?_
      refine x_iload_n C d_Arrays_fill_11 (i := 2) rfl rfl ?_
      refine x_iload_n C d_Arrays_fill_12 (i := 1) rfl rfl ?_
      refine x_iast C (t0 := 0) hq hc rfl (vp_in_nI (n := i) (by omega) (by omega)) d_Arrays_fill_13 ?_
      refine x_eqM (show z_sv (f_fl M q i v) q (nI i).toNatClampNeg v = f_fl M q (i + 1) v by rw [nI_clamp (by omega)]; exact f_fl_step M q i v) ?_
      refine x_iinc C (nI (i + 1)) d_Arrays_fill_14 rfl (z_inc i) rfl ?_
      refine x_goto C 5 d_Arrays_fill_17 rfl ?_
      exact ih (i + 1) (by omega)
theorem c_Arrays_fill {dA : Nat → ClassId} {ad : Nat → Nat} {M : z_M} {q N : Nat} (hq : q < z_N) (hN : N < 100) (hc : ∀ f : Nat → Int32, z_c dA ad q f = .inl (dA 0, N, .inl f)) (v : Int32) : z_CV y_Arrays_fill b_Arrays_fill 4 0 dA ad [.ref (ad q), .int v] M (f_fl M q N v) := by
  refine z_ofV [some (.ref (ad q)), some (.int v), none, none] (by decide) (Nat.le_of_ble_eq_true rfl) rfl (fun k C E => ?_)
  have C : z_C dA ad k b_Arrays_fill "java/util/Arrays" 0 4 := C
  refine x_iconst C (0) d_Arrays_fill_0 rfl ?_
  refine x_istore_n C d_Arrays_fill_1 (i := 2) rfl rfl ?_
  refine x_aload_n C d_Arrays_fill_2 (i := 0) rfl rfl ?_
  refine x_alen C (nI N) (t0 := 0) (ty := .int) (ar := (N, .inl (M q))) hq (hc (M q)) rfl rfl d_Arrays_fill_3 ?_
  refine x_istore_n C d_Arrays_fill_4 (i := 3) rfl rfl ?_
  refine x_eqM (f_fl_0 M q v).symm ?_
  exact lp_Arrays_fill hq hN hc C E N 0 (by omega)
def f_rst : Nat → Nat → z_M → z_M
  | 0, _, M => M
  | n + 1, i, M => f_rst n (i + 1) (f_fl (f_fl M (i_talr i) 4 0) (i_cror i) 6 0)
theorem lp_Counts_reset {dA : Nat → ClassId} {ad : Nat → Nat} {M1 : z_M} {k : z_K} (C : z_C dA ad k b_Counts_reset "CellTransport$Counts" 1 2) (E : z_RV dA ad k M1) :
    ∀ (n i : Nat) (M : z_M), i + n = 6 → f_rst n i M = M1 → z_X dA ad k 10 [some (.ref (ad 33)), some (.int (nI i))] [] M := by
  intro n
  induction n with
  | zero =>
    intro i M hi hr
    refine x_iload_n C d_Counts_reset_10 (i := 1) rfl rfl ?_
    refine x_bipush C (6) d_Counts_reset_11 rfl ?_
    refine x_icmp_ge C 42 d_Counts_reset_13 rfl (fun h_13 => ?_) (fun h_13 => ?_)
    · exact x_vret C E hr d_Counts_reset_42
    · exact absurd (show (6 : Int32) ≤ nI i from nI_le (a := 6) (by omega) (by omega)) h_13
  | succ n ih =>
    intro i M hi hr
    have hi6 : i < 6 := by omega
    refine x_iload_n C d_Counts_reset_10 (i := 1) rfl rfl ?_
    refine x_bipush C (6) d_Counts_reset_11 rfl ?_
    refine x_icmp_ge C 42 d_Counts_reset_13 rfl (fun h_13 => ?_) (fun h_13 => ?_)
    · exact absurd (show nI 6 ≤ nI i from h_13) (nI_ge (by omega) (by decide))
    · refine x_aload_n C d_Counts_reset_16 (i := 0) rfl rfl ?_
      refine g_Counts_tallies C lk_Counts_17 d_Counts_reset_17 ?_
      refine x_iload_n C d_Counts_reset_20 (i := 1) rfl rfl ?_
      refine rn_al_tallies C hi6 d_Counts_reset_21 ?_
      refine x_iconst C (0) d_Counts_reset_22 rfl ?_
      refine x_callSv C (c_Arrays_fill (zl_talrow hi6) (by decide) (fun f => zc_talrow hi6 f) 0) mt_Arrays_fill rfl rfl (Nat.le_of_ble_eq_true rfl) (Nat.le_of_ble_eq_true rfl) lk_Counts_23 d_Counts_reset_23 ?_
      refine x_aload_n C d_Counts_reset_26 (i := 0) rfl rfl ?_
      refine g_Counts_crossings C lk_Counts_20 d_Counts_reset_27 ?_
      refine x_iload_n C d_Counts_reset_30 (i := 1) rfl rfl ?_
      refine rn_al_crossings C hi6 d_Counts_reset_31 ?_
      refine x_iconst C (0) d_Counts_reset_32 rfl ?_
      refine x_callSv C (c_Arrays_fill (zl_crorow hi6) (by decide) (fun f => zc_crorow hi6 f) 0) mt_Arrays_fill rfl rfl (Nat.le_of_ble_eq_true rfl) (Nat.le_of_ble_eq_true rfl) lk_Counts_23 d_Counts_reset_33 ?_
      refine x_iinc C (nI (i + 1)) d_Counts_reset_36 rfl (z_inc i) rfl ?_
      refine x_goto C 10 d_Counts_reset_39 rfl ?_
      exact ih (i + 1) _ (by omega) hr
theorem c_Counts_reset {dA : Nat → ClassId} {ad : Nat → Nat} {M : z_M}  : z_CV y_Counts_reset b_Counts_reset 2 1 dA ad [.ref (ad 33)] M (f_rst 6 0 (f_fl M 34 5 0)) := by
  refine z_ofV [some (.ref (ad 33)), none] (by decide) (Nat.le_of_ble_eq_true rfl) rfl (fun k C E => ?_)
  have C : z_C dA ad k b_Counts_reset "CellTransport$Counts" 1 2 := C
  refine x_aload_n C d_Counts_reset_0 (i := 0) rfl rfl ?_
  refine g_Counts_totals C lk_Counts_9 d_Counts_reset_1 ?_
  refine x_iconst C (0) d_Counts_reset_4 rfl ?_
  refine x_callSv C (c_Arrays_fill zl_totals (by decide) (fun f => zc_totals f) 0) mt_Arrays_fill rfl rfl (Nat.le_of_ble_eq_true rfl) (Nat.le_of_ble_eq_true rfl) lk_Counts_23 d_Counts_reset_5 ?_
  refine x_iconst C (0) d_Counts_reset_8 rfl ?_
  refine x_istore_n C d_Counts_reset_9 (i := 1) rfl rfl ?_
  exact lp_Counts_reset C E 6 0 _ (by omega) rfl
end
section
theorem z_in {j n : Nat} (h : j ≤ n) (hn : n < 2 ^ 31) : p_btw (nI j) 0 (nI n) := ⟨nI_pos' (by omega), nI_le h hn⟩
theorem c_CellTransport_surfaceN {dA : Nat → ClassId} {ad : Nat → Nat} {M : z_M} {nm kd a b c : Int32} (hn : ¬ (p_btw nm 0 7 ∧ p_isS kd a b c)) : z_CI y_CellTransport_surface b_CellTransport_surface 8 .int 3 dA ad [.ref (ad 0), .int nm, .int kd, .int a, .int b, .int c] M (-1) (M) := by
  refine z_ofI [some (.ref (ad 0)), some (.int nm), some (.int kd), some (.int a), some (.int b), some (.int c), none, none] (by decide) (Nat.le_of_ble_eq_true rfl) rfl (fun k C E => ?_)
  have C : z_C dA ad k b_CellTransport_surface "CellTransport" 3 8 := C
  refine x_iload_n C d_CellTransport_surface_0 (i := 1) rfl rfl ?_
  refine x_iconst C (0) d_CellTransport_surface_1 rfl ?_
  refine x_bipush C (7) d_CellTransport_surface_2 rfl ?_
  refine x_callSi C (c_CellTransport_isBetween _ _ _) mt_CellTransport_isBetween rfl rfl (Nat.le_of_ble_eq_true rfl) (Nat.le_of_ble_eq_true rfl) lk_CellTransport_51 d_CellTransport_surface_4 ?_
  refine x_if_eq C 22 d_CellTransport_surface_7 rfl (fun h_7 => ?_) (fun h_7 => ?_)
  · refine x_iconst C (-1) d_CellTransport_surface_22 rfl ?_
    exact x_iret C E rfl rfl d_CellTransport_surface_23
  · refine x_iload_n C d_CellTransport_surface_10 (i := 2) rfl rfl ?_
    refine x_iload_n C d_CellTransport_surface_11 (i := 3) rfl rfl ?_
    refine x_iload C d_CellTransport_surface_12 rfl ?_
    refine x_iload C d_CellTransport_surface_14 rfl ?_
    refine x_callSi C (c_CellTransport_isSurface _ _ _ _) mt_CellTransport_isSurface rfl rfl (Nat.le_of_ble_eq_true rfl) (Nat.le_of_ble_eq_true rfl) lk_CellTransport_55 d_CellTransport_surface_16 ?_
    refine x_if_ne C 24 d_CellTransport_surface_19 rfl (fun h_19 => ?_) (fun h_19 => ?_)
    · exact absurd ⟨z_b_n0.mp h_7, z_b_n0.mp h_19⟩ hn
    · refine x_iconst C (-1) d_CellTransport_surface_22 rfl ?_
      exact x_iret C E rfl rfl d_CellTransport_surface_23
theorem c_CellTransport_surfaceY {dA : Nat → ClassId} {ad : Nat → Nat} {M : z_M} {j : Nat} (hj : j < 8) {kd a b c : Int32} (hp : p_isS kd a b c) : z_CI y_CellTransport_surface b_CellTransport_surface 8 .int 3 dA ad [.ref (ad 0), .int (nI j), .int kd, .int a, .int b, .int c] M (z_b (¬ M (i_surf j) 0 = 0)) (f_bec M j kd a b c) := by
  refine z_ofI [some (.ref (ad 0)), some (.int (nI j)), some (.int kd), some (.int a), some (.int b), some (.int c), none, none] (by decide) (Nat.le_of_ble_eq_true rfl) rfl (fun k C E => ?_)
  have C : z_C dA ad k b_CellTransport_surface "CellTransport" 3 8 := C
  have hb : p_btw (nI j) 0 7 := z_in (n := 7) (by omega) (by decide)
  refine x_iload_n C d_CellTransport_surface_0 (i := 1) rfl rfl ?_
  refine x_iconst C (0) d_CellTransport_surface_1 rfl ?_
  refine x_bipush C (7) d_CellTransport_surface_2 rfl ?_
  refine x_callSi C (c_CellTransport_isBetween _ _ _) mt_CellTransport_isBetween rfl rfl (Nat.le_of_ble_eq_true rfl) (Nat.le_of_ble_eq_true rfl) lk_CellTransport_51 d_CellTransport_surface_4 ?_
  refine x_if_eq C 22 d_CellTransport_surface_7 rfl (fun h_7 => ?_) (fun h_7 => ?_)
  · first | exact absurd hb (z_b_0.mp h_7) | exact absurd hp (z_b_0.mp h_19)
  · refine x_iload_n C d_CellTransport_surface_10 (i := 2) rfl rfl ?_
    refine x_iload_n C d_CellTransport_surface_11 (i := 3) rfl rfl ?_
    refine x_iload C d_CellTransport_surface_12 rfl ?_
    refine x_iload C d_CellTransport_surface_14 rfl ?_
    refine x_callSi C (c_CellTransport_isSurface _ _ _ _) mt_CellTransport_isSurface rfl rfl (Nat.le_of_ble_eq_true rfl) (Nat.le_of_ble_eq_true rfl) lk_CellTransport_55 d_CellTransport_surface_16 ?_
    refine x_if_ne C 24 d_CellTransport_surface_19 rfl (fun h_19 => ?_) (fun h_19 => ?_)
    · refine x_aload_n C d_CellTransport_surface_24 (i := 0) rfl rfl ?_
      refine g_CellTransport_geometry C lk_CellTransport_10 d_CellTransport_surface_25 ?_
      refine g_Geometry_surfacesN C lk_CellTransport_59 d_CellTransport_surface_28 ?_
      refine x_iload_n C d_CellTransport_surface_31 (i := 1) rfl rfl ?_
      refine rn_al_surfaces C hj d_CellTransport_surface_32 ?_
      refine x_astore C d_CellTransport_surface_33 rfl ?_
      refine x_aload C d_CellTransport_surface_35 rfl ?_
      refine g_Surface_isSetN C hj lk_CellTransport_63 d_CellTransport_surface_37 ?_
      refine x_callSi C (c_CellTransport_oneIf _) mt_CellTransport_oneIf rfl rfl (Nat.le_of_ble_eq_true rfl) (Nat.le_of_ble_eq_true rfl) lk_CellTransport_69 d_CellTransport_surface_40 ?_
      refine x_istore C d_CellTransport_surface_43 rfl ?_
      refine x_aload C d_CellTransport_surface_45 rfl ?_
      refine x_iload_n C d_CellTransport_surface_47 (i := 2) rfl rfl ?_
      refine x_iload_n C d_CellTransport_surface_48 (i := 3) rfl rfl ?_
      refine x_iload C d_CellTransport_surface_49 rfl ?_
      refine x_iload C d_CellTransport_surface_51 rfl ?_
      refine x_callVNv C (c_Surface_become hj _ _ _ _) mt_Surface_become (zl_Surface hj ) (zc_Surface hj _) rfl rfl rfl (Nat.le_of_ble_eq_true rfl) (Nat.le_of_ble_eq_true rfl) lk_CellTransport_73 d_CellTransport_surface_53 ?_
      refine x_iload C d_CellTransport_surface_56 rfl ?_
      exact x_iret C E rfl rfl d_CellTransport_surface_58
    · first | exact absurd hb (z_b_0.mp h_7) | exact absurd hp (z_b_0.mp h_19)
theorem c_CellTransport_tokenN {dA : Nat → ClassId} {ad : Nat → Nat} {M : z_M} {v : Int32} {sz : Nat} (hs : M (i_reg 6) 1 = nI sz) (hz : sz ≤ 8) (hn : ¬ (p_btw v 0 10 ∧ sz < 8)) : z_CI y_CellTransport_token b_CellTransport_token 2 .int 1 dA ad [.ref (ad 0), .int v] M (-1) (M) := by
  refine z_ofI [some (.ref (ad 0)), some (.int v)] (by decide) (Nat.le_of_ble_eq_true rfl) rfl (fun k C E => ?_)
  have C : z_C dA ad k b_CellTransport_token "CellTransport" 1 2 := C
  refine x_iload_n C d_CellTransport_token_0 (i := 1) rfl rfl ?_
  refine x_iconst C (0) d_CellTransport_token_1 rfl ?_
  refine x_bipush C (10) d_CellTransport_token_2 rfl ?_
  refine x_callSi C (c_CellTransport_isBetween _ _ _) mt_CellTransport_isBetween rfl rfl (Nat.le_of_ble_eq_true rfl) (Nat.le_of_ble_eq_true rfl) lk_CellTransport_51 d_CellTransport_token_4 ?_
  refine x_if_eq C 22 d_CellTransport_token_7 rfl (fun h_7 => ?_) (fun h_7 => ?_)
  · refine x_iconst C (-1) d_CellTransport_token_22 rfl ?_
    exact x_iret C E rfl rfl d_CellTransport_token_23
  · refine x_aload_n C d_CellTransport_token_10 (i := 0) rfl rfl ?_
    refine g_CellTransport_buffer C lk_CellTransport_19 d_CellTransport_token_11 ?_
    refine g_Region_sizeN C z_6 lk_CellTransport_77 d_CellTransport_token_14 ?_
    refine x_eqi hs ?_
    refine x_bipush C (8) d_CellTransport_token_17 rfl ?_
    refine x_icmp_lt C 24 d_CellTransport_token_19 rfl (fun h_19 => ?_) (fun h_19 => ?_)
    · exact absurd ⟨z_b_n0.mp h_7, (nI_ltI (b := 8) (by omega) (by decide)).mp h_19⟩ hn
    · refine x_iconst C (-1) d_CellTransport_token_22 rfl ?_
      exact x_iret C E rfl rfl d_CellTransport_token_23
theorem c_CellTransport_tokenY {dA : Nat → ClassId} {ad : Nat → Nat} {M : z_M} {v : Int32} {sz : Nat} (hs : M (i_reg 6) 1 = nI sz) (hv : p_btw v 0 10) (hz : sz < 8) : z_CI y_CellTransport_token b_CellTransport_token 2 .int 1 dA ad [.ref (ad 0), .int v] M (nI (sz + 1)) (z_sv (z_sv M (i_tok 6) sz v) (i_reg 6) 1 (nI (sz + 1))) := by
  refine z_ofI [some (.ref (ad 0)), some (.int v)] (by decide) (Nat.le_of_ble_eq_true rfl) rfl (fun k C E => ?_)
  have C : z_C dA ad k b_CellTransport_token "CellTransport" 1 2 := C
  refine x_iload_n C d_CellTransport_token_0 (i := 1) rfl rfl ?_
  refine x_iconst C (0) d_CellTransport_token_1 rfl ?_
  refine x_bipush C (10) d_CellTransport_token_2 rfl ?_
  refine x_callSi C (c_CellTransport_isBetween _ _ _) mt_CellTransport_isBetween rfl rfl (Nat.le_of_ble_eq_true rfl) (Nat.le_of_ble_eq_true rfl) lk_CellTransport_51 d_CellTransport_token_4 ?_
  refine x_if_eq C 22 d_CellTransport_token_7 rfl (fun h_7 => ?_) (fun h_7 => ?_)
  · first | exact absurd hv (z_b_0.mp h_7) | exact absurd (show nI sz < 8 from nI_lt (b := 8) hz (by decide)) h_19
  · refine x_aload_n C d_CellTransport_token_10 (i := 0) rfl rfl ?_
    refine g_CellTransport_buffer C lk_CellTransport_19 d_CellTransport_token_11 ?_
    refine g_Region_sizeN C z_6 lk_CellTransport_77 d_CellTransport_token_14 ?_
    refine x_eqi hs ?_
    refine x_bipush C (8) d_CellTransport_token_17 rfl ?_
    refine x_icmp_lt C 24 d_CellTransport_token_19 rfl (fun h_19 => ?_) (fun h_19 => ?_)
    · refine x_aload_n C d_CellTransport_token_24 (i := 0) rfl rfl ?_
      refine g_CellTransport_buffer C lk_CellTransport_19 d_CellTransport_token_25 ?_
      refine x_iload_n C d_CellTransport_token_28 (i := 1) rfl rfl ?_
      refine x_callVNv C (c_Region_add z_6 v hz hs) mt_Region_add (zl_Region z_6 ) (zc_Region z_6 _) rfl rfl rfl (Nat.le_of_ble_eq_true rfl) (Nat.le_of_ble_eq_true rfl) lk_CellTransport_81 d_CellTransport_token_29 ?_
      refine x_aload_n C d_CellTransport_token_32 (i := 0) rfl rfl ?_
      refine g_CellTransport_buffer C lk_CellTransport_19 d_CellTransport_token_33 ?_
      refine g_Region_sizeN C z_6 lk_CellTransport_77 d_CellTransport_token_36 ?_
      refine x_eqi (z_sv_self _ _ _ _) ?_
      exact x_iret C E rfl rfl d_CellTransport_token_39
    · first | exact absurd hv (z_b_0.mp h_7) | exact absurd (show nI sz < 8 from nI_lt (b := 8) hz (by decide)) h_19
theorem c_CellTransport_cellN {dA : Nat → ClassId} {ad : Nat → Nat} {M : z_M} {nm de ab fi : Int32} (hn : ¬ (p_btw nm 0 5 ∧ p_btw de 0 1000 ∧ p_shr ab fi)) : z_CI y_CellTransport_cell b_CellTransport_cell 7 .int 3 dA ad [.ref (ad 0), .int nm, .int de, .int ab, .int fi] M (-1) (M) := by
  refine z_ofI [some (.ref (ad 0)), some (.int nm), some (.int de), some (.int ab), some (.int fi), none, none] (by decide) (Nat.le_of_ble_eq_true rfl) rfl (fun k C E => ?_)
  have C : z_C dA ad k b_CellTransport_cell "CellTransport" 3 7 := C
  refine x_iload_n C d_CellTransport_cell_0 (i := 1) rfl rfl ?_
  refine x_iconst C (0) d_CellTransport_cell_1 rfl ?_
  refine x_iconst C (5) d_CellTransport_cell_2 rfl ?_
  refine x_callSi C (c_CellTransport_isBetween _ _ _) mt_CellTransport_isBetween rfl rfl (Nat.le_of_ble_eq_true rfl) (Nat.le_of_ble_eq_true rfl) lk_CellTransport_51 d_CellTransport_cell_3 ?_
  refine x_if_eq C 29 d_CellTransport_cell_6 rfl (fun h_6 => ?_) (fun h_6 => ?_)
  · refine x_iconst C (-1) d_CellTransport_cell_29 rfl ?_
    exact x_iret C E rfl rfl d_CellTransport_cell_30
  · refine x_iload_n C d_CellTransport_cell_9 (i := 2) rfl rfl ?_
    refine x_iconst C (0) d_CellTransport_cell_10 rfl ?_
    refine x_sipush C (1000) d_CellTransport_cell_11 rfl ?_
    refine x_callSi C (c_CellTransport_isBetween _ _ _) mt_CellTransport_isBetween rfl rfl (Nat.le_of_ble_eq_true rfl) (Nat.le_of_ble_eq_true rfl) lk_CellTransport_51 d_CellTransport_cell_14 ?_
    refine x_if_eq C 29 d_CellTransport_cell_17 rfl (fun h_17 => ?_) (fun h_17 => ?_)
    · refine x_iconst C (-1) d_CellTransport_cell_29 rfl ?_
      exact x_iret C E rfl rfl d_CellTransport_cell_30
    · refine x_iload_n C d_CellTransport_cell_20 (i := 3) rfl rfl ?_
      refine x_iload C d_CellTransport_cell_21 rfl ?_
      refine x_callSi C (c_CellTransport_areShares _ _) mt_CellTransport_areShares rfl rfl (Nat.le_of_ble_eq_true rfl) (Nat.le_of_ble_eq_true rfl) lk_CellTransport_85 d_CellTransport_cell_23 ?_
      refine x_if_ne C 31 d_CellTransport_cell_26 rfl (fun h_26 => ?_) (fun h_26 => ?_)
      · exact absurd ⟨z_b_n0.mp h_6, z_b_n0.mp h_17, z_b_n0.mp h_26⟩ hn
      · refine x_iconst C (-1) d_CellTransport_cell_29 rfl ?_
        exact x_iret C E rfl rfl d_CellTransport_cell_30
theorem c_CellTransport_cellW {dA : Nat → ClassId} {ad : Nat → Nat} {M : z_M} {nm de ab fi : Int32} {sz : Nat} (hs : M (i_reg 6) 1 = nI sz) (hz : sz ≤ 8) (hb : p_btw nm 0 5 ∧ p_btw de 0 1000 ∧ p_shr ab fi) (hw : f_wh (M (i_tok 6)) sz 0 0 = 0) : z_CI y_CellTransport_cell b_CellTransport_cell 7 .int 3 dA ad [.ref (ad 0), .int nm, .int de, .int ab, .int fi] M (-1) (z_sv M (i_reg 6) 1 0) := by
  refine z_ofI [some (.ref (ad 0)), some (.int nm), some (.int de), some (.int ab), some (.int fi), none, none] (by decide) (Nat.le_of_ble_eq_true rfl) rfl (fun k C E => ?_)
  have C : z_C dA ad k b_CellTransport_cell "CellTransport" 3 7 := C
  refine x_iload_n C d_CellTransport_cell_0 (i := 1) rfl rfl ?_
  refine x_iconst C (0) d_CellTransport_cell_1 rfl ?_
  refine x_iconst C (5) d_CellTransport_cell_2 rfl ?_
  refine x_callSi C (c_CellTransport_isBetween _ _ _) mt_CellTransport_isBetween rfl rfl (Nat.le_of_ble_eq_true rfl) (Nat.le_of_ble_eq_true rfl) lk_CellTransport_51 d_CellTransport_cell_3 ?_
  refine x_if_eq C 29 d_CellTransport_cell_6 rfl (fun h_6 => ?_) (fun h_6 => ?_)
  · first | exact absurd hb.1 (z_b_0.mp h_6) | exact absurd hb.2.1 (z_b_0.mp h_17) | exact absurd hb.2.2 (z_b_0.mp h_26)
  · refine x_iload_n C d_CellTransport_cell_9 (i := 2) rfl rfl ?_
    refine x_iconst C (0) d_CellTransport_cell_10 rfl ?_
    refine x_sipush C (1000) d_CellTransport_cell_11 rfl ?_
    refine x_callSi C (c_CellTransport_isBetween _ _ _) mt_CellTransport_isBetween rfl rfl (Nat.le_of_ble_eq_true rfl) (Nat.le_of_ble_eq_true rfl) lk_CellTransport_51 d_CellTransport_cell_14 ?_
    refine x_if_eq C 29 d_CellTransport_cell_17 rfl (fun h_17 => ?_) (fun h_17 => ?_)
    · first | exact absurd hb.1 (z_b_0.mp h_6) | exact absurd hb.2.1 (z_b_0.mp h_17) | exact absurd hb.2.2 (z_b_0.mp h_26)
    · refine x_iload_n C d_CellTransport_cell_20 (i := 3) rfl rfl ?_
      refine x_iload C d_CellTransport_cell_21 rfl ?_
      refine x_callSi C (c_CellTransport_areShares _ _) mt_CellTransport_areShares rfl rfl (Nat.le_of_ble_eq_true rfl) (Nat.le_of_ble_eq_true rfl) lk_CellTransport_85 d_CellTransport_cell_23 ?_
      refine x_if_ne C 31 d_CellTransport_cell_26 rfl (fun h_26 => ?_) (fun h_26 => ?_)
      · refine x_aload_n C d_CellTransport_cell_31 (i := 0) rfl rfl ?_
        refine g_CellTransport_buffer C lk_CellTransport_19 d_CellTransport_cell_32 ?_
        refine x_callVNi C (c_Region_isWhole z_6 hz hs) mt_Region_isWhole (zl_Region z_6 ) (zc_Region z_6 _) rfl rfl rfl (Nat.le_of_ble_eq_true rfl) (Nat.le_of_ble_eq_true rfl) lk_CellTransport_89 d_CellTransport_cell_35 ?_
        refine x_if_ne C 51 d_CellTransport_cell_38 rfl (fun h_38 => ?_) (fun h_38 => ?_)
        · exact absurd hw h_38
        · refine x_aload_n C d_CellTransport_cell_41 (i := 0) rfl rfl ?_
          refine g_CellTransport_buffer C lk_CellTransport_19 d_CellTransport_cell_42 ?_
          refine x_iconst C (0) d_CellTransport_cell_45 rfl ?_
          refine u_Region_sizeN C z_6 lk_CellTransport_77 d_CellTransport_cell_46 ?_
          refine x_iconst C (-1) d_CellTransport_cell_49 rfl ?_
          exact x_iret C E rfl rfl d_CellTransport_cell_50
      · first | exact absurd hb.1 (z_b_0.mp h_6) | exact absurd hb.2.1 (z_b_0.mp h_17) | exact absurd hb.2.2 (z_b_0.mp h_26)
theorem c_CellTransport_cellY {dA : Nat → ClassId} {ad : Nat → Nat} {M : z_M} {j : Nat} (hj : j < 6) {de ab fi : Int32} {sz : Nat} (hs : M (i_reg 6) 1 = nI sz) (hz : sz ≤ 8) (hb2 : p_btw de 0 1000 ∧ p_shr ab fi) (hw : ¬ f_wh (M (i_tok 6)) sz 0 0 = 0) : z_CI y_CellTransport_cell b_CellTransport_cell 7 .int 3 dA ad [.ref (ad 0), .int (nI j), .int de, .int ab, .int fi] M (z_b (¬ M (i_cell j) 1 = 0)) (z_sv (f_def M j de ab fi) (i_reg 6) 1 0) := by
  refine z_ofI [some (.ref (ad 0)), some (.int (nI j)), some (.int de), some (.int ab), some (.int fi), none, none] (by decide) (Nat.le_of_ble_eq_true rfl) rfl (fun k C E => ?_)
  have C : z_C dA ad k b_CellTransport_cell "CellTransport" 3 7 := C
  have hb : p_btw (nI j) 0 5 ∧ p_btw de 0 1000 ∧ p_shr ab fi := ⟨z_in (n := 5) (by omega) (by decide), hb2⟩
  refine x_iload_n C d_CellTransport_cell_0 (i := 1) rfl rfl ?_
  refine x_iconst C (0) d_CellTransport_cell_1 rfl ?_
  refine x_iconst C (5) d_CellTransport_cell_2 rfl ?_
  refine x_callSi C (c_CellTransport_isBetween _ _ _) mt_CellTransport_isBetween rfl rfl (Nat.le_of_ble_eq_true rfl) (Nat.le_of_ble_eq_true rfl) lk_CellTransport_51 d_CellTransport_cell_3 ?_
  refine x_if_eq C 29 d_CellTransport_cell_6 rfl (fun h_6 => ?_) (fun h_6 => ?_)
  · first | exact absurd hb.1 (z_b_0.mp h_6) | exact absurd hb.2.1 (z_b_0.mp h_17) | exact absurd hb.2.2 (z_b_0.mp h_26)
  · refine x_iload_n C d_CellTransport_cell_9 (i := 2) rfl rfl ?_
    refine x_iconst C (0) d_CellTransport_cell_10 rfl ?_
    refine x_sipush C (1000) d_CellTransport_cell_11 rfl ?_
    refine x_callSi C (c_CellTransport_isBetween _ _ _) mt_CellTransport_isBetween rfl rfl (Nat.le_of_ble_eq_true rfl) (Nat.le_of_ble_eq_true rfl) lk_CellTransport_51 d_CellTransport_cell_14 ?_
    refine x_if_eq C 29 d_CellTransport_cell_17 rfl (fun h_17 => ?_) (fun h_17 => ?_)
    · first | exact absurd hb.1 (z_b_0.mp h_6) | exact absurd hb.2.1 (z_b_0.mp h_17) | exact absurd hb.2.2 (z_b_0.mp h_26)
    · refine x_iload_n C d_CellTransport_cell_20 (i := 3) rfl rfl ?_
      refine x_iload C d_CellTransport_cell_21 rfl ?_
      refine x_callSi C (c_CellTransport_areShares _ _) mt_CellTransport_areShares rfl rfl (Nat.le_of_ble_eq_true rfl) (Nat.le_of_ble_eq_true rfl) lk_CellTransport_85 d_CellTransport_cell_23 ?_
      refine x_if_ne C 31 d_CellTransport_cell_26 rfl (fun h_26 => ?_) (fun h_26 => ?_)
      · refine x_aload_n C d_CellTransport_cell_31 (i := 0) rfl rfl ?_
        refine g_CellTransport_buffer C lk_CellTransport_19 d_CellTransport_cell_32 ?_
        refine x_callVNi C (c_Region_isWhole z_6 hz hs) mt_Region_isWhole (zl_Region z_6 ) (zc_Region z_6 _) rfl rfl rfl (Nat.le_of_ble_eq_true rfl) (Nat.le_of_ble_eq_true rfl) lk_CellTransport_89 d_CellTransport_cell_35 ?_
        refine x_if_ne C 51 d_CellTransport_cell_38 rfl (fun h_38 => ?_) (fun h_38 => ?_)
        · refine x_aload_n C d_CellTransport_cell_51 (i := 0) rfl rfl ?_
          refine g_CellTransport_geometry C lk_CellTransport_10 d_CellTransport_cell_52 ?_
          refine g_Geometry_cellsN C lk_CellTransport_93 d_CellTransport_cell_55 ?_
          refine x_iload_n C d_CellTransport_cell_58 (i := 1) rfl rfl ?_
          refine rn_al_cells C hj d_CellTransport_cell_59 ?_
          refine x_astore C d_CellTransport_cell_60 rfl ?_
          refine x_aload C d_CellTransport_cell_62 rfl ?_
          refine g_Cell_isDefinedN C hj lk_CellTransport_97 d_CellTransport_cell_64 ?_
          refine x_callSi C (c_CellTransport_oneIf _) mt_CellTransport_oneIf rfl rfl (Nat.le_of_ble_eq_true rfl) (Nat.le_of_ble_eq_true rfl) lk_CellTransport_69 d_CellTransport_cell_67 ?_
          refine x_istore C d_CellTransport_cell_70 rfl ?_
          refine x_aload C d_CellTransport_cell_72 rfl ?_
          refine x_aload_n C d_CellTransport_cell_74 (i := 0) rfl rfl ?_
          refine g_CellTransport_buffer C lk_CellTransport_19 d_CellTransport_cell_75 ?_
          refine x_iload_n C d_CellTransport_cell_78 (i := 2) rfl rfl ?_
          refine x_iload_n C d_CellTransport_cell_79 (i := 3) rfl rfl ?_
          refine x_iload C d_CellTransport_cell_80 rfl ?_
          refine x_callVNv C (c_Cell_define hj _ _ _) mt_Cell_define (zl_Cell hj ) (zc_Cell hj _) rfl rfl rfl (Nat.le_of_ble_eq_true rfl) (Nat.le_of_ble_eq_true rfl) lk_CellTransport_102 d_CellTransport_cell_82 ?_
          refine x_aload_n C d_CellTransport_cell_85 (i := 0) rfl rfl ?_
          refine g_CellTransport_buffer C lk_CellTransport_19 d_CellTransport_cell_86 ?_
          refine x_iconst C (0) d_CellTransport_cell_89 rfl ?_
          refine u_Region_sizeN C z_6 lk_CellTransport_77 d_CellTransport_cell_90 ?_
          refine x_iload C d_CellTransport_cell_93 rfl ?_
          exact x_iret C E rfl rfl d_CellTransport_cell_95
        · exact absurd h_38 hw
      · first | exact absurd hb.1 (z_b_0.mp h_6) | exact absurd hb.2.1 (z_b_0.mp h_17) | exact absurd hb.2.2 (z_b_0.mp h_26)
theorem c_CellTransport_undefineN {dA : Nat → ClassId} {ad : Nat → Nat} {M : z_M} {nm : Int32} (hn : ¬ p_btw nm 0 5) : z_CI y_CellTransport_undefine b_CellTransport_undefine 4 .int 1 dA ad [.ref (ad 0), .int nm] M (-1) (M) := by
  refine z_ofI [some (.ref (ad 0)), some (.int nm), none, none] (by decide) (Nat.le_of_ble_eq_true rfl) rfl (fun k C E => ?_)
  have C : z_C dA ad k b_CellTransport_undefine "CellTransport" 1 4 := C
  refine x_iload_n C d_CellTransport_undefine_0 (i := 1) rfl rfl ?_
  refine x_iconst C (0) d_CellTransport_undefine_1 rfl ?_
  refine x_iconst C (5) d_CellTransport_undefine_2 rfl ?_
  refine x_callSi C (c_CellTransport_isBetween _ _ _) mt_CellTransport_isBetween rfl rfl (Nat.le_of_ble_eq_true rfl) (Nat.le_of_ble_eq_true rfl) lk_CellTransport_51 d_CellTransport_undefine_3 ?_
  refine x_if_ne C 11 d_CellTransport_undefine_6 rfl (fun h_6 => ?_) (fun h_6 => ?_)
  · exact absurd (z_b_n0.mp h_6) hn
  · refine x_iconst C (-1) d_CellTransport_undefine_9 rfl ?_
    exact x_iret C E rfl rfl d_CellTransport_undefine_10
theorem c_CellTransport_undefineY {dA : Nat → ClassId} {ad : Nat → Nat} {M : z_M} {j : Nat} (hj : j < 6) : z_CI y_CellTransport_undefine b_CellTransport_undefine 4 .int 1 dA ad [.ref (ad 0), .int (nI j)] M (z_b (¬ M (i_cell j) 1 = 0)) (z_sv M (i_cell j) 1 0) := by
  refine z_ofI [some (.ref (ad 0)), some (.int (nI j)), none, none] (by decide) (Nat.le_of_ble_eq_true rfl) rfl (fun k C E => ?_)
  have C : z_C dA ad k b_CellTransport_undefine "CellTransport" 1 4 := C
  refine x_iload_n C d_CellTransport_undefine_0 (i := 1) rfl rfl ?_
  refine x_iconst C (0) d_CellTransport_undefine_1 rfl ?_
  refine x_iconst C (5) d_CellTransport_undefine_2 rfl ?_
  refine x_callSi C (c_CellTransport_isBetween _ _ _) mt_CellTransport_isBetween rfl rfl (Nat.le_of_ble_eq_true rfl) (Nat.le_of_ble_eq_true rfl) lk_CellTransport_51 d_CellTransport_undefine_3 ?_
  refine x_if_ne C 11 d_CellTransport_undefine_6 rfl (fun h_6 => ?_) (fun h_6 => ?_)
  · refine x_aload_n C d_CellTransport_undefine_11 (i := 0) rfl rfl ?_
    refine g_CellTransport_geometry C lk_CellTransport_10 d_CellTransport_undefine_12 ?_
    refine g_Geometry_cellsN C lk_CellTransport_93 d_CellTransport_undefine_15 ?_
    refine x_iload_n C d_CellTransport_undefine_18 (i := 1) rfl rfl ?_
    refine rn_al_cells C hj d_CellTransport_undefine_19 ?_
    refine x_astore_n C d_CellTransport_undefine_20 (i := 2) rfl rfl ?_
    refine x_aload_n C d_CellTransport_undefine_21 (i := 2) rfl rfl ?_
    refine g_Cell_isDefinedN C hj lk_CellTransport_97 d_CellTransport_undefine_22 ?_
    refine x_callSi C (c_CellTransport_oneIf _) mt_CellTransport_oneIf rfl rfl (Nat.le_of_ble_eq_true rfl) (Nat.le_of_ble_eq_true rfl) lk_CellTransport_69 d_CellTransport_undefine_25 ?_
    refine x_istore_n C d_CellTransport_undefine_28 (i := 3) rfl rfl ?_
    refine x_aload_n C d_CellTransport_undefine_29 (i := 2) rfl rfl ?_
    refine x_iconst C (0) d_CellTransport_undefine_30 rfl ?_
    refine u_Cell_isDefinedN C hj rfl rfl lk_CellTransport_97 d_CellTransport_undefine_31 ?_
    refine x_iload_n C d_CellTransport_undefine_34 (i := 3) rfl rfl ?_
    exact x_iret C E rfl rfl d_CellTransport_undefine_35
  · exact absurd (z_in (n := 5) (by omega) (by decide)) (z_b_0.mp h_6)
theorem c_CellTransport_sourceN {dA : Nat → ClassId} {ad : Nat → Nat} {M : z_M} {x y : Int32} (hn : ¬ p_wth x y 300) : z_CI y_CellTransport_source b_CellTransport_source 3 .int 2 dA ad [.ref (ad 0), .int x, .int y] M (-1) (M) := by
  refine z_ofI [some (.ref (ad 0)), some (.int x), some (.int y)] (by decide) (Nat.le_of_ble_eq_true rfl) rfl (fun k C E => ?_)
  have C : z_C dA ad k b_CellTransport_source "CellTransport" 2 3 := C
  refine x_iload_n C d_CellTransport_source_0 (i := 1) rfl rfl ?_
  refine x_iload_n C d_CellTransport_source_1 (i := 2) rfl rfl ?_
  refine x_sipush C (300) d_CellTransport_source_2 rfl ?_
  refine x_callSi C (c_CellTransport_areWithin _ _ _) mt_CellTransport_areWithin rfl rfl (Nat.le_of_ble_eq_true rfl) (Nat.le_of_ble_eq_true rfl) lk_CellTransport_106 d_CellTransport_source_5 ?_
  refine x_if_ne C 13 d_CellTransport_source_8 rfl (fun h_8 => ?_) (fun h_8 => ?_)
  · exact absurd (z_b_n0.mp h_8) hn
  · refine x_iconst C (-1) d_CellTransport_source_11 rfl ?_
    exact x_iret C E rfl rfl d_CellTransport_source_12
theorem c_CellTransport_sourceY {dA : Nat → ClassId} {ad : Nat → Nat} {M : z_M} {x y : Int32} (hp : p_wth x y 300) : z_CI y_CellTransport_source b_CellTransport_source 3 .int 2 dA ad [.ref (ad 0), .int x, .int y] M (0) (z_sv (z_sv M 0 6 x) 0 7 y) := by
  refine z_ofI [some (.ref (ad 0)), some (.int x), some (.int y)] (by decide) (Nat.le_of_ble_eq_true rfl) rfl (fun k C E => ?_)
  have C : z_C dA ad k b_CellTransport_source "CellTransport" 2 3 := C
  refine x_iload_n C d_CellTransport_source_0 (i := 1) rfl rfl ?_
  refine x_iload_n C d_CellTransport_source_1 (i := 2) rfl rfl ?_
  refine x_sipush C (300) d_CellTransport_source_2 rfl ?_
  refine x_callSi C (c_CellTransport_areWithin _ _ _) mt_CellTransport_areWithin rfl rfl (Nat.le_of_ble_eq_true rfl) (Nat.le_of_ble_eq_true rfl) lk_CellTransport_106 d_CellTransport_source_5 ?_
  refine x_if_ne C 13 d_CellTransport_source_8 rfl (fun h_8 => ?_) (fun h_8 => ?_)
  · refine x_aload_n C d_CellTransport_source_13 (i := 0) rfl rfl ?_
    refine x_iload_n C d_CellTransport_source_14 (i := 1) rfl rfl ?_
    refine u_CellTransport_sourceX C lk_CellTransport_109 d_CellTransport_source_15 ?_
    refine x_aload_n C d_CellTransport_source_18 (i := 0) rfl rfl ?_
    refine x_iload_n C d_CellTransport_source_19 (i := 2) rfl rfl ?_
    refine u_CellTransport_sourceY C lk_CellTransport_112 d_CellTransport_source_20 ?_
    refine x_iconst C (0) d_CellTransport_source_23 rfl ?_
    exact x_iret C E rfl rfl d_CellTransport_source_24
  · exact absurd hp (z_b_0.mp h_8)
theorem c_CellTransport_seed {dA : Nat → ClassId} {ad : Nat → Nat} {M : z_M} (v : Int32) : z_CV y_CellTransport_seed b_CellTransport_seed 2 1 dA ad [.ref (ad 0), .int v] M (z_sv M 32 0 (v &&& 2147483647)) := by
  refine z_ofV [some (.ref (ad 0)), some (.int v)] (by decide) (Nat.le_of_ble_eq_true rfl) rfl (fun k C E => ?_)
  have C : z_C dA ad k b_CellTransport_seed "CellTransport" 1 2 := C
  refine x_aload_n C d_CellTransport_seed_0 (i := 0) rfl rfl ?_
  refine g_CellTransport_generator C lk_CellTransport_26 d_CellTransport_seed_1 ?_
  refine x_iload_n C d_CellTransport_seed_4 (i := 1) rfl rfl ?_
  refine x_callVNv C (c_Generator_start _) mt_Generator_start zl_Generator (zc_Generator _) rfl rfl rfl (Nat.le_of_ble_eq_true rfl) (Nat.le_of_ble_eq_true rfl) lk_CellTransport_115 d_CellTransport_seed_5 ?_
  exact x_vret C E rfl d_CellTransport_seed_8
theorem c_CellTransport_skipN {dA : Nat → ClassId} {ad : Nat → Nat} {M : z_M} {a : Int32} (hn : ¬ p_btw a 0 100000) : z_CI y_CellTransport_skip b_CellTransport_skip 2 .int 1 dA ad [.ref (ad 0), .int a] M (-1) (M) := by
  refine z_ofI [some (.ref (ad 0)), some (.int a)] (by decide) (Nat.le_of_ble_eq_true rfl) rfl (fun k C E => ?_)
  have C : z_C dA ad k b_CellTransport_skip "CellTransport" 1 2 := C
  refine x_iload_n C d_CellTransport_skip_0 (i := 1) rfl rfl ?_
  refine x_iconst C (0) d_CellTransport_skip_1 rfl ?_
  refine x_ldc C (100000) d_CellTransport_skip_2 lk_CellTransport_118 ?_
  refine x_callSi C (c_CellTransport_isBetween _ _ _) mt_CellTransport_isBetween rfl rfl (Nat.le_of_ble_eq_true rfl) (Nat.le_of_ble_eq_true rfl) lk_CellTransport_51 d_CellTransport_skip_4 ?_
  refine x_if_ne C 12 d_CellTransport_skip_7 rfl (fun h_7 => ?_) (fun h_7 => ?_)
  · exact absurd (z_b_n0.mp h_7) hn
  · refine x_iconst C (-1) d_CellTransport_skip_10 rfl ?_
    exact x_iret C E rfl rfl d_CellTransport_skip_11
theorem c_CellTransport_skipY {dA : Nat → ClassId} {ad : Nat → Nat} {M : z_M} {a : Int32} (hp : p_btw a 0 100000) : z_CI y_CellTransport_skip b_CellTransport_skip 2 .int 1 dA ad [.ref (ad 0), .int a] M (f_lp a 17 0 (M 32 0) 1103515245 12345) (z_sv M 32 0 (f_lp a 17 0 (M 32 0) 1103515245 12345)) := by
  refine z_ofI [some (.ref (ad 0)), some (.int a)] (by decide) (Nat.le_of_ble_eq_true rfl) rfl (fun k C E => ?_)
  have C : z_C dA ad k b_CellTransport_skip "CellTransport" 1 2 := C
  refine x_iload_n C d_CellTransport_skip_0 (i := 1) rfl rfl ?_
  refine x_iconst C (0) d_CellTransport_skip_1 rfl ?_
  refine x_ldc C (100000) d_CellTransport_skip_2 lk_CellTransport_118 ?_
  refine x_callSi C (c_CellTransport_isBetween _ _ _) mt_CellTransport_isBetween rfl rfl (Nat.le_of_ble_eq_true rfl) (Nat.le_of_ble_eq_true rfl) lk_CellTransport_51 d_CellTransport_skip_4 ?_
  refine x_if_ne C 12 d_CellTransport_skip_7 rfl (fun h_7 => ?_) (fun h_7 => ?_)
  · refine x_aload_n C d_CellTransport_skip_12 (i := 0) rfl rfl ?_
    refine g_CellTransport_generator C lk_CellTransport_26 d_CellTransport_skip_13 ?_
    refine x_iload_n C d_CellTransport_skip_16 (i := 1) rfl rfl ?_
    refine x_callVNv C (c_Generator_leap _) mt_Generator_leap zl_Generator (zc_Generator _) rfl rfl rfl (Nat.le_of_ble_eq_true rfl) (Nat.le_of_ble_eq_true rfl) lk_CellTransport_119 d_CellTransport_skip_17 ?_
    refine x_aload_n C d_CellTransport_skip_20 (i := 0) rfl rfl ?_
    refine g_CellTransport_generator C lk_CellTransport_26 d_CellTransport_skip_21 ?_
    refine g_Generator_stateN C lk_CellTransport_122 d_CellTransport_skip_24 ?_
    refine x_eqi (z_sv_self _ _ _ _) ?_
    exact x_iret C E rfl rfl d_CellTransport_skip_27
  · exact absurd hp (z_b_0.mp h_7)
theorem c_CellTransport_state {dA : Nat → ClassId} {ad : Nat → Nat} {M : z_M}  : z_CI y_CellTransport_state b_CellTransport_state 1 .int 0 dA ad [.ref (ad 0)] M (M 32 0) (M) := by
  refine z_ofI [some (.ref (ad 0))] (by decide) (Nat.le_of_ble_eq_true rfl) rfl (fun k C E => ?_)
  have C : z_C dA ad k b_CellTransport_state "CellTransport" 0 1 := C
  refine x_aload_n C d_CellTransport_state_0 (i := 0) rfl rfl ?_
  refine g_CellTransport_generator C lk_CellTransport_26 d_CellTransport_state_1 ?_
  refine g_Generator_stateN C lk_CellTransport_122 d_CellTransport_state_4 ?_
  exact x_iret C E rfl rfl d_CellTransport_state_7
theorem c_CellTransport_whereN {dA : Nat → ClassId} {ad : Nat → Nat} {M : z_M} {x y : Int32} (hn : ¬ p_wth x y 1000) : z_CI y_CellTransport_where b_CellTransport_where 3 .int 3 dA ad [.ref (ad 0), .int x, .int y] M (-1) (M) := by
  refine z_ofI [some (.ref (ad 0)), some (.int x), some (.int y)] (by decide) (Nat.le_of_ble_eq_true rfl) rfl (fun k C E => ?_)
  have C : z_C dA ad k b_CellTransport_where "CellTransport" 3 3 := C
  refine x_iload_n C d_CellTransport_where_0 (i := 1) rfl rfl ?_
  refine x_iload_n C d_CellTransport_where_1 (i := 2) rfl rfl ?_
  refine x_sipush C (1000) d_CellTransport_where_2 rfl ?_
  refine x_callSi C (c_CellTransport_areWithin _ _ _) mt_CellTransport_areWithin rfl rfl (Nat.le_of_ble_eq_true rfl) (Nat.le_of_ble_eq_true rfl) lk_CellTransport_106 d_CellTransport_where_5 ?_
  refine x_if_ne C 13 d_CellTransport_where_8 rfl (fun h_8 => ?_) (fun h_8 => ?_)
  · exact absurd (z_b_n0.mp h_8) hn
  · refine x_iconst C (-1) d_CellTransport_where_11 rfl ?_
    exact x_iret C E rfl rfl d_CellTransport_where_12
theorem c_CellTransport_whereY {dA : Nat → ClassId} {ad : Nat → Nat} {M : z_M} (hR : ∀ r, r < 6 → z_okR M r) {x y : Int32} (hp : p_wth x y 1000) : z_CI y_CellTransport_where b_CellTransport_where 3 .int 3 dA ad [.ref (ad 0), .int x, .int y] M (f_ca M x y 6 0) (M) := by
  refine z_ofI [some (.ref (ad 0)), some (.int x), some (.int y)] (by decide) (Nat.le_of_ble_eq_true rfl) rfl (fun k C E => ?_)
  have C : z_C dA ad k b_CellTransport_where "CellTransport" 3 3 := C
  refine x_iload_n C d_CellTransport_where_0 (i := 1) rfl rfl ?_
  refine x_iload_n C d_CellTransport_where_1 (i := 2) rfl rfl ?_
  refine x_sipush C (1000) d_CellTransport_where_2 rfl ?_
  refine x_callSi C (c_CellTransport_areWithin _ _ _) mt_CellTransport_areWithin rfl rfl (Nat.le_of_ble_eq_true rfl) (Nat.le_of_ble_eq_true rfl) lk_CellTransport_106 d_CellTransport_where_5 ?_
  refine x_if_ne C 13 d_CellTransport_where_8 rfl (fun h_8 => ?_) (fun h_8 => ?_)
  · refine x_aload_n C d_CellTransport_where_13 (i := 0) rfl rfl ?_
    refine g_CellTransport_geometry C lk_CellTransport_10 d_CellTransport_where_14 ?_
    refine x_iload_n C d_CellTransport_where_17 (i := 1) rfl rfl ?_
    refine x_iload_n C d_CellTransport_where_18 (i := 2) rfl rfl ?_
    refine x_callVNi C (c_Geometry_cellAt hR _ _) mt_Geometry_cellAt zl_Geometry (zc_Geometry _) rfl rfl rfl (Nat.le_of_ble_eq_true rfl) (Nat.le_of_ble_eq_true rfl) lk_CellTransport_129 d_CellTransport_where_19 ?_
    exact x_iret C E rfl rfl d_CellTransport_where_22
  · exact absurd hp (z_b_0.mp h_8)
theorem c_CellTransport_reachN {dA : Nat → ClassId} {ad : Nat → Nat} {M : z_M} {x y dr : Int32} (hn : ¬ (p_wth x y 1000 ∧ p_btw dr 0 7)) : z_CI y_CellTransport_reach b_CellTransport_reach 6 .int 3 dA ad [.ref (ad 0), .int x, .int y, .int dr] M (-1) (M) := by
  refine z_ofI [some (.ref (ad 0)), some (.int x), some (.int y), some (.int dr), none, none] (by decide) (Nat.le_of_ble_eq_true rfl) rfl (fun k C E => ?_)
  have C : z_C dA ad k b_CellTransport_reach "CellTransport" 3 6 := C
  refine x_iload_n C d_CellTransport_reach_0 (i := 1) rfl rfl ?_
  refine x_iload_n C d_CellTransport_reach_1 (i := 2) rfl rfl ?_
  refine x_sipush C (1000) d_CellTransport_reach_2 rfl ?_
  refine x_callSi C (c_CellTransport_areWithin _ _ _) mt_CellTransport_areWithin rfl rfl (Nat.le_of_ble_eq_true rfl) (Nat.le_of_ble_eq_true rfl) lk_CellTransport_106 d_CellTransport_reach_5 ?_
  refine x_if_eq C 21 d_CellTransport_reach_8 rfl (fun h_8 => ?_) (fun h_8 => ?_)
  · refine x_iconst C (-1) d_CellTransport_reach_21 rfl ?_
    exact x_iret C E rfl rfl d_CellTransport_reach_22
  · refine x_iload_n C d_CellTransport_reach_11 (i := 3) rfl rfl ?_
    refine x_iconst C (0) d_CellTransport_reach_12 rfl ?_
    refine x_bipush C (7) d_CellTransport_reach_13 rfl ?_
    refine x_callSi C (c_CellTransport_isBetween _ _ _) mt_CellTransport_isBetween rfl rfl (Nat.le_of_ble_eq_true rfl) (Nat.le_of_ble_eq_true rfl) lk_CellTransport_51 d_CellTransport_reach_15 ?_
    refine x_if_ne C 23 d_CellTransport_reach_18 rfl (fun h_18 => ?_) (fun h_18 => ?_)
    · exact absurd ⟨z_b_n0.mp h_8, z_b_n0.mp h_18⟩ hn
    · refine x_iconst C (-1) d_CellTransport_reach_21 rfl ?_
      exact x_iret C E rfl rfl d_CellTransport_reach_22
def f_rc (M : z_M) (x y : Int32) (dd : Nat) (home : Int32) : Nat → Nat → Int32
  | 0, _ => 200
  | n + 1, i => if f_ca M (x + nI i * z_sX dd) (y + nI i * z_sY dd) 6 0 = home then f_rc M x y dd home n (i + 1) else nI i - 1
theorem lp_CellTransport_reach {dA : Nat → ClassId} {ad : Nat → Nat} {M : z_M} {k : z_K} (hR : ∀ r, r < 6 → z_okR M r) {x y home r0 : Int32} {dd : Nat} (hd : dd < 8) (C : z_C dA ad k b_CellTransport_reach "CellTransport" 3 6) (E : z_RI dA ad k .int r0 M) :
    ∀ (n i : Nat), i + n = 201 → f_rc M x y dd home n i = r0 → z_X dA ad k 37 [some (.ref (ad 0)), some (.int x), some (.int y), some (.int (nI dd)), some (.int home), some (.int (nI i))] [] M := by
  intro n
  induction n with
  | zero =>
    intro i hi hr
    refine x_iload C d_CellTransport_reach_37 rfl ?_
    refine x_sipush C (200) d_CellTransport_reach_39 rfl ?_
    refine x_icmp_gt C 88 d_CellTransport_reach_42 rfl (fun h_42 => ?_) (fun h_42 => ?_)
    · refine x_sipush C (200) d_CellTransport_reach_88 rfl ?_
      exact x_iret C E hr rfl d_CellTransport_reach_91
    · exact absurd (show (200 : Int32) < nI i from nI_lt (a := 200) (by omega) (by omega)) h_42
  | succ n ih =>
    intro i hi hr
    refine x_iload C d_CellTransport_reach_37 rfl ?_
    refine x_sipush C (200) d_CellTransport_reach_39 rfl ?_
    refine x_icmp_gt C 88 d_CellTransport_reach_42 rfl (fun h_42 => ?_) (fun h_42 => ?_)
    · exact absurd (show nI 200 < nI i from h_42) (nI_nlt (by omega) (by decide))
    · refine x_aload_n C d_CellTransport_reach_45 (i := 0) rfl rfl ?_
      refine g_CellTransport_geometry C lk_CellTransport_10 d_CellTransport_reach_46 ?_
      refine x_iload_n C d_CellTransport_reach_49 (i := 1) rfl rfl ?_
      refine x_iload C d_CellTransport_reach_50 rfl ?_
      refine s_STEP_X C lk_CellTransport_133 d_CellTransport_reach_52 (fun t_52 hT_52 => ?_)
      refine x_iload_n C d_CellTransport_reach_55 (i := 3) rfl rfl ?_
      refine rn_ld_tab C hT_52  hd d_CellTransport_reach_56 ?_
      refine x_imul C d_CellTransport_reach_57 ?_
      refine x_iadd C d_CellTransport_reach_58 ?_
      refine x_iload_n C d_CellTransport_reach_59 (i := 2) rfl rfl ?_
      refine x_iload C d_CellTransport_reach_60 rfl ?_
      refine s_STEP_Y C lk_CellTransport_137 d_CellTransport_reach_62 (fun t_62 hT_62 => ?_)
      refine x_iload_n C d_CellTransport_reach_65 (i := 3) rfl rfl ?_
      refine rn_ld_tab C hT_62  hd d_CellTransport_reach_66 ?_
      refine x_imul C d_CellTransport_reach_67 ?_
      refine x_iadd C d_CellTransport_reach_68 ?_
      refine x_callVNi C (c_Geometry_cellAt hR _ _) mt_Geometry_cellAt zl_Geometry (zc_Geometry _) rfl rfl rfl (Nat.le_of_ble_eq_true rfl) (Nat.le_of_ble_eq_true rfl) lk_CellTransport_129 d_CellTransport_reach_69 ?_
      refine x_iload C d_CellTransport_reach_72 rfl ?_
      refine x_icmp_eq C 82 d_CellTransport_reach_74 rfl (fun h_74 => ?_) (fun h_74 => ?_)
      · refine x_iinc C (nI (i + 1)) d_CellTransport_reach_82 rfl (z_inc i) rfl ?_
        refine x_goto C 37 d_CellTransport_reach_85 rfl ?_
        exact ih (i + 1) (by omega) (by rw [← hr]; exact (if_pos h_74).symm)
      · refine x_iload C d_CellTransport_reach_77 rfl ?_
        refine x_iconst C (1) d_CellTransport_reach_79 rfl ?_
        refine x_isub C d_CellTransport_reach_80 ?_
        exact x_iret C E (by rw [← hr]; exact (if_neg h_74).symm) rfl d_CellTransport_reach_81
theorem c_CellTransport_reachY {dA : Nat → ClassId} {ad : Nat → Nat} {M : z_M} (hR : ∀ r, r < 6 → z_okR M r) {x y : Int32} {dd : Nat} (hd : dd < 8) (hp : p_wth x y 1000) : z_CI y_CellTransport_reach b_CellTransport_reach 6 .int 3 dA ad [.ref (ad 0), .int x, .int y, .int (nI dd)] M (f_rc M x y dd (f_ca M x y 6 0) 200 1) (M) := by
  refine z_ofI [some (.ref (ad 0)), some (.int x), some (.int y), some (.int (nI dd)), none, none] (by decide) (Nat.le_of_ble_eq_true rfl) rfl (fun k C E => ?_)
  have C : z_C dA ad k b_CellTransport_reach "CellTransport" 3 6 := C
  refine x_iload_n C d_CellTransport_reach_0 (i := 1) rfl rfl ?_
  refine x_iload_n C d_CellTransport_reach_1 (i := 2) rfl rfl ?_
  refine x_sipush C (1000) d_CellTransport_reach_2 rfl ?_
  refine x_callSi C (c_CellTransport_areWithin _ _ _) mt_CellTransport_areWithin rfl rfl (Nat.le_of_ble_eq_true rfl) (Nat.le_of_ble_eq_true rfl) lk_CellTransport_106 d_CellTransport_reach_5 ?_
  refine x_if_eq C 21 d_CellTransport_reach_8 rfl (fun h_8 => ?_) (fun h_8 => ?_)
  · first | exact absurd hp (z_b_0.mp h_8) | exact absurd (z_in (n := 7) (by omega) (by decide)) (z_b_0.mp h_18)
  · refine x_iload_n C d_CellTransport_reach_11 (i := 3) rfl rfl ?_
    refine x_iconst C (0) d_CellTransport_reach_12 rfl ?_
    refine x_bipush C (7) d_CellTransport_reach_13 rfl ?_
    refine x_callSi C (c_CellTransport_isBetween _ _ _) mt_CellTransport_isBetween rfl rfl (Nat.le_of_ble_eq_true rfl) (Nat.le_of_ble_eq_true rfl) lk_CellTransport_51 d_CellTransport_reach_15 ?_
    refine x_if_ne C 23 d_CellTransport_reach_18 rfl (fun h_18 => ?_) (fun h_18 => ?_)
    · refine x_aload_n C d_CellTransport_reach_23 (i := 0) rfl rfl ?_
      refine g_CellTransport_geometry C lk_CellTransport_10 d_CellTransport_reach_24 ?_
      refine x_iload_n C d_CellTransport_reach_27 (i := 1) rfl rfl ?_
      refine x_iload_n C d_CellTransport_reach_28 (i := 2) rfl rfl ?_
      refine x_callVNi C (c_Geometry_cellAt hR _ _) mt_Geometry_cellAt zl_Geometry (zc_Geometry _) rfl rfl rfl (Nat.le_of_ble_eq_true rfl) (Nat.le_of_ble_eq_true rfl) lk_CellTransport_129 d_CellTransport_reach_29 ?_
      refine x_istore C d_CellTransport_reach_32 rfl ?_
      refine x_iconst C (1) d_CellTransport_reach_34 rfl ?_
      refine x_istore C d_CellTransport_reach_35 rfl ?_
      exact lp_CellTransport_reach hR hd C E 200 1 (by omega) rfl
    · first | exact absurd hp (z_b_0.mp h_8) | exact absurd (z_in (n := 7) (by omega) (by decide)) (z_b_0.mp h_18)
theorem c_CellTransport_tallyN {dA : Nat → ClassId} {ad : Nat → Nat} {M : z_M} {a b : Int32} (hn : ¬ (p_btw a 0 5 ∧ p_btw b 0 3)) : z_CI y_CellTransport_tally b_CellTransport_tally 3 .int 1 dA ad [.ref (ad 0), .int a, .int b] M (-1) (M) := by
  refine z_ofI [some (.ref (ad 0)), some (.int a), some (.int b)] (by decide) (Nat.le_of_ble_eq_true rfl) rfl (fun k C E => ?_)
  have C : z_C dA ad k b_CellTransport_tally "CellTransport" 1 3 := C
  refine x_iload_n C d_CellTransport_tally_0 (i := 1) rfl rfl ?_
  refine x_iconst C (0) d_CellTransport_tally_1 rfl ?_
  refine x_iconst C (5) d_CellTransport_tally_2 rfl ?_
  refine x_callSi C (c_CellTransport_isBetween _ _ _) mt_CellTransport_isBetween rfl rfl (Nat.le_of_ble_eq_true rfl) (Nat.le_of_ble_eq_true rfl) lk_CellTransport_51 d_CellTransport_tally_3 ?_
  refine x_if_eq C 18 d_CellTransport_tally_6 rfl (fun h_6 => ?_) (fun h_6 => ?_)
  · refine x_iconst C (-1) d_CellTransport_tally_18 rfl ?_
    exact x_iret C E rfl rfl d_CellTransport_tally_19
  · refine x_iload_n C d_CellTransport_tally_9 (i := 2) rfl rfl ?_
    refine x_iconst C (0) d_CellTransport_tally_10 rfl ?_
    refine x_iconst C (3) d_CellTransport_tally_11 rfl ?_
    refine x_callSi C (c_CellTransport_isBetween _ _ _) mt_CellTransport_isBetween rfl rfl (Nat.le_of_ble_eq_true rfl) (Nat.le_of_ble_eq_true rfl) lk_CellTransport_51 d_CellTransport_tally_12 ?_
    refine x_if_ne C 20 d_CellTransport_tally_15 rfl (fun h_15 => ?_) (fun h_15 => ?_)
    · exact absurd ⟨z_b_n0.mp h_6, z_b_n0.mp h_15⟩ hn
    · refine x_iconst C (-1) d_CellTransport_tally_18 rfl ?_
      exact x_iret C E rfl rfl d_CellTransport_tally_19
theorem c_CellTransport_tallyY {dA : Nat → ClassId} {ad : Nat → Nat} {M : z_M} {i q : Nat} (hi : i < 6) (hq : q < 4) : z_CI y_CellTransport_tally b_CellTransport_tally 3 .int 1 dA ad [.ref (ad 0), .int (nI i), .int (nI q)] M (M (i_talr i) q) (M) := by
  refine z_ofI [some (.ref (ad 0)), some (.int (nI i)), some (.int (nI q))] (by decide) (Nat.le_of_ble_eq_true rfl) rfl (fun k C E => ?_)
  have C : z_C dA ad k b_CellTransport_tally "CellTransport" 1 3 := C
  refine x_iload_n C d_CellTransport_tally_0 (i := 1) rfl rfl ?_
  refine x_iconst C (0) d_CellTransport_tally_1 rfl ?_
  refine x_iconst C (5) d_CellTransport_tally_2 rfl ?_
  refine x_callSi C (c_CellTransport_isBetween _ _ _) mt_CellTransport_isBetween rfl rfl (Nat.le_of_ble_eq_true rfl) (Nat.le_of_ble_eq_true rfl) lk_CellTransport_51 d_CellTransport_tally_3 ?_
  refine x_if_eq C 18 d_CellTransport_tally_6 rfl (fun h_6 => ?_) (fun h_6 => ?_)
  · first | exact absurd (z_in (n := 5) (by omega) (by decide)) (z_b_0.mp h_6) | exact absurd (z_in (n := 3) (by omega) (by decide)) (z_b_0.mp h_15)
  · refine x_iload_n C d_CellTransport_tally_9 (i := 2) rfl rfl ?_
    refine x_iconst C (0) d_CellTransport_tally_10 rfl ?_
    refine x_iconst C (3) d_CellTransport_tally_11 rfl ?_
    refine x_callSi C (c_CellTransport_isBetween _ _ _) mt_CellTransport_isBetween rfl rfl (Nat.le_of_ble_eq_true rfl) (Nat.le_of_ble_eq_true rfl) lk_CellTransport_51 d_CellTransport_tally_12 ?_
    refine x_if_ne C 20 d_CellTransport_tally_15 rfl (fun h_15 => ?_) (fun h_15 => ?_)
    · refine x_aload_n C d_CellTransport_tally_20 (i := 0) rfl rfl ?_
      refine g_CellTransport_counts C lk_CellTransport_33 d_CellTransport_tally_21 ?_
      refine g_Counts_talliesN C lk_CellTransport_140 d_CellTransport_tally_24 ?_
      refine x_iload_n C d_CellTransport_tally_27 (i := 1) rfl rfl ?_
      refine rn_al_tallies C hi d_CellTransport_tally_28 ?_
      refine x_iload_n C d_CellTransport_tally_29 (i := 2) rfl rfl ?_
      refine rn_ld_talrow C hi  hq d_CellTransport_tally_30 ?_
      exact x_iret C E rfl rfl d_CellTransport_tally_31
    · first | exact absurd (z_in (n := 5) (by omega) (by decide)) (z_b_0.mp h_6) | exact absurd (z_in (n := 3) (by omega) (by decide)) (z_b_0.mp h_15)
theorem c_CellTransport_crossedN {dA : Nat → ClassId} {ad : Nat → Nat} {M : z_M} {a b : Int32} (hn : ¬ (p_btw a 0 5 ∧ p_btw b 0 5)) : z_CI y_CellTransport_crossed b_CellTransport_crossed 3 .int 1 dA ad [.ref (ad 0), .int a, .int b] M (-1) (M) := by
  refine z_ofI [some (.ref (ad 0)), some (.int a), some (.int b)] (by decide) (Nat.le_of_ble_eq_true rfl) rfl (fun k C E => ?_)
  have C : z_C dA ad k b_CellTransport_crossed "CellTransport" 1 3 := C
  refine x_iload_n C d_CellTransport_crossed_0 (i := 1) rfl rfl ?_
  refine x_iconst C (0) d_CellTransport_crossed_1 rfl ?_
  refine x_iconst C (5) d_CellTransport_crossed_2 rfl ?_
  refine x_callSi C (c_CellTransport_isBetween _ _ _) mt_CellTransport_isBetween rfl rfl (Nat.le_of_ble_eq_true rfl) (Nat.le_of_ble_eq_true rfl) lk_CellTransport_51 d_CellTransport_crossed_3 ?_
  refine x_if_eq C 18 d_CellTransport_crossed_6 rfl (fun h_6 => ?_) (fun h_6 => ?_)
  · refine x_iconst C (-1) d_CellTransport_crossed_18 rfl ?_
    exact x_iret C E rfl rfl d_CellTransport_crossed_19
  · refine x_iload_n C d_CellTransport_crossed_9 (i := 2) rfl rfl ?_
    refine x_iconst C (0) d_CellTransport_crossed_10 rfl ?_
    refine x_iconst C (5) d_CellTransport_crossed_11 rfl ?_
    refine x_callSi C (c_CellTransport_isBetween _ _ _) mt_CellTransport_isBetween rfl rfl (Nat.le_of_ble_eq_true rfl) (Nat.le_of_ble_eq_true rfl) lk_CellTransport_51 d_CellTransport_crossed_12 ?_
    refine x_if_ne C 20 d_CellTransport_crossed_15 rfl (fun h_15 => ?_) (fun h_15 => ?_)
    · exact absurd ⟨z_b_n0.mp h_6, z_b_n0.mp h_15⟩ hn
    · refine x_iconst C (-1) d_CellTransport_crossed_18 rfl ?_
      exact x_iret C E rfl rfl d_CellTransport_crossed_19
theorem c_CellTransport_crossedY {dA : Nat → ClassId} {ad : Nat → Nat} {M : z_M} {i q : Nat} (hi : i < 6) (hq : q < 6) : z_CI y_CellTransport_crossed b_CellTransport_crossed 3 .int 1 dA ad [.ref (ad 0), .int (nI i), .int (nI q)] M (M (i_cror i) q) (M) := by
  refine z_ofI [some (.ref (ad 0)), some (.int (nI i)), some (.int (nI q))] (by decide) (Nat.le_of_ble_eq_true rfl) rfl (fun k C E => ?_)
  have C : z_C dA ad k b_CellTransport_crossed "CellTransport" 1 3 := C
  refine x_iload_n C d_CellTransport_crossed_0 (i := 1) rfl rfl ?_
  refine x_iconst C (0) d_CellTransport_crossed_1 rfl ?_
  refine x_iconst C (5) d_CellTransport_crossed_2 rfl ?_
  refine x_callSi C (c_CellTransport_isBetween _ _ _) mt_CellTransport_isBetween rfl rfl (Nat.le_of_ble_eq_true rfl) (Nat.le_of_ble_eq_true rfl) lk_CellTransport_51 d_CellTransport_crossed_3 ?_
  refine x_if_eq C 18 d_CellTransport_crossed_6 rfl (fun h_6 => ?_) (fun h_6 => ?_)
  · first | exact absurd (z_in (n := 5) (by omega) (by decide)) (z_b_0.mp h_6) | exact absurd (z_in (n := 5) (by omega) (by decide)) (z_b_0.mp h_15)
  · refine x_iload_n C d_CellTransport_crossed_9 (i := 2) rfl rfl ?_
    refine x_iconst C (0) d_CellTransport_crossed_10 rfl ?_
    refine x_iconst C (5) d_CellTransport_crossed_11 rfl ?_
    refine x_callSi C (c_CellTransport_isBetween _ _ _) mt_CellTransport_isBetween rfl rfl (Nat.le_of_ble_eq_true rfl) (Nat.le_of_ble_eq_true rfl) lk_CellTransport_51 d_CellTransport_crossed_12 ?_
    refine x_if_ne C 20 d_CellTransport_crossed_15 rfl (fun h_15 => ?_) (fun h_15 => ?_)
    · refine x_aload_n C d_CellTransport_crossed_20 (i := 0) rfl rfl ?_
      refine g_CellTransport_counts C lk_CellTransport_33 d_CellTransport_crossed_21 ?_
      refine g_Counts_crossingsN C lk_CellTransport_144 d_CellTransport_crossed_24 ?_
      refine x_iload_n C d_CellTransport_crossed_27 (i := 1) rfl rfl ?_
      refine rn_al_crossings C hi d_CellTransport_crossed_28 ?_
      refine x_iload_n C d_CellTransport_crossed_29 (i := 2) rfl rfl ?_
      refine rn_ld_crorow C hi  hq d_CellTransport_crossed_30 ?_
      exact x_iret C E rfl rfl d_CellTransport_crossed_31
    · first | exact absurd (z_in (n := 5) (by omega) (by decide)) (z_b_0.mp h_6) | exact absurd (z_in (n := 5) (by omega) (by decide)) (z_b_0.mp h_15)
theorem c_CellTransport_countT {dA : Nat → ClassId} {ad : Nat → Nat} {M : z_M} {q : Nat} (hq : q < 5) : z_CI y_CellTransport_count b_CellTransport_count 2 .int 2 dA ad [.ref (ad 0), .int (nI q)] M (M 34 q) (M) := by
  refine z_ofI [some (.ref (ad 0)), some (.int (nI q))] (by decide) (Nat.le_of_ble_eq_true rfl) rfl (fun k C E => ?_)
  have C : z_C dA ad k b_CellTransport_count "CellTransport" 2 2 := C
  refine x_iload_n C d_CellTransport_count_0 (i := 1) rfl rfl ?_
  refine x_iconst C (0) d_CellTransport_count_1 rfl ?_
  refine x_iconst C (4) d_CellTransport_count_2 rfl ?_
  refine x_callSi C (c_CellTransport_isBetween _ _ _) mt_CellTransport_isBetween rfl rfl (Nat.le_of_ble_eq_true rfl) (Nat.le_of_ble_eq_true rfl) lk_CellTransport_51 d_CellTransport_count_3 ?_
  refine x_if_eq C 19 d_CellTransport_count_6 rfl (fun h_6 => ?_) (fun h_6 => ?_)
  · exact absurd (z_in (n := 4) (by omega) (by decide)) (z_b_0.mp h_6)
  · refine x_aload_n C d_CellTransport_count_9 (i := 0) rfl rfl ?_
    refine g_CellTransport_counts C lk_CellTransport_33 d_CellTransport_count_10 ?_
    refine g_Counts_totalsN C lk_CellTransport_147 d_CellTransport_count_13 ?_
    refine x_iload_n C d_CellTransport_count_16 (i := 1) rfl rfl ?_
    refine rn_ld_totals C  hq d_CellTransport_count_17 ?_
    exact x_iret C E rfl rfl d_CellTransport_count_18
theorem c_CellTransport_count5 {dA : Nat → ClassId} {ad : Nat → Nat} {M : z_M}  : z_CI y_CellTransport_count b_CellTransport_count 2 .int 2 dA ad [.ref (ad 0), .int 5] M (M (i_reg 6) 1) (M) := by
  refine z_ofI [some (.ref (ad 0)), some (.int 5)] (by decide) (Nat.le_of_ble_eq_true rfl) rfl (fun k C E => ?_)
  have C : z_C dA ad k b_CellTransport_count "CellTransport" 2 2 := C
  refine x_iload_n C d_CellTransport_count_0 (i := 1) rfl rfl ?_
  refine x_iconst C (0) d_CellTransport_count_1 rfl ?_
  refine x_iconst C (4) d_CellTransport_count_2 rfl ?_
  refine x_callSi C (c_CellTransport_isBetween _ _ _) mt_CellTransport_isBetween rfl rfl (Nat.le_of_ble_eq_true rfl) (Nat.le_of_ble_eq_true rfl) lk_CellTransport_51 d_CellTransport_count_3 ?_
  refine x_if_eq C 19 d_CellTransport_count_6 rfl (fun h_6 => ?_) (fun h_6 => ?_)
  · refine x_iload_n C d_CellTransport_count_19 (i := 1) rfl rfl ?_
    refine x_lookup C 48 d_CellTransport_count_20 rfl rfl rfl ?_
    refine x_aload_n C d_CellTransport_count_48 (i := 0) rfl rfl ?_
    refine g_CellTransport_buffer C lk_CellTransport_19 d_CellTransport_count_49 ?_
    refine g_Region_sizeN C z_6 lk_CellTransport_77 d_CellTransport_count_52 ?_
    exact x_iret C E rfl rfl d_CellTransport_count_55
  · exact absurd (z_b_n0.mp h_6) (by decide)
theorem c_CellTransport_count6 {dA : Nat → ClassId} {ad : Nat → Nat} {M : z_M}  : z_CI y_CellTransport_count b_CellTransport_count 2 .int 2 dA ad [.ref (ad 0), .int 6] M (f_dc M 6 0 0) (M) := by
  refine z_ofI [some (.ref (ad 0)), some (.int 6)] (by decide) (Nat.le_of_ble_eq_true rfl) rfl (fun k C E => ?_)
  have C : z_C dA ad k b_CellTransport_count "CellTransport" 2 2 := C
  refine x_iload_n C d_CellTransport_count_0 (i := 1) rfl rfl ?_
  refine x_iconst C (0) d_CellTransport_count_1 rfl ?_
  refine x_iconst C (4) d_CellTransport_count_2 rfl ?_
  refine x_callSi C (c_CellTransport_isBetween _ _ _) mt_CellTransport_isBetween rfl rfl (Nat.le_of_ble_eq_true rfl) (Nat.le_of_ble_eq_true rfl) lk_CellTransport_51 d_CellTransport_count_3 ?_
  refine x_if_eq C 19 d_CellTransport_count_6 rfl (fun h_6 => ?_) (fun h_6 => ?_)
  · refine x_iload_n C d_CellTransport_count_19 (i := 1) rfl rfl ?_
    refine x_lookup C 56 d_CellTransport_count_20 rfl rfl rfl ?_
    refine x_aload_n C d_CellTransport_count_56 (i := 0) rfl rfl ?_
    refine g_CellTransport_geometry C lk_CellTransport_10 d_CellTransport_count_57 ?_
    refine x_callVNi C (c_Geometry_definedCells ) mt_Geometry_definedCells zl_Geometry (zc_Geometry _) rfl rfl rfl (Nat.le_of_ble_eq_true rfl) (Nat.le_of_ble_eq_true rfl) lk_CellTransport_150 d_CellTransport_count_60 ?_
    exact x_iret C E rfl rfl d_CellTransport_count_63
  · exact absurd (z_b_n0.mp h_6) (by decide)
theorem z_lk56 {x : Int32} (h0 : ¬ x = 5) (h1 : ¬ x = 6) : Op.lookupswitch.offset ([(5, 28), (6, 36)] : List (Int × Int)) 44 x.toInt = 44 := by
  have e0 : ¬ x.toInt = 5 := z_toInt_ne h0
  have e1 : ¬ x.toInt = 6 := z_toInt_ne h1
  have f0 : ¬ (5 : Int) = x.toInt := fun q => e0 q.symm
  have f1 : ¬ (6 : Int) = x.toInt := fun q => e1 q.symm
  simp [Op.lookupswitch.offset, e0, e1, f0, f1]
theorem c_CellTransport_countN {dA : Nat → ClassId} {ad : Nat → Nat} {M : z_M} {a : Int32} (hn : ¬ p_btw a 0 4) (h5 : ¬ a = 5) (h6 : ¬ a = 6) : z_CI y_CellTransport_count b_CellTransport_count 2 .int 2 dA ad [.ref (ad 0), .int a] M (-1) (M) := by
  refine z_ofI [some (.ref (ad 0)), some (.int a)] (by decide) (Nat.le_of_ble_eq_true rfl) rfl (fun k C E => ?_)
  have C : z_C dA ad k b_CellTransport_count "CellTransport" 2 2 := C
  refine x_iload_n C d_CellTransport_count_0 (i := 1) rfl rfl ?_
  refine x_iconst C (0) d_CellTransport_count_1 rfl ?_
  refine x_iconst C (4) d_CellTransport_count_2 rfl ?_
  refine x_callSi C (c_CellTransport_isBetween _ _ _) mt_CellTransport_isBetween rfl rfl (Nat.le_of_ble_eq_true rfl) (Nat.le_of_ble_eq_true rfl) lk_CellTransport_51 d_CellTransport_count_3 ?_
  refine x_if_eq C 19 d_CellTransport_count_6 rfl (fun h_6 => ?_) (fun h_6 => ?_)
  · refine x_iload_n C d_CellTransport_count_19 (i := 1) rfl rfl ?_
    refine x_lookup C 64 d_CellTransport_count_20 rfl (z_lk56 h5 h6) rfl ?_
    refine x_iconst C (-1) d_CellTransport_count_64 rfl ?_
    exact x_iret C E rfl rfl d_CellTransport_count_65
  · exact absurd (z_b_n0.mp h_6) hn
theorem c_CellTransport_clear {dA : Nat → ClassId} {ad : Nat → Nat} {M : z_M}  : z_CV y_CellTransport_clear b_CellTransport_clear 1 2 dA ad [.ref (ad 0)] M (f_rst 6 0 (f_fl M 34 5 0)) := by
  refine z_ofV [some (.ref (ad 0))] (by decide) (Nat.le_of_ble_eq_true rfl) rfl (fun k C E => ?_)
  have C : z_C dA ad k b_CellTransport_clear "CellTransport" 2 1 := C
  refine x_aload_n C d_CellTransport_clear_0 (i := 0) rfl rfl ?_
  refine g_CellTransport_counts C lk_CellTransport_33 d_CellTransport_clear_1 ?_
  refine x_callVNv C (c_Counts_reset ) mt_Counts_reset zl_Counts (zc_Counts _) rfl rfl rfl (Nat.le_of_ble_eq_true rfl) (Nat.le_of_ble_eq_true rfl) lk_CellTransport_153 d_CellTransport_clear_4 ?_
  exact x_vret C E rfl d_CellTransport_clear_7
end
section
/-! ===== the flight ===== -/
abbrev z_rm (x k : Int32) : Int32 := x - x / k * k
def z_kp (M M2 : z_M) : Prop := ∀ a, (a < 32 ∨ 53 ≤ a) → M2 a = M a
theorem z_kp.rf {M : z_M} : z_kp M M := fun _ _ => rfl
theorem z_kp.tr {M M2 M3 : z_M} (h : z_kp M M2) (g : z_kp M2 M3) : z_kp M M3 := fun a ha => (g a ha).trans (h a ha)
theorem z_kp.sv {M0 M : z_M} (h : z_kp M0 M) {k : Nat} (h1 : 32 ≤ k) (h2 : k < 53) (j : Nat) (v : Int32) : z_kp M0 (z_sv M k j v) := fun a ha => (z_sv_row M j v (by omega)).trans (h a ha)
theorem z_okR_kp {M M2 : z_M} (h : z_kp M M2) (hR : ∀ r, r < 6 → z_okR M r) : ∀ r, r < 6 → z_okR M2 r := by
  intro r hr
  obtain ⟨sz, h1, h2, h3⟩ := hR r hr
  have e1 : M2 (i_reg r) = M (i_reg r) := h _ (Or.inl (by unfold i_reg; omega))
  have e2 : M2 (i_tok r) = M (i_tok r) := h _ (Or.inl (by unfold i_tok; omega))
  exact ⟨sz, h1, by rw [e1]; exact h2, fun t ht => by rw [e2]; exact h3 t ht⟩
def z_LI (M : z_M) (w jn : Nat) : Prop := w ≤ jn ∧ jn ≤ 12 ∧ M 49 2 = nI w ∧ M 49 3 = nI jn
theorem z_LI.row {M M2 : z_M} {w jn : Nat} (h : z_LI M w jn) (e : M2 49 = M 49) : z_LI M2 w jn := ⟨h.1, h.2.1, by rw [e]; exact h.2.2.1, by rw [e]; exact h.2.2.2⟩
def f_dr (M : z_M) : z_M := z_sv M 32 0 (f_nx (M 32 0))
theorem f_dr_kp {M0 M : z_M} (h : z_kp M0 M) : z_kp M0 (f_dr M) := h.sv (by decide) (by decide) _ _
def f_aim (M : z_M) : z_M := z_sv (f_dr (z_sv (f_dr M) 52 3 (z_rm (f_nx (M 32 0) / 256) 8))) 52 4 (1 + z_rm (f_nx ((z_sv (f_dr M) 52 3 (z_rm (f_nx (M 32 0) / 256) 8)) 32 0) / 256) 2000)
theorem f_aim_kp {M0 M : z_M} (h : z_kp M0 M) : z_kp M0 (f_aim M) := (f_dr_kp ((f_dr_kp h).sv (by decide) (by decide) _ _)).sv (by decide) (by decide) _ _
theorem f_aim_row (M : z_M) {a : Nat} (h1 : a ≠ 32) (h2 : a ≠ 52) : f_aim M a = M a := by
  unfold f_aim f_dr
  rw [z_sv_row _ _ _ h2, z_sv_row _ _ _ h1, z_sv_row _ _ _ h2, z_sv_row _ _ _ h1]
/-- the generator's next state is a number below 2^31 -/
theorem f_nx_n (s : Int32) : ∃ n : Nat, n < 2 ^ 31 ∧ f_nx s = nI n := by
  obtain ⟨j, hj, e⟩ := pk_andE (s * 1103515245 + 12345) (m := 2147483647) 31 (by decide)
  exact ⟨j, hj, e⟩
theorem f_nx_rm (s : Int32) {k : Nat} (h0 : 0 < k) (hk : k < 2 ^ 31) : ∃ n : Nat, n < k ∧ z_rm (f_nx s / 256) (nI k) = nI n := by
  obtain ⟨n, hn, e⟩ := f_nx_n s
  have e2 : f_nx s / 256 = nI (n / 256) := by rw [e]; exact pk_div hn (by decide) (by decide)
  have hb : n / 256 < 2 ^ 31 := Nat.lt_of_le_of_lt (Nat.div_le_self _ _) hn
  refine ⟨n / 256 % k, Nat.mod_lt _ h0, ?_⟩
  show f_nx s / 256 - f_nx s / 256 / nI k * nI k = _
  rw [e2]
  exact pk_rem hb h0 hk
theorem f_aim_dir (M : z_M) : ∃ dd : Nat, dd < 8 ∧ f_aim M 52 3 = nI dd := by
  obtain ⟨n, hn, e⟩ := f_nx_rm (M 32 0) (k := 8) (by decide) (by decide)
  refine ⟨n, hn, ?_⟩
  unfold f_aim f_dr
  rw [z_sv_get _ _ _ _ _ _ (Or.inr (by decide)), z_sv_get _ _ _ _ _ _ (Or.inl (by decide)), z_sv_self]
  exact e
def f_j1 (M : z_M) : z_M := if M 49 3 = nI 12 then z_sv M 34 3 (M 34 3 + 1) else f_jn M (M 49 2).toNatClampNeg (M 49 3).toNatClampNeg (M 52 0) (M 52 1)
theorem f_jn_kp {M0 M : z_M} (h : z_kp M0 M) (w jn : Nat) (x y : Int32) : z_kp M0 (f_jn M w jn x y) := (((h.sv (k := 50) (by decide) (by decide) _ _).sv (k := 51) (by decide) (by decide) _ _).sv (k := 49) (by decide) (by decide) _ _).sv (k := 49) (by decide) (by decide) _ _
theorem f_j1_kp {M0 M : z_M} (h : z_kp M0 M) : z_kp M0 (f_j1 M) := by
  unfold f_j1
  split
  · exact h.sv (by decide) (by decide) _ _
  · exact f_jn_kp h _ _ _ _
theorem f_j1_full {M : z_M} (h : M 49 3 = nI 12) : f_j1 M = z_sv M 34 3 (M 34 3 + 1) := if_pos h
theorem f_j1_open {M : z_M} {w jn : Nat} (h : z_LI M w jn) (hj : jn < 12) : f_j1 M = f_jn M w jn (M 52 0) (M 52 1) := by
  unfold f_j1
  rw [if_neg (fun q => by rw [h.2.2.2] at q; have := (nI_eq (by omega) (by decide)).mp q; omega), h.2.2.1, h.2.2.2, nI_clamp (by have := h.1; omega), nI_clamp (by omega)]
theorem f_jn_LI {M : z_M} {w jn : Nat} (hw : w ≤ jn) (hj : jn < 12) (x y : Int32) : z_LI (f_jn M w jn x y) (w + 1) (jn + 1) := by
  refine ⟨by omega, by omega, ?_, ?_⟩
  · unfold f_jn
    rw [z_sv_get _ _ _ _ _ _ (Or.inr (by decide)), z_sv_self]
  · unfold f_jn
    rw [z_sv_self]
theorem f_j1_LI {M : z_M} {w jn : Nat} (h : z_LI M w jn) : ∃ w2 jn2, z_LI (f_j1 M) w2 jn2 := by
  by_cases hj : jn < 12
  · rw [f_j1_open h hj]
    exact ⟨_, _, f_jn_LI h.1 hj _ _⟩
  · have e : jn = 12 := by have := h.2.1; omega
    rw [f_j1_full (by rw [h.2.2.2, e])]
    exact ⟨w, jn, h.row (z_sv_row _ _ _ (by decide))⟩
theorem f_j1_52 (M : z_M) : f_j1 M 52 = M 52 := by
  unfold f_j1
  split
  · exact z_sv_row _ _ _ (by decide)
  · unfold f_jn
    rw [z_sv_row _ _ _ (by decide), z_sv_row _ _ _ (by decide), z_sv_row _ _ _ (by decide), z_sv_row _ _ _ (by decide)]
def f_spn : Nat → z_M → z_M
  | 0, M => M
  | n + 1, M => f_spn n (f_j1 M)
def f_spl (M : z_M) : z_M := f_spn 2 M
theorem f_spl_kp {M0 M : z_M} (h : z_kp M0 M) : z_kp M0 (f_spl M) := f_j1_kp (f_j1_kp h)
theorem f_spl_LI {M : z_M} {w jn : Nat} (h : z_LI M w jn) : ∃ w2 jn2, z_LI (f_spl M) w2 jn2 := by
  obtain ⟨w2, j2, h2⟩ := f_j1_LI h
  exact f_j1_LI h2
theorem f_spl_52 (M : z_M) : f_spl M 52 = M 52 := (f_j1_52 _).trans (f_j1_52 _)
theorem c_CellTransport_aim {dA : Nat → ClassId} {ad : Nat → Nat} {M : z_M}  : z_CV y_CellTransport_aim b_CellTransport_aim 1 1 dA ad [.ref (ad 0)] M (f_aim M) := by
  refine z_ofV [some (.ref (ad 0))] (by decide) (Nat.le_of_ble_eq_true rfl) rfl (fun k C E => ?_)
  have C : z_C dA ad k b_CellTransport_aim "CellTransport" 1 1 := C
  refine x_aload_n C d_CellTransport_aim_0 (i := 0) rfl rfl ?_
  refine g_CellTransport_particle C lk_CellTransport_47 d_CellTransport_aim_1 ?_
  refine x_aload_n C d_CellTransport_aim_4 (i := 0) rfl rfl ?_
  refine g_CellTransport_generator C lk_CellTransport_26 d_CellTransport_aim_5 ?_
  refine x_callVNi C (c_Generator_draw ) mt_Generator_draw zl_Generator (zc_Generator _) rfl rfl rfl (Nat.le_of_ble_eq_true rfl) (Nat.le_of_ble_eq_true rfl) lk_CellTransport_187 d_CellTransport_aim_8 ?_
  refine x_bipush C (8) d_CellTransport_aim_11 rfl ?_
  refine x_irem C d_CellTransport_aim_13 (by decide) ?_
  refine u_Particle_directionN C lk_CellTransport_190 d_CellTransport_aim_14 ?_
  refine x_aload_n C d_CellTransport_aim_17 (i := 0) rfl rfl ?_
  refine g_CellTransport_particle C lk_CellTransport_47 d_CellTransport_aim_18 ?_
  refine x_iconst C (1) d_CellTransport_aim_21 rfl ?_
  refine x_aload_n C d_CellTransport_aim_22 (i := 0) rfl rfl ?_
  refine g_CellTransport_generator C lk_CellTransport_26 d_CellTransport_aim_23 ?_
  refine x_callVNi C (c_Generator_draw ) mt_Generator_draw zl_Generator (zc_Generator _) rfl rfl rfl (Nat.le_of_ble_eq_true rfl) (Nat.le_of_ble_eq_true rfl) lk_CellTransport_187 d_CellTransport_aim_26 ?_
  refine x_sipush C (2000) d_CellTransport_aim_29 rfl ?_
  refine x_irem C d_CellTransport_aim_32 (by decide) ?_
  refine x_iadd C d_CellTransport_aim_33 ?_
  refine u_Particle_budgetN C lk_CellTransport_193 d_CellTransport_aim_34 ?_
  exact x_vret C E rfl d_CellTransport_aim_37
theorem lp_CellTransport_split {dA : Nat → ClassId} {ad : Nat → Nat} {M1 : z_M} {k : z_K} (C : z_C dA ad k b_CellTransport_split "CellTransport" 1 2) (E : z_RV dA ad k M1) :
    ∀ (n i : Nat) (M : z_M), i + n = 2 → (∃ w jn, z_LI M w jn) → f_spn n M = M1 → z_X dA ad k 2 [some (.ref (ad 0)), some (.int (nI i))] [] M := by
  intro n
  induction n with
  | zero =>
    intro i M hi hL hr
    refine x_iload_n C d_CellTransport_split_2 (i := 1) rfl rfl ?_
    refine x_iconst C (2) d_CellTransport_split_3 rfl ?_
    refine x_icmp_ge C 50 d_CellTransport_split_4 rfl (fun h_4 => ?_) (fun h_4 => ?_)
    · exact x_vret C E hr d_CellTransport_split_50
    · exact absurd (show (2 : Int32) ≤ nI i from nI_le (a := 2) (by omega) (by omega)) h_4
  | succ n ih =>
    intro i M hi hL hr
    obtain ⟨w, jn, hLI⟩ := hL
    have hL2 : ∃ w jn, z_LI (f_j1 M) w jn := f_j1_LI hLI
    by_cases hj : jn < 12
    · have hw : w < 12 := Nat.lt_of_le_of_lt hLI.1 hj
      have ej : f_jn M w jn (M 52 0) (M 52 1) = f_j1 M := (f_j1_open hLI hj).symm
      refine x_iload_n C d_CellTransport_split_2 (i := 1) rfl rfl ?_
      refine x_iconst C (2) d_CellTransport_split_3 rfl ?_
      refine x_icmp_ge C 50 d_CellTransport_split_4 rfl (fun h_4 => absurd (show nI 2 ≤ nI i from h_4) (nI_ge (by omega) (by decide))) (fun h_4 => ?_)
      refine x_aload_n C d_CellTransport_split_7 (i := 0) rfl rfl ?_
      refine g_CellTransport_line C lk_CellTransport_40 d_CellTransport_split_8 ?_
      refine x_aload_n C d_CellTransport_split_11 (i := 0) rfl rfl ?_
      refine g_CellTransport_particle C lk_CellTransport_47 d_CellTransport_split_12 ?_
      refine g_Particle_xN C lk_CellTransport_172 d_CellTransport_split_15 ?_
      refine x_aload_n C d_CellTransport_split_18 (i := 0) rfl rfl ?_
      refine g_CellTransport_particle C lk_CellTransport_47 d_CellTransport_split_19 ?_
      refine g_Particle_yN C lk_CellTransport_175 d_CellTransport_split_22 ?_
      refine x_callVNi C (c_Line_join hw hj hLI.2.2.1 hLI.2.2.2 _ _) mt_Line_join zl_Line (zc_Line _) rfl rfl rfl (Nat.le_of_ble_eq_true rfl) (Nat.le_of_ble_eq_true rfl) lk_CellTransport_159 d_CellTransport_split_25 ?_
      refine x_eqM ej ?_
      refine x_if_ne C 44 d_CellTransport_split_28 rfl (fun h_28 => ?_) (fun h_28 => absurd h_28 (by decide))
      refine x_iinc C (nI (i + 1)) d_CellTransport_split_44 rfl (z_inc i) rfl ?_
      refine x_goto C 2 d_CellTransport_split_47 rfl ?_
      exact ih (i + 1) _ (by omega) hL2 hr
    · have ef : M 49 3 = nI 12 := by rw [hLI.2.2.2, show jn = 12 by have := hLI.2.1; omega]
      refine x_iload_n C d_CellTransport_split_2 (i := 1) rfl rfl ?_
      refine x_iconst C (2) d_CellTransport_split_3 rfl ?_
      refine x_icmp_ge C 50 d_CellTransport_split_4 rfl (fun h_4 => absurd (show nI 2 ≤ nI i from h_4) (nI_ge (by omega) (by decide))) (fun h_4 => ?_)
      refine x_aload_n C d_CellTransport_split_7 (i := 0) rfl rfl ?_
      refine g_CellTransport_line C lk_CellTransport_40 d_CellTransport_split_8 ?_
      refine x_aload_n C d_CellTransport_split_11 (i := 0) rfl rfl ?_
      refine g_CellTransport_particle C lk_CellTransport_47 d_CellTransport_split_12 ?_
      refine g_Particle_xN C lk_CellTransport_172 d_CellTransport_split_15 ?_
      refine x_aload_n C d_CellTransport_split_18 (i := 0) rfl rfl ?_
      refine g_CellTransport_particle C lk_CellTransport_47 d_CellTransport_split_19 ?_
      refine g_Particle_yN C lk_CellTransport_175 d_CellTransport_split_22 ?_
      refine x_callVNi C (c_Line_joinF ef _ _) mt_Line_join zl_Line (zc_Line _) rfl rfl rfl (Nat.le_of_ble_eq_true rfl) (Nat.le_of_ble_eq_true rfl) lk_CellTransport_159 d_CellTransport_split_25 ?_
      refine x_if_ne C 44 d_CellTransport_split_28 rfl (fun h_28 => absurd rfl h_28) (fun h_28 => ?_)
      refine x_aload_n C d_CellTransport_split_31 (i := 0) rfl rfl ?_
      refine g_CellTransport_counts C lk_CellTransport_33 d_CellTransport_split_32 ?_
      refine g_Counts_totalsN C lk_CellTransport_147 d_CellTransport_split_35 ?_
      refine x_iconst C (nI 3) d_CellTransport_split_38 rfl ?_
      refine x_dup2 C d_CellTransport_split_39 rfl rfl ?_
      refine rn_ld_totals C  (show 3 < 5 by decide) d_CellTransport_split_40 ?_
      refine x_iconst C (1) d_CellTransport_split_41 rfl ?_
      refine x_iadd C d_CellTransport_split_42 ?_
      refine rn_st_totals C  (show 3 < 5 by decide) d_CellTransport_split_43 ?_
      refine x_eqM (f_j1_full ef).symm ?_
      refine x_iinc C (nI (i + 1)) d_CellTransport_split_44 rfl (z_inc i) rfl ?_
      refine x_goto C 2 d_CellTransport_split_47 rfl ?_
      exact ih (i + 1) _ (by omega) hL2 hr
theorem c_CellTransport_split {dA : Nat → ClassId} {ad : Nat → Nat} {M : z_M} (hL : ∃ w jn, z_LI M w jn) : z_CV y_CellTransport_split b_CellTransport_split 2 1 dA ad [.ref (ad 0)] M (f_spl M) := by
  refine z_ofV [some (.ref (ad 0)), none] (by decide) (Nat.le_of_ble_eq_true rfl) rfl (fun k C E => ?_)
  have C : z_C dA ad k b_CellTransport_split "CellTransport" 1 2 := C
  refine x_iconst C (0) d_CellTransport_split_0 rfl ?_
  refine x_istore_n C d_CellTransport_split_1 (i := 1) rfl rfl ?_
  exact lp_CellTransport_split C E 2 0 M (by omega) hL rfl
def f_ca1 (M : z_M) (c : Nat) : z_M := z_sv M (i_talr c) 1 (M (i_talr c) 1 + 1)
def f_cb (M : z_M) (c : Nat) : z_M := f_dr (f_ca1 M c)
def f_cr (M : z_M) (c : Nat) : Int32 := z_rm (f_nx (f_ca1 M c 32 0) / 256) 1000
def f_col (M : z_M) (c : Nat) : Int32 × z_M := if f_cb M c (i_cell c) 3 ≤ f_cr M c then (if f_cb M c (i_cell c) 3 + f_cb M c (i_cell c) 4 ≤ f_cr M c then (1, f_aim (f_cb M c)) else (0, f_spl (z_sv (f_cb M c) (i_talr c) 3 (f_cb M c (i_talr c) 3 + 1)))) else (0, z_sv (f_cb M c) (i_talr c) 2 (f_cb M c (i_talr c) 2 + 1))
theorem f_cb_kp {M0 M : z_M} (h : z_kp M0 M) {c : Nat} (hc : c < 6) : z_kp M0 (f_cb M c) := f_dr_kp (h.sv (by unfold i_talr; omega) (by unfold i_talr; omega) _ _)
theorem f_cb_row (M : z_M) {c a : Nat} (h1 : a ≠ 32) (h2 : a ≠ i_talr c) : f_cb M c a = M a := by
  unfold f_cb f_dr f_ca1
  rw [z_sv_row _ _ _ h1, z_sv_row _ _ _ h2]
theorem f_col_cases (M : z_M) (c : Nat) : f_col M c = (1, f_aim (f_cb M c)) ∨ f_col M c = (0, f_spl (z_sv (f_cb M c) (i_talr c) 3 (f_cb M c (i_talr c) 3 + 1))) ∨ f_col M c = (0, z_sv (f_cb M c) (i_talr c) 2 (f_cb M c (i_talr c) 2 + 1)) := by
  by_cases h1 : f_cb M c (i_cell c) 3 ≤ f_cr M c
  · by_cases h2 : f_cb M c (i_cell c) 3 + f_cb M c (i_cell c) 4 ≤ f_cr M c
    · exact Or.inl (by rw [f_col, if_pos h1, if_pos h2])
    · exact Or.inr (Or.inl (by rw [f_col, if_pos h1, if_neg h2]))
  · exact Or.inr (Or.inr (by rw [f_col, if_neg h1]))
theorem f_col_kp {M0 M : z_M} (h : z_kp M0 M) {c : Nat} (hc : c < 6) : z_kp M0 (f_col M c).2 := by
  have hb := f_cb_kp h hc
  have t : 32 ≤ i_talr c ∧ i_talr c < 53 := by unfold i_talr; omega
  rcases f_col_cases M c with e | e | e
  · rw [e]; exact f_aim_kp hb
  · rw [e]; exact f_spl_kp (hb.sv t.1 t.2 _ _)
  · rw [e]; exact hb.sv t.1 t.2 _ _
theorem z_LIx {M2 M3 : z_M} (e : M3 = M2) (h : ∃ w jn, z_LI M2 w jn) : ∃ w jn, z_LI M3 w jn := by rw [e]; exact h
theorem f_col_LI {M : z_M} {w jn c : Nat} (h : z_LI M w jn) (hc : c < 6) : ∃ w2 jn2, z_LI (f_col M c).2 w2 jn2 := by
  have t : 49 ≠ i_talr c := by unfold i_talr; omega
  have hb : z_LI (f_cb M c) w jn := h.row (f_cb_row M (by decide) t)
  rcases f_col_cases M c with e | e | e
  · have h1 : z_LI (f_aim (f_cb M c)) w jn := hb.row (f_aim_row (f_cb M c) (by decide) (by decide))
    exact z_LIx (congrArg Prod.snd e) ⟨w, jn, h1⟩
  · have h1 : z_LI (z_sv (f_cb M c) (i_talr c) 3 (f_cb M c (i_talr c) 3 + 1)) w jn := hb.row (z_sv_row (f_cb M c) _ _ t)
    exact z_LIx (congrArg Prod.snd e) (f_spl_LI h1)
  · have h1 : z_LI (z_sv (f_cb M c) (i_talr c) 2 (f_cb M c (i_talr c) 2 + 1)) w jn := hb.row (z_sv_row (f_cb M c) _ _ t)
    exact z_LIx (congrArg Prod.snd e) ⟨w, jn, h1⟩
theorem f_col_01 (M : z_M) (c : Nat) : (f_col M c).1 = 0 ∨ (f_col M c).1 = 1 := by
  rcases f_col_cases M c with e | e | e
  · rw [e]; exact Or.inr rfl
  · rw [e]; exact Or.inl rfl
  · rw [e]; exact Or.inl rfl
theorem f_aim_2 (M : z_M) : f_aim M 52 2 = M 52 2 := by
  unfold f_aim f_dr
  rw [z_sv_get _ _ _ _ _ _ (Or.inr (by decide)), z_sv_get _ _ _ _ _ _ (Or.inl (by decide)), z_sv_get _ _ _ _ _ _ (Or.inr (by decide)), z_sv_get _ _ _ _ _ _ (Or.inl (by decide))]
theorem f_col_on {M : z_M} {c : Nat} (hc : c < 6) (h : ¬ (f_col M c).1 = 0) : (∃ dd : Nat, dd < 8 ∧ (f_col M c).2 52 3 = nI dd) ∧ (f_col M c).2 52 2 = M 52 2 := by
  have t : 52 ≠ i_talr c := by unfold i_talr; omega
  rcases f_col_cases M c with e | e | e
  · rw [e]
    refine ⟨f_aim_dir _, ?_⟩
    show f_aim (f_cb M c) 52 2 = M 52 2
    rw [f_aim_2, f_cb_row M (by decide) t]
  · exact absurd (by rw [e]) h
  · exact absurd (by rw [e]) h
theorem c_CellTransport_survivesCollision {dA : Nat → ClassId} {ad : Nat → Nat} {M : z_M} {c : Nat} (hc : c < 6) (ec : M 52 2 = nI c) (hL : ∃ w jn, z_LI M w jn) : z_CI y_CellTransport_survivesCollision b_CellTransport_survivesCollision 4 .boolean 2 dA ad [.ref (ad 0), .ref (ad (i_cell c))] M ((f_col M c).1) ((f_col M c).2) := by
  refine z_ofI [some (.ref (ad 0)), some (.ref (ad (i_cell c))), none, none] (by decide) (Nat.le_of_ble_eq_true rfl) rfl (fun k C E => ?_)
  have C : z_C dA ad k b_CellTransport_survivesCollision "CellTransport" 2 4 := C
  refine x_aload_n C d_CellTransport_survivesCollision_0 (i := 0) rfl rfl ?_
  refine g_CellTransport_counts C lk_CellTransport_33 d_CellTransport_survivesCollision_1 ?_
  refine g_Counts_talliesN C lk_CellTransport_140 d_CellTransport_survivesCollision_4 ?_
  refine x_aload_n C d_CellTransport_survivesCollision_7 (i := 0) rfl rfl ?_
  refine g_CellTransport_particle C lk_CellTransport_47 d_CellTransport_survivesCollision_8 ?_
  refine g_Particle_cellN C lk_CellTransport_178 d_CellTransport_survivesCollision_11 ?_
  refine x_eqi ec ?_
  refine rn_al_tallies C hc d_CellTransport_survivesCollision_14 ?_
  refine x_astore_n C d_CellTransport_survivesCollision_15 (i := 2) rfl rfl ?_
  refine x_aload_n C d_CellTransport_survivesCollision_16 (i := 2) rfl rfl ?_
  refine x_iconst C (nI 1) d_CellTransport_survivesCollision_17 rfl ?_
  refine x_dup2 C d_CellTransport_survivesCollision_18 rfl rfl ?_
  refine rn_ld_talrow C hc  (show 1 < 4 by decide) d_CellTransport_survivesCollision_19 ?_
  refine x_iconst C (1) d_CellTransport_survivesCollision_20 rfl ?_
  refine x_iadd C d_CellTransport_survivesCollision_21 ?_
  refine rn_st_talrow C hc  (show 1 < 4 by decide) d_CellTransport_survivesCollision_22 ?_
  refine x_aload_n C d_CellTransport_survivesCollision_23 (i := 0) rfl rfl ?_
  refine g_CellTransport_generator C lk_CellTransport_26 d_CellTransport_survivesCollision_24 ?_
  refine x_callVNi C (c_Generator_draw ) mt_Generator_draw zl_Generator (zc_Generator _) rfl rfl rfl (Nat.le_of_ble_eq_true rfl) (Nat.le_of_ble_eq_true rfl) lk_CellTransport_187 d_CellTransport_survivesCollision_27 ?_
  refine x_sipush C (1000) d_CellTransport_survivesCollision_30 rfl ?_
  refine x_irem C d_CellTransport_survivesCollision_33 (by decide) ?_
  refine x_istore_n C d_CellTransport_survivesCollision_34 (i := 3) rfl rfl ?_
  refine x_iload_n C d_CellTransport_survivesCollision_35 (i := 3) rfl rfl ?_
  refine x_aload_n C d_CellTransport_survivesCollision_36 (i := 1) rfl rfl ?_
  refine g_Cell_absorptionN C hc lk_CellTransport_210 d_CellTransport_survivesCollision_37 ?_
  refine x_icmp_ge C 52 d_CellTransport_survivesCollision_40 rfl (fun h_40 => ?_) (fun h_40 => ?_)
  · refine x_iload_n C d_CellTransport_survivesCollision_52 (i := 3) rfl rfl ?_
    refine x_aload_n C d_CellTransport_survivesCollision_53 (i := 1) rfl rfl ?_
    refine g_Cell_absorptionN C hc lk_CellTransport_210 d_CellTransport_survivesCollision_54 ?_
    refine x_aload_n C d_CellTransport_survivesCollision_57 (i := 1) rfl rfl ?_
    refine g_Cell_fissionN C hc lk_CellTransport_213 d_CellTransport_survivesCollision_58 ?_
    refine x_iadd C d_CellTransport_survivesCollision_61 ?_
    refine x_icmp_ge C 78 d_CellTransport_survivesCollision_62 rfl (fun h_62 => ?_) (fun h_62 => ?_)
    · refine x_aload_n C d_CellTransport_survivesCollision_78 (i := 0) rfl rfl ?_
      refine x_callVv C (c_CellTransport_aim ) mt_CellTransport_aim zl_CellTransport (zc_CellTransport _) rfl rfl rfl (Nat.le_of_ble_eq_true rfl) (Nat.le_of_ble_eq_true rfl) lk_CellTransport_181 d_CellTransport_survivesCollision_79 ?_
      refine x_iconst C (1) d_CellTransport_survivesCollision_82 rfl ?_
      exact x_zret C E (congrArg Prod.fst (show f_col M c = (1, f_aim (f_cb M c)) by rw [f_col, if_pos (show f_cb M c (i_cell c) 3 ≤ f_cr M c from h_40), if_pos (show f_cb M c (i_cell c) 3 + f_cb M c (i_cell c) 4 ≤ f_cr M c from h_62)])).symm (congrArg Prod.snd (show f_col M c = (1, f_aim (f_cb M c)) by rw [f_col, if_pos (show f_cb M c (i_cell c) 3 ≤ f_cr M c from h_40), if_pos (show f_cb M c (i_cell c) 3 + f_cb M c (i_cell c) 4 ≤ f_cr M c from h_62)])).symm rfl d_CellTransport_survivesCollision_83
    · refine x_aload_n C d_CellTransport_survivesCollision_65 (i := 2) rfl rfl ?_
      refine x_iconst C (nI 3) d_CellTransport_survivesCollision_66 rfl ?_
      refine x_dup2 C d_CellTransport_survivesCollision_67 rfl rfl ?_
      refine rn_ld_talrow C hc  (show 3 < 4 by decide) d_CellTransport_survivesCollision_68 ?_
      refine x_iconst C (1) d_CellTransport_survivesCollision_69 rfl ?_
      refine x_iadd C d_CellTransport_survivesCollision_70 ?_
      refine rn_st_talrow C hc  (show 3 < 4 by decide) d_CellTransport_survivesCollision_71 ?_
      refine x_aload_n C d_CellTransport_survivesCollision_72 (i := 0) rfl rfl ?_
      refine x_callVv C (c_CellTransport_split (hL.elim (fun w q => q.elim (fun jn hLI => ⟨w, jn, hLI.row ((z_sv_row _ _ _ (show 49 ≠ i_talr c by unfold i_talr; omega)).trans (f_cb_row M (by decide) (show 49 ≠ i_talr c by unfold i_talr; omega)))⟩)))) mt_CellTransport_split zl_CellTransport (zc_CellTransport _) rfl rfl rfl (Nat.le_of_ble_eq_true rfl) (Nat.le_of_ble_eq_true rfl) lk_CellTransport_216 d_CellTransport_survivesCollision_73 ?_
      refine x_iconst C (0) d_CellTransport_survivesCollision_76 rfl ?_
      exact x_zret C E (congrArg Prod.fst (show f_col M c = (0, f_spl (z_sv (f_cb M c) (i_talr c) 3 (f_cb M c (i_talr c) 3 + 1))) by rw [f_col, if_pos (show f_cb M c (i_cell c) 3 ≤ f_cr M c from h_40), if_neg (show ¬ f_cb M c (i_cell c) 3 + f_cb M c (i_cell c) 4 ≤ f_cr M c from h_62)])).symm (congrArg Prod.snd (show f_col M c = (0, f_spl (z_sv (f_cb M c) (i_talr c) 3 (f_cb M c (i_talr c) 3 + 1))) by rw [f_col, if_pos (show f_cb M c (i_cell c) 3 ≤ f_cr M c from h_40), if_neg (show ¬ f_cb M c (i_cell c) 3 + f_cb M c (i_cell c) 4 ≤ f_cr M c from h_62)])).symm rfl d_CellTransport_survivesCollision_77
  · refine x_aload_n C d_CellTransport_survivesCollision_43 (i := 2) rfl rfl ?_
    refine x_iconst C (nI 2) d_CellTransport_survivesCollision_44 rfl ?_
    refine x_dup2 C d_CellTransport_survivesCollision_45 rfl rfl ?_
    refine rn_ld_talrow C hc  (show 2 < 4 by decide) d_CellTransport_survivesCollision_46 ?_
    refine x_iconst C (1) d_CellTransport_survivesCollision_47 rfl ?_
    refine x_iadd C d_CellTransport_survivesCollision_48 ?_
    refine rn_st_talrow C hc  (show 2 < 4 by decide) d_CellTransport_survivesCollision_49 ?_
    refine x_iconst C (0) d_CellTransport_survivesCollision_50 rfl ?_
    exact x_zret C E (congrArg Prod.fst (show f_col M c = (0, z_sv (f_cb M c) (i_talr c) 2 (f_cb M c (i_talr c) 2 + 1)) by rw [f_col, if_neg (show ¬ f_cb M c (i_cell c) 3 ≤ f_cr M c from h_40)])).symm (congrArg Prod.snd (show f_col M c = (0, z_sv (f_cb M c) (i_talr c) 2 (f_cb M c (i_talr c) 2 + 1)) by rw [f_col, if_neg (show ¬ f_cb M c (i_cell c) 3 ≤ f_cr M c from h_40)])).symm rfl d_CellTransport_survivesCollision_51
end
section
theorem f_ca_n (M : z_M) (x y : Int32) : ∀ n i : Nat, i + n = 6 → ∃ c : Nat, c ≤ 6 ∧ f_ca M x y n i = nI c := by
  intro n
  induction n with
  | zero => intro i _; exact ⟨6, Nat.le_refl 6, rfl⟩
  | succ n ih =>
    intro i hi
    by_cases h : ¬ M (i_cell i) 1 = 0 ∧ p_in M x y i
    · exact ⟨i, by omega, if_pos h⟩
    · obtain ⟨c, h1, h2⟩ := ih (i + 1) (by omega)
      exact ⟨c, h1, (if_neg h).trans h2⟩
theorem f_at_row (M : z_M) {b c a : Nat} (h1 : a ≠ i_talr c) (h2 : b ≠ 6 → a ≠ i_cror b) : f_at M b c a = M a := by
  by_cases h : b = c ∨ b = 6
  · rw [f_at, if_pos h, f_tk, z_sv_row _ _ _ h1]
  · rw [f_at, if_neg h, z_sv_row _ _ _ (h2 (fun q => h (Or.inr q))), f_tk, z_sv_row _ _ _ h1]
theorem f_at_kp {M0 M : z_M} (h : z_kp M0 M) {b c : Nat} (hb : b ≤ 6) (hc : c < 6) : z_kp M0 (f_at M b c) := by
  have t : 32 ≤ i_talr c ∧ i_talr c < 53 := by unfold i_talr; omega
  by_cases g : b = c ∨ b = 6
  · rw [f_at, if_pos g]; exact h.sv t.1 t.2 _ _
  · have u : 32 ≤ i_cror b ∧ i_cror b < 53 := by unfold i_cror; omega
    rw [f_at, if_neg g]; exact (h.sv t.1 t.2 _ _).sv u.1 u.2 _ _
theorem f_mv_kp {M0 M : z_M} (h : z_kp M0 M) (dd : Nat) : z_kp M0 (f_mv M dd) := (h.sv (by decide) (by decide) _ _).sv (by decide) (by decide) _ _
theorem f_mv_row (M : z_M) (dd : Nat) {a : Nat} (h : a ≠ 52) : f_mv M dd a = M a := by
  unfold f_mv
  rw [z_sv_row _ _ _ h, z_sv_row _ _ _ h]
def f_s1 (M : z_M) (dd c : Nat) : z_M := z_sv (f_mv M dd) 52 2 (nI c)
def f_s2 (M : z_M) (dd b c : Nat) : z_M := f_at (f_s1 M dd c) b c
def f_s3 (M : z_M) (dd b c : Nat) : z_M := z_sv (f_s2 M dd b c) 52 4 (f_s2 M dd b c 52 4 - f_s2 M dd b c (i_cell c) 2)
def f_lk (M : z_M) (dd c : Nat) : z_M := z_sv (f_s1 M dd c) 34 1 (f_s1 M dd c 34 1 + 1)
def f_st0 (M : z_M) (dd b c : Nat) : Int32 × z_M := if c = 6 then (0, f_lk M dd c) else if 0 < f_s2 M dd b c 52 4 - f_s2 M dd b c (i_cell c) 2 then (1, f_s3 M dd b c) else f_col (f_s3 M dd b c) c
theorem f_st0_cases (M : z_M) (dd b c : Nat) : (c = 6 ∧ f_st0 M dd b c = (0, f_lk M dd c)) ∨ (¬ c = 6 ∧ f_st0 M dd b c = (1, f_s3 M dd b c)) ∨ (¬ c = 6 ∧ f_st0 M dd b c = f_col (f_s3 M dd b c) c) := by
  by_cases h1 : c = 6
  · exact Or.inl ⟨h1, by rw [f_st0, if_pos h1]⟩
  · by_cases h2 : 0 < f_s2 M dd b c 52 4 - f_s2 M dd b c (i_cell c) 2
    · exact Or.inr (Or.inl ⟨h1, by rw [f_st0, if_neg h1, if_pos h2]⟩)
    · exact Or.inr (Or.inr ⟨h1, by rw [f_st0, if_neg h1, if_neg h2]⟩)
theorem f_s1_kp {M0 M : z_M} (h : z_kp M0 M) (dd c : Nat) : z_kp M0 (f_s1 M dd c) := (f_mv_kp h dd).sv (by decide) (by decide) _ _
theorem f_s3_kp {M0 M : z_M} (h : z_kp M0 M) {dd b c : Nat} (hb : b ≤ 6) (hc : c < 6) : z_kp M0 (f_s3 M dd b c) := (f_at_kp (f_s1_kp h dd c) hb hc).sv (by decide) (by decide) _ _
theorem f_s1_49 (M : z_M) (dd c : Nat) : f_s1 M dd c 49 = M 49 := by
  unfold f_s1
  rw [z_sv_row _ _ _ (by decide), f_mv_row _ _ (by decide)]
theorem f_s3_49 (M : z_M) {dd b c : Nat} (hb : b ≤ 6) (hc : c < 6) : f_s3 M dd b c 49 = M 49 := by
  unfold f_s3 f_s2
  rw [z_sv_row _ _ _ (by decide), f_at_row _ (by unfold i_talr; omega) (fun _ => by unfold i_cror; omega), f_s1_49]
theorem f_s2_52 (M : z_M) {dd b c : Nat} (hb : b ≤ 6) (hc : c < 6) : f_s2 M dd b c 52 = f_s1 M dd c 52 := by
  unfold f_s2
  rw [f_at_row _ (by unfold i_talr; omega) (fun _ => by unfold i_cror; omega)]
theorem f_s3_2 (M : z_M) {dd b c : Nat} (hb : b ≤ 6) (hc : c < 6) : f_s3 M dd b c 52 2 = nI c := by
  unfold f_s3
  rw [z_sv_get _ _ _ _ _ _ (Or.inr (by decide)), f_s2_52 M hb hc]
  exact z_sv_self _ _ _ _
theorem f_s3_3 (M : z_M) {dd b c : Nat} (hb : b ≤ 6) (hc : c < 6) : f_s3 M dd b c 52 3 = M 52 3 := by
  unfold f_s3
  rw [z_sv_get _ _ _ _ _ _ (Or.inr (by decide)), f_s2_52 M hb hc]
  unfold f_s1 f_mv
  rw [z_sv_get _ _ _ _ _ _ (Or.inr (by decide)), z_sv_get _ _ _ _ _ _ (Or.inr (by decide)), z_sv_get _ _ _ _ _ _ (Or.inr (by decide))]
theorem c_CellTransport_survivesStep {dA : Nat → ClassId} {ad : Nat → Nat} {M : z_M} (hR : ∀ r, r < 6 → z_okR M r) (hL : ∃ w jn, z_LI M w jn) {dd b c : Nat} (hd : dd < 8) (hdd : M 52 3 = nI dd) (hb : b ≤ 6) (eb : M 52 2 = nI b) (hc : c ≤ 6) (ec : f_ca (f_mv M dd) (f_mv M dd 52 0) (f_mv M dd 52 1) 6 0 = nI c) : z_CI y_CellTransport_survivesStep b_CellTransport_survivesStep 3 .boolean 3 dA ad [.ref (ad 0)] M ((f_st0 M dd b c).1) ((f_st0 M dd b c).2) := by
  refine z_ofI [some (.ref (ad 0)), none, none] (by decide) (Nat.le_of_ble_eq_true rfl) rfl (fun k C E => ?_)
  have C : z_C dA ad k b_CellTransport_survivesStep "CellTransport" 3 3 := C
  have hR1 := z_okR_kp (f_mv_kp z_kp.rf dd) hR
  refine x_aload_n C d_CellTransport_survivesStep_0 (i := 0) rfl rfl ?_
  refine g_CellTransport_particle C lk_CellTransport_47 d_CellTransport_survivesStep_1 ?_
  refine g_Particle_cellN C lk_CellTransport_178 d_CellTransport_survivesStep_4 ?_
  refine x_eqi eb ?_
  refine x_istore_n C d_CellTransport_survivesStep_7 (i := 1) rfl rfl ?_
  refine x_aload_n C d_CellTransport_survivesStep_8 (i := 0) rfl rfl ?_
  refine g_CellTransport_particle C lk_CellTransport_47 d_CellTransport_survivesStep_9 ?_
  refine x_callVNv C (c_Particle_move hd hdd) mt_Particle_move zl_Particle (zc_Particle _) rfl rfl rfl (Nat.le_of_ble_eq_true rfl) (Nat.le_of_ble_eq_true rfl) lk_CellTransport_196 d_CellTransport_survivesStep_12 ?_
  refine x_aload_n C d_CellTransport_survivesStep_15 (i := 0) rfl rfl ?_
  refine g_CellTransport_particle C lk_CellTransport_47 d_CellTransport_survivesStep_16 ?_
  refine x_aload_n C d_CellTransport_survivesStep_19 (i := 0) rfl rfl ?_
  refine g_CellTransport_geometry C lk_CellTransport_10 d_CellTransport_survivesStep_20 ?_
  refine x_aload_n C d_CellTransport_survivesStep_23 (i := 0) rfl rfl ?_
  refine g_CellTransport_particle C lk_CellTransport_47 d_CellTransport_survivesStep_24 ?_
  refine g_Particle_xN C lk_CellTransport_172 d_CellTransport_survivesStep_27 ?_
  refine x_aload_n C d_CellTransport_survivesStep_30 (i := 0) rfl rfl ?_
  refine g_CellTransport_particle C lk_CellTransport_47 d_CellTransport_survivesStep_31 ?_
  refine g_Particle_yN C lk_CellTransport_175 d_CellTransport_survivesStep_34 ?_
  refine x_callVNi C (c_Geometry_cellAt hR1 _ _) mt_Geometry_cellAt zl_Geometry (zc_Geometry _) rfl rfl rfl (Nat.le_of_ble_eq_true rfl) (Nat.le_of_ble_eq_true rfl) lk_CellTransport_129 d_CellTransport_survivesStep_37 ?_
  refine x_eqi ec ?_
  refine u_Particle_cellN C lk_CellTransport_178 d_CellTransport_survivesStep_40 ?_
  refine x_eqM (M2 := f_s1 M dd c) rfl ?_
  refine x_aload_n C d_CellTransport_survivesStep_43 (i := 0) rfl rfl ?_
  refine g_CellTransport_particle C lk_CellTransport_47 d_CellTransport_survivesStep_44 ?_
  refine g_Particle_cellN C lk_CellTransport_178 d_CellTransport_survivesStep_47 ?_
  refine x_eqi (z_sv_self _ _ _ _) ?_
  refine x_bipush C (6) d_CellTransport_survivesStep_50 rfl ?_
  refine x_icmp_ne C 70 d_CellTransport_survivesStep_52 rfl (fun h_52 => ?_) (fun h_52 => ?_)
  · have hc6 : c < 6 := z_b6 hc h_52
    refine x_aload_n C d_CellTransport_survivesStep_70 (i := 0) rfl rfl ?_
    refine g_CellTransport_counts C lk_CellTransport_33 d_CellTransport_survivesStep_71 ?_
    refine x_iload_n C d_CellTransport_survivesStep_74 (i := 1) rfl rfl ?_
    refine x_aload_n C d_CellTransport_survivesStep_75 (i := 0) rfl rfl ?_
    refine g_CellTransport_particle C lk_CellTransport_47 d_CellTransport_survivesStep_76 ?_
    refine g_Particle_cellN C lk_CellTransport_178 d_CellTransport_survivesStep_79 ?_
    refine x_eqi (z_sv_self _ _ _ _) ?_
    refine x_callVNv C (c_Counts_addTrack hb hc6) mt_Counts_addTrack zl_Counts (zc_Counts _) rfl rfl rfl (Nat.le_of_ble_eq_true rfl) (Nat.le_of_ble_eq_true rfl) lk_CellTransport_199 d_CellTransport_survivesStep_82 ?_
    refine x_eqM (M2 := f_s2 M dd b c) rfl ?_
    refine x_aload_n C d_CellTransport_survivesStep_85 (i := 0) rfl rfl ?_
    refine g_CellTransport_geometry C lk_CellTransport_10 d_CellTransport_survivesStep_86 ?_
    refine g_Geometry_cellsN C lk_CellTransport_93 d_CellTransport_survivesStep_89 ?_
    refine x_aload_n C d_CellTransport_survivesStep_92 (i := 0) rfl rfl ?_
    refine g_CellTransport_particle C lk_CellTransport_47 d_CellTransport_survivesStep_93 ?_
    refine g_Particle_cellN C lk_CellTransport_178 d_CellTransport_survivesStep_96 ?_
    refine x_eqi ((congrFun (f_s2_52 M hb hc6) 2).trans (z_sv_self _ _ _ _)) ?_
    refine rn_al_cells C hc6 d_CellTransport_survivesStep_99 ?_
    refine x_astore_n C d_CellTransport_survivesStep_100 (i := 2) rfl rfl ?_
    refine x_aload_n C d_CellTransport_survivesStep_101 (i := 0) rfl rfl ?_
    refine g_CellTransport_particle C lk_CellTransport_47 d_CellTransport_survivesStep_102 ?_
    refine x_dup C d_CellTransport_survivesStep_105 rfl ?_
    refine g_Particle_budgetN C lk_CellTransport_193 d_CellTransport_survivesStep_106 ?_
    refine x_aload_n C d_CellTransport_survivesStep_109 (i := 2) rfl rfl ?_
    refine g_Cell_densityN C hc6 lk_CellTransport_203 d_CellTransport_survivesStep_110 ?_
    refine x_isub C d_CellTransport_survivesStep_113 ?_
    refine u_Particle_budgetN C lk_CellTransport_193 d_CellTransport_survivesStep_114 ?_
    refine x_eqM (M2 := f_s3 M dd b c) rfl ?_
    refine x_aload_n C d_CellTransport_survivesStep_117 (i := 0) rfl rfl ?_
    refine g_CellTransport_particle C lk_CellTransport_47 d_CellTransport_survivesStep_118 ?_
    refine g_Particle_budgetN C lk_CellTransport_193 d_CellTransport_survivesStep_121 ?_
    refine x_eqi (z_sv_self _ _ _ _) ?_
    refine x_if_gt C 135 d_CellTransport_survivesStep_124 rfl (fun h_124 => ?_) (fun h_124 => ?_)
    · refine x_iconst C (1) d_CellTransport_survivesStep_135 rfl ?_
      refine x_goto C 140 d_CellTransport_survivesStep_136 rfl ?_
      exact x_zret C E (congrArg Prod.fst (show f_st0 M dd b c = (1, f_s3 M dd b c) by rw [f_st0, if_neg (Nat.ne_of_lt hc6), if_pos (show 0 < f_s2 M dd b c 52 4 - f_s2 M dd b c (i_cell c) 2 from h_124)])).symm (congrArg Prod.snd (show f_st0 M dd b c = (1, f_s3 M dd b c) by rw [f_st0, if_neg (Nat.ne_of_lt hc6), if_pos (show 0 < f_s2 M dd b c 52 4 - f_s2 M dd b c (i_cell c) 2 from h_124)])).symm rfl d_CellTransport_survivesStep_140
    · refine x_aload_n C d_CellTransport_survivesStep_127 (i := 0) rfl rfl ?_
      refine x_aload_n C d_CellTransport_survivesStep_128 (i := 2) rfl rfl ?_
      refine x_callVi C (c_CellTransport_survivesCollision hc6 (f_s3_2 M hb hc6) (hL.elim (fun w q => q.elim (fun jn hLI => ⟨w, jn, hLI.row (f_s3_49 M hb hc6)⟩)))) mt_CellTransport_survivesCollision zl_CellTransport (zc_CellTransport _) rfl rfl rfl (Nat.le_of_ble_eq_true rfl) (Nat.le_of_ble_eq_true rfl) lk_CellTransport_206 d_CellTransport_survivesStep_129 ?_
      refine x_if_eq C 139 d_CellTransport_survivesStep_132 rfl (fun h_132 => ?_) (fun h_132 => ?_)
      · refine x_iconst C (0) d_CellTransport_survivesStep_139 rfl ?_
        exact x_zret C E (((congrArg Prod.fst (show f_st0 M dd b c = f_col (f_s3 M dd b c) c by rw [f_st0, if_neg (Nat.ne_of_lt hc6), if_neg (show ¬ 0 < f_s2 M dd b c 52 4 - f_s2 M dd b c (i_cell c) 2 from h_124)])).trans h_132).symm) (congrArg Prod.snd (show f_st0 M dd b c = f_col (f_s3 M dd b c) c by rw [f_st0, if_neg (Nat.ne_of_lt hc6), if_neg (show ¬ 0 < f_s2 M dd b c 52 4 - f_s2 M dd b c (i_cell c) 2 from h_124)])).symm rfl d_CellTransport_survivesStep_140
      · refine x_iconst C (1) d_CellTransport_survivesStep_135 rfl ?_
        refine x_goto C 140 d_CellTransport_survivesStep_136 rfl ?_
        exact x_zret C E (((congrArg Prod.fst (show f_st0 M dd b c = f_col (f_s3 M dd b c) c by rw [f_st0, if_neg (Nat.ne_of_lt hc6), if_neg (show ¬ 0 < f_s2 M dd b c 52 4 - f_s2 M dd b c (i_cell c) 2 from h_124)])).trans ((f_col_01 _ _).resolve_left h_132)).symm) (congrArg Prod.snd (show f_st0 M dd b c = f_col (f_s3 M dd b c) c by rw [f_st0, if_neg (Nat.ne_of_lt hc6), if_neg (show ¬ 0 < f_s2 M dd b c 52 4 - f_s2 M dd b c (i_cell c) 2 from h_124)])).symm rfl d_CellTransport_survivesStep_140
  · refine x_aload_n C d_CellTransport_survivesStep_55 (i := 0) rfl rfl ?_
    refine g_CellTransport_counts C lk_CellTransport_33 d_CellTransport_survivesStep_56 ?_
    refine g_Counts_totalsN C lk_CellTransport_147 d_CellTransport_survivesStep_59 ?_
    refine x_iconst C (nI 1) d_CellTransport_survivesStep_62 rfl ?_
    refine x_dup2 C d_CellTransport_survivesStep_63 rfl rfl ?_
    refine rn_ld_totals C  (show 1 < 5 by decide) d_CellTransport_survivesStep_64 ?_
    refine x_iconst C (1) d_CellTransport_survivesStep_65 rfl ?_
    refine x_iadd C d_CellTransport_survivesStep_66 ?_
    refine rn_st_totals C  (show 1 < 5 by decide) d_CellTransport_survivesStep_67 ?_
    refine x_iconst C (0) d_CellTransport_survivesStep_68 rfl ?_
    exact x_zret C E (congrArg Prod.fst (show f_st0 M dd b c = (0, f_lk M dd c) by rw [f_st0, if_pos ((nI_eq (a := c) (b := 6) (by omega) (by decide)).mp h_52)])).symm (congrArg Prod.snd (show f_st0 M dd b c = (0, f_lk M dd c) by rw [f_st0, if_pos ((nI_eq (a := c) (b := 6) (by omega) (by decide)).mp h_52)])).symm rfl d_CellTransport_survivesStep_69
end
section
def f_dd (M : z_M) : Nat := (M 52 3).toNatClampNeg
def f_bb (M : z_M) : Nat := (M 52 2).toNatClampNeg
def f_cc (M : z_M) : Nat := (f_ca (f_mv M (f_dd M)) (f_mv M (f_dd M) 52 0) (f_mv M (f_dd M) 52 1) 6 0).toNatClampNeg
def f_stp (M : z_M) : Int32 × z_M := f_st0 M (f_dd M) (f_bb M) (f_cc M)
def z_FI (M : z_M) : Prop := (∀ r, r < 6 → z_okR M r) ∧ (∃ w jn, z_LI M w jn) ∧ (∃ dd : Nat, dd < 8 ∧ M 52 3 = nI dd) ∧ (∃ b : Nat, b ≤ 6 ∧ M 52 2 = nI b)
theorem f_cc_n (M : z_M) : f_cc M ≤ 6 ∧ f_ca (f_mv M (f_dd M)) (f_mv M (f_dd M) 52 0) (f_mv M (f_dd M) 52 1) 6 0 = nI (f_cc M) := by
  obtain ⟨c, h1, h2⟩ := f_ca_n (f_mv M (f_dd M)) (f_mv M (f_dd M) 52 0) (f_mv M (f_dd M) 52 1) 6 0 (by omega)
  have e : f_cc M = c := by unfold f_cc; rw [h2]; exact nI_clamp (by omega)
  rw [e]
  exact ⟨h1, h2⟩
theorem f_dd_n {M : z_M} (h : ∃ dd : Nat, dd < 8 ∧ M 52 3 = nI dd) : f_dd M < 8 ∧ M 52 3 = nI (f_dd M) := by
  obtain ⟨d, h1, h2⟩ := h
  have e : f_dd M = d := by unfold f_dd; rw [h2]; exact nI_clamp (by omega)
  rw [e]
  exact ⟨h1, h2⟩
theorem f_bb_n {M : z_M} (h : ∃ b : Nat, b ≤ 6 ∧ M 52 2 = nI b) : f_bb M ≤ 6 ∧ M 52 2 = nI (f_bb M) := by
  obtain ⟨d, h1, h2⟩ := h
  have e : f_bb M = d := by unfold f_bb; rw [h2]; exact nI_clamp (by omega)
  rw [e]
  exact ⟨h1, h2⟩
theorem f_lk_kp {M0 M : z_M} (h : z_kp M0 M) (dd c : Nat) : z_kp M0 (f_lk M dd c) := (f_s1_kp h dd c).sv (by decide) (by decide) _ _
theorem z_kpx {M0 M2 M3 : z_M} (e : M3 = M2) (h : z_kp M0 M2) : z_kp M0 M3 := by rw [e]; exact h
theorem f_stp_kp {M : z_M} (hF : z_FI M) : z_kp M (f_stp M).2 := by
  have hb := (f_bb_n hF.2.2.2).1
  have hc := (f_cc_n M).1
  rcases f_st0_cases M (f_dd M) (f_bb M) (f_cc M) with ⟨-, e⟩ | ⟨n, e⟩ | ⟨n, e⟩
  · exact z_kpx (congrArg Prod.snd e) (f_lk_kp z_kp.rf _ _)
  · exact z_kpx (congrArg Prod.snd e) (f_s3_kp z_kp.rf hb (by omega))
  · exact z_kpx (congrArg Prod.snd e) (f_col_kp (f_s3_kp z_kp.rf hb (by omega)) (by omega))
theorem f_lk_49 (M : z_M) (dd c : Nat) : f_lk M dd c 49 = M 49 := by
  unfold f_lk
  rw [z_sv_row _ _ _ (by decide), f_s1_49]
theorem f_stp_LI {M : z_M} (hF : z_FI M) : ∃ w jn, z_LI (f_stp M).2 w jn := by
  have hb := (f_bb_n hF.2.2.2).1
  have hc := (f_cc_n M).1
  obtain ⟨w, jn, hL⟩ := hF.2.1
  rcases f_st0_cases M (f_dd M) (f_bb M) (f_cc M) with ⟨-, e⟩ | ⟨n, e⟩ | ⟨n, e⟩
  · exact z_LIx (congrArg Prod.snd e) ⟨w, jn, hL.row (f_lk_49 M (f_dd M) (f_cc M))⟩
  · exact z_LIx (congrArg Prod.snd e) ⟨w, jn, hL.row (f_s3_49 M hb (by omega))⟩
  · exact z_LIx (congrArg Prod.snd e) (f_col_LI (hL.row (f_s3_49 M hb (by omega))) (by omega))
theorem f_stp_on {M : z_M} (hF : z_FI M) (h : ¬ (f_stp M).1 = 0) : z_FI (f_stp M).2 := by
  have hb := (f_bb_n hF.2.2.2).1
  have hc := (f_cc_n M).1
  refine ⟨z_okR_kp (f_stp_kp hF) hF.1, f_stp_LI hF, ?_⟩
  rcases f_st0_cases M (f_dd M) (f_bb M) (f_cc M) with ⟨-, e⟩ | ⟨n, e⟩ | ⟨n, e⟩
  · exact absurd (congrArg Prod.fst e) h
  · have e2 : (f_stp M).2 = f_s3 M (f_dd M) (f_bb M) (f_cc M) := congrArg Prod.snd e
    rw [e2]
    exact ⟨⟨f_dd M, (f_dd_n hF.2.2.1).1, (f_s3_3 M hb (by omega)).trans (f_dd_n hF.2.2.1).2⟩, ⟨f_cc M, hc, f_s3_2 M hb (by omega)⟩⟩
  · have e1 : (f_stp M).1 = (f_col (f_s3 M (f_dd M) (f_bb M) (f_cc M)) (f_cc M)).1 := congrArg Prod.fst e
    have e2 : (f_stp M).2 = (f_col (f_s3 M (f_dd M) (f_bb M) (f_cc M)) (f_cc M)).2 := congrArg Prod.snd e
    obtain ⟨g1, g2⟩ := f_col_on (M := f_s3 M (f_dd M) (f_bb M) (f_cc M)) (c := f_cc M) (by omega) (by rw [← e1]; exact h)
    rw [e2]
    exact ⟨g1, f_cc M, hc, g2.trans (f_s3_2 M hb (by omega))⟩
def f_flp : Nat → z_M → z_M
  | 0, M => z_sv M 34 2 (M 34 2 + 1)
  | n + 1, M => if (f_stp M).1 = 0 then (f_stp M).2 else f_flp n (f_stp M).2
def f_fl0 (M : z_M) : z_M := f_aim (z_sv M 52 2 (f_ca M (M 52 0) (M 52 1) 6 0))
def f_fly (M : z_M) : z_M := f_flp 200 (f_fl0 M)
theorem f_fl0_kp (M : z_M) : z_kp M (f_fl0 M) := f_aim_kp (z_kp.rf.sv (by decide) (by decide) _ _)
theorem f_fl0_FI {M : z_M} (hR : ∀ r, r < 6 → z_okR M r) (hL : ∃ w jn, z_LI M w jn) : z_FI (f_fl0 M) := by
  obtain ⟨w, jn, hLI⟩ := hL
  obtain ⟨c, h1, h2⟩ := f_ca_n M (M 52 0) (M 52 1) 6 0 (by omega)
  refine ⟨z_okR_kp (f_fl0_kp M) hR, ⟨w, jn, hLI.row ?_⟩, f_aim_dir _, c, h1, ?_⟩
  · unfold f_fl0
    rw [f_aim_row _ (by decide) (by decide), z_sv_row _ _ _ (by decide)]
  · unfold f_fl0
    rw [f_aim_2, z_sv_self]
    exact h2
theorem f_flp_kp : ∀ (n : Nat) (M : z_M), z_FI M → z_kp M (f_flp n M) ∧ ∃ w jn, z_LI (f_flp n M) w jn := by
  intro n
  induction n with
  | zero =>
    intro M hF
    obtain ⟨w, jn, hL⟩ := hF.2.1
    exact ⟨z_kp.rf.sv (k := 34) (by decide) (by decide) _ _, w, jn, hL.row (z_sv_row M _ _ (by decide))⟩
  | succ n ih =>
    intro M hF
    by_cases h : (f_stp M).1 = 0
    · have e : f_flp (n + 1) M = (f_stp M).2 := if_pos h
      rw [e]
      exact ⟨f_stp_kp hF, f_stp_LI hF⟩
    · have e : f_flp (n + 1) M = f_flp n (f_stp M).2 := if_neg h
      rw [e]
      obtain ⟨g1, g2⟩ := ih _ (f_stp_on hF h)
      exact ⟨(f_stp_kp hF).tr g1, g2⟩
theorem f_fly_kp {M : z_M} (hR : ∀ r, r < 6 → z_okR M r) (hL : ∃ w jn, z_LI M w jn) : z_kp M (f_fly M) ∧ ∃ w jn, z_LI (f_fly M) w jn := by
  obtain ⟨g1, g2⟩ := f_flp_kp 200 _ (f_fl0_FI hR hL)
  exact ⟨(f_fl0_kp M).tr g1, g2⟩
theorem lp_CellTransport_fly {dA : Nat → ClassId} {ad : Nat → Nat} {M1 : z_M} {k : z_K} (C : z_C dA ad k b_CellTransport_fly "CellTransport" 4 2) (E : z_RV dA ad k M1) :
    ∀ (n i : Nat) (M : z_M), i + n = 200 → z_FI M → f_flp n M = M1 → z_X dA ad k 34 [some (.ref (ad 0)), some (.int (nI i))] [] M := by
  intro n
  induction n with
  | zero =>
    intro i M hi hF hr
    refine x_iload_n C d_CellTransport_fly_34 (i := 1) rfl rfl ?_
    refine x_sipush C (200) d_CellTransport_fly_35 rfl ?_
    refine x_icmp_ge C 55 d_CellTransport_fly_38 rfl (fun h_38 => ?_) (fun h_38 => absurd (show (200 : Int32) ≤ nI i from nI_le (a := 200) (by omega) (by omega)) h_38)
    refine x_aload_n C d_CellTransport_fly_55 (i := 0) rfl rfl ?_
    refine g_CellTransport_counts C lk_CellTransport_33 d_CellTransport_fly_56 ?_
    refine g_Counts_totalsN C lk_CellTransport_147 d_CellTransport_fly_59 ?_
    refine x_iconst C (nI 2) d_CellTransport_fly_62 rfl ?_
    refine x_dup2 C d_CellTransport_fly_63 rfl rfl ?_
    refine rn_ld_totals C  (show 2 < 5 by decide) d_CellTransport_fly_64 ?_
    refine x_iconst C (1) d_CellTransport_fly_65 rfl ?_
    refine x_iadd C d_CellTransport_fly_66 ?_
    refine rn_st_totals C  (show 2 < 5 by decide) d_CellTransport_fly_67 ?_
    exact x_vret C E hr d_CellTransport_fly_68
  | succ n ih =>
    intro i M hi hF hr
    obtain ⟨hd, hdd⟩ := f_dd_n hF.2.2.1
    obtain ⟨hb, eb⟩ := f_bb_n hF.2.2.2
    obtain ⟨hc, ec⟩ := f_cc_n M
    refine x_iload_n C d_CellTransport_fly_34 (i := 1) rfl rfl ?_
    refine x_sipush C (200) d_CellTransport_fly_35 rfl ?_
    refine x_icmp_ge C 55 d_CellTransport_fly_38 rfl (fun h_38 => absurd (show nI 200 ≤ nI i from h_38) (nI_ge (by omega) (by decide))) (fun h_38 => ?_)
    refine x_aload_n C d_CellTransport_fly_41 (i := 0) rfl rfl ?_
    refine x_callVi C (c_CellTransport_survivesStep hF.1 hF.2.1 hd hdd hb eb hc ec) mt_CellTransport_survivesStep zl_CellTransport (zc_CellTransport _) rfl rfl rfl (Nat.le_of_ble_eq_true rfl) (Nat.le_of_ble_eq_true rfl) lk_CellTransport_184 d_CellTransport_fly_42 ?_
    refine x_if_ne C 49 d_CellTransport_fly_45 rfl (fun h_45 => ?_) (fun h_45 => ?_)
    · refine x_iinc C (nI (i + 1)) d_CellTransport_fly_49 rfl (z_inc i) rfl ?_
      refine x_goto C 34 d_CellTransport_fly_52 rfl ?_
      exact ih (i + 1) _ (by omega) (f_stp_on hF h_45) (by rw [← hr]; exact (if_neg (show ¬ (f_stp M).1 = 0 from h_45)).symm)
    · exact x_vret C E (by rw [← hr]; exact (if_pos (show (f_stp M).1 = 0 from h_45)).symm) d_CellTransport_fly_48
theorem c_CellTransport_fly {dA : Nat → ClassId} {ad : Nat → Nat} {M : z_M} (hR : ∀ r, r < 6 → z_okR M r) (hL : ∃ w jn, z_LI M w jn) : z_CV y_CellTransport_fly b_CellTransport_fly 2 4 dA ad [.ref (ad 0)] M (f_fly M) := by
  refine z_ofV [some (.ref (ad 0)), none] (by decide) (Nat.le_of_ble_eq_true rfl) rfl (fun k C E => ?_)
  have C : z_C dA ad k b_CellTransport_fly "CellTransport" 4 2 := C
  refine x_aload_n C d_CellTransport_fly_0 (i := 0) rfl rfl ?_
  refine g_CellTransport_particle C lk_CellTransport_47 d_CellTransport_fly_1 ?_
  refine x_aload_n C d_CellTransport_fly_4 (i := 0) rfl rfl ?_
  refine g_CellTransport_geometry C lk_CellTransport_10 d_CellTransport_fly_5 ?_
  refine x_aload_n C d_CellTransport_fly_8 (i := 0) rfl rfl ?_
  refine g_CellTransport_particle C lk_CellTransport_47 d_CellTransport_fly_9 ?_
  refine g_Particle_xN C lk_CellTransport_172 d_CellTransport_fly_12 ?_
  refine x_aload_n C d_CellTransport_fly_15 (i := 0) rfl rfl ?_
  refine g_CellTransport_particle C lk_CellTransport_47 d_CellTransport_fly_16 ?_
  refine g_Particle_yN C lk_CellTransport_175 d_CellTransport_fly_19 ?_
  refine x_callVNi C (c_Geometry_cellAt hR _ _) mt_Geometry_cellAt zl_Geometry (zc_Geometry _) rfl rfl rfl (Nat.le_of_ble_eq_true rfl) (Nat.le_of_ble_eq_true rfl) lk_CellTransport_129 d_CellTransport_fly_22 ?_
  refine u_Particle_cellN C lk_CellTransport_178 d_CellTransport_fly_25 ?_
  refine x_aload_n C d_CellTransport_fly_28 (i := 0) rfl rfl ?_
  refine x_callVv C (c_CellTransport_aim ) mt_CellTransport_aim zl_CellTransport (zc_CellTransport _) rfl rfl rfl (Nat.le_of_ble_eq_true rfl) (Nat.le_of_ble_eq_true rfl) lk_CellTransport_181 d_CellTransport_fly_29 ?_
  refine x_iconst C (0) d_CellTransport_fly_32 rfl ?_
  refine x_istore_n C d_CellTransport_fly_33 (i := 1) rfl rfl ?_
  exact lp_CellTransport_fly C E 200 0 _ (by omega) (f_fl0_FI hR hL) rfl
def f_snd (M : z_M) (w : Nat) : z_M := z_sv (z_sv (z_sv M 49 2 (nI w)) 52 0 (M 50 w)) 52 1 (M 51 w)
def f_ww (M : z_M) : Nat := (M 49 2).toNatClampNeg
def f_hl : Nat → Nat → z_M → Nat × z_M
  | 0, fl, M => (fl, M)
  | n + 1, fl, M => if M 49 2 ≤ 0 then (fl, M) else f_hl n (fl + 1) (f_fly (f_snd M (f_ww M - 1)))
def f_h0 (M : z_M) : z_M := f_jn (z_sv (z_sv M 49 2 0) 49 3 0) 0 0 (M 0 6) (M 0 7)
def f_h1 (p : Nat × z_M) : z_M := z_sv p.2 34 0 (p.2 34 0 + nI p.1)
def f_h2 (p : Nat × z_M) : z_M := z_sv (f_h1 p) 34 4 (f_h1 p 34 4 + 1)
def z_HI (M : z_M) : Prop := (∀ r, r < 6 → z_okR M r) ∧ ∃ w jn, z_LI M w jn
theorem f_snd_kp (M : z_M) (w : Nat) : z_kp M (f_snd M w) := ((z_kp.rf.sv (k := 49) (by decide) (by decide) _ _).sv (k := 52) (by decide) (by decide) _ _).sv (k := 52) (by decide) (by decide) _ _
theorem f_snd_LI {M : z_M} {w jn : Nat} (h : z_LI M (w + 1) jn) : z_LI (f_snd M w) w jn := by
  refine ⟨by have := h.1; omega, h.2.1, ?_, ?_⟩
  · unfold f_snd
    rw [z_sv_get _ _ _ _ _ _ (Or.inl (by decide)), z_sv_get _ _ _ _ _ _ (Or.inl (by decide)), z_sv_self]
  · unfold f_snd
    rw [z_sv_get _ _ _ _ _ _ (Or.inl (by decide)), z_sv_get _ _ _ _ _ _ (Or.inl (by decide)), z_sv_get _ _ _ _ _ _ (Or.inr (by decide))]
    exact h.2.2.2
theorem f_h0_HI {M : z_M} (hR : ∀ r, r < 6 → z_okR M r) : z_kp M (f_h0 M) ∧ z_HI (f_h0 M) := by
  have k1 : z_kp M (f_h0 M) := f_jn_kp ((z_kp.rf.sv (by decide) (by decide) _ _).sv (by decide) (by decide) _ _) _ _ _ _
  exact ⟨k1, z_okR_kp k1 hR, 1, 1, f_jn_LI (Nat.le_refl 0) (by decide) _ _⟩
theorem f_hl_kp : ∀ (n fl : Nat) (M : z_M), z_HI M → z_kp M (f_hl n fl M).2 ∧ z_HI (f_hl n fl M).2 := by
  intro n
  induction n with
  | zero => intro fl M h; exact ⟨z_kp.rf, h⟩
  | succ n ih =>
    intro fl M h
    by_cases g : M 49 2 ≤ 0
    · have e : f_hl (n + 1) fl M = (fl, M) := if_pos g
      rw [e]
      exact ⟨z_kp.rf, h⟩
    · have e : f_hl (n + 1) fl M = f_hl n (fl + 1) (f_fly (f_snd M (f_ww M - 1))) := if_neg g
      rw [e]
      obtain ⟨hR, w, jn, hL⟩ := h
      have hw : 0 < w := by
        rcases Nat.eq_zero_or_pos w with q | q
        · exact absurd (by rw [hL.2.2.1, q]; decide) g
        · exact q
      have ew : f_ww M = w := by unfold f_ww; rw [hL.2.2.1]; exact nI_clamp (by have := hL.1; have := hL.2.1; omega)
      have hL2 : z_LI M ((f_ww M - 1) + 1) jn := by rw [ew, show w - 1 + 1 = w by omega]; exact hL
      have k1 := f_snd_kp M (f_ww M - 1)
      obtain ⟨g1, g2⟩ := f_fly_kp (z_okR_kp k1 hR) ⟨_, _, f_snd_LI hL2⟩
      obtain ⟨i1, i2⟩ := ih (fl + 1) _ ⟨z_okR_kp (k1.tr g1) hR, g2⟩
      exact ⟨(k1.tr g1).tr i1, i2⟩
theorem lp_CellTransport_playHistory {dA : Nat → ClassId} {ad : Nat → Nat} {r0 : Int32} {M1 : z_M} {k : z_K} (C : z_C dA ad k b_CellTransport_playHistory "CellTransport" 5 2) (E : z_RI dA ad k .int r0 M1) :
    ∀ (n fl : Nat) (M : z_M), fl + n = 12 → z_HI M → nI (f_hl n fl M).1 = r0 → f_h2 (f_hl n fl M) = M1 → z_X dA ad k 25 [some (.ref (ad 0)), some (.int (nI fl))] [] M := by
  have tail : ∀ (fl : Nat) (M : z_M), nI fl = r0 → f_h2 (fl, M) = M1 → z_X dA ad k 62 [some (.ref (ad 0)), some (.int (nI fl))] [] M := by
    intro fl M hr hM
    refine x_aload_n C d_CellTransport_playHistory_62 (i := 0) rfl rfl ?_
    refine g_CellTransport_counts C lk_CellTransport_33 d_CellTransport_playHistory_63 ?_
    refine g_Counts_totalsN C lk_CellTransport_147 d_CellTransport_playHistory_66 ?_
    refine x_iconst C (nI 0) d_CellTransport_playHistory_69 rfl ?_
    refine x_dup2 C d_CellTransport_playHistory_70 rfl rfl ?_
    refine rn_ld_totals C  (show 0 < 5 by decide) d_CellTransport_playHistory_71 ?_
    refine x_iload_n C d_CellTransport_playHistory_72 (i := 1) rfl rfl ?_
    refine x_iadd C d_CellTransport_playHistory_73 ?_
    refine rn_st_totals C  (show 0 < 5 by decide) d_CellTransport_playHistory_74 ?_
    refine x_aload_n C d_CellTransport_playHistory_75 (i := 0) rfl rfl ?_
    refine g_CellTransport_counts C lk_CellTransport_33 d_CellTransport_playHistory_76 ?_
    refine g_Counts_totalsN C lk_CellTransport_147 d_CellTransport_playHistory_79 ?_
    refine x_iconst C (nI 4) d_CellTransport_playHistory_82 rfl ?_
    refine x_dup2 C d_CellTransport_playHistory_83 rfl rfl ?_
    refine rn_ld_totals C  (show 4 < 5 by decide) d_CellTransport_playHistory_84 ?_
    refine x_iconst C (1) d_CellTransport_playHistory_85 rfl ?_
    refine x_iadd C d_CellTransport_playHistory_86 ?_
    refine rn_st_totals C  (show 4 < 5 by decide) d_CellTransport_playHistory_87 ?_
    refine x_iload_n C d_CellTransport_playHistory_88 (i := 1) rfl rfl ?_
    exact x_iret C E hr hM d_CellTransport_playHistory_89
  intro n
  induction n with
  | zero =>
    intro fl M hi hI hr hM
    refine x_aload_n C d_CellTransport_playHistory_25 (i := 0) rfl rfl ?_
    refine g_CellTransport_line C lk_CellTransport_40 d_CellTransport_playHistory_26 ?_
    refine g_Line_waitingN C lk_CellTransport_162 d_CellTransport_playHistory_29 ?_
    refine x_if_le C 62 d_CellTransport_playHistory_32 rfl (fun h_32 => ?_) (fun h_32 => ?_)
    · exact tail fl M hr hM
    · refine x_iload_n C d_CellTransport_playHistory_35 (i := 1) rfl rfl ?_
      refine x_bipush C (12) d_CellTransport_playHistory_36 rfl ?_
      refine x_icmp_ge C 62 d_CellTransport_playHistory_38 rfl (fun h_38 => ?_) (fun h_38 => absurd (show (12 : Int32) ≤ nI fl from nI_le (a := 12) (by omega) (by omega)) h_38)
      exact tail fl M hr hM
  | succ n ih =>
    intro fl M hi hI hr hM
    have hI0 := hI
    obtain ⟨hR, w, jn, hL⟩ := hI
    refine x_aload_n C d_CellTransport_playHistory_25 (i := 0) rfl rfl ?_
    refine g_CellTransport_line C lk_CellTransport_40 d_CellTransport_playHistory_26 ?_
    refine g_Line_waitingN C lk_CellTransport_162 d_CellTransport_playHistory_29 ?_
    refine x_if_le C 62 d_CellTransport_playHistory_32 rfl (fun h_32 => ?_) (fun h_32 => ?_)
    · exact tail fl M (by rw [← hr, show f_hl (n + 1) fl M = (fl, M) from if_pos h_32]) (by rw [← hM, show f_hl (n + 1) fl M = (fl, M) from if_pos h_32])
    · have e : f_hl (n + 1) fl M = f_hl n (fl + 1) (f_fly (f_snd M (f_ww M - 1))) := if_neg h_32
      have hw0 : 0 < w := by
        rcases Nat.eq_zero_or_pos w with q | q
        · exact absurd (by rw [hL.2.2.1, q]; decide) h_32
        · exact q
      have ew : f_ww M = w := by unfold f_ww; rw [hL.2.2.1]; exact nI_clamp (by have := hL.1; have := hL.2.1; omega)
      have hL2 : z_LI M ((f_ww M - 1) + 1) jn := by rw [ew, show w - 1 + 1 = w by omega]; exact hL
      have hw : f_ww M - 1 < 12 := by have := hL.1; have := hL.2.1; omega
      have hI2 : z_HI (f_fly (f_snd M (f_ww M - 1))) := by
        obtain ⟨g1, g2⟩ := f_fly_kp (z_okR_kp (f_snd_kp M (f_ww M - 1)) hR) ⟨_, _, f_snd_LI hL2⟩
        exact ⟨z_okR_kp ((f_snd_kp M (f_ww M - 1)).tr g1) hR, g2⟩
      refine x_iload_n C d_CellTransport_playHistory_35 (i := 1) rfl rfl ?_
      refine x_bipush C (12) d_CellTransport_playHistory_36 rfl ?_
      refine x_icmp_ge C 62 d_CellTransport_playHistory_38 rfl (fun h_38 => absurd (show nI 12 ≤ nI fl from h_38) (nI_ge (by omega) (by decide))) (fun h_38 => ?_)
      refine x_aload_n C d_CellTransport_playHistory_41 (i := 0) rfl rfl ?_
      refine g_CellTransport_line C lk_CellTransport_40 d_CellTransport_playHistory_42 ?_
      refine x_aload_n C d_CellTransport_playHistory_45 (i := 0) rfl rfl ?_
      refine g_CellTransport_particle C lk_CellTransport_47 d_CellTransport_playHistory_46 ?_
      refine x_callVNv C (c_Line_sendLast hw hL2.2.2.1) mt_Line_sendLast zl_Line (zc_Line _) rfl rfl rfl (Nat.le_of_ble_eq_true rfl) (Nat.le_of_ble_eq_true rfl) lk_CellTransport_165 d_CellTransport_playHistory_49 ?_
      refine x_eqM (M2 := f_snd M (f_ww M - 1)) rfl ?_
      refine x_iinc C (nI (fl + 1)) d_CellTransport_playHistory_52 rfl (z_inc fl) rfl ?_
      refine x_aload_n C d_CellTransport_playHistory_55 (i := 0) rfl rfl ?_
      refine x_callVv C (c_CellTransport_fly (z_okR_kp (f_snd_kp M _) hR) ⟨_, _, f_snd_LI hL2⟩) mt_CellTransport_fly zl_CellTransport (zc_CellTransport _) rfl rfl rfl (Nat.le_of_ble_eq_true rfl) (Nat.le_of_ble_eq_true rfl) lk_CellTransport_169 d_CellTransport_playHistory_56 ?_
      refine x_goto C 25 d_CellTransport_playHistory_59 rfl ?_
      exact ih (fl + 1) _ (by omega) hI2 (by rw [← hr, e]) (by rw [← hM, e])
theorem c_CellTransport_playHistory {dA : Nat → ClassId} {ad : Nat → Nat} {M : z_M} (hR : ∀ r, r < 6 → z_okR M r) : z_CI y_CellTransport_playHistory b_CellTransport_playHistory 2 .int 5 dA ad [.ref (ad 0)] M (nI (f_hl 12 0 (f_h0 M)).1) (f_h2 (f_hl 12 0 (f_h0 M))) := by
  refine z_ofI [some (.ref (ad 0)), none] (by decide) (Nat.le_of_ble_eq_true rfl) rfl (fun k C E => ?_)
  have C : z_C dA ad k b_CellTransport_playHistory "CellTransport" 5 2 := C
  refine x_aload_n C d_CellTransport_playHistory_0 (i := 0) rfl rfl ?_
  refine g_CellTransport_line C lk_CellTransport_40 d_CellTransport_playHistory_1 ?_
  refine x_callVNv C (c_Line_empty ) mt_Line_empty zl_Line (zc_Line _) rfl rfl rfl (Nat.le_of_ble_eq_true rfl) (Nat.le_of_ble_eq_true rfl) lk_CellTransport_156 d_CellTransport_playHistory_4 ?_
  refine x_aload_n C d_CellTransport_playHistory_7 (i := 0) rfl rfl ?_
  refine g_CellTransport_line C lk_CellTransport_40 d_CellTransport_playHistory_8 ?_
  refine x_aload_n C d_CellTransport_playHistory_11 (i := 0) rfl rfl ?_
  refine g_CellTransport_sourceX C lk_CellTransport_109 d_CellTransport_playHistory_12 ?_
  refine x_eqi ((z_sv_get _ _ _ _ _ _ (Or.inl (by decide))).trans (z_sv_get _ _ _ _ _ _ (Or.inl (by decide)))) ?_
  refine x_aload_n C d_CellTransport_playHistory_15 (i := 0) rfl rfl ?_
  refine g_CellTransport_sourceY C lk_CellTransport_112 d_CellTransport_playHistory_16 ?_
  refine x_eqi ((z_sv_get _ _ _ _ _ _ (Or.inl (by decide))).trans (z_sv_get _ _ _ _ _ _ (Or.inl (by decide)))) ?_
  refine x_callVNi C (c_Line_join (M := z_sv (z_sv M 49 2 0) 49 3 0) (w := 0) (jn := 0) (by decide) (by decide) ((z_sv_get _ _ _ _ _ _ (Or.inr (by decide))).trans (z_sv_self _ _ _ _)) (z_sv_self _ _ _ _) _ _) mt_Line_join zl_Line (zc_Line _) rfl rfl rfl (Nat.le_of_ble_eq_true rfl) (Nat.le_of_ble_eq_true rfl) lk_CellTransport_159 d_CellTransport_playHistory_19 ?_
  refine x_pop C d_CellTransport_playHistory_22 rfl ?_
  refine x_iconst C (0) d_CellTransport_playHistory_23 rfl ?_
  refine x_istore_n C d_CellTransport_playHistory_24 (i := 1) rfl rfl ?_
  exact lp_CellTransport_playHistory C E 12 0 (f_h0 M) (by omega) (f_h0_HI hR).2 rfl rfl
theorem f_h2_kp {M0 : z_M} {p : Nat × z_M} (h : z_kp M0 p.2) : z_kp M0 (f_h2 p) := (h.sv (k := 34) (by decide) (by decide) _ _).sv (k := 34) (by decide) (by decide) _ _
def f_his (M : z_M) : Int32 × z_M := (nI (f_hl 12 0 (f_h0 M)).1, f_h2 (f_hl 12 0 (f_h0 M)))
theorem f_his_kp {M : z_M} (hR : ∀ r, r < 6 → z_okR M r) : z_kp M (f_his M).2 := by
  obtain ⟨k1, h1⟩ := f_h0_HI hR
  exact f_h2_kp (k1.tr (f_hl_kp 12 0 _ h1).1)
def f_run : Nat → Int32 → z_M → Int32 × z_M
  | 0, a, M => (a, M)
  | n + 1, a, M => f_run n (a + (f_his M).1) (f_his M).2
theorem f_run_kp : ∀ (n : Nat) (a : Int32) (M : z_M), (∀ r, r < 6 → z_okR M r) → z_kp M (f_run n a M).2 := by
  intro n
  induction n with
  | zero => intro a M _; exact z_kp.rf
  | succ n ih => intro a M hR; exact (f_his_kp hR).tr (ih _ _ (z_okR_kp (f_his_kp hR) hR))
theorem lp_CellTransport_run {dA : Nat → ClassId} {ad : Nat → Nat} {r0 : Int32} {M1 : z_M} {k : z_K} {N : Nat} (hN : N ≤ 2) (C : z_C dA ad k b_CellTransport_run "CellTransport" 6 4) (E : z_RI dA ad k .int r0 M1) :
    ∀ (n i : Nat) (a : Int32) (M : z_M), i + n = N → (∀ r, r < 6 → z_okR M r) → (f_run n a M).1 = r0 → (f_run n a M).2 = M1 → z_X dA ad k 15 [some (.ref (ad 0)), some (.int (nI N)), some (.int a), some (.int (nI i))] [] M := by
  intro n
  induction n with
  | zero =>
    intro i a M hi hR hr hM
    refine x_iload_n C d_CellTransport_run_15 (i := 3) rfl rfl ?_
    refine x_iload_n C d_CellTransport_run_16 (i := 1) rfl rfl ?_
    refine x_icmp_ge C 33 d_CellTransport_run_17 rfl (fun h_17 => ?_) (fun h_17 => absurd (nI_le (by omega) (by omega)) h_17)
    refine x_iload_n C d_CellTransport_run_33 (i := 2) rfl rfl ?_
    exact x_iret C E hr hM d_CellTransport_run_34
  | succ n ih =>
    intro i a M hi hR hr hM
    refine x_iload_n C d_CellTransport_run_15 (i := 3) rfl rfl ?_
    refine x_iload_n C d_CellTransport_run_16 (i := 1) rfl rfl ?_
    refine x_icmp_ge C 33 d_CellTransport_run_17 rfl (fun h_17 => absurd h_17 (nI_ge (by omega) (by omega))) (fun h_17 => ?_)
    refine x_iload_n C d_CellTransport_run_20 (i := 2) rfl rfl ?_
    refine x_aload_n C d_CellTransport_run_21 (i := 0) rfl rfl ?_
    refine x_callVi C (c_CellTransport_playHistory hR) mt_CellTransport_playHistory zl_CellTransport (zc_CellTransport _) rfl rfl rfl (Nat.le_of_ble_eq_true rfl) (Nat.le_of_ble_eq_true rfl) lk_CellTransport_125 d_CellTransport_run_22 ?_
    refine x_iadd C d_CellTransport_run_25 ?_
    refine x_istore_n C d_CellTransport_run_26 (i := 2) rfl rfl ?_
    refine x_iinc C (nI (i + 1)) d_CellTransport_run_27 rfl (z_inc i) rfl ?_
    refine x_goto C 15 d_CellTransport_run_30 rfl ?_
    exact ih (i + 1) _ (f_his M).2 (by omega) (z_okR_kp (f_his_kp hR) hR) hr hM
theorem c_CellTransport_runN {dA : Nat → ClassId} {ad : Nat → Nat} {M : z_M} {a : Int32} (hn : ¬ p_btw a 1 2) : z_CI y_CellTransport_run b_CellTransport_run 4 .int 6 dA ad [.ref (ad 0), .int a] M (-1) (M) := by
  refine z_ofI [some (.ref (ad 0)), some (.int a), none, none] (by decide) (Nat.le_of_ble_eq_true rfl) rfl (fun k C E => ?_)
  have C : z_C dA ad k b_CellTransport_run "CellTransport" 6 4 := C
  refine x_iload_n C d_CellTransport_run_0 (i := 1) rfl rfl ?_
  refine x_iconst C (1) d_CellTransport_run_1 rfl ?_
  refine x_iconst C (2) d_CellTransport_run_2 rfl ?_
  refine x_callSi C (c_CellTransport_isBetween _ _ _) mt_CellTransport_isBetween rfl rfl (Nat.le_of_ble_eq_true rfl) (Nat.le_of_ble_eq_true rfl) lk_CellTransport_51 d_CellTransport_run_3 ?_
  refine x_if_ne C 11 d_CellTransport_run_6 rfl (fun h_6 => ?_) (fun h_6 => ?_)
  · exact absurd (z_b_n0.mp h_6) hn
  · refine x_iconst C (-1) d_CellTransport_run_9 rfl ?_
    exact x_iret C E rfl rfl d_CellTransport_run_10
theorem c_CellTransport_runY {dA : Nat → ClassId} {ad : Nat → Nat} {M : z_M} {N : Nat} (h1 : 1 ≤ N) (hN : N ≤ 2) (hR : ∀ r, r < 6 → z_okR M r) : z_CI y_CellTransport_run b_CellTransport_run 4 .int 6 dA ad [.ref (ad 0), .int (nI N)] M ((f_run N 0 M).1) ((f_run N 0 M).2) := by
  refine z_ofI [some (.ref (ad 0)), some (.int (nI N)), none, none] (by decide) (Nat.le_of_ble_eq_true rfl) rfl (fun k C E => ?_)
  have C : z_C dA ad k b_CellTransport_run "CellTransport" 6 4 := C
  refine x_iload_n C d_CellTransport_run_0 (i := 1) rfl rfl ?_
  refine x_iconst C (1) d_CellTransport_run_1 rfl ?_
  refine x_iconst C (2) d_CellTransport_run_2 rfl ?_
  refine x_callSi C (c_CellTransport_isBetween _ _ _) mt_CellTransport_isBetween rfl rfl (Nat.le_of_ble_eq_true rfl) (Nat.le_of_ble_eq_true rfl) lk_CellTransport_51 d_CellTransport_run_3 ?_
  refine x_if_ne C 11 d_CellTransport_run_6 rfl (fun h_6 => ?_) (fun h_6 => absurd (show p_btw (nI N) 1 2 from ⟨nI_le (a := 1) h1 (by omega), nI_le (b := 2) hN (by decide)⟩) (z_b_0.mp h_6))
  refine x_iconst C (0) d_CellTransport_run_11 rfl ?_
  refine x_istore_n C d_CellTransport_run_12 (i := 2) rfl rfl ?_
  refine x_iconst C (0) d_CellTransport_run_13 rfl ?_
  refine x_istore_n C d_CellTransport_run_14 (i := 3) rfl rfl ?_
  exact lp_CellTransport_run hN C E N 0 0 M (by omega) hR rfl rfl
end
section
/-! ===== the reference: where each of its ints stands in the class's layout ===== -/
def z_m (a b : Nat) : Option (Nat × Nat) :=
  if a = 0 then (if b = 6 then some (53, 13) else if b = 7 then some (53, 14) else none)
  else if a < 4 then none
  else if a < 12 then (if b = 0 then some (58, a - 4) else if b = 1 then some (54, a - 4) else if b = 2 then some (55, a - 4) else if b = 3 then some (56, a - 4) else if b = 4 then some (57, a - 4) else none)
  else if a < 18 then (if b = 1 then some (62, a - 12) else if b = 2 then some (63, a - 12) else if b = 3 then some (64, a - 12) else if b = 4 then some (65, a - 12) else none)
  else if a < 24 then (if b = 1 then some (61, a - 18) else none)
  else if a = 24 then (if b = 1 then some (53, 6) else none)
  else if a < 31 then (if b < 8 then some (60, 8 * (a - 25) + b) else none)
  else if a = 31 then some (59, b)
  else if a = 32 then (if b = 0 then some (53, 15) else none)
  else if a = 34 then some (68, b)
  else if 36 ≤ a ∧ a < 42 then (if b < 4 then some (66, 4 * (a - 36) + b) else none)
  else if 43 ≤ a ∧ a < 49 then (if b < 6 then some (67, 6 * (a - 43) + b) else none)
  else if a = 49 then (if b = 2 then some (53, 21) else if b = 3 then some (53, 22) else none)
  else if a = 50 then some (69, b)
  else if a = 51 then some (70, b)
  else if a = 52 then (if b = 0 then some (53, 23) else if b = 1 then some (53, 24) else if b = 3 then some (53, 25) else if b = 4 then some (53, 26) else none)
  else none
def z_mi (x y : Nat) : Nat × Nat :=
  if x = 53 then (if y = 13 then (0, 6) else if y = 14 then (0, 7) else if y = 6 then (24, 1) else if y = 15 then (32, 0) else if y = 21 then (49, 2) else if y = 22 then (49, 3) else if y = 23 then (52, 0) else if y = 24 then (52, 1) else if y = 25 then (52, 3) else (52, 4))
  else if x = 58 then (y + 4, 0) else if x = 54 then (y + 4, 1) else if x = 55 then (y + 4, 2) else if x = 56 then (y + 4, 3) else if x = 57 then (y + 4, 4)
  else if x = 62 then (y + 12, 1) else if x = 63 then (y + 12, 2) else if x = 64 then (y + 12, 3) else if x = 65 then (y + 12, 4)
  else if x = 61 then (y + 18, 1) else if x = 60 then (25 + y / 8, y % 8) else if x = 59 then (31, y) else if x = 68 then (34, y)
  else if x = 66 then (36 + y / 4, y % 4) else if x = 67 then (43 + y / 6, y % 6) else if x = 69 then (50, y) else (51, y)
theorem z_m_inv {a b x y : Nat} (h : z_m a b = some (x, y)) : z_mi x y = (a, b) := by
  unfold z_m at h
  by_cases q1 : a = 0
  · rw [if_pos q1] at h
    by_cases q2 : b = 6
    · rw [if_pos q2] at h
      cases h
      simp [z_mi] <;> omega
    rw [if_neg q2] at h
    by_cases q3 : b = 7
    · rw [if_pos q3] at h
      cases h
      simp [z_mi] <;> omega
    rw [if_neg q3] at h
    cases h
  rw [if_neg q1] at h
  by_cases q4 : a < 4
  · rw [if_pos q4] at h
    cases h
  rw [if_neg q4] at h
  by_cases q5 : a < 12
  · rw [if_pos q5] at h
    by_cases q6 : b = 0
    · rw [if_pos q6] at h
      cases h
      simp [z_mi] <;> omega
    rw [if_neg q6] at h
    by_cases q7 : b = 1
    · rw [if_pos q7] at h
      cases h
      simp [z_mi] <;> omega
    rw [if_neg q7] at h
    by_cases q8 : b = 2
    · rw [if_pos q8] at h
      cases h
      simp [z_mi] <;> omega
    rw [if_neg q8] at h
    by_cases q9 : b = 3
    · rw [if_pos q9] at h
      cases h
      simp [z_mi] <;> omega
    rw [if_neg q9] at h
    by_cases q10 : b = 4
    · rw [if_pos q10] at h
      cases h
      simp [z_mi] <;> omega
    rw [if_neg q10] at h
    cases h
  rw [if_neg q5] at h
  by_cases q11 : a < 18
  · rw [if_pos q11] at h
    by_cases q12 : b = 1
    · rw [if_pos q12] at h
      cases h
      simp [z_mi] <;> omega
    rw [if_neg q12] at h
    by_cases q13 : b = 2
    · rw [if_pos q13] at h
      cases h
      simp [z_mi] <;> omega
    rw [if_neg q13] at h
    by_cases q14 : b = 3
    · rw [if_pos q14] at h
      cases h
      simp [z_mi] <;> omega
    rw [if_neg q14] at h
    by_cases q15 : b = 4
    · rw [if_pos q15] at h
      cases h
      simp [z_mi] <;> omega
    rw [if_neg q15] at h
    cases h
  rw [if_neg q11] at h
  by_cases q16 : a < 24
  · rw [if_pos q16] at h
    by_cases q17 : b = 1
    · rw [if_pos q17] at h
      cases h
      simp [z_mi] <;> omega
    rw [if_neg q17] at h
    cases h
  rw [if_neg q16] at h
  by_cases q18 : a = 24
  · rw [if_pos q18] at h
    by_cases q19 : b = 1
    · rw [if_pos q19] at h
      cases h
      simp [z_mi] <;> omega
    rw [if_neg q19] at h
    cases h
  rw [if_neg q18] at h
  by_cases q20 : a < 31
  · rw [if_pos q20] at h
    by_cases q21 : b < 8
    · rw [if_pos q21] at h
      cases h
      simp [z_mi] <;> omega
    rw [if_neg q21] at h
    cases h
  rw [if_neg q20] at h
  by_cases q22 : a = 31
  · rw [if_pos q22] at h
    cases h
    simp [z_mi] <;> omega
  rw [if_neg q22] at h
  by_cases q23 : a = 32
  · rw [if_pos q23] at h
    by_cases q24 : b = 0
    · rw [if_pos q24] at h
      cases h
      simp [z_mi] <;> omega
    rw [if_neg q24] at h
    cases h
  rw [if_neg q23] at h
  by_cases q25 : a = 34
  · rw [if_pos q25] at h
    cases h
    simp [z_mi] <;> omega
  rw [if_neg q25] at h
  by_cases q26 : 36 ≤ a ∧ a < 42
  · rw [if_pos q26] at h
    by_cases q27 : b < 4
    · rw [if_pos q27] at h
      cases h
      simp [z_mi] <;> omega
    rw [if_neg q27] at h
    cases h
  rw [if_neg q26] at h
  by_cases q28 : 43 ≤ a ∧ a < 49
  · rw [if_pos q28] at h
    by_cases q29 : b < 6
    · rw [if_pos q29] at h
      cases h
      simp [z_mi] <;> omega
    rw [if_neg q29] at h
    cases h
  rw [if_neg q28] at h
  by_cases q30 : a = 49
  · rw [if_pos q30] at h
    by_cases q31 : b = 2
    · rw [if_pos q31] at h
      cases h
      simp [z_mi] <;> omega
    rw [if_neg q31] at h
    by_cases q32 : b = 3
    · rw [if_pos q32] at h
      cases h
      simp [z_mi] <;> omega
    rw [if_neg q32] at h
    cases h
  rw [if_neg q30] at h
  by_cases q33 : a = 50
  · rw [if_pos q33] at h
    cases h
    simp [z_mi] <;> omega
  rw [if_neg q33] at h
  by_cases q34 : a = 51
  · rw [if_pos q34] at h
    cases h
    simp [z_mi] <;> omega
  rw [if_neg q34] at h
  by_cases q35 : a = 52
  · rw [if_pos q35] at h
    by_cases q36 : b = 0
    · rw [if_pos q36] at h
      cases h
      simp [z_mi] <;> omega
    rw [if_neg q36] at h
    by_cases q37 : b = 1
    · rw [if_pos q37] at h
      cases h
      simp [z_mi] <;> omega
    rw [if_neg q37] at h
    by_cases q38 : b = 3
    · rw [if_pos q38] at h
      cases h
      simp [z_mi] <;> omega
    rw [if_neg q38] at h
    by_cases q39 : b = 4
    · rw [if_pos q39] at h
      cases h
      simp [z_mi] <;> omega
    rw [if_neg q39] at h
    cases h
  rw [if_neg q35] at h
  cases h
theorem z_m_inj {a b a2 b2 : Nat} {q : Nat × Nat} (h : z_m a b = some q) (h2 : z_m a2 b2 = some q) : a = a2 ∧ b = b2 := by
  obtain ⟨x, y⟩ := q
  have e := (z_m_inv h).symm.trans (z_m_inv h2)
  exact ⟨congrArg Prod.fst e, congrArg Prod.snd e⟩
def z_V (B : z_M) : z_M := fun a b => match z_m a b with
  | some q => B q.1 q.2
  | none => 0
theorem z_V_at {B : z_M} {a b x y : Nat} (h : z_m a b = some (x, y)) : z_V B a b = B x y := by
  unfold z_V
  rw [h]
theorem z_m_surf {j : Nat} (hj : j < 8) : z_m (i_surf j) 0 = some (58, j) ∧ z_m (i_surf j) 1 = some (54, j) ∧ z_m (i_surf j) 2 = some (55, j) ∧ z_m (i_surf j) 3 = some (56, j) ∧ z_m (i_surf j) 4 = some (57, j) := by
  have h0 : ¬ 4 + j = 0 := by omega
  have h1 : ¬ 4 + j < 4 := by omega
  have h2 : 4 + j < 12 := by omega
  have h3 : 4 + j - 4 = j := by omega
  simp [z_m, i_surf, h0, h1, h2, h3]
theorem z_m_cell {j : Nat} (hj : j < 6) : z_m (i_cell j) 1 = some (62, j) ∧ z_m (i_cell j) 2 = some (63, j) ∧ z_m (i_cell j) 3 = some (64, j) ∧ z_m (i_cell j) 4 = some (65, j) := by
  have h0 : ¬ 12 + j = 0 := by omega
  have h1 : ¬ 12 + j < 4 := by omega
  have h2 : ¬ 12 + j < 12 := by omega
  have h3 : 12 + j < 18 := by omega
  have h4 : 12 + j - 12 = j := by omega
  simp [z_m, i_cell, h0, h1, h2, h3, h4]
theorem z_m_reg {j : Nat} (hj : j < 6) : z_m (i_reg j) 1 = some (61, j) := by
  have h0 : ¬ 18 + j = 0 := by omega
  have h1 : ¬ 18 + j < 4 := by omega
  have h2 : ¬ 18 + j < 12 := by omega
  have h3 : ¬ 18 + j < 18 := by omega
  have h4 : 18 + j < 24 := by omega
  have h5 : 18 + j - 18 = j := by omega
  simp [z_m, i_reg, h0, h1, h2, h3, h4, h5]
theorem z_m_tok {j t : Nat} (hj : j < 6) (ht : t < 8) : z_m (i_tok j) t = some (60, 8 * j + t) := by
  have h0 : ¬ 25 + j = 0 := by omega
  have h1 : ¬ 25 + j < 4 := by omega
  have h2 : ¬ 25 + j < 12 := by omega
  have h3 : ¬ 25 + j < 18 := by omega
  have h4 : ¬ 25 + j < 24 := by omega
  have h5 : ¬ 25 + j = 24 := by omega
  have h6 : 25 + j < 31 := by omega
  have h7 : 25 + j - 25 = j := by omega
  simp [z_m, i_tok, h0, h1, h2, h3, h4, h5, h6, h7, ht]
theorem z_m_talr {j t : Nat} (hj : j < 6) (ht : t < 4) : z_m (i_talr j) t = some (66, 4 * j + t) := by
  have h : ¬ 36 + j = 0 ∧ ¬ 36 + j < 4 ∧ ¬ 36 + j < 12 ∧ ¬ 36 + j < 18 ∧ ¬ 36 + j < 24 ∧ ¬ 36 + j = 24 ∧ ¬ 36 + j < 31 ∧ ¬ 36 + j = 31 ∧ ¬ 36 + j = 32 ∧ ¬ 36 + j = 34 ∧ 36 + j < 42 ∧ 36 + j - 36 = j := by omega
  simp [z_m, i_talr, h, ht]
theorem z_m_cror {j t : Nat} (hj : j < 6) (ht : t < 6) : z_m (i_cror j) t = some (67, 6 * j + t) := by
  have h : ¬ 43 + j = 0 ∧ ¬ 43 + j < 4 ∧ ¬ 43 + j < 12 ∧ ¬ 43 + j < 18 ∧ ¬ 43 + j < 24 ∧ ¬ 43 + j = 24 ∧ ¬ 43 + j < 31 ∧ ¬ 43 + j = 31 ∧ ¬ 43 + j = 32 ∧ ¬ 43 + j = 34 ∧ ¬ 43 + j < 42 ∧ 43 + j < 49 ∧ 43 + j - 43 = j := by omega
  simp [z_m, i_cror, h, ht]
theorem z_ix (a b c : Nat) : nI a * nI b + nI c = nI (a * b + c) := by rw [pk_mul, nI_add]
theorem z_out0 {P : Prop} [Decidable P] (h : z_b (¬ P) = 0) : P := Decidable.of_not_not (z_b_0.mp h)
theorem c_Model_out {dA : Nat → ClassId} {ad : Nat → Nat} {M : z_M} (v lo hi : Int32) : z_CI y_Model_out b_Model_out 3 .boolean 0 dA ad [.int v, .int lo, .int hi] M (z_b (¬ p_btw v lo hi)) (M) := by
  refine z_ofI [some (.int v), some (.int lo), some (.int hi)] (by decide) (Nat.le_of_ble_eq_true rfl) rfl (fun k C E => ?_)
  have C : z_C dA ad k b_Model_out "CellTransportModel" 0 3 := C
  refine x_iload_n C d_Model_out_0 (i := 0) rfl rfl ?_
  refine x_iload_n C d_Model_out_1 (i := 1) rfl rfl ?_
  refine x_icmp_lt C 10 d_Model_out_2 rfl (fun h_2 => ?_) (fun h_2 => ?_)
  · refine x_iconst C (1) d_Model_out_10 rfl ?_
    refine x_goto C 15 d_Model_out_11 rfl ?_
    exact x_zret C E (z_b_t (P := ¬ p_btw v lo hi) (fun q => Int32.not_lt.mpr q.1 h_2)).symm rfl rfl d_Model_out_15
  · refine x_iload_n C d_Model_out_5 (i := 0) rfl rfl ?_
    refine x_iload_n C d_Model_out_6 (i := 2) rfl rfl ?_
    refine x_icmp_le C 14 d_Model_out_7 rfl (fun h_7 => ?_) (fun h_7 => ?_)
    · refine x_iconst C (0) d_Model_out_14 rfl ?_
      exact x_zret C E (z_b_f (P := ¬ p_btw v lo hi) (fun q => q ⟨z_le h_2, h_7⟩)).symm rfl rfl d_Model_out_15
    · refine x_iconst C (1) d_Model_out_10 rfl ?_
      refine x_goto C 15 d_Model_out_11 rfl ?_
      exact x_zret C E (z_b_t (P := ¬ p_btw v lo hi) (fun q => h_7 q.2)).symm rfl rfl d_Model_out_15
theorem z_k01 {kd : Int32} (h : p_btw kd 0 1) (h0 : ¬ kd = 0) (h1 : ¬ kd = 1) : False := by
  obtain ⟨j, hj, e⟩ := nI_of2 (x := kd) (M := 1) (n := 1) (by decide) (Int32.not_lt.mpr h.1) h.2
  rcases (show j = 0 ∨ j = 1 by omega) with q | q
  · exact h0 (by rw [e, q]; rfl)
  · exact h1 (by rw [e, q]; rfl)
theorem c_Model_surfaceN {dA : Nat → ClassId} {ad : Nat → Nat} {M : z_M} {nm kd a b c : Int32} (hn : ¬ (p_btw nm 0 7 ∧ p_isS kd a b c)) : z_CI y_Model_surface b_Model_surface 8 .int 1 dA ad [.ref (ad 53), .int nm, .int kd, .int a, .int b, .int c] M (-1) (M) := by
  refine z_ofI [some (.ref (ad 53)), some (.int nm), some (.int kd), some (.int a), some (.int b), some (.int c), none, none] (by decide) (Nat.le_of_ble_eq_true rfl) rfl (fun k C E => ?_)
  have C : z_C dA ad k b_Model_surface "CellTransportModel" 1 8 := C
  by_cases k0 : kd = 0
  · subst k0
    refine x_iload_n C d_Model_surface_0 (i := 1) rfl rfl ?_
    refine x_iconst C (0) d_Model_surface_1 rfl ?_
    refine x_bipush C (7) d_Model_surface_2 rfl ?_
    refine x_callSi C (c_Model_out _ _ _) mt_Model_out rfl rfl (Nat.le_of_ble_eq_true rfl) (Nat.le_of_ble_eq_true rfl) lk_Model_66 d_Model_surface_4 ?_
    refine x_if_ne C 19 d_Model_surface_7 rfl (fun h_7 => ?_) (fun h_7 => ?_)
    · refine x_iconst C (-1) d_Model_surface_19 rfl ?_
      exact x_iret C E rfl rfl d_Model_surface_20
    · refine x_iload_n C d_Model_surface_10 (i := 2) rfl rfl ?_
      refine x_iconst C (0) d_Model_surface_11 rfl ?_
      refine x_iconst C (1) d_Model_surface_12 rfl ?_
      refine x_callSi C (c_Model_out _ _ _) mt_Model_out rfl rfl (Nat.le_of_ble_eq_true rfl) (Nat.le_of_ble_eq_true rfl) lk_Model_66 d_Model_surface_13 ?_
      refine x_if_eq C 21 d_Model_surface_16 rfl (fun h_16 => ?_) (fun h_16 => ?_)
      · refine x_iload_n C d_Model_surface_21 (i := 2) rfl rfl ?_
        refine x_if_ne C 30 d_Model_surface_22 rfl (fun h_22 => absurd rfl h_22) (fun h_22 => ?_)
        refine x_bipush C (9) d_Model_surface_25 rfl ?_
        refine x_goto C 33 d_Model_surface_27 rfl ?_
        refine x_istore C d_Model_surface_33 rfl ?_
        refine x_iload_n C d_Model_surface_35 (i := 3) rfl rfl ?_
        refine x_iload C d_Model_surface_36 rfl ?_
        refine x_ineg C d_Model_surface_38 ?_
        refine x_iload C d_Model_surface_39 rfl ?_
        refine x_callSi C (c_Model_out _ _ _) mt_Model_out rfl rfl (Nat.le_of_ble_eq_true rfl) (Nat.le_of_ble_eq_true rfl) lk_Model_66 d_Model_surface_41 ?_
        refine x_if_ne C 92 d_Model_surface_44 rfl (fun h_44 => ?_) (fun h_44 => ?_)
        · refine x_iconst C (-1) d_Model_surface_92 rfl ?_
          exact x_iret C E rfl rfl d_Model_surface_93
        · refine x_iload C d_Model_surface_47 rfl ?_
          refine x_iload C d_Model_surface_49 rfl ?_
          refine x_ineg C d_Model_surface_51 ?_
          refine x_iload C d_Model_surface_52 rfl ?_
          refine x_callSi C (c_Model_out _ _ _) mt_Model_out rfl rfl (Nat.le_of_ble_eq_true rfl) (Nat.le_of_ble_eq_true rfl) lk_Model_66 d_Model_surface_54 ?_
          refine x_if_ne C 92 d_Model_surface_57 rfl (fun h_57 => ?_) (fun h_57 => ?_)
          · refine x_iconst C (-1) d_Model_surface_92 rfl ?_
            exact x_iret C E rfl rfl d_Model_surface_93
          · refine x_iload C d_Model_surface_60 rfl ?_
            refine x_iload_n C d_Model_surface_62 (i := 2) rfl rfl ?_
            refine x_if_ne C 72 d_Model_surface_63 rfl (fun h_63 => absurd rfl h_63) (fun h_63 => ?_)
            refine x_sipush C (-9999) d_Model_surface_66 rfl ?_
            refine x_goto C 73 d_Model_surface_69 rfl ?_
            refine x_iload_n C d_Model_surface_73 (i := 2) rfl rfl ?_
            refine x_if_ne C 83 d_Model_surface_74 rfl (fun h_74 => absurd rfl h_74) (fun h_74 => ?_)
            refine x_sipush C (9999) d_Model_surface_77 rfl ?_
            refine x_goto C 86 d_Model_surface_80 rfl ?_
            refine x_callSi C (c_Model_out _ _ _) mt_Model_out rfl rfl (Nat.le_of_ble_eq_true rfl) (Nat.le_of_ble_eq_true rfl) lk_Model_66 d_Model_surface_86 ?_
            refine x_if_eq C 94 d_Model_surface_89 rfl (fun h_89 => ?_) (fun h_89 => ?_)
            · exact absurd ⟨z_out0 h_7, Or.inl ⟨rfl, ⟨z_out0 h_44, z_out0 h_57⟩, z_out0 h_89⟩⟩ hn
            · refine x_iconst C (-1) d_Model_surface_92 rfl ?_
              exact x_iret C E rfl rfl d_Model_surface_93
      · refine x_iconst C (-1) d_Model_surface_19 rfl ?_
        exact x_iret C E rfl rfl d_Model_surface_20
  · by_cases k1 : kd = 1
    · subst k1
      refine x_iload_n C d_Model_surface_0 (i := 1) rfl rfl ?_
      refine x_iconst C (0) d_Model_surface_1 rfl ?_
      refine x_bipush C (7) d_Model_surface_2 rfl ?_
      refine x_callSi C (c_Model_out _ _ _) mt_Model_out rfl rfl (Nat.le_of_ble_eq_true rfl) (Nat.le_of_ble_eq_true rfl) lk_Model_66 d_Model_surface_4 ?_
      refine x_if_ne C 19 d_Model_surface_7 rfl (fun h_7 => ?_) (fun h_7 => ?_)
      · refine x_iconst C (-1) d_Model_surface_19 rfl ?_
        exact x_iret C E rfl rfl d_Model_surface_20
      · refine x_iload_n C d_Model_surface_10 (i := 2) rfl rfl ?_
        refine x_iconst C (0) d_Model_surface_11 rfl ?_
        refine x_iconst C (1) d_Model_surface_12 rfl ?_
        refine x_callSi C (c_Model_out _ _ _) mt_Model_out rfl rfl (Nat.le_of_ble_eq_true rfl) (Nat.le_of_ble_eq_true rfl) lk_Model_66 d_Model_surface_13 ?_
        refine x_if_eq C 21 d_Model_surface_16 rfl (fun h_16 => ?_) (fun h_16 => ?_)
        · refine x_iload_n C d_Model_surface_21 (i := 2) rfl rfl ?_
          refine x_if_ne C 30 d_Model_surface_22 rfl (fun h_22 => ?_) (fun h_22 => absurd h_22 (by decide))
          refine x_sipush C (300) d_Model_surface_30 rfl ?_
          refine x_istore C d_Model_surface_33 rfl ?_
          refine x_iload_n C d_Model_surface_35 (i := 3) rfl rfl ?_
          refine x_iload C d_Model_surface_36 rfl ?_
          refine x_ineg C d_Model_surface_38 ?_
          refine x_iload C d_Model_surface_39 rfl ?_
          refine x_callSi C (c_Model_out _ _ _) mt_Model_out rfl rfl (Nat.le_of_ble_eq_true rfl) (Nat.le_of_ble_eq_true rfl) lk_Model_66 d_Model_surface_41 ?_
          refine x_if_ne C 92 d_Model_surface_44 rfl (fun h_44 => ?_) (fun h_44 => ?_)
          · refine x_iconst C (-1) d_Model_surface_92 rfl ?_
            exact x_iret C E rfl rfl d_Model_surface_93
          · refine x_iload C d_Model_surface_47 rfl ?_
            refine x_iload C d_Model_surface_49 rfl ?_
            refine x_ineg C d_Model_surface_51 ?_
            refine x_iload C d_Model_surface_52 rfl ?_
            refine x_callSi C (c_Model_out _ _ _) mt_Model_out rfl rfl (Nat.le_of_ble_eq_true rfl) (Nat.le_of_ble_eq_true rfl) lk_Model_66 d_Model_surface_54 ?_
            refine x_if_ne C 92 d_Model_surface_57 rfl (fun h_57 => ?_) (fun h_57 => ?_)
            · refine x_iconst C (-1) d_Model_surface_92 rfl ?_
              exact x_iret C E rfl rfl d_Model_surface_93
            · refine x_iload C d_Model_surface_60 rfl ?_
              refine x_iload_n C d_Model_surface_62 (i := 2) rfl rfl ?_
              refine x_if_ne C 72 d_Model_surface_63 rfl (fun h_63 => ?_) (fun h_63 => absurd h_63 (by decide))
              refine x_iconst C (0) d_Model_surface_72 rfl ?_
              refine x_iload_n C d_Model_surface_73 (i := 2) rfl rfl ?_
              refine x_if_ne C 83 d_Model_surface_74 rfl (fun h_74 => ?_) (fun h_74 => absurd h_74 (by decide))
              refine x_sipush C (300) d_Model_surface_83 rfl ?_
              refine x_callSi C (c_Model_out _ _ _) mt_Model_out rfl rfl (Nat.le_of_ble_eq_true rfl) (Nat.le_of_ble_eq_true rfl) lk_Model_66 d_Model_surface_86 ?_
              refine x_if_eq C 94 d_Model_surface_89 rfl (fun h_89 => ?_) (fun h_89 => ?_)
              · exact absurd ⟨z_out0 h_7, Or.inr ⟨rfl, ⟨z_out0 h_44, z_out0 h_57⟩, z_out0 h_89⟩⟩ hn
              · refine x_iconst C (-1) d_Model_surface_92 rfl ?_
                exact x_iret C E rfl rfl d_Model_surface_93
        · refine x_iconst C (-1) d_Model_surface_19 rfl ?_
          exact x_iret C E rfl rfl d_Model_surface_20
    · refine x_iload_n C d_Model_surface_0 (i := 1) rfl rfl ?_
      refine x_iconst C (0) d_Model_surface_1 rfl ?_
      refine x_bipush C (7) d_Model_surface_2 rfl ?_
      refine x_callSi C (c_Model_out _ _ _) mt_Model_out rfl rfl (Nat.le_of_ble_eq_true rfl) (Nat.le_of_ble_eq_true rfl) lk_Model_66 d_Model_surface_4 ?_
      refine x_if_ne C 19 d_Model_surface_7 rfl (fun h_7 => ?_) (fun h_7 => ?_)
      · refine x_iconst C (-1) d_Model_surface_19 rfl ?_
        exact x_iret C E rfl rfl d_Model_surface_20
      · refine x_iload_n C d_Model_surface_10 (i := 2) rfl rfl ?_
        refine x_iconst C (0) d_Model_surface_11 rfl ?_
        refine x_iconst C (1) d_Model_surface_12 rfl ?_
        refine x_callSi C (c_Model_out _ _ _) mt_Model_out rfl rfl (Nat.le_of_ble_eq_true rfl) (Nat.le_of_ble_eq_true rfl) lk_Model_66 d_Model_surface_13 ?_
        refine x_if_eq C 21 d_Model_surface_16 rfl (fun h_16 => ?_) (fun h_16 => ?_)
        · exact absurd (z_out0 h_16) (fun q => z_k01 q k0 k1)
        · refine x_iconst C (-1) d_Model_surface_19 rfl ?_
          exact x_iret C E rfl rfl d_Model_surface_20
def g_srf (M : z_M) (j : Nat) (kd a b c : Int32) : z_M := z_sv (z_sv (z_sv (z_sv (z_sv M 58 j 1) 54 j kd) 55 j a) 56 j b) 57 j c
theorem c_Model_surface0 {dA : Nat → ClassId} {ad : Nat → Nat} {M : z_M} {j : Nat} (hj : j < 8) {a b c : Int32} (hp : p_wth a b 9 ∧ p_btw c (-9999) 9999) : z_CI y_Model_surface b_Model_surface 8 .int 1 dA ad [.ref (ad 53), .int (nI j), .int 0, .int a, .int b, .int c] M (z_b (¬ M 58 j = 0)) (g_srf M j 0 a b c) := by
  refine z_ofI [some (.ref (ad 53)), some (.int (nI j)), some (.int 0), some (.int a), some (.int b), some (.int c), none, none] (by decide) (Nat.le_of_ble_eq_true rfl) rfl (fun k C E => ?_)
  have C : z_C dA ad k b_Model_surface "CellTransportModel" 1 8 := C
  have hb : p_btw (nI j) 0 7 := z_in (n := 7) (by omega) (by decide)
  refine x_iload_n C d_Model_surface_0 (i := 1) rfl rfl ?_
  refine x_iconst C (0) d_Model_surface_1 rfl ?_
  refine x_bipush C (7) d_Model_surface_2 rfl ?_
  refine x_callSi C (c_Model_out _ _ _) mt_Model_out rfl rfl (Nat.le_of_ble_eq_true rfl) (Nat.le_of_ble_eq_true rfl) lk_Model_66 d_Model_surface_4 ?_
  refine x_if_ne C 19 d_Model_surface_7 rfl (fun h_7 => absurd hb (z_b_n0.mp h_7)) (fun h_7 => ?_)
  refine x_iload_n C d_Model_surface_10 (i := 2) rfl rfl ?_
  refine x_iconst C (0) d_Model_surface_11 rfl ?_
  refine x_iconst C (1) d_Model_surface_12 rfl ?_
  refine x_callSi C (c_Model_out _ _ _) mt_Model_out rfl rfl (Nat.le_of_ble_eq_true rfl) (Nat.le_of_ble_eq_true rfl) lk_Model_66 d_Model_surface_13 ?_
  refine x_if_eq C 21 d_Model_surface_16 rfl (fun h_16 => ?_) (fun h_16 => absurd (by decide : p_btw 0 0 1) (z_b_n0.mp h_16))
  refine x_iload_n C d_Model_surface_21 (i := 2) rfl rfl ?_
  refine x_if_ne C 30 d_Model_surface_22 rfl (fun h_22 => absurd rfl h_22) (fun h_22 => ?_)
  refine x_bipush C (9) d_Model_surface_25 rfl ?_
  refine x_goto C 33 d_Model_surface_27 rfl ?_
  refine x_istore C d_Model_surface_33 rfl ?_
  refine x_iload_n C d_Model_surface_35 (i := 3) rfl rfl ?_
  refine x_iload C d_Model_surface_36 rfl ?_
  refine x_ineg C d_Model_surface_38 ?_
  refine x_iload C d_Model_surface_39 rfl ?_
  refine x_callSi C (c_Model_out _ _ _) mt_Model_out rfl rfl (Nat.le_of_ble_eq_true rfl) (Nat.le_of_ble_eq_true rfl) lk_Model_66 d_Model_surface_41 ?_
  refine x_if_ne C 92 d_Model_surface_44 rfl (fun h_44 => absurd hp.1.1 (z_b_n0.mp h_44)) (fun h_44 => ?_)
  refine x_iload C d_Model_surface_47 rfl ?_
  refine x_iload C d_Model_surface_49 rfl ?_
  refine x_ineg C d_Model_surface_51 ?_
  refine x_iload C d_Model_surface_52 rfl ?_
  refine x_callSi C (c_Model_out _ _ _) mt_Model_out rfl rfl (Nat.le_of_ble_eq_true rfl) (Nat.le_of_ble_eq_true rfl) lk_Model_66 d_Model_surface_54 ?_
  refine x_if_ne C 92 d_Model_surface_57 rfl (fun h_57 => absurd hp.1.2 (z_b_n0.mp h_57)) (fun h_57 => ?_)
  refine x_iload C d_Model_surface_60 rfl ?_
  refine x_iload_n C d_Model_surface_62 (i := 2) rfl rfl ?_
  refine x_if_ne C 72 d_Model_surface_63 rfl (fun h_63 => absurd rfl h_63) (fun h_63 => ?_)
  refine x_sipush C (-9999) d_Model_surface_66 rfl ?_
  refine x_goto C 73 d_Model_surface_69 rfl ?_
  refine x_iload_n C d_Model_surface_73 (i := 2) rfl rfl ?_
  refine x_if_ne C 83 d_Model_surface_74 rfl (fun h_74 => absurd rfl h_74) (fun h_74 => ?_)
  refine x_sipush C (9999) d_Model_surface_77 rfl ?_
  refine x_goto C 86 d_Model_surface_80 rfl ?_
  refine x_callSi C (c_Model_out _ _ _) mt_Model_out rfl rfl (Nat.le_of_ble_eq_true rfl) (Nat.le_of_ble_eq_true rfl) lk_Model_66 d_Model_surface_86 ?_
  refine x_if_eq C 94 d_Model_surface_89 rfl (fun h_89 => ?_) (fun h_89 => absurd hp.2 (z_b_n0.mp h_89))
  refine x_aload_n C d_Model_surface_94 (i := 0) rfl rfl ?_
  refine g_Model_set C lk_Model_22 d_Model_surface_95 ?_
  refine x_iload_n C d_Model_surface_98 (i := 1) rfl rfl ?_
  refine rn_ld_m_set C  hj d_Model_surface_99 ?_
  refine x_if_eq C 107 d_Model_surface_100 rfl (fun h_100 => ?_) (fun h_100 => ?_)
  · refine x_iconst C (0) d_Model_surface_107 rfl ?_
    refine x_istore C d_Model_surface_108 rfl ?_
    refine x_aload_n C d_Model_surface_110 (i := 0) rfl rfl ?_
    refine g_Model_set C lk_Model_22 d_Model_surface_111 ?_
    refine x_iload_n C d_Model_surface_114 (i := 1) rfl rfl ?_
    refine x_iconst C (1) d_Model_surface_115 rfl ?_
    refine rn_st_m_set C  hj rfl d_Model_surface_116 ?_
    refine x_aload_n C d_Model_surface_117 (i := 0) rfl rfl ?_
    refine g_Model_kind C lk_Model_7 d_Model_surface_118 ?_
    refine x_iload_n C d_Model_surface_121 (i := 1) rfl rfl ?_
    refine x_iload_n C d_Model_surface_122 (i := 2) rfl rfl ?_
    refine rn_st_m_kind C  hj d_Model_surface_123 ?_
    refine x_aload_n C d_Model_surface_124 (i := 0) rfl rfl ?_
    refine g_Model_sa C lk_Model_13 d_Model_surface_125 ?_
    refine x_iload_n C d_Model_surface_128 (i := 1) rfl rfl ?_
    refine x_iload_n C d_Model_surface_129 (i := 3) rfl rfl ?_
    refine rn_st_m_sa C  hj d_Model_surface_130 ?_
    refine x_aload_n C d_Model_surface_131 (i := 0) rfl rfl ?_
    refine g_Model_sb C lk_Model_16 d_Model_surface_132 ?_
    refine x_iload_n C d_Model_surface_135 (i := 1) rfl rfl ?_
    refine x_iload C d_Model_surface_136 rfl ?_
    refine rn_st_m_sb C  hj d_Model_surface_138 ?_
    refine x_aload_n C d_Model_surface_139 (i := 0) rfl rfl ?_
    refine g_Model_sc C lk_Model_19 d_Model_surface_140 ?_
    refine x_iload_n C d_Model_surface_143 (i := 1) rfl rfl ?_
    refine x_iload C d_Model_surface_144 rfl ?_
    refine rn_st_m_sc C  hj d_Model_surface_146 ?_
    refine x_iload C d_Model_surface_147 rfl ?_
    exact x_iret C E (z_b_f (fun q => q h_100)).symm rfl d_Model_surface_149
  · refine x_iconst C (1) d_Model_surface_103 rfl ?_
    refine x_goto C 108 d_Model_surface_104 rfl ?_
    refine x_istore C d_Model_surface_108 rfl ?_
    refine x_aload_n C d_Model_surface_110 (i := 0) rfl rfl ?_
    refine g_Model_set C lk_Model_22 d_Model_surface_111 ?_
    refine x_iload_n C d_Model_surface_114 (i := 1) rfl rfl ?_
    refine x_iconst C (1) d_Model_surface_115 rfl ?_
    refine rn_st_m_set C  hj rfl d_Model_surface_116 ?_
    refine x_aload_n C d_Model_surface_117 (i := 0) rfl rfl ?_
    refine g_Model_kind C lk_Model_7 d_Model_surface_118 ?_
    refine x_iload_n C d_Model_surface_121 (i := 1) rfl rfl ?_
    refine x_iload_n C d_Model_surface_122 (i := 2) rfl rfl ?_
    refine rn_st_m_kind C  hj d_Model_surface_123 ?_
    refine x_aload_n C d_Model_surface_124 (i := 0) rfl rfl ?_
    refine g_Model_sa C lk_Model_13 d_Model_surface_125 ?_
    refine x_iload_n C d_Model_surface_128 (i := 1) rfl rfl ?_
    refine x_iload_n C d_Model_surface_129 (i := 3) rfl rfl ?_
    refine rn_st_m_sa C  hj d_Model_surface_130 ?_
    refine x_aload_n C d_Model_surface_131 (i := 0) rfl rfl ?_
    refine g_Model_sb C lk_Model_16 d_Model_surface_132 ?_
    refine x_iload_n C d_Model_surface_135 (i := 1) rfl rfl ?_
    refine x_iload C d_Model_surface_136 rfl ?_
    refine rn_st_m_sb C  hj d_Model_surface_138 ?_
    refine x_aload_n C d_Model_surface_139 (i := 0) rfl rfl ?_
    refine g_Model_sc C lk_Model_19 d_Model_surface_140 ?_
    refine x_iload_n C d_Model_surface_143 (i := 1) rfl rfl ?_
    refine x_iload C d_Model_surface_144 rfl ?_
    refine rn_st_m_sc C  hj d_Model_surface_146 ?_
    refine x_iload C d_Model_surface_147 rfl ?_
    exact x_iret C E (z_b_t h_100).symm rfl d_Model_surface_149
theorem c_Model_surface1 {dA : Nat → ClassId} {ad : Nat → Nat} {M : z_M} {j : Nat} (hj : j < 8) {a b c : Int32} (hp : p_wth a b 300 ∧ p_btw c 0 300) : z_CI y_Model_surface b_Model_surface 8 .int 1 dA ad [.ref (ad 53), .int (nI j), .int 1, .int a, .int b, .int c] M (z_b (¬ M 58 j = 0)) (g_srf M j 1 a b c) := by
  refine z_ofI [some (.ref (ad 53)), some (.int (nI j)), some (.int 1), some (.int a), some (.int b), some (.int c), none, none] (by decide) (Nat.le_of_ble_eq_true rfl) rfl (fun k C E => ?_)
  have C : z_C dA ad k b_Model_surface "CellTransportModel" 1 8 := C
  have hb : p_btw (nI j) 0 7 := z_in (n := 7) (by omega) (by decide)
  refine x_iload_n C d_Model_surface_0 (i := 1) rfl rfl ?_
  refine x_iconst C (0) d_Model_surface_1 rfl ?_
  refine x_bipush C (7) d_Model_surface_2 rfl ?_
  refine x_callSi C (c_Model_out _ _ _) mt_Model_out rfl rfl (Nat.le_of_ble_eq_true rfl) (Nat.le_of_ble_eq_true rfl) lk_Model_66 d_Model_surface_4 ?_
  refine x_if_ne C 19 d_Model_surface_7 rfl (fun h_7 => absurd hb (z_b_n0.mp h_7)) (fun h_7 => ?_)
  refine x_iload_n C d_Model_surface_10 (i := 2) rfl rfl ?_
  refine x_iconst C (0) d_Model_surface_11 rfl ?_
  refine x_iconst C (1) d_Model_surface_12 rfl ?_
  refine x_callSi C (c_Model_out _ _ _) mt_Model_out rfl rfl (Nat.le_of_ble_eq_true rfl) (Nat.le_of_ble_eq_true rfl) lk_Model_66 d_Model_surface_13 ?_
  refine x_if_eq C 21 d_Model_surface_16 rfl (fun h_16 => ?_) (fun h_16 => absurd (by decide : p_btw 1 0 1) (z_b_n0.mp h_16))
  refine x_iload_n C d_Model_surface_21 (i := 2) rfl rfl ?_
  refine x_if_ne C 30 d_Model_surface_22 rfl (fun h_22 => ?_) (fun h_22 => absurd h_22 (by decide))
  refine x_sipush C (300) d_Model_surface_30 rfl ?_
  refine x_istore C d_Model_surface_33 rfl ?_
  refine x_iload_n C d_Model_surface_35 (i := 3) rfl rfl ?_
  refine x_iload C d_Model_surface_36 rfl ?_
  refine x_ineg C d_Model_surface_38 ?_
  refine x_iload C d_Model_surface_39 rfl ?_
  refine x_callSi C (c_Model_out _ _ _) mt_Model_out rfl rfl (Nat.le_of_ble_eq_true rfl) (Nat.le_of_ble_eq_true rfl) lk_Model_66 d_Model_surface_41 ?_
  refine x_if_ne C 92 d_Model_surface_44 rfl (fun h_44 => absurd hp.1.1 (z_b_n0.mp h_44)) (fun h_44 => ?_)
  refine x_iload C d_Model_surface_47 rfl ?_
  refine x_iload C d_Model_surface_49 rfl ?_
  refine x_ineg C d_Model_surface_51 ?_
  refine x_iload C d_Model_surface_52 rfl ?_
  refine x_callSi C (c_Model_out _ _ _) mt_Model_out rfl rfl (Nat.le_of_ble_eq_true rfl) (Nat.le_of_ble_eq_true rfl) lk_Model_66 d_Model_surface_54 ?_
  refine x_if_ne C 92 d_Model_surface_57 rfl (fun h_57 => absurd hp.1.2 (z_b_n0.mp h_57)) (fun h_57 => ?_)
  refine x_iload C d_Model_surface_60 rfl ?_
  refine x_iload_n C d_Model_surface_62 (i := 2) rfl rfl ?_
  refine x_if_ne C 72 d_Model_surface_63 rfl (fun h_63 => ?_) (fun h_63 => absurd h_63 (by decide))
  refine x_iconst C (0) d_Model_surface_72 rfl ?_
  refine x_iload_n C d_Model_surface_73 (i := 2) rfl rfl ?_
  refine x_if_ne C 83 d_Model_surface_74 rfl (fun h_74 => ?_) (fun h_74 => absurd h_74 (by decide))
  refine x_sipush C (300) d_Model_surface_83 rfl ?_
  refine x_callSi C (c_Model_out _ _ _) mt_Model_out rfl rfl (Nat.le_of_ble_eq_true rfl) (Nat.le_of_ble_eq_true rfl) lk_Model_66 d_Model_surface_86 ?_
  refine x_if_eq C 94 d_Model_surface_89 rfl (fun h_89 => ?_) (fun h_89 => absurd hp.2 (z_b_n0.mp h_89))
  refine x_aload_n C d_Model_surface_94 (i := 0) rfl rfl ?_
  refine g_Model_set C lk_Model_22 d_Model_surface_95 ?_
  refine x_iload_n C d_Model_surface_98 (i := 1) rfl rfl ?_
  refine rn_ld_m_set C  hj d_Model_surface_99 ?_
  refine x_if_eq C 107 d_Model_surface_100 rfl (fun h_100 => ?_) (fun h_100 => ?_)
  · refine x_iconst C (0) d_Model_surface_107 rfl ?_
    refine x_istore C d_Model_surface_108 rfl ?_
    refine x_aload_n C d_Model_surface_110 (i := 0) rfl rfl ?_
    refine g_Model_set C lk_Model_22 d_Model_surface_111 ?_
    refine x_iload_n C d_Model_surface_114 (i := 1) rfl rfl ?_
    refine x_iconst C (1) d_Model_surface_115 rfl ?_
    refine rn_st_m_set C  hj rfl d_Model_surface_116 ?_
    refine x_aload_n C d_Model_surface_117 (i := 0) rfl rfl ?_
    refine g_Model_kind C lk_Model_7 d_Model_surface_118 ?_
    refine x_iload_n C d_Model_surface_121 (i := 1) rfl rfl ?_
    refine x_iload_n C d_Model_surface_122 (i := 2) rfl rfl ?_
    refine rn_st_m_kind C  hj d_Model_surface_123 ?_
    refine x_aload_n C d_Model_surface_124 (i := 0) rfl rfl ?_
    refine g_Model_sa C lk_Model_13 d_Model_surface_125 ?_
    refine x_iload_n C d_Model_surface_128 (i := 1) rfl rfl ?_
    refine x_iload_n C d_Model_surface_129 (i := 3) rfl rfl ?_
    refine rn_st_m_sa C  hj d_Model_surface_130 ?_
    refine x_aload_n C d_Model_surface_131 (i := 0) rfl rfl ?_
    refine g_Model_sb C lk_Model_16 d_Model_surface_132 ?_
    refine x_iload_n C d_Model_surface_135 (i := 1) rfl rfl ?_
    refine x_iload C d_Model_surface_136 rfl ?_
    refine rn_st_m_sb C  hj d_Model_surface_138 ?_
    refine x_aload_n C d_Model_surface_139 (i := 0) rfl rfl ?_
    refine g_Model_sc C lk_Model_19 d_Model_surface_140 ?_
    refine x_iload_n C d_Model_surface_143 (i := 1) rfl rfl ?_
    refine x_iload C d_Model_surface_144 rfl ?_
    refine rn_st_m_sc C  hj d_Model_surface_146 ?_
    refine x_iload C d_Model_surface_147 rfl ?_
    exact x_iret C E (z_b_f (fun q => q h_100)).symm rfl d_Model_surface_149
  · refine x_iconst C (1) d_Model_surface_103 rfl ?_
    refine x_goto C 108 d_Model_surface_104 rfl ?_
    refine x_istore C d_Model_surface_108 rfl ?_
    refine x_aload_n C d_Model_surface_110 (i := 0) rfl rfl ?_
    refine g_Model_set C lk_Model_22 d_Model_surface_111 ?_
    refine x_iload_n C d_Model_surface_114 (i := 1) rfl rfl ?_
    refine x_iconst C (1) d_Model_surface_115 rfl ?_
    refine rn_st_m_set C  hj rfl d_Model_surface_116 ?_
    refine x_aload_n C d_Model_surface_117 (i := 0) rfl rfl ?_
    refine g_Model_kind C lk_Model_7 d_Model_surface_118 ?_
    refine x_iload_n C d_Model_surface_121 (i := 1) rfl rfl ?_
    refine x_iload_n C d_Model_surface_122 (i := 2) rfl rfl ?_
    refine rn_st_m_kind C  hj d_Model_surface_123 ?_
    refine x_aload_n C d_Model_surface_124 (i := 0) rfl rfl ?_
    refine g_Model_sa C lk_Model_13 d_Model_surface_125 ?_
    refine x_iload_n C d_Model_surface_128 (i := 1) rfl rfl ?_
    refine x_iload_n C d_Model_surface_129 (i := 3) rfl rfl ?_
    refine rn_st_m_sa C  hj d_Model_surface_130 ?_
    refine x_aload_n C d_Model_surface_131 (i := 0) rfl rfl ?_
    refine g_Model_sb C lk_Model_16 d_Model_surface_132 ?_
    refine x_iload_n C d_Model_surface_135 (i := 1) rfl rfl ?_
    refine x_iload C d_Model_surface_136 rfl ?_
    refine rn_st_m_sb C  hj d_Model_surface_138 ?_
    refine x_aload_n C d_Model_surface_139 (i := 0) rfl rfl ?_
    refine g_Model_sc C lk_Model_19 d_Model_surface_140 ?_
    refine x_iload_n C d_Model_surface_143 (i := 1) rfl rfl ?_
    refine x_iload C d_Model_surface_144 rfl ?_
    refine rn_st_m_sc C  hj d_Model_surface_146 ?_
    refine x_iload C d_Model_surface_147 rfl ?_
    exact x_iret C E (z_b_t h_100).symm rfl d_Model_surface_149
theorem z_lt8 {sz : Nat} (hz : sz ≤ 8) (h : ¬ nI sz = 8) : sz < 8 := by
  have a : sz ≠ 8 := fun q => h (by rw [q]; rfl)
  omega
theorem c_Model_tokenN {dA : Nat → ClassId} {ad : Nat → Nat} {M : z_M} {v : Int32} {sz : Nat} (hs : M 53 6 = nI sz) (hz : sz ≤ 8) (hn : ¬ (p_btw v 0 10 ∧ sz < 8)) : z_CI y_Model_token b_Model_token 2 .int 1 dA ad [.ref (ad 53), .int v] M (-1) (M) := by
  refine z_ofI [some (.ref (ad 53)), some (.int v)] (by decide) (Nat.le_of_ble_eq_true rfl) rfl (fun k C E => ?_)
  have C : z_C dA ad k b_Model_token "CellTransportModel" 1 2 := C
  refine x_iload_n C d_Model_token_0 (i := 1) rfl rfl ?_
  refine x_iconst C (0) d_Model_token_1 rfl ?_
  refine x_bipush C (10) d_Model_token_2 rfl ?_
  refine x_callSi C (c_Model_out _ _ _) mt_Model_out rfl rfl (Nat.le_of_ble_eq_true rfl) (Nat.le_of_ble_eq_true rfl) lk_Model_66 d_Model_token_4 ?_
  refine x_if_ne C 19 d_Model_token_7 rfl (fun h_7 => ?_) (fun h_7 => ?_)
  · refine x_iconst C (-1) d_Model_token_19 rfl ?_
    exact x_iret C E rfl rfl d_Model_token_20
  · refine x_aload_n C d_Model_token_10 (i := 0) rfl rfl ?_
    refine g_Model_held C lk_Model_70 d_Model_token_11 ?_
    refine x_eqi hs ?_
    refine x_bipush C (8) d_Model_token_14 rfl ?_
    refine x_icmp_ne C 21 d_Model_token_16 rfl (fun h_16 => ?_) (fun h_16 => ?_)
    · exact absurd ⟨z_out0 h_7, z_lt8 hz h_16⟩ hn
    · refine x_iconst C (-1) d_Model_token_19 rfl ?_
      exact x_iret C E rfl rfl d_Model_token_20
theorem c_Model_tokenY {dA : Nat → ClassId} {ad : Nat → Nat} {M : z_M} {v : Int32} {sz : Nat} (hs : M 53 6 = nI sz) (hv : p_btw v 0 10) (hz : sz < 8) : z_CI y_Model_token b_Model_token 2 .int 1 dA ad [.ref (ad 53), .int v] M (nI (sz + 1)) (z_sv (z_sv M 59 sz v) 53 6 (nI (sz + 1))) := by
  refine z_ofI [some (.ref (ad 53)), some (.int v)] (by decide) (Nat.le_of_ble_eq_true rfl) rfl (fun k C E => ?_)
  have C : z_C dA ad k b_Model_token "CellTransportModel" 1 2 := C
  refine x_iload_n C d_Model_token_0 (i := 1) rfl rfl ?_
  refine x_iconst C (0) d_Model_token_1 rfl ?_
  refine x_bipush C (10) d_Model_token_2 rfl ?_
  refine x_callSi C (c_Model_out _ _ _) mt_Model_out rfl rfl (Nat.le_of_ble_eq_true rfl) (Nat.le_of_ble_eq_true rfl) lk_Model_66 d_Model_token_4 ?_
  refine x_if_ne C 19 d_Model_token_7 rfl (fun h_7 => absurd hv (z_b_n0.mp h_7)) (fun h_7 => ?_)
  refine x_aload_n C d_Model_token_10 (i := 0) rfl rfl ?_
  refine g_Model_held C lk_Model_70 d_Model_token_11 ?_
  refine x_eqi hs ?_
  refine x_bipush C (8) d_Model_token_14 rfl ?_
  refine x_icmp_ne C 21 d_Model_token_16 rfl (fun h_16 => ?_) (fun h_16 => absurd ((nI_eq (a := sz) (b := 8) (by omega) (by decide)).mp h_16) (by omega))
  refine x_aload_n C d_Model_token_21 (i := 0) rfl rfl ?_
  refine g_Model_buffer C lk_Model_26 d_Model_token_22 ?_
  refine x_aload_n C d_Model_token_25 (i := 0) rfl rfl ?_
  refine g_Model_held C lk_Model_70 d_Model_token_26 ?_
  refine x_eqi hs ?_
  refine x_iload_n C d_Model_token_29 (i := 1) rfl rfl ?_
  refine rn_st_m_buffer C  hz d_Model_token_30 ?_
  refine x_aload_n C d_Model_token_31 (i := 0) rfl rfl ?_
  refine x_dup C d_Model_token_32 rfl ?_
  refine g_Model_held C lk_Model_70 d_Model_token_33 ?_
  refine x_eqi ((z_sv_get M _ _ _ _ v (Or.inl (by decide))).trans hs) ?_
  refine x_iconst C (1) d_Model_token_36 rfl ?_
  refine x_iadd C d_Model_token_37 ?_
  refine x_eqi (nI_1 sz) ?_
  refine u_Model_held C lk_Model_70 d_Model_token_38 ?_
  refine x_aload_n C d_Model_token_41 (i := 0) rfl rfl ?_
  refine g_Model_held C lk_Model_70 d_Model_token_42 ?_
  refine x_eqi (z_sv_self _ _ _ _) ?_
  exact x_iret C E rfl rfl d_Model_token_45
theorem z_ops0 {v : Nat} (h : v < 8) : f_ops (nI v) = 0 := by
  have a8 : ¬ nI v = 8 := fun q => by have := (nI_eq (a := v) (b := 8) (by omega) (by decide)).mp q; omega
  have a9 : ¬ nI v = 9 := fun q => by have := (nI_eq (a := v) (b := 9) (by omega) (by decide)).mp q; omega
  have a10 : ¬ nI v = 10 := fun q => by have := (nI_eq (a := v) (b := 10) (by omega) (by decide)).mp q; omega
  rw [f_ops, if_neg a8, if_neg a9, if_neg a10]
theorem z_ops2 {v : Nat} (hv : v ≤ 10) (h8 : ¬ v < 8) (h10 : ¬ v = 10) : f_ops (nI v) = 2 := by
  rcases (show v = 8 ∨ v = 9 by omega) with rfl | rfl <;> rfl
theorem lp_Model_told {dA : Nat → ClassId} {ad : Nat → Nat} {M : z_M} {k : z_K} {sz : Nat} (hsz : sz ≤ 8) (hs : M 53 6 = nI sz) (ht : ∀ t, t < sz → ∃ v, v ≤ 10 ∧ M 59 t = nI v) {r0 : Int32} (C : z_C dA ad k b_Model_told "CellTransportModel" 0 4) (E : z_RI dA ad k .boolean r0 M) :
    ∀ (n i : Nat) (o : Int32) (a3 : Option Value), i + n = sz → f_wh (M 59) n i o = r0 → z_X dA ad k 4 [some (.ref (ad 53)), some (.int o), some (.int (nI i)), a3] [] M := by
  intro n
  induction n with
  | zero =>
    intro i o a3 hi hr
    refine x_iload_n C d_Model_told_4 (i := 2) rfl rfl ?_
    refine x_aload_n C d_Model_told_5 (i := 0) rfl rfl ?_
    refine g_Model_held C lk_Model_70 d_Model_told_6 ?_
    refine x_eqi hs ?_
    refine x_icmp_ge C 63 d_Model_told_9 rfl (fun h_9 => ?_) (fun h_9 => absurd (nI_le (by omega) (by omega)) h_9)
    refine x_iload_n C d_Model_told_63 (i := 1) rfl rfl ?_
    refine x_iconst C (1) d_Model_told_64 rfl ?_
    refine x_icmp_ne C 72 d_Model_told_65 rfl (fun h_65 => ?_) (fun h_65 => ?_)
    · refine x_iconst C (0) d_Model_told_72 rfl ?_
      exact x_zret C E (hr ▸ (z_b_f h_65).symm) rfl rfl d_Model_told_73
    · refine x_iconst C (1) d_Model_told_68 rfl ?_
      refine x_goto C 73 d_Model_told_69 rfl ?_
      exact x_zret C E (hr ▸ (z_b_t h_65).symm) rfl rfl d_Model_told_73
  | succ n ih =>
    intro i o a3 hi hr
    have hi8 : i < 8 := by omega
    obtain ⟨v, hv, ev⟩ := ht i (by omega)
    by_cases v8 : v < 8
    · have ef : f_ops (M 59 i) = 0 := by rw [ev]; exact z_ops0 v8
      refine x_iload_n C d_Model_told_4 (i := 2) rfl rfl ?_
      refine x_aload_n C d_Model_told_5 (i := 0) rfl rfl ?_
      refine g_Model_held C lk_Model_70 d_Model_told_6 ?_
      refine x_eqi hs ?_
      refine x_icmp_ge C 63 d_Model_told_9 rfl (fun h_9 => absurd h_9 (nI_ge (by omega) (by omega))) (fun h_9 => ?_)
      refine x_aload_n C d_Model_told_12 (i := 0) rfl rfl ?_
      refine g_Model_buffer C lk_Model_26 d_Model_told_13 ?_
      refine x_iload_n C d_Model_told_16 (i := 2) rfl rfl ?_
      refine rn_ld_m_buffer C  hi8 d_Model_told_17 ?_
      refine x_eqi ev ?_
      refine x_bipush C (8) d_Model_told_18 rfl ?_
      refine x_icmp_ge C 27 d_Model_told_20 rfl (fun h_20 => absurd (show nI 8 ≤ nI v from h_20) (nI_ge v8 (by decide))) (fun h_20 => ?_)
      refine x_iconst C (0) d_Model_told_23 rfl ?_
      refine x_goto C 43 d_Model_told_24 rfl ?_
      refine x_istore_n C d_Model_told_43 (i := 3) rfl rfl ?_
      refine x_iload_n C d_Model_told_44 (i := 1) rfl rfl ?_
      refine x_iload_n C d_Model_told_45 (i := 3) rfl rfl ?_
      refine x_icmp_ge C 51 d_Model_told_46 rfl (fun h_46 => ?_) (fun h_46 => ?_)
      · refine x_iload_n C d_Model_told_51 (i := 1) rfl rfl ?_
        refine x_iconst C (1) d_Model_told_52 rfl ?_
        refine x_iload_n C d_Model_told_53 (i := 3) rfl rfl ?_
        refine x_isub C d_Model_told_54 ?_
        refine x_iadd C d_Model_told_55 ?_
        refine x_istore_n C d_Model_told_56 (i := 1) rfl rfl ?_
        refine x_iinc C (nI (i + 1)) d_Model_told_57 rfl (z_inc i) rfl ?_
        refine x_goto C 4 d_Model_told_60 rfl ?_
        exact ih (i + 1) _ _ (by omega) (by rw [← hr]; show _ = (if f_ops (M 59 i) ≤ o then f_wh (M 59) n (i + 1) (o + (1 - f_ops (M 59 i))) else 0); rw [ef, if_pos h_46])
      · refine x_iconst C (0) d_Model_told_49 rfl ?_
        exact x_zret C E (by rw [← hr]; show _ = (if f_ops (M 59 i) ≤ o then f_wh (M 59) n (i + 1) (o + (1 - f_ops (M 59 i))) else 0); rw [ef, if_neg h_46]) rfl rfl d_Model_told_50
    · by_cases v10 : v = 10
      · have ef : f_ops (M 59 i) = 1 := by rw [ev, v10]; rfl
        refine x_iload_n C d_Model_told_4 (i := 2) rfl rfl ?_
        refine x_aload_n C d_Model_told_5 (i := 0) rfl rfl ?_
        refine g_Model_held C lk_Model_70 d_Model_told_6 ?_
        refine x_eqi hs ?_
        refine x_icmp_ge C 63 d_Model_told_9 rfl (fun h_9 => absurd h_9 (nI_ge (by omega) (by omega))) (fun h_9 => ?_)
        refine x_aload_n C d_Model_told_12 (i := 0) rfl rfl ?_
        refine g_Model_buffer C lk_Model_26 d_Model_told_13 ?_
        refine x_iload_n C d_Model_told_16 (i := 2) rfl rfl ?_
        refine rn_ld_m_buffer C  hi8 d_Model_told_17 ?_
        refine x_eqi ev ?_
        refine x_bipush C (8) d_Model_told_18 rfl ?_
        refine x_icmp_ge C 27 d_Model_told_20 rfl (fun h_20 => ?_) (fun h_20 => absurd (show nI 8 ≤ nI v from nI_le (by omega) (by omega)) h_20)
        refine x_aload_n C d_Model_told_27 (i := 0) rfl rfl ?_
        refine g_Model_buffer C lk_Model_26 d_Model_told_28 ?_
        refine x_iload_n C d_Model_told_31 (i := 2) rfl rfl ?_
        refine rn_ld_m_buffer C  hi8 d_Model_told_32 ?_
        refine x_eqi ev ?_
        refine x_bipush C (10) d_Model_told_33 rfl ?_
        refine x_icmp_ne C 42 d_Model_told_35 rfl (fun h_35 => absurd (show nI v = 10 by rw [v10]; rfl) h_35) (fun h_35 => ?_)
        refine x_iconst C (1) d_Model_told_38 rfl ?_
        refine x_goto C 43 d_Model_told_39 rfl ?_
        refine x_istore_n C d_Model_told_43 (i := 3) rfl rfl ?_
        refine x_iload_n C d_Model_told_44 (i := 1) rfl rfl ?_
        refine x_iload_n C d_Model_told_45 (i := 3) rfl rfl ?_
        refine x_icmp_ge C 51 d_Model_told_46 rfl (fun h_46 => ?_) (fun h_46 => ?_)
        · refine x_iload_n C d_Model_told_51 (i := 1) rfl rfl ?_
          refine x_iconst C (1) d_Model_told_52 rfl ?_
          refine x_iload_n C d_Model_told_53 (i := 3) rfl rfl ?_
          refine x_isub C d_Model_told_54 ?_
          refine x_iadd C d_Model_told_55 ?_
          refine x_istore_n C d_Model_told_56 (i := 1) rfl rfl ?_
          refine x_iinc C (nI (i + 1)) d_Model_told_57 rfl (z_inc i) rfl ?_
          refine x_goto C 4 d_Model_told_60 rfl ?_
          exact ih (i + 1) _ _ (by omega) (by rw [← hr]; show _ = (if f_ops (M 59 i) ≤ o then f_wh (M 59) n (i + 1) (o + (1 - f_ops (M 59 i))) else 0); rw [ef, if_pos h_46])
        · refine x_iconst C (0) d_Model_told_49 rfl ?_
          exact x_zret C E (by rw [← hr]; show _ = (if f_ops (M 59 i) ≤ o then f_wh (M 59) n (i + 1) (o + (1 - f_ops (M 59 i))) else 0); rw [ef, if_neg h_46]) rfl rfl d_Model_told_50
      · have ef : f_ops (M 59 i) = 2 := by rw [ev]; exact z_ops2 hv v8 v10
        refine x_iload_n C d_Model_told_4 (i := 2) rfl rfl ?_
        refine x_aload_n C d_Model_told_5 (i := 0) rfl rfl ?_
        refine g_Model_held C lk_Model_70 d_Model_told_6 ?_
        refine x_eqi hs ?_
        refine x_icmp_ge C 63 d_Model_told_9 rfl (fun h_9 => absurd h_9 (nI_ge (by omega) (by omega))) (fun h_9 => ?_)
        refine x_aload_n C d_Model_told_12 (i := 0) rfl rfl ?_
        refine g_Model_buffer C lk_Model_26 d_Model_told_13 ?_
        refine x_iload_n C d_Model_told_16 (i := 2) rfl rfl ?_
        refine rn_ld_m_buffer C  hi8 d_Model_told_17 ?_
        refine x_eqi ev ?_
        refine x_bipush C (8) d_Model_told_18 rfl ?_
        refine x_icmp_ge C 27 d_Model_told_20 rfl (fun h_20 => ?_) (fun h_20 => absurd (show nI 8 ≤ nI v from nI_le (by omega) (by omega)) h_20)
        refine x_aload_n C d_Model_told_27 (i := 0) rfl rfl ?_
        refine g_Model_buffer C lk_Model_26 d_Model_told_28 ?_
        refine x_iload_n C d_Model_told_31 (i := 2) rfl rfl ?_
        refine rn_ld_m_buffer C  hi8 d_Model_told_32 ?_
        refine x_eqi ev ?_
        refine x_bipush C (10) d_Model_told_33 rfl ?_
        refine x_icmp_ne C 42 d_Model_told_35 rfl (fun h_35 => ?_) (fun h_35 => absurd ((nI_eq (a := v) (b := 10) (by omega) (by decide)).mp h_35) v10)
        refine x_iconst C (2) d_Model_told_42 rfl ?_
        refine x_istore_n C d_Model_told_43 (i := 3) rfl rfl ?_
        refine x_iload_n C d_Model_told_44 (i := 1) rfl rfl ?_
        refine x_iload_n C d_Model_told_45 (i := 3) rfl rfl ?_
        refine x_icmp_ge C 51 d_Model_told_46 rfl (fun h_46 => ?_) (fun h_46 => ?_)
        · refine x_iload_n C d_Model_told_51 (i := 1) rfl rfl ?_
          refine x_iconst C (1) d_Model_told_52 rfl ?_
          refine x_iload_n C d_Model_told_53 (i := 3) rfl rfl ?_
          refine x_isub C d_Model_told_54 ?_
          refine x_iadd C d_Model_told_55 ?_
          refine x_istore_n C d_Model_told_56 (i := 1) rfl rfl ?_
          refine x_iinc C (nI (i + 1)) d_Model_told_57 rfl (z_inc i) rfl ?_
          refine x_goto C 4 d_Model_told_60 rfl ?_
          exact ih (i + 1) _ _ (by omega) (by rw [← hr]; show _ = (if f_ops (M 59 i) ≤ o then f_wh (M 59) n (i + 1) (o + (1 - f_ops (M 59 i))) else 0); rw [ef, if_pos h_46])
        · refine x_iconst C (0) d_Model_told_49 rfl ?_
          exact x_zret C E (by rw [← hr]; show _ = (if f_ops (M 59 i) ≤ o then f_wh (M 59) n (i + 1) (o + (1 - f_ops (M 59 i))) else 0); rw [ef, if_neg h_46]) rfl rfl d_Model_told_50
theorem c_Model_told {dA : Nat → ClassId} {ad : Nat → Nat} {M : z_M} {sz : Nat} (hsz : sz ≤ 8) (hs : M 53 6 = nI sz) (ht : ∀ t, t < sz → ∃ v, v ≤ 10 ∧ M 59 t = nI v) : z_CI y_Model_told b_Model_told 4 .boolean 0 dA ad [.ref (ad 53)] M (f_wh (M 59) sz 0 0) (M) := by
  refine z_ofI [some (.ref (ad 53)), none, none, none] (by decide) (Nat.le_of_ble_eq_true rfl) rfl (fun k C E => ?_)
  have C : z_C dA ad k b_Model_told "CellTransportModel" 0 4 := C
  refine x_iconst C (0) d_Model_told_0 rfl ?_
  refine x_istore_n C d_Model_told_1 (i := 1) rfl rfl ?_
  refine x_iconst C (0) d_Model_told_2 rfl ?_
  refine x_istore_n C d_Model_told_3 (i := 2) rfl rfl ?_
  exact lp_Model_told hsz hs ht C E sz 0 0 none (by omega) rfl
end
section
theorem x_eql {dA : Nat → ClassId} {ad : Nat → Nat} {k : z_K} {pc : Nat} {lv : List (Option Value)} {st : List Value} {M : z_M} {x y : Int64} (h : x = y) (kk : z_X dA ad k pc lv (.long y :: st) M) : z_X dA ad k pc lv (.long x :: st) M := by rw [h]; exact kk
def g_cp (j : Nat) : Nat → Nat → z_M → z_M
  | 0, _, M => M
  | n + 1, i, M => g_cp j n (i + 1) (z_sv M 60 (8 * j + i) (M 59 i))
theorem g_cp_row (j : Nat) : ∀ (n i : Nat) (M : z_M) {a : Nat}, a ≠ 60 → g_cp j n i M a = M a := by
  intro n
  induction n with
  | zero => intro i M a _; rfl
  | succ n ih => intro i M a ha; exact (ih (i + 1) _ ha).trans (z_sv_row M _ _ ha)
def g_ce0 (M : z_M) (j sz : Nat) : z_M := g_cp j sz 0 (z_sv M 53 6 0)
def g_ce1 (M : z_M) (j sz : Nat) (de ab fi : Int32) : z_M := z_sv (z_sv (z_sv (z_sv (g_ce0 M j sz) 61 j (nI sz)) 63 j de) 64 j ab) 65 j fi
def g_cel (M : z_M) (j sz : Nat) (de ab fi : Int32) : z_M := z_sv (g_ce1 M j sz de ab fi) 62 j 1
theorem g_ce1_62 (M : z_M) (j sz : Nat) (de ab fi : Int32) : g_ce1 M j sz de ab fi 62 = M 62 := by
  unfold g_ce1 g_ce0
  rw [z_sv_row _ _ _ (by decide), z_sv_row _ _ _ (by decide), z_sv_row _ _ _ (by decide), z_sv_row _ _ _ (by decide), g_cp_row _ _ _ _ (by decide), z_sv_row _ _ _ (by decide)]
theorem c_Model_cellN {dA : Nat → ClassId} {ad : Nat → Nat} {M : z_M} {nm de ab fi : Int32} (hn : ¬ (p_btw nm 0 5 ∧ p_btw de 0 1000 ∧ p_shr ab fi)) : z_CI y_Model_cell b_Model_cell 8 .int 1 dA ad [.ref (ad 53), .int nm, .int de, .int ab, .int fi] M (-1) (M) := by
  refine z_ofI [some (.ref (ad 53)), some (.int nm), some (.int de), some (.int ab), some (.int fi), none, none, none] (by decide) (Nat.le_of_ble_eq_true rfl) rfl (fun k C E => ?_)
  have C : z_C dA ad k b_Model_cell "CellTransportModel" 1 8 := C
  refine x_iload_n C d_Model_cell_0 (i := 1) rfl rfl ?_
  refine x_iconst C (0) d_Model_cell_1 rfl ?_
  refine x_iconst C (5) d_Model_cell_2 rfl ?_
  refine x_callSi C (c_Model_out _ _ _) mt_Model_out rfl rfl (Nat.le_of_ble_eq_true rfl) (Nat.le_of_ble_eq_true rfl) lk_Model_66 d_Model_cell_3 ?_
  refine x_if_ne C 45 d_Model_cell_6 rfl (fun h_6 => ?_) (fun h_6 => ?_)
  · refine x_iconst C (-1) d_Model_cell_45 rfl ?_
    exact x_iret C E rfl rfl d_Model_cell_46
  · refine x_iload_n C d_Model_cell_9 (i := 2) rfl rfl ?_
    refine x_iconst C (0) d_Model_cell_10 rfl ?_
    refine x_sipush C (1000) d_Model_cell_11 rfl ?_
    refine x_callSi C (c_Model_out _ _ _) mt_Model_out rfl rfl (Nat.le_of_ble_eq_true rfl) (Nat.le_of_ble_eq_true rfl) lk_Model_66 d_Model_cell_14 ?_
    refine x_if_ne C 45 d_Model_cell_17 rfl (fun h_17 => ?_) (fun h_17 => ?_)
    · refine x_iconst C (-1) d_Model_cell_45 rfl ?_
      exact x_iret C E rfl rfl d_Model_cell_46
    · refine x_iload_n C d_Model_cell_20 (i := 3) rfl rfl ?_
      refine x_iconst C (0) d_Model_cell_21 rfl ?_
      refine x_sipush C (1000) d_Model_cell_22 rfl ?_
      refine x_callSi C (c_Model_out _ _ _) mt_Model_out rfl rfl (Nat.le_of_ble_eq_true rfl) (Nat.le_of_ble_eq_true rfl) lk_Model_66 d_Model_cell_25 ?_
      refine x_if_ne C 45 d_Model_cell_28 rfl (fun h_28 => ?_) (fun h_28 => ?_)
      · refine x_iconst C (-1) d_Model_cell_45 rfl ?_
        exact x_iret C E rfl rfl d_Model_cell_46
      · refine x_iload C d_Model_cell_31 rfl ?_
        refine x_iconst C (0) d_Model_cell_33 rfl ?_
        refine x_sipush C (1000) d_Model_cell_34 rfl ?_
        refine x_iload_n C d_Model_cell_37 (i := 3) rfl rfl ?_
        refine x_isub C d_Model_cell_38 ?_
        refine x_callSi C (c_Model_out _ _ _) mt_Model_out rfl rfl (Nat.le_of_ble_eq_true rfl) (Nat.le_of_ble_eq_true rfl) lk_Model_66 d_Model_cell_39 ?_
        refine x_if_eq C 47 d_Model_cell_42 rfl (fun h_42 => ?_) (fun h_42 => ?_)
        · exact absurd ⟨z_out0 h_6, z_out0 h_17, z_out0 h_28, z_out0 h_42⟩ hn
        · refine x_iconst C (-1) d_Model_cell_45 rfl ?_
          exact x_iret C E rfl rfl d_Model_cell_46
theorem c_Model_cellW {dA : Nat → ClassId} {ad : Nat → Nat} {M : z_M} {nm de ab fi : Int32} {sz : Nat} (hs : M 53 6 = nI sz) (hz : sz ≤ 8) (ht : ∀ t, t < sz → ∃ v, v ≤ 10 ∧ M 59 t = nI v) (hb : p_btw nm 0 5 ∧ p_btw de 0 1000 ∧ p_shr ab fi) (hw : f_wh (M 59) sz 0 0 = 0) : z_CI y_Model_cell b_Model_cell 8 .int 1 dA ad [.ref (ad 53), .int nm, .int de, .int ab, .int fi] M (-1) (z_sv M 53 6 0) := by
  refine z_ofI [some (.ref (ad 53)), some (.int nm), some (.int de), some (.int ab), some (.int fi), none, none, none] (by decide) (Nat.le_of_ble_eq_true rfl) rfl (fun k C E => ?_)
  have C : z_C dA ad k b_Model_cell "CellTransportModel" 1 8 := C
  refine x_iload_n C d_Model_cell_0 (i := 1) rfl rfl ?_
  refine x_iconst C (0) d_Model_cell_1 rfl ?_
  refine x_iconst C (5) d_Model_cell_2 rfl ?_
  refine x_callSi C (c_Model_out _ _ _) mt_Model_out rfl rfl (Nat.le_of_ble_eq_true rfl) (Nat.le_of_ble_eq_true rfl) lk_Model_66 d_Model_cell_3 ?_
  refine x_if_ne C 45 d_Model_cell_6 rfl (fun h_6 => absurd hb.1 (z_b_n0.mp h_6)) (fun h_6 => ?_)
  refine x_iload_n C d_Model_cell_9 (i := 2) rfl rfl ?_
  refine x_iconst C (0) d_Model_cell_10 rfl ?_
  refine x_sipush C (1000) d_Model_cell_11 rfl ?_
  refine x_callSi C (c_Model_out _ _ _) mt_Model_out rfl rfl (Nat.le_of_ble_eq_true rfl) (Nat.le_of_ble_eq_true rfl) lk_Model_66 d_Model_cell_14 ?_
  refine x_if_ne C 45 d_Model_cell_17 rfl (fun h_17 => absurd hb.2.1 (z_b_n0.mp h_17)) (fun h_17 => ?_)
  refine x_iload_n C d_Model_cell_20 (i := 3) rfl rfl ?_
  refine x_iconst C (0) d_Model_cell_21 rfl ?_
  refine x_sipush C (1000) d_Model_cell_22 rfl ?_
  refine x_callSi C (c_Model_out _ _ _) mt_Model_out rfl rfl (Nat.le_of_ble_eq_true rfl) (Nat.le_of_ble_eq_true rfl) lk_Model_66 d_Model_cell_25 ?_
  refine x_if_ne C 45 d_Model_cell_28 rfl (fun h_28 => absurd hb.2.2.1 (z_b_n0.mp h_28)) (fun h_28 => ?_)
  refine x_iload C d_Model_cell_31 rfl ?_
  refine x_iconst C (0) d_Model_cell_33 rfl ?_
  refine x_sipush C (1000) d_Model_cell_34 rfl ?_
  refine x_iload_n C d_Model_cell_37 (i := 3) rfl rfl ?_
  refine x_isub C d_Model_cell_38 ?_
  refine x_callSi C (c_Model_out _ _ _) mt_Model_out rfl rfl (Nat.le_of_ble_eq_true rfl) (Nat.le_of_ble_eq_true rfl) lk_Model_66 d_Model_cell_39 ?_
  refine x_if_eq C 47 d_Model_cell_42 rfl (fun h_42 => ?_) (fun h_42 => absurd hb.2.2.2 (z_b_n0.mp h_42))
  refine x_aload_n C d_Model_cell_47 (i := 0) rfl rfl ?_
  refine x_callVi C (c_Model_told hz hs ht) mt_Model_told zl_Model (zc_Model _) rfl rfl rfl (Nat.le_of_ble_eq_true rfl) (Nat.le_of_ble_eq_true rfl) lk_Model_74 d_Model_cell_48 ?_
  refine x_istore C d_Model_cell_51 rfl ?_
  refine x_aload_n C d_Model_cell_53 (i := 0) rfl rfl ?_
  refine g_Model_held C lk_Model_70 d_Model_cell_54 ?_
  refine x_istore C d_Model_cell_57 rfl ?_
  refine x_aload_n C d_Model_cell_59 (i := 0) rfl rfl ?_
  refine x_iconst C (0) d_Model_cell_60 rfl ?_
  refine u_Model_held C lk_Model_70 d_Model_cell_61 ?_
  refine x_iload C d_Model_cell_64 rfl ?_
  refine x_if_ne C 71 d_Model_cell_66 rfl (fun h_66 => absurd hw h_66) (fun h_66 => ?_)
  refine x_iconst C (-1) d_Model_cell_69 rfl ?_
  exact x_iret C E rfl rfl d_Model_cell_70
theorem lp_Model_cell {dA : Nat → ClassId} {ad : Nat → Nat} {M0 : z_M} {k : z_K} {j : Nat} (hj : j < 6) {sz : Nat} (hz : sz ≤ 8) {de ab fi r5 r0 : Int32} (C : z_C dA ad k b_Model_cell "CellTransportModel" 1 8) (h0 : z_b (¬ M0 62 j = 0) = r0) (E : z_RI dA ad k .int r0 (g_cel M0 j sz de ab fi)) :
    ∀ (n i : Nat) (M : z_M), i + n = sz → g_cp j n i M = g_ce0 M0 j sz → z_X dA ad k 74 [some (.ref (ad 53)), some (.int (nI j)), some (.int de), some (.int ab), some (.int fi), some (.int r5), some (.int (nI sz)), some (.int (nI i))] [] M := by
  intro n
  induction n with
  | zero =>
    intro i M hi hr
    refine x_eqM hr ?_
    refine x_iload C d_Model_cell_74 rfl ?_
    refine x_iload C d_Model_cell_76 rfl ?_
    refine x_icmp_ge C 106 d_Model_cell_78 rfl (fun h_78 => ?_) (fun h_78 => absurd (nI_le (by omega) (by omega)) h_78)
    refine x_aload_n C d_Model_cell_106 (i := 0) rfl rfl ?_
    refine g_Model_tokens C lk_Model_32 d_Model_cell_107 ?_
    refine x_iload_n C d_Model_cell_110 (i := 1) rfl rfl ?_
    refine x_iload C d_Model_cell_111 rfl ?_
    refine rn_st_m_tokens C  hj d_Model_cell_113 ?_
    refine x_aload_n C d_Model_cell_114 (i := 0) rfl rfl ?_
    refine g_Model_density C lk_Model_38 d_Model_cell_115 ?_
    refine x_iload_n C d_Model_cell_118 (i := 1) rfl rfl ?_
    refine x_iload_n C d_Model_cell_119 (i := 2) rfl rfl ?_
    refine rn_st_m_density C  hj d_Model_cell_120 ?_
    refine x_aload_n C d_Model_cell_121 (i := 0) rfl rfl ?_
    refine g_Model_absorbs C lk_Model_41 d_Model_cell_122 ?_
    refine x_iload_n C d_Model_cell_125 (i := 1) rfl rfl ?_
    refine x_iload_n C d_Model_cell_126 (i := 3) rfl rfl ?_
    refine rn_st_m_absorbs C  hj d_Model_cell_127 ?_
    refine x_aload_n C d_Model_cell_128 (i := 0) rfl rfl ?_
    refine g_Model_splits C lk_Model_44 d_Model_cell_129 ?_
    refine x_iload_n C d_Model_cell_132 (i := 1) rfl rfl ?_
    refine x_iload C d_Model_cell_133 rfl ?_
    refine rn_st_m_splits C  hj d_Model_cell_135 ?_
    refine x_eqM (M2 := g_ce1 M0 j sz de ab fi) rfl ?_
    refine x_aload_n C d_Model_cell_136 (i := 0) rfl rfl ?_
    refine g_Model_defined C lk_Model_35 d_Model_cell_137 ?_
    refine x_iload_n C d_Model_cell_140 (i := 1) rfl rfl ?_
    refine rn_ld_m_defined C  hj d_Model_cell_141 ?_
    refine x_eqi (congrFun (g_ce1_62 M0 j sz de ab fi) j) ?_
    refine x_if_eq C 149 d_Model_cell_142 rfl (fun h_142 => ?_) (fun h_142 => ?_)
    · refine x_iconst C (0) d_Model_cell_149 rfl ?_
      refine x_istore C d_Model_cell_150 rfl ?_
      refine x_aload_n C d_Model_cell_152 (i := 0) rfl rfl ?_
      refine g_Model_defined C lk_Model_35 d_Model_cell_153 ?_
      refine x_iload_n C d_Model_cell_156 (i := 1) rfl rfl ?_
      refine x_iconst C (1) d_Model_cell_157 rfl ?_
      refine rn_st_m_defined C  hj rfl d_Model_cell_158 ?_
      refine x_iload C d_Model_cell_159 rfl ?_
      exact x_iret C E (h0 ▸ (z_b_f (fun q => q h_142)).symm) rfl d_Model_cell_161
    · refine x_iconst C (1) d_Model_cell_145 rfl ?_
      refine x_goto C 150 d_Model_cell_146 rfl ?_
      refine x_istore C d_Model_cell_150 rfl ?_
      refine x_aload_n C d_Model_cell_152 (i := 0) rfl rfl ?_
      refine g_Model_defined C lk_Model_35 d_Model_cell_153 ?_
      refine x_iload_n C d_Model_cell_156 (i := 1) rfl rfl ?_
      refine x_iconst C (1) d_Model_cell_157 rfl ?_
      refine rn_st_m_defined C  hj rfl d_Model_cell_158 ?_
      refine x_iload C d_Model_cell_159 rfl ?_
      exact x_iret C E (h0 ▸ (z_b_t h_142).symm) rfl d_Model_cell_161
  | succ n ih =>
    intro i M hi hr
    have hi8 : i < 8 := by omega
    refine x_iload C d_Model_cell_74 rfl ?_
    refine x_iload C d_Model_cell_76 rfl ?_
    refine x_icmp_ge C 106 d_Model_cell_78 rfl (fun h_78 => absurd h_78 (nI_ge (by omega) (by omega))) (fun h_78 => ?_)
    refine x_aload_n C d_Model_cell_81 (i := 0) rfl rfl ?_
    refine g_Model_region C lk_Model_29 d_Model_cell_82 ?_
    refine x_bipush C (nI 8) d_Model_cell_85 rfl ?_
    refine x_iload_n C d_Model_cell_87 (i := 1) rfl rfl ?_
    refine x_imul C d_Model_cell_88 ?_
    refine x_iload C d_Model_cell_89 rfl ?_
    refine x_iadd C d_Model_cell_91 ?_
    refine x_eqi (z_ix 8 j i) ?_
    refine x_aload_n C d_Model_cell_92 (i := 0) rfl rfl ?_
    refine g_Model_buffer C lk_Model_26 d_Model_cell_93 ?_
    refine x_iload C d_Model_cell_96 rfl ?_
    refine rn_ld_m_buffer C  hi8 d_Model_cell_98 ?_
    refine rn_st_m_region C  (show 8 * j + i < 48 by omega) d_Model_cell_99 ?_
    refine x_iinc C (nI (i + 1)) d_Model_cell_100 rfl (z_inc i) rfl ?_
    refine x_goto C 74 d_Model_cell_103 rfl ?_
    exact ih (i + 1) _ (by omega) hr
theorem c_Model_cellY {dA : Nat → ClassId} {ad : Nat → Nat} {M : z_M} {j : Nat} (hj : j < 6) {de ab fi : Int32} {sz : Nat} (hs : M 53 6 = nI sz) (hz : sz ≤ 8) (ht : ∀ t, t < sz → ∃ v, v ≤ 10 ∧ M 59 t = nI v) (hb2 : p_btw de 0 1000 ∧ p_shr ab fi) (hw : ¬ f_wh (M 59) sz 0 0 = 0) : z_CI y_Model_cell b_Model_cell 8 .int 1 dA ad [.ref (ad 53), .int (nI j), .int de, .int ab, .int fi] M (z_b (¬ M 62 j = 0)) (g_cel M j sz de ab fi) := by
  refine z_ofI [some (.ref (ad 53)), some (.int (nI j)), some (.int de), some (.int ab), some (.int fi), none, none, none] (by decide) (Nat.le_of_ble_eq_true rfl) rfl (fun k C E => ?_)
  have C : z_C dA ad k b_Model_cell "CellTransportModel" 1 8 := C
  have hb : p_btw (nI j) 0 5 ∧ p_btw de 0 1000 ∧ p_shr ab fi := ⟨z_in (n := 5) (by omega) (by decide), hb2⟩
  refine x_iload_n C d_Model_cell_0 (i := 1) rfl rfl ?_
  refine x_iconst C (0) d_Model_cell_1 rfl ?_
  refine x_iconst C (5) d_Model_cell_2 rfl ?_
  refine x_callSi C (c_Model_out _ _ _) mt_Model_out rfl rfl (Nat.le_of_ble_eq_true rfl) (Nat.le_of_ble_eq_true rfl) lk_Model_66 d_Model_cell_3 ?_
  refine x_if_ne C 45 d_Model_cell_6 rfl (fun h_6 => absurd hb.1 (z_b_n0.mp h_6)) (fun h_6 => ?_)
  refine x_iload_n C d_Model_cell_9 (i := 2) rfl rfl ?_
  refine x_iconst C (0) d_Model_cell_10 rfl ?_
  refine x_sipush C (1000) d_Model_cell_11 rfl ?_
  refine x_callSi C (c_Model_out _ _ _) mt_Model_out rfl rfl (Nat.le_of_ble_eq_true rfl) (Nat.le_of_ble_eq_true rfl) lk_Model_66 d_Model_cell_14 ?_
  refine x_if_ne C 45 d_Model_cell_17 rfl (fun h_17 => absurd hb.2.1 (z_b_n0.mp h_17)) (fun h_17 => ?_)
  refine x_iload_n C d_Model_cell_20 (i := 3) rfl rfl ?_
  refine x_iconst C (0) d_Model_cell_21 rfl ?_
  refine x_sipush C (1000) d_Model_cell_22 rfl ?_
  refine x_callSi C (c_Model_out _ _ _) mt_Model_out rfl rfl (Nat.le_of_ble_eq_true rfl) (Nat.le_of_ble_eq_true rfl) lk_Model_66 d_Model_cell_25 ?_
  refine x_if_ne C 45 d_Model_cell_28 rfl (fun h_28 => absurd hb.2.2.1 (z_b_n0.mp h_28)) (fun h_28 => ?_)
  refine x_iload C d_Model_cell_31 rfl ?_
  refine x_iconst C (0) d_Model_cell_33 rfl ?_
  refine x_sipush C (1000) d_Model_cell_34 rfl ?_
  refine x_iload_n C d_Model_cell_37 (i := 3) rfl rfl ?_
  refine x_isub C d_Model_cell_38 ?_
  refine x_callSi C (c_Model_out _ _ _) mt_Model_out rfl rfl (Nat.le_of_ble_eq_true rfl) (Nat.le_of_ble_eq_true rfl) lk_Model_66 d_Model_cell_39 ?_
  refine x_if_eq C 47 d_Model_cell_42 rfl (fun h_42 => ?_) (fun h_42 => absurd hb.2.2.2 (z_b_n0.mp h_42))
  refine x_aload_n C d_Model_cell_47 (i := 0) rfl rfl ?_
  refine x_callVi C (c_Model_told hz hs ht) mt_Model_told zl_Model (zc_Model _) rfl rfl rfl (Nat.le_of_ble_eq_true rfl) (Nat.le_of_ble_eq_true rfl) lk_Model_74 d_Model_cell_48 ?_
  refine x_istore C d_Model_cell_51 rfl ?_
  refine x_aload_n C d_Model_cell_53 (i := 0) rfl rfl ?_
  refine g_Model_held C lk_Model_70 d_Model_cell_54 ?_
  refine x_eqi hs ?_
  refine x_istore C d_Model_cell_57 rfl ?_
  refine x_aload_n C d_Model_cell_59 (i := 0) rfl rfl ?_
  refine x_iconst C (0) d_Model_cell_60 rfl ?_
  refine u_Model_held C lk_Model_70 d_Model_cell_61 ?_
  refine x_iload C d_Model_cell_64 rfl ?_
  refine x_if_ne C 71 d_Model_cell_66 rfl (fun h_66 => ?_) (fun h_66 => absurd h_66 hw)
  refine x_iconst C (0) d_Model_cell_71 rfl ?_
  refine x_istore C d_Model_cell_72 rfl ?_
  exact lp_Model_cell hj hz C rfl E sz 0 _ (by omega) rfl
theorem c_Model_undefineN {dA : Nat → ClassId} {ad : Nat → Nat} {M : z_M} {nm : Int32} (hn : ¬ p_btw nm 0 5) : z_CI y_Model_undefine b_Model_undefine 3 .int 1 dA ad [.ref (ad 53), .int nm] M (-1) (M) := by
  refine z_ofI [some (.ref (ad 53)), some (.int nm), none] (by decide) (Nat.le_of_ble_eq_true rfl) rfl (fun k C E => ?_)
  have C : z_C dA ad k b_Model_undefine "CellTransportModel" 1 3 := C
  refine x_iload_n C d_Model_undefine_0 (i := 1) rfl rfl ?_
  refine x_iconst C (0) d_Model_undefine_1 rfl ?_
  refine x_iconst C (5) d_Model_undefine_2 rfl ?_
  refine x_callSi C (c_Model_out _ _ _) mt_Model_out rfl rfl (Nat.le_of_ble_eq_true rfl) (Nat.le_of_ble_eq_true rfl) lk_Model_66 d_Model_undefine_3 ?_
  refine x_if_eq C 11 d_Model_undefine_6 rfl (fun h_6 => ?_) (fun h_6 => ?_)
  · exact absurd (z_out0 h_6) hn
  · refine x_iconst C (-1) d_Model_undefine_9 rfl ?_
    exact x_iret C E rfl rfl d_Model_undefine_10
theorem c_Model_undefineY {dA : Nat → ClassId} {ad : Nat → Nat} {M : z_M} {j : Nat} (hj : j < 6) : z_CI y_Model_undefine b_Model_undefine 3 .int 1 dA ad [.ref (ad 53), .int (nI j)] M (z_b (¬ M 62 j = 0)) (z_sv M 62 j 0) := by
  refine z_ofI [some (.ref (ad 53)), some (.int (nI j)), none] (by decide) (Nat.le_of_ble_eq_true rfl) rfl (fun k C E => ?_)
  have C : z_C dA ad k b_Model_undefine "CellTransportModel" 1 3 := C
  refine x_iload_n C d_Model_undefine_0 (i := 1) rfl rfl ?_
  refine x_iconst C (0) d_Model_undefine_1 rfl ?_
  refine x_iconst C (5) d_Model_undefine_2 rfl ?_
  refine x_callSi C (c_Model_out _ _ _) mt_Model_out rfl rfl (Nat.le_of_ble_eq_true rfl) (Nat.le_of_ble_eq_true rfl) lk_Model_66 d_Model_undefine_3 ?_
  refine x_if_eq C 11 d_Model_undefine_6 rfl (fun h_6 => ?_) (fun h_6 => absurd (z_in (n := 5) (by omega) (by decide)) (z_b_n0.mp h_6))
  refine x_aload_n C d_Model_undefine_11 (i := 0) rfl rfl ?_
  refine g_Model_defined C lk_Model_35 d_Model_undefine_12 ?_
  refine x_iload_n C d_Model_undefine_15 (i := 1) rfl rfl ?_
  refine rn_ld_m_defined C  hj d_Model_undefine_16 ?_
  refine x_if_eq C 24 d_Model_undefine_17 rfl (fun h_17 => ?_) (fun h_17 => ?_)
  · refine x_iconst C (0) d_Model_undefine_24 rfl ?_
    refine x_istore_n C d_Model_undefine_25 (i := 2) rfl rfl ?_
    refine x_aload_n C d_Model_undefine_26 (i := 0) rfl rfl ?_
    refine g_Model_defined C lk_Model_35 d_Model_undefine_27 ?_
    refine x_iload_n C d_Model_undefine_30 (i := 1) rfl rfl ?_
    refine x_iconst C (0) d_Model_undefine_31 rfl ?_
    refine rn_st_m_defined C  hj rfl d_Model_undefine_32 ?_
    refine x_iload_n C d_Model_undefine_33 (i := 2) rfl rfl ?_
    exact x_iret C E (z_b_f (fun q => q h_17)).symm rfl d_Model_undefine_34
  · refine x_iconst C (1) d_Model_undefine_20 rfl ?_
    refine x_goto C 25 d_Model_undefine_21 rfl ?_
    refine x_istore_n C d_Model_undefine_25 (i := 2) rfl rfl ?_
    refine x_aload_n C d_Model_undefine_26 (i := 0) rfl rfl ?_
    refine g_Model_defined C lk_Model_35 d_Model_undefine_27 ?_
    refine x_iload_n C d_Model_undefine_30 (i := 1) rfl rfl ?_
    refine x_iconst C (0) d_Model_undefine_31 rfl ?_
    refine rn_st_m_defined C  hj rfl d_Model_undefine_32 ?_
    refine x_iload_n C d_Model_undefine_33 (i := 2) rfl rfl ?_
    exact x_iret C E (z_b_t h_17).symm rfl d_Model_undefine_34
theorem c_Model_sourceN {dA : Nat → ClassId} {ad : Nat → Nat} {M : z_M} {x y : Int32} (hn : ¬ p_wth x y 300) : z_CI y_Model_source b_Model_source 3 .int 1 dA ad [.ref (ad 53), .int x, .int y] M (-1) (M) := by
  refine z_ofI [some (.ref (ad 53)), some (.int x), some (.int y)] (by decide) (Nat.le_of_ble_eq_true rfl) rfl (fun k C E => ?_)
  have C : z_C dA ad k b_Model_source "CellTransportModel" 1 3 := C
  refine x_iload_n C d_Model_source_0 (i := 1) rfl rfl ?_
  refine x_sipush C (-300) d_Model_source_1 rfl ?_
  refine x_sipush C (300) d_Model_source_4 rfl ?_
  refine x_callSi C (c_Model_out _ _ _) mt_Model_out rfl rfl (Nat.le_of_ble_eq_true rfl) (Nat.le_of_ble_eq_true rfl) lk_Model_66 d_Model_source_7 ?_
  refine x_if_ne C 26 d_Model_source_10 rfl (fun h_10 => ?_) (fun h_10 => ?_)
  · refine x_iconst C (-1) d_Model_source_26 rfl ?_
    exact x_iret C E rfl rfl d_Model_source_27
  · refine x_iload_n C d_Model_source_13 (i := 2) rfl rfl ?_
    refine x_sipush C (-300) d_Model_source_14 rfl ?_
    refine x_sipush C (300) d_Model_source_17 rfl ?_
    refine x_callSi C (c_Model_out _ _ _) mt_Model_out rfl rfl (Nat.le_of_ble_eq_true rfl) (Nat.le_of_ble_eq_true rfl) lk_Model_66 d_Model_source_20 ?_
    refine x_if_eq C 28 d_Model_source_23 rfl (fun h_23 => ?_) (fun h_23 => ?_)
    · exact absurd ⟨z_out0 h_10, z_out0 h_23⟩ hn
    · refine x_iconst C (-1) d_Model_source_26 rfl ?_
      exact x_iret C E rfl rfl d_Model_source_27
theorem c_Model_sourceY {dA : Nat → ClassId} {ad : Nat → Nat} {M : z_M} {x y : Int32} (hp : p_wth x y 300) : z_CI y_Model_source b_Model_source 3 .int 1 dA ad [.ref (ad 53), .int x, .int y] M (0) (z_sv (z_sv M 53 13 x) 53 14 y) := by
  refine z_ofI [some (.ref (ad 53)), some (.int x), some (.int y)] (by decide) (Nat.le_of_ble_eq_true rfl) rfl (fun k C E => ?_)
  have C : z_C dA ad k b_Model_source "CellTransportModel" 1 3 := C
  refine x_iload_n C d_Model_source_0 (i := 1) rfl rfl ?_
  refine x_sipush C (-300) d_Model_source_1 rfl ?_
  refine x_sipush C (300) d_Model_source_4 rfl ?_
  refine x_callSi C (c_Model_out _ _ _) mt_Model_out rfl rfl (Nat.le_of_ble_eq_true rfl) (Nat.le_of_ble_eq_true rfl) lk_Model_66 d_Model_source_7 ?_
  refine x_if_ne C 26 d_Model_source_10 rfl (fun h_10 => absurd hp.1 (z_b_n0.mp h_10)) (fun h_10 => ?_)
  refine x_iload_n C d_Model_source_13 (i := 2) rfl rfl ?_
  refine x_sipush C (-300) d_Model_source_14 rfl ?_
  refine x_sipush C (300) d_Model_source_17 rfl ?_
  refine x_callSi C (c_Model_out _ _ _) mt_Model_out rfl rfl (Nat.le_of_ble_eq_true rfl) (Nat.le_of_ble_eq_true rfl) lk_Model_66 d_Model_source_20 ?_
  refine x_if_eq C 28 d_Model_source_23 rfl (fun h_23 => ?_) (fun h_23 => absurd hp.2 (z_b_n0.mp h_23))
  refine x_aload_n C d_Model_source_28 (i := 0) rfl rfl ?_
  refine x_iload_n C d_Model_source_29 (i := 1) rfl rfl ?_
  refine u_Model_sourceX C lk_Model_78 d_Model_source_30 ?_
  refine x_aload_n C d_Model_source_33 (i := 0) rfl rfl ?_
  refine x_iload_n C d_Model_source_34 (i := 2) rfl rfl ?_
  refine u_Model_sourceY C lk_Model_81 d_Model_source_35 ?_
  refine x_iconst C (0) d_Model_source_38 rfl ?_
  exact x_iret C E rfl rfl d_Model_source_39
theorem c_Model_tallyN {dA : Nat → ClassId} {ad : Nat → Nat} {M : z_M} {a b : Int32} (hn : ¬ (p_btw a 0 5 ∧ p_btw b 0 3)) : z_CI y_Model_tally b_Model_tally 3 .int 1 dA ad [.ref (ad 53), .int a, .int b] M (-1) (M) := by
  refine z_ofI [some (.ref (ad 53)), some (.int a), some (.int b)] (by decide) (Nat.le_of_ble_eq_true rfl) rfl (fun k C E => ?_)
  have C : z_C dA ad k b_Model_tally "CellTransportModel" 1 3 := C
  refine x_iload_n C d_Model_tally_0 (i := 1) rfl rfl ?_
  refine x_iconst C (0) d_Model_tally_1 rfl ?_
  refine x_iconst C (5) d_Model_tally_2 rfl ?_
  refine x_callSi C (c_Model_out _ _ _) mt_Model_out rfl rfl (Nat.le_of_ble_eq_true rfl) (Nat.le_of_ble_eq_true rfl) lk_Model_66 d_Model_tally_3 ?_
  refine x_if_ne C 18 d_Model_tally_6 rfl (fun h_6 => ?_) (fun h_6 => ?_)
  · refine x_iconst C (-1) d_Model_tally_18 rfl ?_
    refine x_goto C 32 d_Model_tally_19 rfl ?_
    exact x_iret C E rfl rfl d_Model_tally_32
  · refine x_iload_n C d_Model_tally_9 (i := 2) rfl rfl ?_
    refine x_iconst C (0) d_Model_tally_10 rfl ?_
    refine x_iconst C (3) d_Model_tally_11 rfl ?_
    refine x_callSi C (c_Model_out _ _ _) mt_Model_out rfl rfl (Nat.le_of_ble_eq_true rfl) (Nat.le_of_ble_eq_true rfl) lk_Model_66 d_Model_tally_12 ?_
    refine x_if_eq C 22 d_Model_tally_15 rfl (fun h_15 => ?_) (fun h_15 => ?_)
    · exact absurd ⟨z_out0 h_6, z_out0 h_15⟩ hn
    · refine x_iconst C (-1) d_Model_tally_18 rfl ?_
      refine x_goto C 32 d_Model_tally_19 rfl ?_
      exact x_iret C E rfl rfl d_Model_tally_32
theorem c_Model_tallyY {dA : Nat → ClassId} {ad : Nat → Nat} {M : z_M} {i q : Nat} (hi : i < 6) (hq : q < 4) : z_CI y_Model_tally b_Model_tally 3 .int 1 dA ad [.ref (ad 53), .int (nI i), .int (nI q)] M (M 66 (4 * i + q)) (M) := by
  refine z_ofI [some (.ref (ad 53)), some (.int (nI i)), some (.int (nI q))] (by decide) (Nat.le_of_ble_eq_true rfl) rfl (fun k C E => ?_)
  have C : z_C dA ad k b_Model_tally "CellTransportModel" 1 3 := C
  refine x_iload_n C d_Model_tally_0 (i := 1) rfl rfl ?_
  refine x_iconst C (0) d_Model_tally_1 rfl ?_
  refine x_iconst C (5) d_Model_tally_2 rfl ?_
  refine x_callSi C (c_Model_out _ _ _) mt_Model_out rfl rfl (Nat.le_of_ble_eq_true rfl) (Nat.le_of_ble_eq_true rfl) lk_Model_66 d_Model_tally_3 ?_
  refine x_if_ne C 18 d_Model_tally_6 rfl (fun h_6 => absurd (z_in (n := 5) (by omega) (by decide)) (z_b_n0.mp h_6)) (fun h_6 => ?_)
  refine x_iload_n C d_Model_tally_9 (i := 2) rfl rfl ?_
  refine x_iconst C (0) d_Model_tally_10 rfl ?_
  refine x_iconst C (3) d_Model_tally_11 rfl ?_
  refine x_callSi C (c_Model_out _ _ _) mt_Model_out rfl rfl (Nat.le_of_ble_eq_true rfl) (Nat.le_of_ble_eq_true rfl) lk_Model_66 d_Model_tally_12 ?_
  refine x_if_eq C 22 d_Model_tally_15 rfl (fun h_15 => ?_) (fun h_15 => absurd (z_in (n := 3) (by omega) (by decide)) (z_b_n0.mp h_15))
  refine x_aload_n C d_Model_tally_22 (i := 0) rfl rfl ?_
  refine g_Model_tallies C lk_Model_51 d_Model_tally_23 ?_
  refine x_iconst C (nI 4) d_Model_tally_26 rfl ?_
  refine x_iload_n C d_Model_tally_27 (i := 1) rfl rfl ?_
  refine x_imul C d_Model_tally_28 ?_
  refine x_iload_n C d_Model_tally_29 (i := 2) rfl rfl ?_
  refine x_iadd C d_Model_tally_30 ?_
  refine x_eqi (z_ix 4 i q) ?_
  refine rn_ld_m_tallies C  (show 4 * i + q < 24 by omega) d_Model_tally_31 ?_
  exact x_iret C E rfl rfl d_Model_tally_32
theorem c_Model_crossedN {dA : Nat → ClassId} {ad : Nat → Nat} {M : z_M} {a b : Int32} (hn : ¬ (p_btw a 0 5 ∧ p_btw b 0 5)) : z_CI y_Model_crossed b_Model_crossed 3 .int 1 dA ad [.ref (ad 53), .int a, .int b] M (-1) (M) := by
  refine z_ofI [some (.ref (ad 53)), some (.int a), some (.int b)] (by decide) (Nat.le_of_ble_eq_true rfl) rfl (fun k C E => ?_)
  have C : z_C dA ad k b_Model_crossed "CellTransportModel" 1 3 := C
  refine x_iload_n C d_Model_crossed_0 (i := 1) rfl rfl ?_
  refine x_iconst C (0) d_Model_crossed_1 rfl ?_
  refine x_iconst C (5) d_Model_crossed_2 rfl ?_
  refine x_callSi C (c_Model_out _ _ _) mt_Model_out rfl rfl (Nat.le_of_ble_eq_true rfl) (Nat.le_of_ble_eq_true rfl) lk_Model_66 d_Model_crossed_3 ?_
  refine x_if_ne C 18 d_Model_crossed_6 rfl (fun h_6 => ?_) (fun h_6 => ?_)
  · refine x_iconst C (-1) d_Model_crossed_18 rfl ?_
    refine x_goto C 33 d_Model_crossed_19 rfl ?_
    exact x_iret C E rfl rfl d_Model_crossed_33
  · refine x_iload_n C d_Model_crossed_9 (i := 2) rfl rfl ?_
    refine x_iconst C (0) d_Model_crossed_10 rfl ?_
    refine x_iconst C (5) d_Model_crossed_11 rfl ?_
    refine x_callSi C (c_Model_out _ _ _) mt_Model_out rfl rfl (Nat.le_of_ble_eq_true rfl) (Nat.le_of_ble_eq_true rfl) lk_Model_66 d_Model_crossed_12 ?_
    refine x_if_eq C 22 d_Model_crossed_15 rfl (fun h_15 => ?_) (fun h_15 => ?_)
    · exact absurd ⟨z_out0 h_6, z_out0 h_15⟩ hn
    · refine x_iconst C (-1) d_Model_crossed_18 rfl ?_
      refine x_goto C 33 d_Model_crossed_19 rfl ?_
      exact x_iret C E rfl rfl d_Model_crossed_33
theorem c_Model_crossedY {dA : Nat → ClassId} {ad : Nat → Nat} {M : z_M} {i q : Nat} (hi : i < 6) (hq : q < 6) : z_CI y_Model_crossed b_Model_crossed 3 .int 1 dA ad [.ref (ad 53), .int (nI i), .int (nI q)] M (M 67 (6 * i + q)) (M) := by
  refine z_ofI [some (.ref (ad 53)), some (.int (nI i)), some (.int (nI q))] (by decide) (Nat.le_of_ble_eq_true rfl) rfl (fun k C E => ?_)
  have C : z_C dA ad k b_Model_crossed "CellTransportModel" 1 3 := C
  refine x_iload_n C d_Model_crossed_0 (i := 1) rfl rfl ?_
  refine x_iconst C (0) d_Model_crossed_1 rfl ?_
  refine x_iconst C (5) d_Model_crossed_2 rfl ?_
  refine x_callSi C (c_Model_out _ _ _) mt_Model_out rfl rfl (Nat.le_of_ble_eq_true rfl) (Nat.le_of_ble_eq_true rfl) lk_Model_66 d_Model_crossed_3 ?_
  refine x_if_ne C 18 d_Model_crossed_6 rfl (fun h_6 => absurd (z_in (n := 5) (by omega) (by decide)) (z_b_n0.mp h_6)) (fun h_6 => ?_)
  refine x_iload_n C d_Model_crossed_9 (i := 2) rfl rfl ?_
  refine x_iconst C (0) d_Model_crossed_10 rfl ?_
  refine x_iconst C (5) d_Model_crossed_11 rfl ?_
  refine x_callSi C (c_Model_out _ _ _) mt_Model_out rfl rfl (Nat.le_of_ble_eq_true rfl) (Nat.le_of_ble_eq_true rfl) lk_Model_66 d_Model_crossed_12 ?_
  refine x_if_eq C 22 d_Model_crossed_15 rfl (fun h_15 => ?_) (fun h_15 => absurd (z_in (n := 5) (by omega) (by decide)) (z_b_n0.mp h_15))
  refine x_aload_n C d_Model_crossed_22 (i := 0) rfl rfl ?_
  refine g_Model_crossings C lk_Model_54 d_Model_crossed_23 ?_
  refine x_bipush C (nI 6) d_Model_crossed_26 rfl ?_
  refine x_iload_n C d_Model_crossed_28 (i := 1) rfl rfl ?_
  refine x_imul C d_Model_crossed_29 ?_
  refine x_iload_n C d_Model_crossed_30 (i := 2) rfl rfl ?_
  refine x_iadd C d_Model_crossed_31 ?_
  refine x_eqi (z_ix 6 i q) ?_
  refine rn_ld_m_crossings C  (show 6 * i + q < 36 by omega) d_Model_crossed_32 ?_
  exact x_iret C E rfl rfl d_Model_crossed_33
theorem c_Model_countN {dA : Nat → ClassId} {ad : Nat → Nat} {M : z_M} {a : Int32} (hn : ¬ p_btw a 0 6) : z_CI y_Model_count b_Model_count 4 .int 1 dA ad [.ref (ad 53), .int a] M (-1) (M) := by
  refine z_ofI [some (.ref (ad 53)), some (.int a), none, none] (by decide) (Nat.le_of_ble_eq_true rfl) rfl (fun k C E => ?_)
  have C : z_C dA ad k b_Model_count "CellTransportModel" 1 4 := C
  refine x_iload_n C d_Model_count_0 (i := 1) rfl rfl ?_
  refine x_iconst C (0) d_Model_count_1 rfl ?_
  refine x_bipush C (6) d_Model_count_2 rfl ?_
  refine x_callSi C (c_Model_out _ _ _) mt_Model_out rfl rfl (Nat.le_of_ble_eq_true rfl) (Nat.le_of_ble_eq_true rfl) lk_Model_66 d_Model_count_4 ?_
  refine x_if_eq C 12 d_Model_count_7 rfl (fun h_7 => ?_) (fun h_7 => ?_)
  · exact absurd (z_out0 h_7) hn
  · refine x_iconst C (-1) d_Model_count_10 rfl ?_
    exact x_iret C E rfl rfl d_Model_count_11
theorem c_Model_countT {dA : Nat → ClassId} {ad : Nat → Nat} {M : z_M} {q : Nat} (hq : q < 5) : z_CI y_Model_count b_Model_count 4 .int 1 dA ad [.ref (ad 53), .int (nI q)] M (M 68 q) (M) := by
  refine z_ofI [some (.ref (ad 53)), some (.int (nI q)), none, none] (by decide) (Nat.le_of_ble_eq_true rfl) rfl (fun k C E => ?_)
  have C : z_C dA ad k b_Model_count "CellTransportModel" 1 4 := C
  refine x_iload_n C d_Model_count_0 (i := 1) rfl rfl ?_
  refine x_iconst C (0) d_Model_count_1 rfl ?_
  refine x_bipush C (6) d_Model_count_2 rfl ?_
  refine x_callSi C (c_Model_out _ _ _) mt_Model_out rfl rfl (Nat.le_of_ble_eq_true rfl) (Nat.le_of_ble_eq_true rfl) lk_Model_66 d_Model_count_4 ?_
  refine x_if_eq C 12 d_Model_count_7 rfl (fun h_7 => ?_) (fun h_7 => absurd (z_in (n := 6) (by omega) (by decide)) (z_b_n0.mp h_7))
  refine x_iload_n C d_Model_count_12 (i := 1) rfl rfl ?_
  refine x_iconst C (5) d_Model_count_13 rfl ?_
  refine x_icmp_ge C 24 d_Model_count_14 rfl (fun h_14 => absurd (show nI 5 ≤ nI q from h_14) (nI_ge hq (by decide))) (fun h_14 => ?_)
  refine x_aload_n C d_Model_count_17 (i := 0) rfl rfl ?_
  refine g_Model_counts C lk_Model_57 d_Model_count_18 ?_
  refine x_iload_n C d_Model_count_21 (i := 1) rfl rfl ?_
  refine rn_ld_m_counts C  hq d_Model_count_22 ?_
  exact x_iret C E rfl rfl d_Model_count_23
theorem c_Model_count5 {dA : Nat → ClassId} {ad : Nat → Nat} {M : z_M}  : z_CI y_Model_count b_Model_count 4 .int 1 dA ad [.ref (ad 53), .int 5] M (M 53 6) (M) := by
  refine z_ofI [some (.ref (ad 53)), some (.int 5), none, none] (by decide) (Nat.le_of_ble_eq_true rfl) rfl (fun k C E => ?_)
  have C : z_C dA ad k b_Model_count "CellTransportModel" 1 4 := C
  refine x_iload_n C d_Model_count_0 (i := 1) rfl rfl ?_
  refine x_iconst C (0) d_Model_count_1 rfl ?_
  refine x_bipush C (6) d_Model_count_2 rfl ?_
  refine x_callSi C (c_Model_out _ _ _) mt_Model_out rfl rfl (Nat.le_of_ble_eq_true rfl) (Nat.le_of_ble_eq_true rfl) lk_Model_66 d_Model_count_4 ?_
  refine x_if_eq C 12 d_Model_count_7 rfl (fun h_7 => ?_) (fun h_7 => absurd (by decide : p_btw 5 0 6) (z_b_n0.mp h_7))
  refine x_iload_n C d_Model_count_12 (i := 1) rfl rfl ?_
  refine x_iconst C (5) d_Model_count_13 rfl ?_
  refine x_icmp_ge C 24 d_Model_count_14 rfl (fun h_14 => ?_) (fun h_14 => absurd (by decide : (5 : Int32) ≤ 5) h_14)
  refine x_iload_n C d_Model_count_24 (i := 1) rfl rfl ?_
  refine x_iconst C (5) d_Model_count_25 rfl ?_
  refine x_icmp_ne C 34 d_Model_count_26 rfl (fun h_26 => absurd rfl h_26) (fun h_26 => ?_)
  refine x_aload_n C d_Model_count_29 (i := 0) rfl rfl ?_
  refine g_Model_held C lk_Model_70 d_Model_count_30 ?_
  exact x_iret C E rfl rfl d_Model_count_33
theorem lp_Model_count {dA : Nat → ClassId} {ad : Nat → Nat} {M : z_M} {k : z_K} {r0 : Int32} (C : z_C dA ad k b_Model_count "CellTransportModel" 1 4) (E : z_RI dA ad k .int r0 M) :
    ∀ (n i : Nat) (a : Int32), i + n = 6 → f_dc (z_V M) n i a = r0 → z_X dA ad k 38 [some (.ref (ad 53)), some (.int 6), some (.int a), some (.int (nI i))] [] M := by
  intro n
  induction n with
  | zero =>
    intro i a hi hr
    refine x_iload_n C d_Model_count_38 (i := 3) rfl rfl ?_
    refine x_bipush C (6) d_Model_count_39 rfl ?_
    refine x_icmp_ge C 62 d_Model_count_41 rfl (fun h_41 => ?_) (fun h_41 => absurd (show (6 : Int32) ≤ nI i from nI_le (a := 6) (by omega) (by omega)) h_41)
    refine x_iload_n C d_Model_count_62 (i := 2) rfl rfl ?_
    exact x_iret C E hr rfl d_Model_count_63
  | succ n ih =>
    intro i a hi hr
    have hi6 : i < 6 := by omega
    have ev : z_V M (i_cell i) 1 = M 62 i := z_V_at (z_m_cell hi6).1
    refine x_iload_n C d_Model_count_38 (i := 3) rfl rfl ?_
    refine x_bipush C (6) d_Model_count_39 rfl ?_
    refine x_icmp_ge C 62 d_Model_count_41 rfl (fun h_41 => absurd (show nI 6 ≤ nI i from h_41) (nI_ge (by omega) (by decide))) (fun h_41 => ?_)
    refine x_aload_n C d_Model_count_44 (i := 0) rfl rfl ?_
    refine g_Model_defined C lk_Model_35 d_Model_count_45 ?_
    refine x_iload_n C d_Model_count_48 (i := 3) rfl rfl ?_
    refine rn_ld_m_defined C  hi6 d_Model_count_49 ?_
    refine x_if_eq C 56 d_Model_count_50 rfl (fun h_50 => ?_) (fun h_50 => ?_)
    · refine x_iinc C (nI (i + 1)) d_Model_count_56 rfl (z_inc i) rfl ?_
      refine x_goto C 38 d_Model_count_59 rfl ?_
      exact ih (i + 1) a (by omega) (by rw [← hr]; show _ = f_dc (z_V M) n (i + 1) (a + z_b (¬ z_V M (i_cell i) 1 = 0)); rw [show a + z_b (¬ z_V M (i_cell i) 1 = 0) = a from (by rw [ev, z_b_f (fun q => q h_50)]; exact Int32.add_zero a)])
    · refine x_iinc C _ d_Model_count_53 rfl rfl rfl ?_
      refine x_iinc C (nI (i + 1)) d_Model_count_56 rfl (z_inc i) rfl ?_
      refine x_goto C 38 d_Model_count_59 rfl ?_
      exact ih (i + 1) _ (by omega) (by rw [← hr]; show _ = f_dc (z_V M) n (i + 1) (a + z_b (¬ z_V M (i_cell i) 1 = 0)); rw [show a + z_b (¬ z_V M (i_cell i) 1 = 0) = a + Int32.ofInt 1 from (by rw [ev, z_b_t h_50]; rfl)])
theorem c_Model_count6 {dA : Nat → ClassId} {ad : Nat → Nat} {M : z_M}  : z_CI y_Model_count b_Model_count 4 .int 1 dA ad [.ref (ad 53), .int 6] M (f_dc (z_V M) 6 0 0) (M) := by
  refine z_ofI [some (.ref (ad 53)), some (.int 6), none, none] (by decide) (Nat.le_of_ble_eq_true rfl) rfl (fun k C E => ?_)
  have C : z_C dA ad k b_Model_count "CellTransportModel" 1 4 := C
  refine x_iload_n C d_Model_count_0 (i := 1) rfl rfl ?_
  refine x_iconst C (0) d_Model_count_1 rfl ?_
  refine x_bipush C (6) d_Model_count_2 rfl ?_
  refine x_callSi C (c_Model_out _ _ _) mt_Model_out rfl rfl (Nat.le_of_ble_eq_true rfl) (Nat.le_of_ble_eq_true rfl) lk_Model_66 d_Model_count_4 ?_
  refine x_if_eq C 12 d_Model_count_7 rfl (fun h_7 => ?_) (fun h_7 => absurd (by decide : p_btw 6 0 6) (z_b_n0.mp h_7))
  refine x_iload_n C d_Model_count_12 (i := 1) rfl rfl ?_
  refine x_iconst C (5) d_Model_count_13 rfl ?_
  refine x_icmp_ge C 24 d_Model_count_14 rfl (fun h_14 => ?_) (fun h_14 => absurd (by decide : (5 : Int32) ≤ 6) h_14)
  refine x_iload_n C d_Model_count_24 (i := 1) rfl rfl ?_
  refine x_iconst C (5) d_Model_count_25 rfl ?_
  refine x_icmp_ne C 34 d_Model_count_26 rfl (fun h_26 => ?_) (fun h_26 => absurd h_26 (by decide))
  refine x_iconst C (0) d_Model_count_34 rfl ?_
  refine x_istore_n C d_Model_count_35 (i := 2) rfl rfl ?_
  refine x_iconst C (0) d_Model_count_36 rfl ?_
  refine x_istore_n C d_Model_count_37 (i := 3) rfl rfl ?_
  exact lp_Model_count C E 6 0 0 (by omega) rfl
theorem lp_Model_clear2 {dA : Nat → ClassId} {ad : Nat → Nat} {M : z_M} {k : z_K} (C : z_C dA ad k b_Model_clear "CellTransportModel" 0 2)
    (kk : ∀ x : Int32, z_X dA ad k 21 [some (.ref (ad 53)), some (.int x)] [] (f_fl M 66 24 0)) :
    ∀ (n i : Nat), i + n = 24 → z_X dA ad k 2 [some (.ref (ad 53)), some (.int (nI i))] [] (f_fl M 66 i 0) := by
  intro n
  induction n with
  | zero =>
    intro i hi
    refine x_iload_n C d_Model_clear_2 (i := 1) rfl rfl ?_
    refine x_bipush C (24) d_Model_clear_3 rfl ?_
    refine x_icmp_ge C 21 d_Model_clear_5 rfl (fun h_5 => ?_) (fun h_5 => absurd (show (24 : Int32) ≤ nI i from nI_le (a := 24) (by omega) (by omega)) h_5)
    rw [show i = 24 by omega]
    exact kk _
  | succ n ih =>
    intro i hi
    refine x_iload_n C d_Model_clear_2 (i := 1) rfl rfl ?_
    refine x_bipush C (24) d_Model_clear_3 rfl ?_
    refine x_icmp_ge C 21 d_Model_clear_5 rfl (fun h_5 => absurd (show nI 24 ≤ nI i from h_5) (nI_ge (by omega) (by decide))) (fun h_5 => ?_)
    refine x_aload_n C d_Model_clear_8 (i := 0) rfl rfl ?_
    refine g_Model_tallies C lk_Model_51 d_Model_clear_9 ?_
    refine x_iload_n C d_Model_clear_12 (i := 1) rfl rfl ?_
    refine x_iconst C (0) d_Model_clear_13 rfl ?_
    refine rn_st_m_tallies C  (show i < 24 by omega) d_Model_clear_14 ?_
    refine x_eqM (f_fl_step M 66 i 0) ?_
    refine x_iinc C (nI (i + 1)) d_Model_clear_15 rfl (z_inc i) rfl ?_
    refine x_goto C 2 d_Model_clear_18 rfl ?_
    exact ih (i + 1) (by omega)
theorem lp_Model_clear23 {dA : Nat → ClassId} {ad : Nat → Nat} {M : z_M} {k : z_K} (C : z_C dA ad k b_Model_clear "CellTransportModel" 0 2)
    (kk : ∀ x : Int32, z_X dA ad k 42 [some (.ref (ad 53)), some (.int x)] [] (f_fl M 67 36 0)) :
    ∀ (n i : Nat), i + n = 36 → z_X dA ad k 23 [some (.ref (ad 53)), some (.int (nI i))] [] (f_fl M 67 i 0) := by
  intro n
  induction n with
  | zero =>
    intro i hi
    refine x_iload_n C d_Model_clear_23 (i := 1) rfl rfl ?_
    refine x_bipush C (36) d_Model_clear_24 rfl ?_
    refine x_icmp_ge C 42 d_Model_clear_26 rfl (fun h_26 => ?_) (fun h_26 => absurd (show (36 : Int32) ≤ nI i from nI_le (a := 36) (by omega) (by omega)) h_26)
    rw [show i = 36 by omega]
    exact kk _
  | succ n ih =>
    intro i hi
    refine x_iload_n C d_Model_clear_23 (i := 1) rfl rfl ?_
    refine x_bipush C (36) d_Model_clear_24 rfl ?_
    refine x_icmp_ge C 42 d_Model_clear_26 rfl (fun h_26 => absurd (show nI 36 ≤ nI i from h_26) (nI_ge (by omega) (by decide))) (fun h_26 => ?_)
    refine x_aload_n C d_Model_clear_29 (i := 0) rfl rfl ?_
    refine g_Model_crossings C lk_Model_54 d_Model_clear_30 ?_
    refine x_iload_n C d_Model_clear_33 (i := 1) rfl rfl ?_
    refine x_iconst C (0) d_Model_clear_34 rfl ?_
    refine rn_st_m_crossings C  (show i < 36 by omega) d_Model_clear_35 ?_
    refine x_eqM (f_fl_step M 67 i 0) ?_
    refine x_iinc C (nI (i + 1)) d_Model_clear_36 rfl (z_inc i) rfl ?_
    refine x_goto C 23 d_Model_clear_39 rfl ?_
    exact ih (i + 1) (by omega)
theorem lp_Model_clear44 {dA : Nat → ClassId} {ad : Nat → Nat} {M : z_M} {k : z_K} (C : z_C dA ad k b_Model_clear "CellTransportModel" 0 2)
    (kk : ∀ x : Int32, z_X dA ad k 62 [some (.ref (ad 53)), some (.int x)] [] (f_fl M 68 5 0)) :
    ∀ (n i : Nat), i + n = 5 → z_X dA ad k 44 [some (.ref (ad 53)), some (.int (nI i))] [] (f_fl M 68 i 0) := by
  intro n
  induction n with
  | zero =>
    intro i hi
    refine x_iload_n C d_Model_clear_44 (i := 1) rfl rfl ?_
    refine x_iconst C (5) d_Model_clear_45 rfl ?_
    refine x_icmp_ge C 62 d_Model_clear_46 rfl (fun h_46 => ?_) (fun h_46 => absurd (show (5 : Int32) ≤ nI i from nI_le (a := 5) (by omega) (by omega)) h_46)
    rw [show i = 5 by omega]
    exact kk _
  | succ n ih =>
    intro i hi
    refine x_iload_n C d_Model_clear_44 (i := 1) rfl rfl ?_
    refine x_iconst C (5) d_Model_clear_45 rfl ?_
    refine x_icmp_ge C 62 d_Model_clear_46 rfl (fun h_46 => absurd (show nI 5 ≤ nI i from h_46) (nI_ge (by omega) (by decide))) (fun h_46 => ?_)
    refine x_aload_n C d_Model_clear_49 (i := 0) rfl rfl ?_
    refine g_Model_counts C lk_Model_57 d_Model_clear_50 ?_
    refine x_iload_n C d_Model_clear_53 (i := 1) rfl rfl ?_
    refine x_iconst C (0) d_Model_clear_54 rfl ?_
    refine rn_st_m_counts C  (show i < 5 by omega) d_Model_clear_55 ?_
    refine x_eqM (f_fl_step M 68 i 0) ?_
    refine x_iinc C (nI (i + 1)) d_Model_clear_56 rfl (z_inc i) rfl ?_
    refine x_goto C 44 d_Model_clear_59 rfl ?_
    exact ih (i + 1) (by omega)
theorem c_Model_clear {dA : Nat → ClassId} {ad : Nat → Nat} {M : z_M}  : z_CV y_Model_clear b_Model_clear 2 0 dA ad [.ref (ad 53)] M (f_fl (f_fl (f_fl M 66 24 0) 67 36 0) 68 5 0) := by
  refine z_ofV [some (.ref (ad 53)), none] (by decide) (Nat.le_of_ble_eq_true rfl) rfl (fun k C E => ?_)
  have C : z_C dA ad k b_Model_clear "CellTransportModel" 0 2 := C
  refine x_iconst C (0) d_Model_clear_0 rfl ?_
  refine x_istore_n C d_Model_clear_1 (i := 1) rfl rfl ?_
  refine x_eqM (f_fl_0 M 66 0).symm ?_
  refine lp_Model_clear2 C (fun x => ?_) 24 0 (by omega)
  refine x_iconst C (0) d_Model_clear_21 rfl ?_
  refine x_istore_n C d_Model_clear_22 (i := 1) rfl rfl ?_
  refine x_eqM (f_fl_0 (f_fl M 66 24 0) 67 0).symm ?_
  refine lp_Model_clear23 C (fun x => ?_) 36 0 (by omega)
  refine x_iconst C (0) d_Model_clear_42 rfl ?_
  refine x_istore_n C d_Model_clear_43 (i := 1) rfl rfl ?_
  refine x_eqM (f_fl_0 (f_fl (f_fl M 66 24 0) 67 36 0) 68 0).symm ?_
  refine lp_Model_clear44 C (fun x => ?_) 5 0 (by omega)
  exact x_vret C E rfl d_Model_clear_62
end
section
def bt (x : Int32) (i : Nat) : Bool := x.toBitVec.getLsbD i
theorem b_ext {x y : Int32} (h : ∀ i, i < 32 → bt x i = bt y i) : x = y := Int32.toBitVec_inj.mp (BitVec.eq_of_getLsbD_eq (fun i hi => h i hi))
theorem b_or (x y : Int32) (i : Nat) : bt (x ||| y) i = (bt x i || bt y i) := by unfold bt; rw [Int32.toBitVec_or, BitVec.getLsbD_or]
theorem b_and (x y : Int32) (i : Nat) : bt (x &&& y) i = (bt x i && bt y i) := by unfold bt; rw [Int32.toBitVec_and, BitVec.getLsbD_and]
theorem b_xor (x y : Int32) (i : Nat) : bt (x ^^^ y) i = (bt x i ^^ bt y i) := by unfold bt; rw [Int32.toBitVec_xor, BitVec.getLsbD_xor]
theorem b_big {x : Int32} {i : Nat} (h : 32 ≤ i) : bt x i = false := BitVec.getLsbD_of_ge _ _ h
theorem b_255 (i : Nat) : bt 255 i = decide (i < 8) := by
  rcases Nat.lt_or_ge i 32 with h | h
  · exact (by decide +kernel : ∀ i, i < 32 → bt 255 i = decide (i < 8)) i h
  · rw [b_big h, decide_eq_false (by omega)]
theorem b_65535 (i : Nat) : bt 65535 i = decide (i < 16) := by
  rcases Nat.lt_or_ge i 32 with h | h
  · exact (by decide +kernel : ∀ i, i < 32 → bt 65535 i = decide (i < 16)) i h
  · rw [b_big h, decide_eq_false (by omega)]
theorem b_m1 : ∀ i, i < 32 → bt (-1) i = true := by decide +kernel
theorem b_0 (i : Nat) : bt 0 i = false := BitVec.getLsbD_zero
theorem s_l : ∀ n, n < 32 → ((nI n &&& 31).toBitVec.smod 32).toNat = n := by decide +kernel
theorem s_u : ∀ n, n < 32 → (((nI n).toUInt32 &&& Int32.toUInt32 31).toBitVec % 32).toNat = n := by decide +kernel
theorem b_shl (n : Nat) (hn : n < 32) (x : Int32) {i : Nat} (hi : i < 32) : bt (x <<< (nI n &&& 31)) i = (decide (n ≤ i) && bt x (i - n)) := by
  unfold bt
  rw [Int32.toBitVec_shiftLeft]
  show (x.toBitVec <<< ((nI n &&& 31).toBitVec.smod 32).toNat).getLsbD i = _
  rw [s_l n hn, BitVec.getLsbD_shiftLeft]
  rcases Nat.lt_or_ge i n with h | h
  · simp [h, Nat.not_le.mpr h]
  · simp [hi, h, Nat.not_lt.mpr h]
theorem b_ushr (n : Nat) (hn : n < 32) (x : Int32) (i : Nat) : bt ((x.toUInt32 >>> ((nI n).toUInt32 &&& Int32.toUInt32 31)).toInt32) i = bt x (n + i) := by
  show (x.toUInt32 >>> ((nI n).toUInt32 &&& Int32.toUInt32 31)).toBitVec.getLsbD i = x.toUInt32.toBitVec.getLsbD (n + i)
  rw [UInt32.toBitVec_shiftRight]
  show (x.toUInt32.toBitVec >>> (((nI n).toUInt32 &&& Int32.toUInt32 31).toBitVec % 32).toNat).getLsbD i = _
  rw [s_u n hn, BitVec.getLsbD_ushiftRight]
theorem b_sshr (n : Nat) (hn : n < 32) (x : Int32) {i : Nat} (hi : i < 32) : bt (x >>> (nI n &&& 31)) i = if n + i < 32 then bt x (n + i) else bt x 31 := by
  unfold bt
  rw [Int32.toBitVec_shiftRight]
  show (x.toBitVec.sshiftRight ((nI n &&& 31).toBitVec.smod 32).toNat).getLsbD i = _
  rw [s_l n hn, BitVec.getLsbD_sshiftRight, BitVec.msb_eq_getLsbD_last]
  simp [hi]
theorem b_1 : ∀ i, i < 32 → bt 1 i = decide (i = 0) := by decide +kernel
theorem b_m2 : ∀ i, i < 32 → bt (-2) i = decide (i ≠ 0) := by decide +kernel
theorem b_s1 (x : Int32) {i : Nat} (hi : i < 32) : bt (x >>> ((1 : Int32) &&& 31)) i = if 1 + i < 32 then bt x (1 + i) else bt x 31 := b_sshr 1 (by omega) x hi
theorem b_s2 (x : Int32) {i : Nat} (hi : i < 32) : bt (x >>> ((2 : Int32) &&& 31)) i = if 2 + i < 32 then bt x (2 + i) else bt x 31 := b_sshr 2 (by omega) x hi
theorem b_l1 (x : Int32) {i : Nat} (hi : i < 32) : bt (x <<< ((1 : Int32) &&& 31)) i = (decide (1 ≤ i) && bt x (i - 1)) := b_shl 1 (by omega) x hi
theorem z_o1 (o : Int32) : o &&& 1 = 1 ↔ bt o 0 = true := by
  constructor
  · intro h
    have e := congrArg (fun z => bt z 0) h
    simp only [b_and, b_1 0 (by omega)] at e
    simpa using e
  · intro h
    apply b_ext
    intro i hi
    rw [b_and, b_1 i hi]
    by_cases hz : i = 0
    · subst hz; simp [h]
    · simp [hz]
theorem z_hi (o : Int32) {i : Nat} (hi : i < 32) (h0 : i ≠ 0) : bt ((o >>> ((2 : Int32) &&& 31)) <<< ((1 : Int32) &&& 31)) i = bt (o >>> ((1 : Int32) &&& 31)) i := by
  rw [b_l1 _ hi, b_s2 _ (show i - 1 < 32 by omega), b_s1 _ hi, show 2 + (i - 1) = 1 + i by omega]
  have : 1 ≤ i := by omega
  simp [this]
theorem z_lo (o : Int32) : bt ((o >>> ((2 : Int32) &&& 31)) <<< ((1 : Int32) &&& 31)) 0 = false := by
  rw [b_l1 _ (by omega)]
  simp
theorem z_band (o : Int32) : ((o >>> ((2 : Int32) &&& 31)) <<< ((1 : Int32) &&& 31)) ||| ((o &&& 1) &&& ((o >>> ((1 : Int32) &&& 31)) &&& 1)) = if o &&& 1 = 1 then o >>> ((1 : Int32) &&& 31) else (o >>> ((1 : Int32) &&& 31)) &&& (-2) := by
  apply b_ext
  intro i hi
  rw [b_or, b_and, b_and, b_and, b_1 i hi]
  by_cases hz : i = 0
  · subst hz
    rw [z_lo]
    by_cases h : o &&& 1 = 1
    · rw [if_pos h, (z_o1 o).mp h]; simp
    · rw [if_neg h, b_and, b_m2 0 (by omega)]
      have : bt o 0 = false := by
        cases q : bt o 0 with
        | false => rfl
        | true => exact absurd ((z_o1 o).mpr q) h
      simp [this]
  · rw [z_hi o hi hz]
    by_cases h : o &&& 1 = 1
    · rw [if_pos h]; simp [hz]
    · rw [if_neg h, b_and, b_m2 i hi]; simp [hz]
theorem z_bor (o : Int32) : ((o >>> ((2 : Int32) &&& 31)) <<< ((1 : Int32) &&& 31)) ||| ((o &&& 1) ||| ((o >>> ((1 : Int32) &&& 31)) &&& 1)) = (o >>> ((1 : Int32) &&& 31)) ||| (o &&& 1) := by
  apply b_ext
  intro i hi
  rw [b_or, b_or, b_or, b_and, b_and, b_1 i hi]
  by_cases hz : i = 0
  · subst hz
    rw [z_lo]
    simp [Bool.or_comm]
  · rw [z_hi o hi hz]
    simp [hz]
theorem z_bx0 (o : Int32) : o * 2 = o <<< ((1 : Int32) &&& 31) := by
  apply Int32.toBitVec_inj.mp
  rw [Int32.toBitVec_shiftLeft]
  show o.toBitVec * 2#32 = o.toBitVec <<< (((1 : Int32) &&& 31).toBitVec.smod 32).toNat
  rw [show (((1 : Int32) &&& 31).toBitVec.smod 32).toNat = 1 by decide +kernel, BitVec.shiftLeft_eq_mul_twoPow]
  rfl
theorem z_bxz (o : Int32) : o * 2 + 0 = (o <<< ((1 : Int32) &&& 31)) ||| 0 := by
  rw [z_bx0]
  apply b_ext
  intro i hi
  rw [b_or, b_0, Int32.add_zero]
  simp
theorem z_bx1 (o : Int32) : o * 2 + 1 = (o <<< ((1 : Int32) &&& 31)) ||| 1 := by
  rw [z_bx0]
  have h : (o <<< ((1 : Int32) &&& 31)) &&& 1 = 0 := by
    apply b_ext
    intro i hi
    rw [b_and, b_1 i hi, b_l1 o hi, b_0]
    by_cases hz : i = 0
    · subst hz; simp
    · simp [hz]
  apply Int32.toBitVec_inj.mp
  have h2 := congrArg Int32.toBitVec h
  exact BitVec.add_eq_or_of_and_eq_zero _ _ h2
/-! the generator -/
theorem z_tbN (X : Nat) : (nI X).toBitVec.toNat = X % 2 ^ 32 := BitVec.toNat_ofNat X 32
theorem z_mask (x : Int32) : x &&& 2147483647 = nI (x.toBitVec.toNat % 2 ^ 31) := pk_and x 31 (by decide)
theorem z_maskN (X : Nat) : nI X &&& 2147483647 = nI (X % 2 ^ 31) := by
  rw [z_mask, z_tbN, Nat.mod_mod_of_dvd _ (by decide)]
theorem z_fnx (n : Nat) : f_nx (nI n) = nI ((n * 1103515245 + 12345) % 2 ^ 31) := by
  unfold f_nx
  show (nI n * nI 1103515245 + nI 12345) &&& 2147483647 = _
  rw [pk_mul, nI_add, z_maskN]
theorem z_dr1 {g : Int32} {n : Nat} (hn : n < 2 ^ 31) (e : g = nI n) : (g.toInt64 * 1103515245 + 12345) - (g.toInt64 * 1103515245 + 12345) / 2147483648 * 2147483648 = (f_nx g).toInt64 := by
  subst e
  rw [z_fnx, nI_l hn, nI_l (Nat.mod_lt _ (by decide))]
  have e1 : (1103515245 : Int64) = lN 1103515245 := by decide
  have e2 : (12345 : Int64) = lN 12345 := by decide
  have e3 : (2147483648 : Int64) = lN (2 ^ 31) := by decide
  rw [e1, e2, e3, lN_mul, lN_add, pk_lRem (by omega) (by decide) (by decide)]
theorem z_dr2 {s : Int32} {m k : Nat} (hm : m < 2 ^ 31) (e : s = nI m) (h0 : 0 < k) (hk : k < 2 ^ 31) : (s.toInt64 / 256 - s.toInt64 / 256 / (nI k).toInt64 * (nI k).toInt64).toInt32 = z_rm (s / 256) (nI k) := by
  subst e
  have hb : m / 256 < 2 ^ 31 := Nat.lt_of_le_of_lt (Nat.div_le_self _ _) hm
  rw [nI_l hm, nI_l hk]
  show (lN m / lN 256 - lN m / lN 256 / lN k * lN k).toInt32 = nI m / nI 256 - nI m / nI 256 / nI k * nI k
  rw [pk_lDiv (by omega) (by decide) (by decide), pk_lRem (by omega) h0 (by omega), lN_i, pk_div hm (by decide) (by decide), pk_rem hb h0 hk]
theorem z_kne {k : Nat} (h0 : 0 < k) (hk : k < 2 ^ 31) : ¬ (nI k).toInt64 = 0 := by
  rw [nI_l hk]
  intro q
  have := (lN_eq hk (by decide)).mp (show lN k = lN 0 from q)
  omega
theorem z_sd1 {v : Int32} (h : 0 ≤ v) : v.toInt64 = (v &&& 2147483647).toInt64 := by
  obtain ⟨n, hn, e⟩ := nI_of (x := v) (Int32.not_lt.mpr h)
  subst e
  rw [z_maskN, Nat.mod_eq_of_lt hn]
theorem z_sd2 {v : Int32} (h : ¬ 0 ≤ v) : v.toInt64 + 2147483648 = (v &&& 2147483647).toInt64 := by
  have h1 : v.toInt < 0 := by
    have := Int32.not_le.mp h
    rw [Int32.lt_iff_toInt_lt] at this
    exact this
  have h2 : v.toInt = (v.toBitVec.toNat : Int) - 2 ^ 32 := by
    have e : v.toInt = v.toBitVec.toInt := rfl
    rw [e, BitVec.toInt_eq_toNat_cond] at h1 ⊢
    split
    · rename_i q; rw [if_pos q] at h1; omega
    · rfl
  have h3 : v.toBitVec.toNat < 2 ^ 32 := v.toBitVec.isLt
  have h4 : -(2 ^ 31) ≤ v.toInt := Int32.le_toInt v
  have h5 : v.toBitVec.toNat % 2 ^ 31 = v.toBitVec.toNat - 2 ^ 31 := by omega
  rw [z_mask, nI_l (Nat.mod_lt _ (by decide)), h5]
  apply Int64.toInt_inj.mp
  rw [Int64.toInt_add, Int32.toInt_toInt64, show (2147483648 : Int64).toInt = 2147483648 by decide, h2, lN_toInt (by omega)]
  rw [Int.bmod_eq_of_le (by omega) (by omega)]
  omega
theorem z_l2i (x : Int32) : x.toInt64.toInt32 = x := Int32.toInt32_toInt64 x
def g_it : Nat → Int32 → Int32
  | 0, s => s
  | n + 1, s => f_nx (g_it n s)
end
section
theorem c_Model_seed {dA : Nat → ClassId} {ad : Nat → Nat} {M : z_M} (v : Int32) : z_CV y_Model_seed b_Model_seed 2 0 dA ad [.ref (ad 53), .int v] M (z_sv M 53 15 (v &&& 2147483647)) := by
  refine z_ofV [some (.ref (ad 53)), some (.int v)] (by decide) (Nat.le_of_ble_eq_true rfl) rfl (fun k C E => ?_)
  have C : z_C dA ad k b_Model_seed "CellTransportModel" 0 2 := C
  refine x_aload_n C d_Model_seed_0 (i := 0) rfl rfl ?_
  refine x_iload_n C d_Model_seed_1 (i := 1) rfl rfl ?_
  refine x_if_ge C 14 d_Model_seed_2 rfl (fun h_2 => ?_) (fun h_2 => ?_)
  · refine x_iload_n C d_Model_seed_14 (i := 1) rfl rfl ?_
    refine x_i2l C d_Model_seed_15 ?_
    refine u_Model_generator C (x := v &&& 2147483647) (z_sd1 h_2) lk_Model_47 d_Model_seed_16 ?_
    exact x_vret C E rfl d_Model_seed_19
  · refine x_iload_n C d_Model_seed_5 (i := 1) rfl rfl ?_
    refine x_i2l C d_Model_seed_6 ?_
    refine x_ldc2 C (2147483648) d_Model_seed_7 lk_Model_84 ?_
    refine x_ladd C d_Model_seed_10 ?_
    refine x_goto C 16 d_Model_seed_11 rfl ?_
    refine u_Model_generator C (x := v &&& 2147483647) (z_sd2 h_2) lk_Model_47 d_Model_seed_16 ?_
    exact x_vret C E rfl d_Model_seed_19
theorem c_Model_draw {dA : Nat → ClassId} {ad : Nat → Nat} {M : z_M} {n kk : Nat} (hn : n < 2 ^ 31) (eg : M 53 15 = nI n) (h0 : 0 < kk) (hk : kk < 2 ^ 31) : z_CI y_Model_draw b_Model_draw 2 .int 0 dA ad [.ref (ad 53), .int (nI kk)] M (z_rm (f_nx (M 53 15) / 256) (nI kk)) (z_sv M 53 15 (f_nx (M 53 15))) := by
  refine z_ofI [some (.ref (ad 53)), some (.int (nI kk))] (by decide) (Nat.le_of_ble_eq_true rfl) rfl (fun k C E => ?_)
  have C : z_C dA ad k b_Model_draw "CellTransportModel" 0 2 := C
  obtain ⟨m, hm, em⟩ := f_nx_n (M 53 15)
  refine x_aload_n C d_Model_draw_0 (i := 0) rfl rfl ?_
  refine x_aload_n C d_Model_draw_1 (i := 0) rfl rfl ?_
  refine g_Model_generator C lk_Model_47 d_Model_draw_2 ?_
  refine x_ldc2 C (1103515245) d_Model_draw_5 lk_Model_86 ?_
  refine x_lmul C d_Model_draw_8 ?_
  refine x_ldc2 C (12345) d_Model_draw_9 lk_Model_88 ?_
  refine x_ladd C d_Model_draw_12 ?_
  refine x_ldc2 C (2147483648) d_Model_draw_13 lk_Model_84 ?_
  refine x_lrem C d_Model_draw_16 (by decide) ?_
  refine u_Model_generator C (z_dr1 hn eg) lk_Model_47 d_Model_draw_17 ?_
  refine x_aload_n C d_Model_draw_20 (i := 0) rfl rfl ?_
  refine g_Model_generator C lk_Model_47 d_Model_draw_21 ?_
  refine x_eql (congrArg Int32.toInt64 (z_sv_self _ _ _ _)) ?_
  refine x_ldc2 C (256) d_Model_draw_24 lk_Model_90 ?_
  refine x_ldiv C d_Model_draw_27 (by decide) ?_
  refine x_iload_n C d_Model_draw_28 (i := 1) rfl rfl ?_
  refine x_i2l C d_Model_draw_29 ?_
  refine x_lrem C d_Model_draw_30 (z_kne h0 hk) ?_
  refine x_l2i C _ d_Model_draw_31 rfl ?_
  refine x_eqi (z_dr2 hm em h0 hk) ?_
  exact x_iret C E rfl rfl d_Model_draw_32
theorem c_Model_state {dA : Nat → ClassId} {ad : Nat → Nat} {M : z_M}  : z_CI y_Model_state b_Model_state 1 .int 0 dA ad [.ref (ad 53)] M (M 53 15) (M) := by
  refine z_ofI [some (.ref (ad 53))] (by decide) (Nat.le_of_ble_eq_true rfl) rfl (fun k C E => ?_)
  have C : z_C dA ad k b_Model_state "CellTransportModel" 0 1 := C
  refine x_aload_n C d_Model_state_0 (i := 0) rfl rfl ?_
  refine g_Model_generator C lk_Model_47 d_Model_state_1 ?_
  refine x_l2i C _ d_Model_state_4 rfl ?_
  refine x_eqi (z_l2i _) ?_
  exact x_iret C E rfl rfl d_Model_state_5
theorem c_Model_skipN {dA : Nat → ClassId} {ad : Nat → Nat} {M : z_M} {a : Int32} (hn : ¬ p_btw a 0 100000) : z_CI y_Model_skip b_Model_skip 4 .int 1 dA ad [.ref (ad 53), .int a] M (-1) (M) := by
  refine z_ofI [some (.ref (ad 53)), some (.int a), none, none] (by decide) (Nat.le_of_ble_eq_true rfl) rfl (fun k C E => ?_)
  have C : z_C dA ad k b_Model_skip "CellTransportModel" 1 4 := C
  refine x_iload_n C d_Model_skip_0 (i := 1) rfl rfl ?_
  refine x_iconst C (0) d_Model_skip_1 rfl ?_
  refine x_ldc C (100000) d_Model_skip_2 lk_Model_92 ?_
  refine x_callSi C (c_Model_out _ _ _) mt_Model_out rfl rfl (Nat.le_of_ble_eq_true rfl) (Nat.le_of_ble_eq_true rfl) lk_Model_66 d_Model_skip_4 ?_
  refine x_if_eq C 12 d_Model_skip_7 rfl (fun h_7 => ?_) (fun h_7 => ?_)
  · exact absurd (z_out0 h_7) hn
  · refine x_iconst C (-1) d_Model_skip_10 rfl ?_
    exact x_iret C E rfl rfl d_Model_skip_11
theorem g_it_n {s : Int32} (h : ∃ g : Nat, g < 2 ^ 31 ∧ s = nI g) : ∀ i : Nat, ∃ g : Nat, g < 2 ^ 31 ∧ g_it i s = nI g := by
  intro i
  cases i with
  | zero => exact h
  | succ i => exact f_nx_n _
theorem lp_Model_skip {dA : Nat → ClassId} {ad : Nat → Nat} {M0 : z_M} {k : z_K} {N : Nat} (hN : N ≤ 100000) (hg : ∃ g : Nat, g < 2 ^ 31 ∧ M0 53 15 = nI g) (C : z_C dA ad k b_Model_skip "CellTransportModel" 1 4) (E : z_RI dA ad k .int (g_it N (M0 53 15)) (z_sv M0 53 15 (g_it N (M0 53 15)))) :
    ∀ (n i q : Nat), i + n = N → q < 2 ^ 31 → z_X dA ad k 16 [some (.ref (ad 53)), some (.int (nI N)), some (.int (nI q)), some (.int (nI i))] [] (z_sv M0 53 15 (g_it i (M0 53 15))) := by
  intro n
  induction n with
  | zero =>
    intro i q hi hq
    refine x_iload_n C d_Model_skip_16 (i := 3) rfl rfl ?_
    refine x_iload_n C d_Model_skip_17 (i := 1) rfl rfl ?_
    refine x_icmp_ge C 33 d_Model_skip_18 rfl (fun h_18 => ?_) (fun h_18 => absurd (nI_le (by omega) (by omega)) h_18)
    refine x_iload_n C d_Model_skip_33 (i := 2) rfl rfl ?_
    refine x_if_ge C 41 d_Model_skip_34 rfl (fun h_34 => ?_) (fun h_34 => absurd (nI_pos' hq) h_34)
    refine x_aload_n C d_Model_skip_41 (i := 0) rfl rfl ?_
    refine g_Model_generator C lk_Model_47 d_Model_skip_42 ?_
    refine x_eql (congrArg Int32.toInt64 (z_sv_self _ _ _ _)) ?_
    refine x_l2i C _ d_Model_skip_45 rfl ?_
    refine x_eqi (z_l2i _) ?_
    exact x_iret C E (by rw [show i = N by omega]) (by rw [show i = N by omega]) d_Model_skip_46
  | succ n ih =>
    intro i q hi hq
    obtain ⟨g, hg1, hg2⟩ := g_it_n hg i
    obtain ⟨w, hw1, hw2⟩ := f_nx_rm (g_it i (M0 53 15)) (k := 2) (by decide) (by decide)
    have em : z_sv (z_sv M0 53 15 (g_it i (M0 53 15))) 53 15 (f_nx (z_sv M0 53 15 (g_it i (M0 53 15)) 53 15)) = z_sv M0 53 15 (g_it (i + 1) (M0 53 15)) := by rw [z_sv_self, z_sv_sv, g_it]
    have ei : z_rm (f_nx (z_sv M0 53 15 (g_it i (M0 53 15)) 53 15) / 256) (nI 2) = nI w := by rw [z_sv_self]; exact hw2
    refine x_iload_n C d_Model_skip_16 (i := 3) rfl rfl ?_
    refine x_iload_n C d_Model_skip_17 (i := 1) rfl rfl ?_
    refine x_icmp_ge C 33 d_Model_skip_18 rfl (fun h_18 => absurd h_18 (nI_ge (by omega) (by omega))) (fun h_18 => ?_)
    refine x_aload_n C d_Model_skip_21 (i := 0) rfl rfl ?_
    refine x_iconst C (nI 2) d_Model_skip_22 rfl ?_
    refine x_callVi C (c_Model_draw (M := z_sv M0 53 15 (g_it i (M0 53 15))) (kk := 2) hg1 ((z_sv_self _ _ _ _).trans hg2) (by decide) (by decide)) mt_Model_draw zl_Model (zc_Model _) rfl rfl rfl (Nat.le_of_ble_eq_true rfl) (Nat.le_of_ble_eq_true rfl) lk_Model_93 d_Model_skip_23 ?_
    refine x_eqM em ?_
    refine x_eqi ei ?_
    refine x_istore_n C d_Model_skip_26 (i := 2) rfl rfl ?_
    refine x_iinc C (nI (i + 1)) d_Model_skip_27 rfl (z_inc i) rfl ?_
    refine x_goto C 16 d_Model_skip_30 rfl ?_
    exact ih (i + 1) w (by omega) (by omega)
theorem c_Model_skipY {dA : Nat → ClassId} {ad : Nat → Nat} {M : z_M} {N : Nat} (hN : N ≤ 100000) (hg : ∃ g : Nat, g < 2 ^ 31 ∧ M 53 15 = nI g) : z_CI y_Model_skip b_Model_skip 4 .int 1 dA ad [.ref (ad 53), .int (nI N)] M (g_it N (M 53 15)) (z_sv M 53 15 (g_it N (M 53 15))) := by
  refine z_ofI [some (.ref (ad 53)), some (.int (nI N)), none, none] (by decide) (Nat.le_of_ble_eq_true rfl) rfl (fun k C E => ?_)
  have C : z_C dA ad k b_Model_skip "CellTransportModel" 1 4 := C
  refine x_iload_n C d_Model_skip_0 (i := 1) rfl rfl ?_
  refine x_iconst C (0) d_Model_skip_1 rfl ?_
  refine x_ldc C (100000) d_Model_skip_2 lk_Model_92 ?_
  refine x_callSi C (c_Model_out _ _ _) mt_Model_out rfl rfl (Nat.le_of_ble_eq_true rfl) (Nat.le_of_ble_eq_true rfl) lk_Model_66 d_Model_skip_4 ?_
  refine x_if_eq C 12 d_Model_skip_7 rfl (fun h_7 => ?_) (fun h_7 => absurd (z_in (n := 100000) hN (by decide)) (z_b_n0.mp h_7))
  refine x_iconst C (0) d_Model_skip_12 rfl ?_
  refine x_istore_n C d_Model_skip_13 (i := 2) rfl rfl ?_
  refine x_iconst C (0) d_Model_skip_14 rfl ?_
  refine x_istore_n C d_Model_skip_15 (i := 3) rfl rfl ?_
  refine x_eqM (z_sv_id M 53 15).symm ?_
  exact lp_Model_skip hN hg C E N 0 0 (by omega) (by decide)
theorem c_Model_stepX0 {dA : Nat → ClassId} {ad : Nat → Nat} {M : z_M}  : z_CI y_Model_stepX b_Model_stepX 1 .int 0 dA ad [.int (nI 0)] M (z_sX 0) (M) := by
  refine z_ofI [some (.int (nI 0))] (by decide) (Nat.le_of_ble_eq_true rfl) rfl (fun k C E => ?_)
  have C : z_C dA ad k b_Model_stepX "CellTransportModel" 0 1 := C
  refine x_iload_n C d_Model_stepX_0 (i := 0) rfl rfl ?_
  refine x_if_eq C 15 d_Model_stepX_1 rfl (fun h_1 => ?_) (fun h_1 => absurd (by decide) h_1)
  refine x_iconst C (1) d_Model_stepX_15 rfl ?_
  refine x_goto C 35 d_Model_stepX_16 rfl ?_
  exact x_iret C E rfl rfl d_Model_stepX_35
theorem c_Model_stepX1 {dA : Nat → ClassId} {ad : Nat → Nat} {M : z_M}  : z_CI y_Model_stepX b_Model_stepX 1 .int 0 dA ad [.int (nI 1)] M (z_sX 1) (M) := by
  refine z_ofI [some (.int (nI 1))] (by decide) (Nat.le_of_ble_eq_true rfl) rfl (fun k C E => ?_)
  have C : z_C dA ad k b_Model_stepX "CellTransportModel" 0 1 := C
  refine x_iload_n C d_Model_stepX_0 (i := 0) rfl rfl ?_
  refine x_if_eq C 15 d_Model_stepX_1 rfl (fun h_1 => absurd h_1 (by decide)) (fun h_1 => ?_)
  refine x_iload_n C d_Model_stepX_4 (i := 0) rfl rfl ?_
  refine x_iconst C (1) d_Model_stepX_5 rfl ?_
  refine x_icmp_eq C 15 d_Model_stepX_6 rfl (fun h_6 => ?_) (fun h_6 => absurd (by decide) h_6)
  refine x_iconst C (1) d_Model_stepX_15 rfl ?_
  refine x_goto C 35 d_Model_stepX_16 rfl ?_
  exact x_iret C E rfl rfl d_Model_stepX_35
theorem c_Model_stepX2 {dA : Nat → ClassId} {ad : Nat → Nat} {M : z_M}  : z_CI y_Model_stepX b_Model_stepX 1 .int 0 dA ad [.int (nI 2)] M (z_sX 2) (M) := by
  refine z_ofI [some (.int (nI 2))] (by decide) (Nat.le_of_ble_eq_true rfl) rfl (fun k C E => ?_)
  have C : z_C dA ad k b_Model_stepX "CellTransportModel" 0 1 := C
  refine x_iload_n C d_Model_stepX_0 (i := 0) rfl rfl ?_
  refine x_if_eq C 15 d_Model_stepX_1 rfl (fun h_1 => absurd h_1 (by decide)) (fun h_1 => ?_)
  refine x_iload_n C d_Model_stepX_4 (i := 0) rfl rfl ?_
  refine x_iconst C (1) d_Model_stepX_5 rfl ?_
  refine x_icmp_eq C 15 d_Model_stepX_6 rfl (fun h_6 => absurd h_6 (by decide)) (fun h_6 => ?_)
  refine x_iload_n C d_Model_stepX_9 (i := 0) rfl rfl ?_
  refine x_bipush C (7) d_Model_stepX_10 rfl ?_
  refine x_icmp_ne C 19 d_Model_stepX_12 rfl (fun h_12 => ?_) (fun h_12 => absurd h_12 (by decide))
  refine x_iload_n C d_Model_stepX_19 (i := 0) rfl rfl ?_
  refine x_iconst C (2) d_Model_stepX_20 rfl ?_
  refine x_icmp_eq C 30 d_Model_stepX_21 rfl (fun h_21 => ?_) (fun h_21 => absurd (by decide) h_21)
  refine x_iconst C (0) d_Model_stepX_30 rfl ?_
  refine x_goto C 35 d_Model_stepX_31 rfl ?_
  exact x_iret C E rfl rfl d_Model_stepX_35
theorem c_Model_stepX3 {dA : Nat → ClassId} {ad : Nat → Nat} {M : z_M}  : z_CI y_Model_stepX b_Model_stepX 1 .int 0 dA ad [.int (nI 3)] M (z_sX 3) (M) := by
  refine z_ofI [some (.int (nI 3))] (by decide) (Nat.le_of_ble_eq_true rfl) rfl (fun k C E => ?_)
  have C : z_C dA ad k b_Model_stepX "CellTransportModel" 0 1 := C
  refine x_iload_n C d_Model_stepX_0 (i := 0) rfl rfl ?_
  refine x_if_eq C 15 d_Model_stepX_1 rfl (fun h_1 => absurd h_1 (by decide)) (fun h_1 => ?_)
  refine x_iload_n C d_Model_stepX_4 (i := 0) rfl rfl ?_
  refine x_iconst C (1) d_Model_stepX_5 rfl ?_
  refine x_icmp_eq C 15 d_Model_stepX_6 rfl (fun h_6 => absurd h_6 (by decide)) (fun h_6 => ?_)
  refine x_iload_n C d_Model_stepX_9 (i := 0) rfl rfl ?_
  refine x_bipush C (7) d_Model_stepX_10 rfl ?_
  refine x_icmp_ne C 19 d_Model_stepX_12 rfl (fun h_12 => ?_) (fun h_12 => absurd h_12 (by decide))
  refine x_iload_n C d_Model_stepX_19 (i := 0) rfl rfl ?_
  refine x_iconst C (2) d_Model_stepX_20 rfl ?_
  refine x_icmp_eq C 30 d_Model_stepX_21 rfl (fun h_21 => absurd h_21 (by decide)) (fun h_21 => ?_)
  refine x_iload_n C d_Model_stepX_24 (i := 0) rfl rfl ?_
  refine x_bipush C (6) d_Model_stepX_25 rfl ?_
  refine x_icmp_ne C 34 d_Model_stepX_27 rfl (fun h_27 => ?_) (fun h_27 => absurd h_27 (by decide))
  refine x_iconst C (-1) d_Model_stepX_34 rfl ?_
  exact x_iret C E rfl rfl d_Model_stepX_35
theorem c_Model_stepX4 {dA : Nat → ClassId} {ad : Nat → Nat} {M : z_M}  : z_CI y_Model_stepX b_Model_stepX 1 .int 0 dA ad [.int (nI 4)] M (z_sX 4) (M) := by
  refine z_ofI [some (.int (nI 4))] (by decide) (Nat.le_of_ble_eq_true rfl) rfl (fun k C E => ?_)
  have C : z_C dA ad k b_Model_stepX "CellTransportModel" 0 1 := C
  refine x_iload_n C d_Model_stepX_0 (i := 0) rfl rfl ?_
  refine x_if_eq C 15 d_Model_stepX_1 rfl (fun h_1 => absurd h_1 (by decide)) (fun h_1 => ?_)
  refine x_iload_n C d_Model_stepX_4 (i := 0) rfl rfl ?_
  refine x_iconst C (1) d_Model_stepX_5 rfl ?_
  refine x_icmp_eq C 15 d_Model_stepX_6 rfl (fun h_6 => absurd h_6 (by decide)) (fun h_6 => ?_)
  refine x_iload_n C d_Model_stepX_9 (i := 0) rfl rfl ?_
  refine x_bipush C (7) d_Model_stepX_10 rfl ?_
  refine x_icmp_ne C 19 d_Model_stepX_12 rfl (fun h_12 => ?_) (fun h_12 => absurd h_12 (by decide))
  refine x_iload_n C d_Model_stepX_19 (i := 0) rfl rfl ?_
  refine x_iconst C (2) d_Model_stepX_20 rfl ?_
  refine x_icmp_eq C 30 d_Model_stepX_21 rfl (fun h_21 => absurd h_21 (by decide)) (fun h_21 => ?_)
  refine x_iload_n C d_Model_stepX_24 (i := 0) rfl rfl ?_
  refine x_bipush C (6) d_Model_stepX_25 rfl ?_
  refine x_icmp_ne C 34 d_Model_stepX_27 rfl (fun h_27 => ?_) (fun h_27 => absurd h_27 (by decide))
  refine x_iconst C (-1) d_Model_stepX_34 rfl ?_
  exact x_iret C E rfl rfl d_Model_stepX_35
theorem c_Model_stepX5 {dA : Nat → ClassId} {ad : Nat → Nat} {M : z_M}  : z_CI y_Model_stepX b_Model_stepX 1 .int 0 dA ad [.int (nI 5)] M (z_sX 5) (M) := by
  refine z_ofI [some (.int (nI 5))] (by decide) (Nat.le_of_ble_eq_true rfl) rfl (fun k C E => ?_)
  have C : z_C dA ad k b_Model_stepX "CellTransportModel" 0 1 := C
  refine x_iload_n C d_Model_stepX_0 (i := 0) rfl rfl ?_
  refine x_if_eq C 15 d_Model_stepX_1 rfl (fun h_1 => absurd h_1 (by decide)) (fun h_1 => ?_)
  refine x_iload_n C d_Model_stepX_4 (i := 0) rfl rfl ?_
  refine x_iconst C (1) d_Model_stepX_5 rfl ?_
  refine x_icmp_eq C 15 d_Model_stepX_6 rfl (fun h_6 => absurd h_6 (by decide)) (fun h_6 => ?_)
  refine x_iload_n C d_Model_stepX_9 (i := 0) rfl rfl ?_
  refine x_bipush C (7) d_Model_stepX_10 rfl ?_
  refine x_icmp_ne C 19 d_Model_stepX_12 rfl (fun h_12 => ?_) (fun h_12 => absurd h_12 (by decide))
  refine x_iload_n C d_Model_stepX_19 (i := 0) rfl rfl ?_
  refine x_iconst C (2) d_Model_stepX_20 rfl ?_
  refine x_icmp_eq C 30 d_Model_stepX_21 rfl (fun h_21 => absurd h_21 (by decide)) (fun h_21 => ?_)
  refine x_iload_n C d_Model_stepX_24 (i := 0) rfl rfl ?_
  refine x_bipush C (6) d_Model_stepX_25 rfl ?_
  refine x_icmp_ne C 34 d_Model_stepX_27 rfl (fun h_27 => ?_) (fun h_27 => absurd h_27 (by decide))
  refine x_iconst C (-1) d_Model_stepX_34 rfl ?_
  exact x_iret C E rfl rfl d_Model_stepX_35
theorem c_Model_stepX6 {dA : Nat → ClassId} {ad : Nat → Nat} {M : z_M}  : z_CI y_Model_stepX b_Model_stepX 1 .int 0 dA ad [.int (nI 6)] M (z_sX 6) (M) := by
  refine z_ofI [some (.int (nI 6))] (by decide) (Nat.le_of_ble_eq_true rfl) rfl (fun k C E => ?_)
  have C : z_C dA ad k b_Model_stepX "CellTransportModel" 0 1 := C
  refine x_iload_n C d_Model_stepX_0 (i := 0) rfl rfl ?_
  refine x_if_eq C 15 d_Model_stepX_1 rfl (fun h_1 => absurd h_1 (by decide)) (fun h_1 => ?_)
  refine x_iload_n C d_Model_stepX_4 (i := 0) rfl rfl ?_
  refine x_iconst C (1) d_Model_stepX_5 rfl ?_
  refine x_icmp_eq C 15 d_Model_stepX_6 rfl (fun h_6 => absurd h_6 (by decide)) (fun h_6 => ?_)
  refine x_iload_n C d_Model_stepX_9 (i := 0) rfl rfl ?_
  refine x_bipush C (7) d_Model_stepX_10 rfl ?_
  refine x_icmp_ne C 19 d_Model_stepX_12 rfl (fun h_12 => ?_) (fun h_12 => absurd h_12 (by decide))
  refine x_iload_n C d_Model_stepX_19 (i := 0) rfl rfl ?_
  refine x_iconst C (2) d_Model_stepX_20 rfl ?_
  refine x_icmp_eq C 30 d_Model_stepX_21 rfl (fun h_21 => absurd h_21 (by decide)) (fun h_21 => ?_)
  refine x_iload_n C d_Model_stepX_24 (i := 0) rfl rfl ?_
  refine x_bipush C (6) d_Model_stepX_25 rfl ?_
  refine x_icmp_ne C 34 d_Model_stepX_27 rfl (fun h_27 => absurd (by decide) h_27) (fun h_27 => ?_)
  refine x_iconst C (0) d_Model_stepX_30 rfl ?_
  refine x_goto C 35 d_Model_stepX_31 rfl ?_
  exact x_iret C E rfl rfl d_Model_stepX_35
theorem c_Model_stepX7 {dA : Nat → ClassId} {ad : Nat → Nat} {M : z_M}  : z_CI y_Model_stepX b_Model_stepX 1 .int 0 dA ad [.int (nI 7)] M (z_sX 7) (M) := by
  refine z_ofI [some (.int (nI 7))] (by decide) (Nat.le_of_ble_eq_true rfl) rfl (fun k C E => ?_)
  have C : z_C dA ad k b_Model_stepX "CellTransportModel" 0 1 := C
  refine x_iload_n C d_Model_stepX_0 (i := 0) rfl rfl ?_
  refine x_if_eq C 15 d_Model_stepX_1 rfl (fun h_1 => absurd h_1 (by decide)) (fun h_1 => ?_)
  refine x_iload_n C d_Model_stepX_4 (i := 0) rfl rfl ?_
  refine x_iconst C (1) d_Model_stepX_5 rfl ?_
  refine x_icmp_eq C 15 d_Model_stepX_6 rfl (fun h_6 => absurd h_6 (by decide)) (fun h_6 => ?_)
  refine x_iload_n C d_Model_stepX_9 (i := 0) rfl rfl ?_
  refine x_bipush C (7) d_Model_stepX_10 rfl ?_
  refine x_icmp_ne C 19 d_Model_stepX_12 rfl (fun h_12 => absurd (by decide) h_12) (fun h_12 => ?_)
  refine x_iconst C (1) d_Model_stepX_15 rfl ?_
  refine x_goto C 35 d_Model_stepX_16 rfl ?_
  exact x_iret C E rfl rfl d_Model_stepX_35
theorem c_Model_stepX {dA : Nat → ClassId} {ad : Nat → Nat} {M : z_M} {dd : Nat} (hd : dd < 8) : z_CI y_Model_stepX b_Model_stepX 1 .int 0 dA ad [.int (nI dd)] M (z_sX dd) M := by
  rcases (show dd = 0 ∨ dd = 1 ∨ dd = 2 ∨ dd = 3 ∨ dd = 4 ∨ dd = 5 ∨ dd = 6 ∨ dd = 7 by omega) with rfl | rfl | rfl | rfl | rfl | rfl | rfl | rfl
  · exact c_Model_stepX0
  · exact c_Model_stepX1
  · exact c_Model_stepX2
  · exact c_Model_stepX3
  · exact c_Model_stepX4
  · exact c_Model_stepX5
  · exact c_Model_stepX6
  · exact c_Model_stepX7
theorem c_Model_stepY0 {dA : Nat → ClassId} {ad : Nat → Nat} {M : z_M}  : z_CI y_Model_stepY b_Model_stepY 1 .int 0 dA ad [.int (nI 0)] M (z_sY 0) (M) := by
  refine z_ofI [some (.int (nI 0))] (by decide) (Nat.le_of_ble_eq_true rfl) rfl (fun k C E => ?_)
  have C : z_C dA ad k b_Model_stepY "CellTransportModel" 0 1 := C
  refine x_iload_n C d_Model_stepY_0 (i := 0) rfl rfl ?_
  refine x_if_eq C 9 d_Model_stepY_1 rfl (fun h_1 => ?_) (fun h_1 => absurd (by decide) h_1)
  refine x_iconst C (0) d_Model_stepY_9 rfl ?_
  refine x_goto C 23 d_Model_stepY_10 rfl ?_
  exact x_iret C E rfl rfl d_Model_stepY_23
theorem c_Model_stepY1 {dA : Nat → ClassId} {ad : Nat → Nat} {M : z_M}  : z_CI y_Model_stepY b_Model_stepY 1 .int 0 dA ad [.int (nI 1)] M (z_sY 1) (M) := by
  refine z_ofI [some (.int (nI 1))] (by decide) (Nat.le_of_ble_eq_true rfl) rfl (fun k C E => ?_)
  have C : z_C dA ad k b_Model_stepY "CellTransportModel" 0 1 := C
  refine x_iload_n C d_Model_stepY_0 (i := 0) rfl rfl ?_
  refine x_if_eq C 9 d_Model_stepY_1 rfl (fun h_1 => absurd h_1 (by decide)) (fun h_1 => ?_)
  refine x_iload_n C d_Model_stepY_4 (i := 0) rfl rfl ?_
  refine x_iconst C (4) d_Model_stepY_5 rfl ?_
  refine x_icmp_ne C 13 d_Model_stepY_6 rfl (fun h_6 => ?_) (fun h_6 => absurd h_6 (by decide))
  refine x_iload_n C d_Model_stepY_13 (i := 0) rfl rfl ?_
  refine x_iconst C (4) d_Model_stepY_14 rfl ?_
  refine x_icmp_ge C 22 d_Model_stepY_15 rfl (fun h_15 => absurd h_15 (by decide)) (fun h_15 => ?_)
  refine x_iconst C (1) d_Model_stepY_18 rfl ?_
  refine x_goto C 23 d_Model_stepY_19 rfl ?_
  exact x_iret C E rfl rfl d_Model_stepY_23
theorem c_Model_stepY2 {dA : Nat → ClassId} {ad : Nat → Nat} {M : z_M}  : z_CI y_Model_stepY b_Model_stepY 1 .int 0 dA ad [.int (nI 2)] M (z_sY 2) (M) := by
  refine z_ofI [some (.int (nI 2))] (by decide) (Nat.le_of_ble_eq_true rfl) rfl (fun k C E => ?_)
  have C : z_C dA ad k b_Model_stepY "CellTransportModel" 0 1 := C
  refine x_iload_n C d_Model_stepY_0 (i := 0) rfl rfl ?_
  refine x_if_eq C 9 d_Model_stepY_1 rfl (fun h_1 => absurd h_1 (by decide)) (fun h_1 => ?_)
  refine x_iload_n C d_Model_stepY_4 (i := 0) rfl rfl ?_
  refine x_iconst C (4) d_Model_stepY_5 rfl ?_
  refine x_icmp_ne C 13 d_Model_stepY_6 rfl (fun h_6 => ?_) (fun h_6 => absurd h_6 (by decide))
  refine x_iload_n C d_Model_stepY_13 (i := 0) rfl rfl ?_
  refine x_iconst C (4) d_Model_stepY_14 rfl ?_
  refine x_icmp_ge C 22 d_Model_stepY_15 rfl (fun h_15 => absurd h_15 (by decide)) (fun h_15 => ?_)
  refine x_iconst C (1) d_Model_stepY_18 rfl ?_
  refine x_goto C 23 d_Model_stepY_19 rfl ?_
  exact x_iret C E rfl rfl d_Model_stepY_23
theorem c_Model_stepY3 {dA : Nat → ClassId} {ad : Nat → Nat} {M : z_M}  : z_CI y_Model_stepY b_Model_stepY 1 .int 0 dA ad [.int (nI 3)] M (z_sY 3) (M) := by
  refine z_ofI [some (.int (nI 3))] (by decide) (Nat.le_of_ble_eq_true rfl) rfl (fun k C E => ?_)
  have C : z_C dA ad k b_Model_stepY "CellTransportModel" 0 1 := C
  refine x_iload_n C d_Model_stepY_0 (i := 0) rfl rfl ?_
  refine x_if_eq C 9 d_Model_stepY_1 rfl (fun h_1 => absurd h_1 (by decide)) (fun h_1 => ?_)
  refine x_iload_n C d_Model_stepY_4 (i := 0) rfl rfl ?_
  refine x_iconst C (4) d_Model_stepY_5 rfl ?_
  refine x_icmp_ne C 13 d_Model_stepY_6 rfl (fun h_6 => ?_) (fun h_6 => absurd h_6 (by decide))
  refine x_iload_n C d_Model_stepY_13 (i := 0) rfl rfl ?_
  refine x_iconst C (4) d_Model_stepY_14 rfl ?_
  refine x_icmp_ge C 22 d_Model_stepY_15 rfl (fun h_15 => absurd h_15 (by decide)) (fun h_15 => ?_)
  refine x_iconst C (1) d_Model_stepY_18 rfl ?_
  refine x_goto C 23 d_Model_stepY_19 rfl ?_
  exact x_iret C E rfl rfl d_Model_stepY_23
theorem c_Model_stepY4 {dA : Nat → ClassId} {ad : Nat → Nat} {M : z_M}  : z_CI y_Model_stepY b_Model_stepY 1 .int 0 dA ad [.int (nI 4)] M (z_sY 4) (M) := by
  refine z_ofI [some (.int (nI 4))] (by decide) (Nat.le_of_ble_eq_true rfl) rfl (fun k C E => ?_)
  have C : z_C dA ad k b_Model_stepY "CellTransportModel" 0 1 := C
  refine x_iload_n C d_Model_stepY_0 (i := 0) rfl rfl ?_
  refine x_if_eq C 9 d_Model_stepY_1 rfl (fun h_1 => absurd h_1 (by decide)) (fun h_1 => ?_)
  refine x_iload_n C d_Model_stepY_4 (i := 0) rfl rfl ?_
  refine x_iconst C (4) d_Model_stepY_5 rfl ?_
  refine x_icmp_ne C 13 d_Model_stepY_6 rfl (fun h_6 => absurd (by decide) h_6) (fun h_6 => ?_)
  refine x_iconst C (0) d_Model_stepY_9 rfl ?_
  refine x_goto C 23 d_Model_stepY_10 rfl ?_
  exact x_iret C E rfl rfl d_Model_stepY_23
theorem c_Model_stepY5 {dA : Nat → ClassId} {ad : Nat → Nat} {M : z_M}  : z_CI y_Model_stepY b_Model_stepY 1 .int 0 dA ad [.int (nI 5)] M (z_sY 5) (M) := by
  refine z_ofI [some (.int (nI 5))] (by decide) (Nat.le_of_ble_eq_true rfl) rfl (fun k C E => ?_)
  have C : z_C dA ad k b_Model_stepY "CellTransportModel" 0 1 := C
  refine x_iload_n C d_Model_stepY_0 (i := 0) rfl rfl ?_
  refine x_if_eq C 9 d_Model_stepY_1 rfl (fun h_1 => absurd h_1 (by decide)) (fun h_1 => ?_)
  refine x_iload_n C d_Model_stepY_4 (i := 0) rfl rfl ?_
  refine x_iconst C (4) d_Model_stepY_5 rfl ?_
  refine x_icmp_ne C 13 d_Model_stepY_6 rfl (fun h_6 => ?_) (fun h_6 => absurd h_6 (by decide))
  refine x_iload_n C d_Model_stepY_13 (i := 0) rfl rfl ?_
  refine x_iconst C (4) d_Model_stepY_14 rfl ?_
  refine x_icmp_ge C 22 d_Model_stepY_15 rfl (fun h_15 => ?_) (fun h_15 => absurd (by decide) h_15)
  refine x_iconst C (-1) d_Model_stepY_22 rfl ?_
  exact x_iret C E rfl rfl d_Model_stepY_23
theorem c_Model_stepY6 {dA : Nat → ClassId} {ad : Nat → Nat} {M : z_M}  : z_CI y_Model_stepY b_Model_stepY 1 .int 0 dA ad [.int (nI 6)] M (z_sY 6) (M) := by
  refine z_ofI [some (.int (nI 6))] (by decide) (Nat.le_of_ble_eq_true rfl) rfl (fun k C E => ?_)
  have C : z_C dA ad k b_Model_stepY "CellTransportModel" 0 1 := C
  refine x_iload_n C d_Model_stepY_0 (i := 0) rfl rfl ?_
  refine x_if_eq C 9 d_Model_stepY_1 rfl (fun h_1 => absurd h_1 (by decide)) (fun h_1 => ?_)
  refine x_iload_n C d_Model_stepY_4 (i := 0) rfl rfl ?_
  refine x_iconst C (4) d_Model_stepY_5 rfl ?_
  refine x_icmp_ne C 13 d_Model_stepY_6 rfl (fun h_6 => ?_) (fun h_6 => absurd h_6 (by decide))
  refine x_iload_n C d_Model_stepY_13 (i := 0) rfl rfl ?_
  refine x_iconst C (4) d_Model_stepY_14 rfl ?_
  refine x_icmp_ge C 22 d_Model_stepY_15 rfl (fun h_15 => ?_) (fun h_15 => absurd (by decide) h_15)
  refine x_iconst C (-1) d_Model_stepY_22 rfl ?_
  exact x_iret C E rfl rfl d_Model_stepY_23
theorem c_Model_stepY7 {dA : Nat → ClassId} {ad : Nat → Nat} {M : z_M}  : z_CI y_Model_stepY b_Model_stepY 1 .int 0 dA ad [.int (nI 7)] M (z_sY 7) (M) := by
  refine z_ofI [some (.int (nI 7))] (by decide) (Nat.le_of_ble_eq_true rfl) rfl (fun k C E => ?_)
  have C : z_C dA ad k b_Model_stepY "CellTransportModel" 0 1 := C
  refine x_iload_n C d_Model_stepY_0 (i := 0) rfl rfl ?_
  refine x_if_eq C 9 d_Model_stepY_1 rfl (fun h_1 => absurd h_1 (by decide)) (fun h_1 => ?_)
  refine x_iload_n C d_Model_stepY_4 (i := 0) rfl rfl ?_
  refine x_iconst C (4) d_Model_stepY_5 rfl ?_
  refine x_icmp_ne C 13 d_Model_stepY_6 rfl (fun h_6 => ?_) (fun h_6 => absurd h_6 (by decide))
  refine x_iload_n C d_Model_stepY_13 (i := 0) rfl rfl ?_
  refine x_iconst C (4) d_Model_stepY_14 rfl ?_
  refine x_icmp_ge C 22 d_Model_stepY_15 rfl (fun h_15 => ?_) (fun h_15 => absurd (by decide) h_15)
  refine x_iconst C (-1) d_Model_stepY_22 rfl ?_
  exact x_iret C E rfl rfl d_Model_stepY_23
theorem c_Model_stepY {dA : Nat → ClassId} {ad : Nat → Nat} {M : z_M} {dd : Nat} (hd : dd < 8) : z_CI y_Model_stepY b_Model_stepY 1 .int 0 dA ad [.int (nI dd)] M (z_sY dd) M := by
  rcases (show dd = 0 ∨ dd = 1 ∨ dd = 2 ∨ dd = 3 ∨ dd = 4 ∨ dd = 5 ∨ dd = 6 ∨ dd = 7 by omega) with rfl | rfl | rfl | rfl | rfl | rfl | rfl | rfl
  · exact c_Model_stepY0
  · exact c_Model_stepY1
  · exact c_Model_stepY2
  · exact c_Model_stepY3
  · exact c_Model_stepY4
  · exact c_Model_stepY5
  · exact c_Model_stepY6
  · exact c_Model_stepY7
theorem z_Vs (M : z_M) {j : Nat} (hj : j < 8) : z_V M (i_surf j) 0 = M 58 j ∧ z_V M (i_surf j) 1 = M 54 j ∧ z_V M (i_surf j) 2 = M 55 j ∧ z_V M (i_surf j) 3 = M 56 j ∧ z_V M (i_surf j) 4 = M 57 j := ⟨z_V_at (z_m_surf hj).1, z_V_at (z_m_surf hj).2.1, z_V_at (z_m_surf hj).2.2.1, z_V_at (z_m_surf hj).2.2.2.1, z_V_at (z_m_surf hj).2.2.2.2⟩
abbrev q_sh (M : z_M) (j : Nat) (x y : Int32) : Prop := ¬ M 58 j = 0 ∧ (if M 54 j = 0 then M 55 j * x + M 56 j * y ≤ M 57 j else (x - M 55 j) * (x - M 55 j) + (y - M 56 j) * (y - M 56 j) ≤ M 57 j * M 57 j)
theorem q_sh_V (M : z_M) {j : Nat} (hj : j < 8) (x y : Int32) : z_b (q_sh M j x y) = z_b (p_sh (z_V M (i_surf j)) x y) := by
  apply z_b_iff
  obtain ⟨e0, e1, e2, e3, e4⟩ := z_Vs M hj
  unfold p_sh
  rw [e0, e1, e2, e3, e4]
theorem c_Model_holds0 {dA : Nat → ClassId} {ad : Nat → Nat} {M : z_M} {j : Nat} (hj : j < 8) (x y : Int32) : z_CI y_Model_holds b_Model_holds 6 .boolean 0 dA ad [.ref (ad 53), .int (nI j), .int x, .int y] M (z_b (q_sh M j x y)) (M) := by
  refine z_ofI [some (.ref (ad 53)), some (.int (nI j)), some (.int x), some (.int y), none, none] (by decide) (Nat.le_of_ble_eq_true rfl) rfl (fun k C E => ?_)
  have C : z_C dA ad k b_Model_holds "CellTransportModel" 0 6 := C
  refine x_aload_n C d_Model_holds_0 (i := 0) rfl rfl ?_
  refine g_Model_set C lk_Model_22 d_Model_holds_1 ?_
  refine x_iload_n C d_Model_holds_4 (i := 1) rfl rfl ?_
  refine rn_ld_m_set C  hj d_Model_holds_5 ?_
  refine x_if_ne C 11 d_Model_holds_6 rfl (fun h_6 => ?_) (fun h_6 => ?_)
  · refine x_aload_n C d_Model_holds_11 (i := 0) rfl rfl ?_
    refine g_Model_kind C lk_Model_7 d_Model_holds_12 ?_
    refine x_iload_n C d_Model_holds_15 (i := 1) rfl rfl ?_
    refine rn_ld_m_kind C  hj d_Model_holds_16 ?_
    refine x_if_ne C 52 d_Model_holds_17 rfl (fun h_17 => ?_) (fun h_17 => ?_)
    · refine x_iload_n C d_Model_holds_52 (i := 2) rfl rfl ?_
      refine x_aload_n C d_Model_holds_53 (i := 0) rfl rfl ?_
      refine g_Model_sa C lk_Model_13 d_Model_holds_54 ?_
      refine x_iload_n C d_Model_holds_57 (i := 1) rfl rfl ?_
      refine rn_ld_m_sa C  hj d_Model_holds_58 ?_
      refine x_isub C d_Model_holds_59 ?_
      refine x_istore C d_Model_holds_60 rfl ?_
      refine x_iload_n C d_Model_holds_62 (i := 3) rfl rfl ?_
      refine x_aload_n C d_Model_holds_63 (i := 0) rfl rfl ?_
      refine g_Model_sb C lk_Model_16 d_Model_holds_64 ?_
      refine x_iload_n C d_Model_holds_67 (i := 1) rfl rfl ?_
      refine rn_ld_m_sb C  hj d_Model_holds_68 ?_
      refine x_isub C d_Model_holds_69 ?_
      refine x_istore C d_Model_holds_70 rfl ?_
      refine x_iload C d_Model_holds_72 rfl ?_
      refine x_iload C d_Model_holds_74 rfl ?_
      refine x_imul C d_Model_holds_76 ?_
      refine x_iload C d_Model_holds_77 rfl ?_
      refine x_iload C d_Model_holds_79 rfl ?_
      refine x_imul C d_Model_holds_81 ?_
      refine x_iadd C d_Model_holds_82 ?_
      refine x_aload_n C d_Model_holds_83 (i := 0) rfl rfl ?_
      refine g_Model_sc C lk_Model_19 d_Model_holds_84 ?_
      refine x_iload_n C d_Model_holds_87 (i := 1) rfl rfl ?_
      refine rn_ld_m_sc C  hj d_Model_holds_88 ?_
      refine x_aload_n C d_Model_holds_89 (i := 0) rfl rfl ?_
      refine g_Model_sc C lk_Model_19 d_Model_holds_90 ?_
      refine x_iload_n C d_Model_holds_93 (i := 1) rfl rfl ?_
      refine rn_ld_m_sc C  hj d_Model_holds_94 ?_
      refine x_imul C d_Model_holds_95 ?_
      refine x_icmp_gt C 103 d_Model_holds_96 rfl (fun h_96 => ?_) (fun h_96 => ?_)
      · refine x_iconst C (0) d_Model_holds_103 rfl ?_
        exact x_zret C E (z_b_f (fun q => by have q2 := q.2; rw [if_neg h_17] at q2; exact Int32.not_lt.mpr q2 h_96)).symm rfl rfl d_Model_holds_104
      · refine x_iconst C (1) d_Model_holds_99 rfl ?_
        refine x_goto C 104 d_Model_holds_100 rfl ?_
        exact x_zret C E (z_b_t ⟨h_6, by rw [if_neg h_17]; exact z_le h_96⟩).symm rfl rfl d_Model_holds_104
    · refine x_aload_n C d_Model_holds_20 (i := 0) rfl rfl ?_
      refine g_Model_sa C lk_Model_13 d_Model_holds_21 ?_
      refine x_iload_n C d_Model_holds_24 (i := 1) rfl rfl ?_
      refine rn_ld_m_sa C  hj d_Model_holds_25 ?_
      refine x_iload_n C d_Model_holds_26 (i := 2) rfl rfl ?_
      refine x_imul C d_Model_holds_27 ?_
      refine x_aload_n C d_Model_holds_28 (i := 0) rfl rfl ?_
      refine g_Model_sb C lk_Model_16 d_Model_holds_29 ?_
      refine x_iload_n C d_Model_holds_32 (i := 1) rfl rfl ?_
      refine rn_ld_m_sb C  hj d_Model_holds_33 ?_
      refine x_iload_n C d_Model_holds_34 (i := 3) rfl rfl ?_
      refine x_imul C d_Model_holds_35 ?_
      refine x_iadd C d_Model_holds_36 ?_
      refine x_aload_n C d_Model_holds_37 (i := 0) rfl rfl ?_
      refine g_Model_sc C lk_Model_19 d_Model_holds_38 ?_
      refine x_iload_n C d_Model_holds_41 (i := 1) rfl rfl ?_
      refine rn_ld_m_sc C  hj d_Model_holds_42 ?_
      refine x_icmp_gt C 50 d_Model_holds_43 rfl (fun h_43 => ?_) (fun h_43 => ?_)
      · refine x_iconst C (0) d_Model_holds_50 rfl ?_
        exact x_zret C E (z_b_f (fun q => by have q2 := q.2; rw [if_pos h_17] at q2; exact Int32.not_lt.mpr q2 h_43)).symm rfl rfl d_Model_holds_51
      · refine x_iconst C (1) d_Model_holds_46 rfl ?_
        refine x_goto C 51 d_Model_holds_47 rfl ?_
        exact x_zret C E (z_b_t ⟨h_6, by rw [if_pos h_17]; exact z_le h_43⟩).symm rfl rfl d_Model_holds_51
  · refine x_iconst C (0) d_Model_holds_9 rfl ?_
    exact x_zret C E (z_b_f (fun q => q.1 h_6)).symm rfl rfl d_Model_holds_10
theorem c_Model_holds {dA : Nat → ClassId} {ad : Nat → Nat} {M : z_M} {j : Nat} (hj : j < 8) (x y : Int32) : z_CI y_Model_holds b_Model_holds 6 .boolean 0 dA ad [.ref (ad 53), .int (nI j), .int x, .int y] M (z_b (p_sh (z_V M (i_surf j)) x y)) M := by
  rw [← q_sh_V M hj]
  exact c_Model_holds0 hj x y
theorem lp_Model_inside {dA : Nat → ClassId} {ad : Nat → Nat} {M : z_M} {k : z_K} {j : Nat} (hj : j < 6) {sz : Nat} (hsz : sz ≤ 8) (hs : M 61 j = nI sz) (ht : ∀ t, t < sz → ∃ v, v ≤ 10 ∧ z_V M (i_tok j) t = nI v) {x y r0 : Int32} (C : z_C dA ad k b_Model_inside "CellTransportModel" 1 9) (E : z_RI dA ad k .boolean r0 M) :
    ∀ (n i : Nat) (o : Int32) (a6 a7 a8 : Option Value), i + n = sz → z_b (f_rl (z_V M) (z_V M (i_tok j)) x y n i o = 1) = r0 → z_X dA ad k 9 [some (.ref (ad 53)), some (.int (nI j)), some (.int x), some (.int y), some (.int o), some (.int (nI (8 * j + i))), a6, a7, a8] [] M := by
  intro n
  induction n with
  | zero =>
    intro i o a6 a7 a8 hi hr
    refine x_iload C d_Model_inside_9 rfl ?_
    refine x_bipush C (nI 8) d_Model_inside_11 rfl ?_
    refine x_iload_n C d_Model_inside_13 (i := 1) rfl rfl ?_
    refine x_imul C d_Model_inside_14 ?_
    refine x_aload_n C d_Model_inside_15 (i := 0) rfl rfl ?_
    refine g_Model_tokens C lk_Model_32 d_Model_inside_16 ?_
    refine x_iload_n C d_Model_inside_19 (i := 1) rfl rfl ?_
    refine rn_ld_m_tokens C  hj d_Model_inside_20 ?_
    refine x_eqi hs ?_
    refine x_iadd C d_Model_inside_21 ?_
    refine x_eqi (z_ix 8 j sz) ?_
    refine x_icmp_ge C 132 d_Model_inside_22 rfl (fun h_22 => ?_) (fun h_22 => absurd (nI_le (by omega) (by omega)) h_22)
    refine x_iload C d_Model_inside_132 rfl ?_
    refine x_iconst C (1) d_Model_inside_134 rfl ?_
    refine x_icmp_ne C 142 d_Model_inside_135 rfl (fun h_135 => ?_) (fun h_135 => ?_)
    · refine x_iconst C (0) d_Model_inside_142 rfl ?_
      exact x_zret C E (hr ▸ (z_b_f h_135).symm) rfl rfl d_Model_inside_143
    · refine x_iconst C (1) d_Model_inside_138 rfl ?_
      refine x_goto C 143 d_Model_inside_139 rfl ?_
      exact x_zret C E (hr ▸ (z_b_t h_135).symm) rfl rfl d_Model_inside_143
  | succ n ih =>
    intro i o a6 a7 a8 hi hr
    obtain ⟨v, hv, ev0⟩ := ht i (by omega)
    have ev : M 60 (8 * j + i) = nI v := (z_V_at (z_m_tok hj (show i < 8 by omega))).symm.trans ev0
    by_cases v8 : v < 8
    · have n8 : ¬ nI v = 8 := fun q => by have := (nI_eq (a := v) (b := 8) (by omega) (by decide)).mp q; omega
      have n9 : ¬ nI v = 9 := fun q => by have := (nI_eq (a := v) (b := 9) (by omega) (by decide)).mp q; omega
      have n10 : ¬ nI v = 10 := fun q => by have := (nI_eq (a := v) (b := 10) (by omega) (by decide)).mp q; omega
      have er : f_rs (z_V M) x y o (nI v) = (o <<< ((1 : Int32) &&& 31)) ||| z_b (p_sh (z_V M (i_surf v)) x y) := by rw [f_rs, if_neg n8, if_neg n9, if_neg n10, nI_clamp (by omega)]
      refine x_iload C d_Model_inside_9 rfl ?_
      refine x_bipush C (nI 8) d_Model_inside_11 rfl ?_
      refine x_iload_n C d_Model_inside_13 (i := 1) rfl rfl ?_
      refine x_imul C d_Model_inside_14 ?_
      refine x_aload_n C d_Model_inside_15 (i := 0) rfl rfl ?_
      refine g_Model_tokens C lk_Model_32 d_Model_inside_16 ?_
      refine x_iload_n C d_Model_inside_19 (i := 1) rfl rfl ?_
      refine rn_ld_m_tokens C  hj d_Model_inside_20 ?_
      refine x_eqi hs ?_
      refine x_iadd C d_Model_inside_21 ?_
      refine x_eqi (z_ix 8 j sz) ?_
      refine x_icmp_ge C 132 d_Model_inside_22 rfl (fun h_22 => absurd h_22 (nI_ge (by omega) (by omega))) (fun h_22 => ?_)
      refine x_aload_n C d_Model_inside_25 (i := 0) rfl rfl ?_
      refine g_Model_region C lk_Model_29 d_Model_inside_26 ?_
      refine x_iload C d_Model_inside_29 rfl ?_
      refine rn_ld_m_region C  (show 8 * j + i < 48 by omega) d_Model_inside_31 ?_
      refine x_eqi ev ?_
      refine x_istore C d_Model_inside_32 rfl ?_
      refine x_iload C d_Model_inside_34 rfl ?_
      refine x_bipush C (8) d_Model_inside_36 rfl ?_
      refine x_icmp_ge C 67 d_Model_inside_38 rfl (fun h_38 => absurd (show nI 8 ≤ nI v from h_38) (nI_ge v8 (by decide))) (fun h_38 => ?_)
      refine x_iload C d_Model_inside_41 rfl ?_
      refine x_iconst C (2) d_Model_inside_43 rfl ?_
      refine x_imul C d_Model_inside_44 ?_
      refine x_aload_n C d_Model_inside_45 (i := 0) rfl rfl ?_
      refine x_iload C d_Model_inside_46 rfl ?_
      refine x_iload_n C d_Model_inside_48 (i := 2) rfl rfl ?_
      refine x_iload_n C d_Model_inside_49 (i := 3) rfl rfl ?_
      refine x_callVi C (c_Model_holds v8 _ _) mt_Model_holds zl_Model (zc_Model _) rfl rfl rfl (Nat.le_of_ble_eq_true rfl) (Nat.le_of_ble_eq_true rfl) lk_Model_97 d_Model_inside_50 ?_
      refine x_if_eq C 60 d_Model_inside_53 rfl (fun h_53 => ?_) (fun h_53 => ?_)
      · refine x_iconst C (0) d_Model_inside_60 rfl ?_
        refine x_iadd C d_Model_inside_61 ?_
        refine x_istore C d_Model_inside_62 rfl ?_
        refine x_goto C 126 d_Model_inside_64 rfl ?_
        refine x_iinc C (nI (8 * j + (i + 1))) d_Model_inside_126 rfl (z_inc (8 * j + i)) rfl ?_
        refine x_goto C 9 d_Model_inside_129 rfl ?_
        exact ih (i + 1) _ _ _ _ (by omega) (by rw [← hr]; show _ = z_b (f_rl (z_V M) (z_V M (i_tok j)) x y n (i + 1) (f_rs (z_V M) x y o (z_V M (i_tok j) i)) = 1); rw [ev0, er, h_53, z_bxz o])
      · refine x_iconst C (1) d_Model_inside_56 rfl ?_
        refine x_goto C 61 d_Model_inside_57 rfl ?_
        refine x_iadd C d_Model_inside_61 ?_
        refine x_istore C d_Model_inside_62 rfl ?_
        refine x_goto C 126 d_Model_inside_64 rfl ?_
        refine x_iinc C (nI (8 * j + (i + 1))) d_Model_inside_126 rfl (z_inc (8 * j + i)) rfl ?_
        refine x_goto C 9 d_Model_inside_129 rfl ?_
        exact ih (i + 1) _ _ _ _ (by omega) (by rw [← hr]; show _ = z_b (f_rl (z_V M) (z_V M (i_tok j)) x y n (i + 1) (f_rs (z_V M) x y o (z_V M (i_tok j) i)) = 1); rw [ev0, er, (show z_b (p_sh (z_V M (i_surf v)) x y) = 1 from z_b_t (z_b_n0.mp h_53)), z_bx1 o])
    · by_cases v10 : v = 10
      · subst v10
        refine x_iload C d_Model_inside_9 rfl ?_
        refine x_bipush C (nI 8) d_Model_inside_11 rfl ?_
        refine x_iload_n C d_Model_inside_13 (i := 1) rfl rfl ?_
        refine x_imul C d_Model_inside_14 ?_
        refine x_aload_n C d_Model_inside_15 (i := 0) rfl rfl ?_
        refine g_Model_tokens C lk_Model_32 d_Model_inside_16 ?_
        refine x_iload_n C d_Model_inside_19 (i := 1) rfl rfl ?_
        refine rn_ld_m_tokens C  hj d_Model_inside_20 ?_
        refine x_eqi hs ?_
        refine x_iadd C d_Model_inside_21 ?_
        refine x_eqi (z_ix 8 j sz) ?_
        refine x_icmp_ge C 132 d_Model_inside_22 rfl (fun h_22 => absurd h_22 (nI_ge (by omega) (by omega))) (fun h_22 => ?_)
        refine x_aload_n C d_Model_inside_25 (i := 0) rfl rfl ?_
        refine g_Model_region C lk_Model_29 d_Model_inside_26 ?_
        refine x_iload C d_Model_inside_29 rfl ?_
        refine rn_ld_m_region C  (show 8 * j + i < 48 by omega) d_Model_inside_31 ?_
        refine x_eqi ev ?_
        refine x_istore C d_Model_inside_32 rfl ?_
        refine x_iload C d_Model_inside_34 rfl ?_
        refine x_bipush C (8) d_Model_inside_36 rfl ?_
        refine x_icmp_ge C 67 d_Model_inside_38 rfl (fun h_38 => ?_) (fun h_38 => absurd (by decide) h_38)
        refine x_iload C d_Model_inside_67 rfl ?_
        refine x_bipush C (10) d_Model_inside_69 rfl ?_
        refine x_icmp_ne C 83 d_Model_inside_71 rfl (fun h_71 => absurd rfl h_71) (fun h_71 => ?_)
        refine x_iload C d_Model_inside_74 rfl ?_
        refine x_iconst C (1) d_Model_inside_76 rfl ?_
        refine x_ixor C d_Model_inside_77 ?_
        refine x_istore C d_Model_inside_78 rfl ?_
        refine x_goto C 126 d_Model_inside_80 rfl ?_
        refine x_iinc C (nI (8 * j + (i + 1))) d_Model_inside_126 rfl (z_inc (8 * j + i)) rfl ?_
        refine x_goto C 9 d_Model_inside_129 rfl ?_
        exact ih (i + 1) _ _ _ _ (by omega) (by rw [← hr]; show _ = z_b (f_rl (z_V M) (z_V M (i_tok j)) x y n (i + 1) (f_rs (z_V M) x y o (z_V M (i_tok j) i)) = 1); rw [ev0, show f_rs (z_V M) x y o (nI 10) = o ^^^ 1 from rfl])
      · by_cases v9 : v = 8
        · subst v9
          refine x_iload C d_Model_inside_9 rfl ?_
          refine x_bipush C (nI 8) d_Model_inside_11 rfl ?_
          refine x_iload_n C d_Model_inside_13 (i := 1) rfl rfl ?_
          refine x_imul C d_Model_inside_14 ?_
          refine x_aload_n C d_Model_inside_15 (i := 0) rfl rfl ?_
          refine g_Model_tokens C lk_Model_32 d_Model_inside_16 ?_
          refine x_iload_n C d_Model_inside_19 (i := 1) rfl rfl ?_
          refine rn_ld_m_tokens C  hj d_Model_inside_20 ?_
          refine x_eqi hs ?_
          refine x_iadd C d_Model_inside_21 ?_
          refine x_eqi (z_ix 8 j sz) ?_
          refine x_icmp_ge C 132 d_Model_inside_22 rfl (fun h_22 => absurd h_22 (nI_ge (by omega) (by omega))) (fun h_22 => ?_)
          refine x_aload_n C d_Model_inside_25 (i := 0) rfl rfl ?_
          refine g_Model_region C lk_Model_29 d_Model_inside_26 ?_
          refine x_iload C d_Model_inside_29 rfl ?_
          refine rn_ld_m_region C  (show 8 * j + i < 48 by omega) d_Model_inside_31 ?_
          refine x_eqi ev ?_
          refine x_istore C d_Model_inside_32 rfl ?_
          refine x_iload C d_Model_inside_34 rfl ?_
          refine x_bipush C (8) d_Model_inside_36 rfl ?_
          refine x_icmp_ge C 67 d_Model_inside_38 rfl (fun h_38 => ?_) (fun h_38 => absurd (by decide) h_38)
          refine x_iload C d_Model_inside_67 rfl ?_
          refine x_bipush C (10) d_Model_inside_69 rfl ?_
          refine x_icmp_ne C 83 d_Model_inside_71 rfl (fun h_71 => ?_) (fun h_71 => absurd h_71 (by decide))
          refine x_iload C d_Model_inside_83 rfl ?_
          refine x_iconst C (1) d_Model_inside_85 rfl ?_
          refine x_iand C d_Model_inside_86 ?_
          refine x_istore C d_Model_inside_87 rfl ?_
          refine x_iload C d_Model_inside_89 rfl ?_
          refine x_iconst C (1) d_Model_inside_91 rfl ?_
          refine x_ishr C d_Model_inside_92 ?_
          refine x_iconst C (1) d_Model_inside_93 rfl ?_
          refine x_iand C d_Model_inside_94 ?_
          refine x_istore C d_Model_inside_95 rfl ?_
          refine x_iload C d_Model_inside_97 rfl ?_
          refine x_iconst C (2) d_Model_inside_99 rfl ?_
          refine x_ishr C d_Model_inside_100 ?_
          refine x_iconst C (1) d_Model_inside_101 rfl ?_
          refine x_ishl C d_Model_inside_102 ?_
          refine x_iload C d_Model_inside_103 rfl ?_
          refine x_bipush C (8) d_Model_inside_105 rfl ?_
          refine x_icmp_ne C 118 d_Model_inside_107 rfl (fun h_107 => absurd rfl h_107) (fun h_107 => ?_)
          refine x_iload C d_Model_inside_110 rfl ?_
          refine x_iload C d_Model_inside_112 rfl ?_
          refine x_iand C d_Model_inside_114 ?_
          refine x_goto C 123 d_Model_inside_115 rfl ?_
          refine x_ior C d_Model_inside_123 ?_
          refine x_istore C d_Model_inside_124 rfl ?_
          refine x_iinc C (nI (8 * j + (i + 1))) d_Model_inside_126 rfl (z_inc (8 * j + i)) rfl ?_
          refine x_goto C 9 d_Model_inside_129 rfl ?_
          exact ih (i + 1) _ _ _ _ (by omega) (by rw [← hr]; show _ = z_b (f_rl (z_V M) (z_V M (i_tok j)) x y n (i + 1) (f_rs (z_V M) x y o (z_V M (i_tok j) i)) = 1); rw [ev0, show f_rs (z_V M) x y o (nI 8) = _ from (z_band o).symm])
        · have e9 : v = 9 := by omega
          subst e9
          refine x_iload C d_Model_inside_9 rfl ?_
          refine x_bipush C (nI 8) d_Model_inside_11 rfl ?_
          refine x_iload_n C d_Model_inside_13 (i := 1) rfl rfl ?_
          refine x_imul C d_Model_inside_14 ?_
          refine x_aload_n C d_Model_inside_15 (i := 0) rfl rfl ?_
          refine g_Model_tokens C lk_Model_32 d_Model_inside_16 ?_
          refine x_iload_n C d_Model_inside_19 (i := 1) rfl rfl ?_
          refine rn_ld_m_tokens C  hj d_Model_inside_20 ?_
          refine x_eqi hs ?_
          refine x_iadd C d_Model_inside_21 ?_
          refine x_eqi (z_ix 8 j sz) ?_
          refine x_icmp_ge C 132 d_Model_inside_22 rfl (fun h_22 => absurd h_22 (nI_ge (by omega) (by omega))) (fun h_22 => ?_)
          refine x_aload_n C d_Model_inside_25 (i := 0) rfl rfl ?_
          refine g_Model_region C lk_Model_29 d_Model_inside_26 ?_
          refine x_iload C d_Model_inside_29 rfl ?_
          refine rn_ld_m_region C  (show 8 * j + i < 48 by omega) d_Model_inside_31 ?_
          refine x_eqi ev ?_
          refine x_istore C d_Model_inside_32 rfl ?_
          refine x_iload C d_Model_inside_34 rfl ?_
          refine x_bipush C (8) d_Model_inside_36 rfl ?_
          refine x_icmp_ge C 67 d_Model_inside_38 rfl (fun h_38 => ?_) (fun h_38 => absurd (by decide) h_38)
          refine x_iload C d_Model_inside_67 rfl ?_
          refine x_bipush C (10) d_Model_inside_69 rfl ?_
          refine x_icmp_ne C 83 d_Model_inside_71 rfl (fun h_71 => ?_) (fun h_71 => absurd h_71 (by decide))
          refine x_iload C d_Model_inside_83 rfl ?_
          refine x_iconst C (1) d_Model_inside_85 rfl ?_
          refine x_iand C d_Model_inside_86 ?_
          refine x_istore C d_Model_inside_87 rfl ?_
          refine x_iload C d_Model_inside_89 rfl ?_
          refine x_iconst C (1) d_Model_inside_91 rfl ?_
          refine x_ishr C d_Model_inside_92 ?_
          refine x_iconst C (1) d_Model_inside_93 rfl ?_
          refine x_iand C d_Model_inside_94 ?_
          refine x_istore C d_Model_inside_95 rfl ?_
          refine x_iload C d_Model_inside_97 rfl ?_
          refine x_iconst C (2) d_Model_inside_99 rfl ?_
          refine x_ishr C d_Model_inside_100 ?_
          refine x_iconst C (1) d_Model_inside_101 rfl ?_
          refine x_ishl C d_Model_inside_102 ?_
          refine x_iload C d_Model_inside_103 rfl ?_
          refine x_bipush C (8) d_Model_inside_105 rfl ?_
          refine x_icmp_ne C 118 d_Model_inside_107 rfl (fun h_107 => ?_) (fun h_107 => absurd h_107 (by decide))
          refine x_iload C d_Model_inside_118 rfl ?_
          refine x_iload C d_Model_inside_120 rfl ?_
          refine x_ior C d_Model_inside_122 ?_
          refine x_ior C d_Model_inside_123 ?_
          refine x_istore C d_Model_inside_124 rfl ?_
          refine x_iinc C (nI (8 * j + (i + 1))) d_Model_inside_126 rfl (z_inc (8 * j + i)) rfl ?_
          refine x_goto C 9 d_Model_inside_129 rfl ?_
          exact ih (i + 1) _ _ _ _ (by omega) (by rw [← hr]; show _ = z_b (f_rl (z_V M) (z_V M (i_tok j)) x y n (i + 1) (f_rs (z_V M) x y o (z_V M (i_tok j) i)) = 1); rw [ev0, show f_rs (z_V M) x y o (nI 9) = _ from (z_bor o).symm])
theorem c_Model_inside {dA : Nat → ClassId} {ad : Nat → Nat} {M : z_M} {j : Nat} (hj : j < 6) {sz : Nat} (hsz : sz ≤ 8) (hs : M 61 j = nI sz) (ht : ∀ t, t < sz → ∃ v, v ≤ 10 ∧ z_V M (i_tok j) t = nI v) (x y : Int32) : z_CI y_Model_inside b_Model_inside 9 .boolean 1 dA ad [.ref (ad 53), .int (nI j), .int x, .int y] M (z_b (f_rl (z_V M) (z_V M (i_tok j)) x y sz 0 0 = 1)) (M) := by
  refine z_ofI [some (.ref (ad 53)), some (.int (nI j)), some (.int x), some (.int y), none, none, none, none, none] (by decide) (Nat.le_of_ble_eq_true rfl) rfl (fun k C E => ?_)
  have C : z_C dA ad k b_Model_inside "CellTransportModel" 1 9 := C
  refine x_iconst C (0) d_Model_inside_0 rfl ?_
  refine x_istore C d_Model_inside_1 rfl ?_
  refine x_bipush C (nI 8) d_Model_inside_3 rfl ?_
  refine x_iload_n C d_Model_inside_5 (i := 1) rfl rfl ?_
  refine x_imul C d_Model_inside_6 ?_
  refine x_eqi (pk_mul 8 j) ?_
  refine x_istore C d_Model_inside_7 rfl ?_
  exact lp_Model_inside hj hsz hs ht C E sz 0 0 none none none (by omega) rfl
end
section
theorem lp_Model_at {dA : Nat → ClassId} {ad : Nat → Nat} {M : z_M} {k : z_K} (hR : ∀ r, r < 6 → z_okR (z_V M) r) {x y r0 : Int32} (C : z_C dA ad k b_Model_at "CellTransportModel" 2 4) (E : z_RI dA ad k .int r0 M) :
    ∀ (n i : Nat), i + n = 6 → f_ca (z_V M) x y n i = r0 → z_X dA ad k 2 [some (.ref (ad 53)), some (.int x), some (.int y), some (.int (nI i))] [] M := by
  intro n
  induction n with
  | zero =>
    intro i hi hr
    refine x_iload_n C d_Model_at_2 (i := 3) rfl rfl ?_
    refine x_bipush C (6) d_Model_at_3 rfl ?_
    refine x_icmp_ge C 35 d_Model_at_5 rfl (fun h_5 => ?_) (fun h_5 => absurd (show (6 : Int32) ≤ nI i from nI_le (a := 6) (by omega) (by omega)) h_5)
    refine x_bipush C (6) d_Model_at_35 rfl ?_
    exact x_iret C E hr rfl d_Model_at_37
  | succ n ih =>
    intro i hi hr
    have hi6 : i < 6 := by omega
    obtain ⟨sz, hsz, hs0, ht⟩ := hR i hi6
    have hs : M 61 i = nI sz := (z_V_at (z_m_reg hi6)).symm.trans hs0
    have ed : z_V M (i_cell i) 1 = M 62 i := z_V_at (z_m_cell hi6).1
    have ez : (z_V M (i_reg i) 1).toNatClampNeg = sz := by rw [hs0]; exact nI_clamp (by omega)
    refine x_iload_n C d_Model_at_2 (i := 3) rfl rfl ?_
    refine x_bipush C (6) d_Model_at_3 rfl ?_
    refine x_icmp_ge C 35 d_Model_at_5 rfl (fun h_5 => absurd (show nI 6 ≤ nI i from h_5) (nI_ge (by omega) (by decide))) (fun h_5 => ?_)
    refine x_aload_n C d_Model_at_8 (i := 0) rfl rfl ?_
    refine g_Model_defined C lk_Model_35 d_Model_at_9 ?_
    refine x_iload_n C d_Model_at_12 (i := 3) rfl rfl ?_
    refine rn_ld_m_defined C  hi6 d_Model_at_13 ?_
    refine x_if_eq C 29 d_Model_at_14 rfl (fun h_14 => ?_) (fun h_14 => ?_)
    · refine x_iinc C (nI (i + 1)) d_Model_at_29 rfl (z_inc i) rfl ?_
      refine x_goto C 2 d_Model_at_32 rfl ?_
      exact ih (i + 1) (by omega) (by rw [← hr]; exact (if_neg (fun q => q.1 (ed.trans h_14))).symm)
    · refine x_aload_n C d_Model_at_17 (i := 0) rfl rfl ?_
      refine x_iload_n C d_Model_at_18 (i := 3) rfl rfl ?_
      refine x_iload_n C d_Model_at_19 (i := 1) rfl rfl ?_
      refine x_iload_n C d_Model_at_20 (i := 2) rfl rfl ?_
      refine x_callVi C (c_Model_inside hi6 hsz hs ht _ _) mt_Model_inside zl_Model (zc_Model _) rfl rfl rfl (Nat.le_of_ble_eq_true rfl) (Nat.le_of_ble_eq_true rfl) lk_Model_100 d_Model_at_21 ?_
      refine x_if_eq C 29 d_Model_at_24 rfl (fun h_24 => ?_) (fun h_24 => ?_)
      · refine x_iinc C (nI (i + 1)) d_Model_at_29 rfl (z_inc i) rfl ?_
        refine x_goto C 2 d_Model_at_32 rfl ?_
        exact ih (i + 1) (by omega) (by rw [← hr]; exact (if_neg (fun q => z_b_0.mp h_24 (by have q2 : f_rl (z_V M) (z_V M (i_tok i)) x y (z_V M (i_reg i) 1).toNatClampNeg 0 0 = 1 := q.2; rw [ez] at q2; exact q2))).symm)
      · refine x_iload_n C d_Model_at_27 (i := 3) rfl rfl ?_
        exact x_iret C E (by rw [← hr]; exact (if_pos ⟨fun q => h_14 (ed.symm.trans q), by have h9 := z_b_n0.mp h_24; show f_rl (z_V M) (z_V M (i_tok i)) x y (z_V M (i_reg i) 1).toNatClampNeg 0 0 = 1; rw [ez]; exact h9⟩).symm) rfl d_Model_at_28
theorem c_Model_at {dA : Nat → ClassId} {ad : Nat → Nat} {M : z_M} (hR : ∀ r, r < 6 → z_okR (z_V M) r) (x y : Int32) : z_CI y_Model_at b_Model_at 4 .int 2 dA ad [.ref (ad 53), .int x, .int y] M (f_ca (z_V M) x y 6 0) (M) := by
  refine z_ofI [some (.ref (ad 53)), some (.int x), some (.int y), none] (by decide) (Nat.le_of_ble_eq_true rfl) rfl (fun k C E => ?_)
  have C : z_C dA ad k b_Model_at "CellTransportModel" 2 4 := C
  refine x_iconst C (0) d_Model_at_0 rfl ?_
  refine x_istore_n C d_Model_at_1 (i := 3) rfl rfl ?_
  exact lp_Model_at hR C E 6 0 (by omega) rfl
theorem c_Model_whereN {dA : Nat → ClassId} {ad : Nat → Nat} {M : z_M} {x y : Int32} (hn : ¬ p_wth x y 1000) : z_CI y_Model_where b_Model_where 3 .int 3 dA ad [.ref (ad 53), .int x, .int y] M (-1) (M) := by
  refine z_ofI [some (.ref (ad 53)), some (.int x), some (.int y)] (by decide) (Nat.le_of_ble_eq_true rfl) rfl (fun k C E => ?_)
  have C : z_C dA ad k b_Model_where "CellTransportModel" 3 3 := C
  refine x_iload_n C d_Model_where_0 (i := 1) rfl rfl ?_
  refine x_sipush C (-1000) d_Model_where_1 rfl ?_
  refine x_sipush C (1000) d_Model_where_4 rfl ?_
  refine x_callSi C (c_Model_out _ _ _) mt_Model_out rfl rfl (Nat.le_of_ble_eq_true rfl) (Nat.le_of_ble_eq_true rfl) lk_Model_66 d_Model_where_7 ?_
  refine x_if_ne C 26 d_Model_where_10 rfl (fun h_10 => ?_) (fun h_10 => ?_)
  · refine x_iconst C (-1) d_Model_where_26 rfl ?_
    exact x_iret C E rfl rfl d_Model_where_27
  · refine x_iload_n C d_Model_where_13 (i := 2) rfl rfl ?_
    refine x_sipush C (-1000) d_Model_where_14 rfl ?_
    refine x_sipush C (1000) d_Model_where_17 rfl ?_
    refine x_callSi C (c_Model_out _ _ _) mt_Model_out rfl rfl (Nat.le_of_ble_eq_true rfl) (Nat.le_of_ble_eq_true rfl) lk_Model_66 d_Model_where_20 ?_
    refine x_if_eq C 28 d_Model_where_23 rfl (fun h_23 => ?_) (fun h_23 => ?_)
    · exact absurd ⟨z_out0 h_10, z_out0 h_23⟩ hn
    · refine x_iconst C (-1) d_Model_where_26 rfl ?_
      exact x_iret C E rfl rfl d_Model_where_27
theorem c_Model_whereY {dA : Nat → ClassId} {ad : Nat → Nat} {M : z_M} (hR : ∀ r, r < 6 → z_okR (z_V M) r) {x y : Int32} (hp : p_wth x y 1000) : z_CI y_Model_where b_Model_where 3 .int 3 dA ad [.ref (ad 53), .int x, .int y] M (f_ca (z_V M) x y 6 0) (M) := by
  refine z_ofI [some (.ref (ad 53)), some (.int x), some (.int y)] (by decide) (Nat.le_of_ble_eq_true rfl) rfl (fun k C E => ?_)
  have C : z_C dA ad k b_Model_where "CellTransportModel" 3 3 := C
  refine x_iload_n C d_Model_where_0 (i := 1) rfl rfl ?_
  refine x_sipush C (-1000) d_Model_where_1 rfl ?_
  refine x_sipush C (1000) d_Model_where_4 rfl ?_
  refine x_callSi C (c_Model_out _ _ _) mt_Model_out rfl rfl (Nat.le_of_ble_eq_true rfl) (Nat.le_of_ble_eq_true rfl) lk_Model_66 d_Model_where_7 ?_
  refine x_if_ne C 26 d_Model_where_10 rfl (fun h_10 => absurd hp.1 (z_b_n0.mp h_10)) (fun h_10 => ?_)
  refine x_iload_n C d_Model_where_13 (i := 2) rfl rfl ?_
  refine x_sipush C (-1000) d_Model_where_14 rfl ?_
  refine x_sipush C (1000) d_Model_where_17 rfl ?_
  refine x_callSi C (c_Model_out _ _ _) mt_Model_out rfl rfl (Nat.le_of_ble_eq_true rfl) (Nat.le_of_ble_eq_true rfl) lk_Model_66 d_Model_where_20 ?_
  refine x_if_eq C 28 d_Model_where_23 rfl (fun h_23 => ?_) (fun h_23 => absurd hp.2 (z_b_n0.mp h_23))
  refine x_aload_n C d_Model_where_28 (i := 0) rfl rfl ?_
  refine x_iload_n C d_Model_where_29 (i := 1) rfl rfl ?_
  refine x_iload_n C d_Model_where_30 (i := 2) rfl rfl ?_
  refine x_callVi C (c_Model_at hR _ _) mt_Model_at zl_Model (zc_Model _) rfl rfl rfl (Nat.le_of_ble_eq_true rfl) (Nat.le_of_ble_eq_true rfl) lk_Model_103 d_Model_where_31 ?_
  exact x_iret C E rfl rfl d_Model_where_34
theorem c_Model_reachN {dA : Nat → ClassId} {ad : Nat → Nat} {M : z_M} {x y dr : Int32} (hn : ¬ (p_wth x y 1000 ∧ p_btw dr 0 7)) : z_CI y_Model_reach b_Model_reach 6 .int 3 dA ad [.ref (ad 53), .int x, .int y, .int dr] M (-1) (M) := by
  refine z_ofI [some (.ref (ad 53)), some (.int x), some (.int y), some (.int dr), none, none] (by decide) (Nat.le_of_ble_eq_true rfl) rfl (fun k C E => ?_)
  have C : z_C dA ad k b_Model_reach "CellTransportModel" 3 6 := C
  refine x_iload_n C d_Model_reach_0 (i := 1) rfl rfl ?_
  refine x_sipush C (-1000) d_Model_reach_1 rfl ?_
  refine x_sipush C (1000) d_Model_reach_4 rfl ?_
  refine x_callSi C (c_Model_out _ _ _) mt_Model_out rfl rfl (Nat.le_of_ble_eq_true rfl) (Nat.le_of_ble_eq_true rfl) lk_Model_66 d_Model_reach_7 ?_
  refine x_if_ne C 36 d_Model_reach_10 rfl (fun h_10 => ?_) (fun h_10 => ?_)
  · refine x_iconst C (-1) d_Model_reach_36 rfl ?_
    exact x_iret C E rfl rfl d_Model_reach_37
  · refine x_iload_n C d_Model_reach_13 (i := 2) rfl rfl ?_
    refine x_sipush C (-1000) d_Model_reach_14 rfl ?_
    refine x_sipush C (1000) d_Model_reach_17 rfl ?_
    refine x_callSi C (c_Model_out _ _ _) mt_Model_out rfl rfl (Nat.le_of_ble_eq_true rfl) (Nat.le_of_ble_eq_true rfl) lk_Model_66 d_Model_reach_20 ?_
    refine x_if_ne C 36 d_Model_reach_23 rfl (fun h_23 => ?_) (fun h_23 => ?_)
    · refine x_iconst C (-1) d_Model_reach_36 rfl ?_
      exact x_iret C E rfl rfl d_Model_reach_37
    · refine x_iload_n C d_Model_reach_26 (i := 3) rfl rfl ?_
      refine x_iconst C (0) d_Model_reach_27 rfl ?_
      refine x_bipush C (7) d_Model_reach_28 rfl ?_
      refine x_callSi C (c_Model_out _ _ _) mt_Model_out rfl rfl (Nat.le_of_ble_eq_true rfl) (Nat.le_of_ble_eq_true rfl) lk_Model_66 d_Model_reach_30 ?_
      refine x_if_eq C 38 d_Model_reach_33 rfl (fun h_33 => ?_) (fun h_33 => ?_)
      · exact absurd ⟨⟨z_out0 h_10, z_out0 h_23⟩, z_out0 h_33⟩ hn
      · refine x_iconst C (-1) d_Model_reach_36 rfl ?_
        exact x_iret C E rfl rfl d_Model_reach_37
theorem lp_Model_reach {dA : Nat → ClassId} {ad : Nat → Nat} {M : z_M} {k : z_K} (hR : ∀ r, r < 6 → z_okR (z_V M) r) {x y home r0 : Int32} {dd : Nat} (hd : dd < 8) (C : z_C dA ad k b_Model_reach "CellTransportModel" 3 6) (E : z_RI dA ad k .int r0 M) :
    ∀ (n i : Nat), i + n = 200 → f_rc (z_V M) x y dd home n (i + 1) = r0 → z_X dA ad k 49 [some (.ref (ad 53)), some (.int x), some (.int y), some (.int (nI dd)), some (.int home), some (.int (nI i))] [] M := by
  intro n
  induction n with
  | zero =>
    intro i hi hr
    refine x_iload C d_Model_reach_49 rfl ?_
    refine x_sipush C (200) d_Model_reach_51 rfl ?_
    refine x_icmp_ge C 94 d_Model_reach_54 rfl (fun h_54 => ?_) (fun h_54 => absurd (show (200 : Int32) ≤ nI i from nI_le (a := 200) (by omega) (by omega)) h_54)
    refine x_iload C d_Model_reach_94 rfl ?_
    exact x_iret C E (by rw [← hr, show i = 200 by omega]; rfl) rfl d_Model_reach_96
  | succ n ih =>
    intro i hi hr
    refine x_iload C d_Model_reach_49 rfl ?_
    refine x_sipush C (200) d_Model_reach_51 rfl ?_
    refine x_icmp_ge C 94 d_Model_reach_54 rfl (fun h_54 => absurd (show nI 200 ≤ nI i from h_54) (nI_ge (by omega) (by decide))) (fun h_54 => ?_)
    refine x_aload_n C d_Model_reach_57 (i := 0) rfl rfl ?_
    refine x_iload_n C d_Model_reach_58 (i := 1) rfl rfl ?_
    refine x_iload C d_Model_reach_59 rfl ?_
    refine x_iconst C (1) d_Model_reach_61 rfl ?_
    refine x_iadd C d_Model_reach_62 ?_
    refine x_eqi (nI_1 i) ?_
    refine x_iload_n C d_Model_reach_63 (i := 3) rfl rfl ?_
    refine x_callSi C (c_Model_stepX hd) mt_Model_stepX rfl rfl (Nat.le_of_ble_eq_true rfl) (Nat.le_of_ble_eq_true rfl) lk_Model_107 d_Model_reach_64 ?_
    refine x_imul C d_Model_reach_67 ?_
    refine x_iadd C d_Model_reach_68 ?_
    refine x_iload_n C d_Model_reach_69 (i := 2) rfl rfl ?_
    refine x_iload C d_Model_reach_70 rfl ?_
    refine x_iconst C (1) d_Model_reach_72 rfl ?_
    refine x_iadd C d_Model_reach_73 ?_
    refine x_eqi (nI_1 i) ?_
    refine x_iload_n C d_Model_reach_74 (i := 3) rfl rfl ?_
    refine x_callSi C (c_Model_stepY hd) mt_Model_stepY rfl rfl (Nat.le_of_ble_eq_true rfl) (Nat.le_of_ble_eq_true rfl) lk_Model_110 d_Model_reach_75 ?_
    refine x_imul C d_Model_reach_78 ?_
    refine x_iadd C d_Model_reach_79 ?_
    refine x_callVi C (c_Model_at hR _ _) mt_Model_at zl_Model (zc_Model _) rfl rfl rfl (Nat.le_of_ble_eq_true rfl) (Nat.le_of_ble_eq_true rfl) lk_Model_103 d_Model_reach_80 ?_
    refine x_iload C d_Model_reach_83 rfl ?_
    refine x_icmp_ne C 94 d_Model_reach_85 rfl (fun h_85 => ?_) (fun h_85 => ?_)
    · refine x_iload C d_Model_reach_94 rfl ?_
      exact x_iret C E (by rw [← hr]; exact ((if_neg h_85).trans (nI_pred i)).symm) rfl d_Model_reach_96
    · refine x_iinc C (nI (i + 1)) d_Model_reach_88 rfl (z_inc i) rfl ?_
      refine x_goto C 49 d_Model_reach_91 rfl ?_
      exact ih (i + 1) (by omega) (by rw [← hr]; exact (if_pos h_85).symm)
theorem c_Model_reachY {dA : Nat → ClassId} {ad : Nat → Nat} {M : z_M} (hR : ∀ r, r < 6 → z_okR (z_V M) r) {x y : Int32} {dd : Nat} (hd : dd < 8) (hp : p_wth x y 1000) : z_CI y_Model_reach b_Model_reach 6 .int 3 dA ad [.ref (ad 53), .int x, .int y, .int (nI dd)] M (f_rc (z_V M) x y dd (f_ca (z_V M) x y 6 0) 200 1) (M) := by
  refine z_ofI [some (.ref (ad 53)), some (.int x), some (.int y), some (.int (nI dd)), none, none] (by decide) (Nat.le_of_ble_eq_true rfl) rfl (fun k C E => ?_)
  have C : z_C dA ad k b_Model_reach "CellTransportModel" 3 6 := C
  refine x_iload_n C d_Model_reach_0 (i := 1) rfl rfl ?_
  refine x_sipush C (-1000) d_Model_reach_1 rfl ?_
  refine x_sipush C (1000) d_Model_reach_4 rfl ?_
  refine x_callSi C (c_Model_out _ _ _) mt_Model_out rfl rfl (Nat.le_of_ble_eq_true rfl) (Nat.le_of_ble_eq_true rfl) lk_Model_66 d_Model_reach_7 ?_
  refine x_if_ne C 36 d_Model_reach_10 rfl (fun h_10 => absurd hp.1 (z_b_n0.mp h_10)) (fun h_10 => ?_)
  refine x_iload_n C d_Model_reach_13 (i := 2) rfl rfl ?_
  refine x_sipush C (-1000) d_Model_reach_14 rfl ?_
  refine x_sipush C (1000) d_Model_reach_17 rfl ?_
  refine x_callSi C (c_Model_out _ _ _) mt_Model_out rfl rfl (Nat.le_of_ble_eq_true rfl) (Nat.le_of_ble_eq_true rfl) lk_Model_66 d_Model_reach_20 ?_
  refine x_if_ne C 36 d_Model_reach_23 rfl (fun h_23 => absurd hp.2 (z_b_n0.mp h_23)) (fun h_23 => ?_)
  refine x_iload_n C d_Model_reach_26 (i := 3) rfl rfl ?_
  refine x_iconst C (0) d_Model_reach_27 rfl ?_
  refine x_bipush C (7) d_Model_reach_28 rfl ?_
  refine x_callSi C (c_Model_out _ _ _) mt_Model_out rfl rfl (Nat.le_of_ble_eq_true rfl) (Nat.le_of_ble_eq_true rfl) lk_Model_66 d_Model_reach_30 ?_
  refine x_if_eq C 38 d_Model_reach_33 rfl (fun h_33 => ?_) (fun h_33 => absurd (z_in (n := 7) (by omega) (by decide)) (z_b_n0.mp h_33))
  refine x_aload_n C d_Model_reach_38 (i := 0) rfl rfl ?_
  refine x_iload_n C d_Model_reach_39 (i := 1) rfl rfl ?_
  refine x_iload_n C d_Model_reach_40 (i := 2) rfl rfl ?_
  refine x_callVi C (c_Model_at hR _ _) mt_Model_at zl_Model (zc_Model _) rfl rfl rfl (Nat.le_of_ble_eq_true rfl) (Nat.le_of_ble_eq_true rfl) lk_Model_103 d_Model_reach_41 ?_
  refine x_istore C d_Model_reach_44 rfl ?_
  refine x_iconst C (0) d_Model_reach_46 rfl ?_
  refine x_istore C d_Model_reach_47 rfl ?_
  exact lp_Model_reach hR hd C E 200 0 (by omega) rfl
def z_GN (M : z_M) : Prop := ∃ g : Nat, g < 2 ^ 31 ∧ M 53 15 = nI g
def g_dr (M : z_M) : z_M := z_sv M 53 15 (f_nx (M 53 15))
theorem g_dr_GN (M : z_M) : z_GN (g_dr M) := by
  obtain ⟨g, h1, h2⟩ := f_nx_n (M 53 15)
  exact ⟨g, h1, (z_sv_self _ _ _ _).trans h2⟩
def g_t1 (M : z_M) : z_M := z_sv (g_dr M) 53 25 (z_rm (f_nx (M 53 15) / 256) (nI 8))
def g_turn (M : z_M) : z_M := z_sv (g_dr (g_t1 M)) 53 26 (1 + z_rm (f_nx (g_t1 M 53 15) / 256) (nI 2000))
theorem g_t1_GN (M : z_M) : z_GN (g_t1 M) := by
  obtain ⟨g, h1, h2⟩ := g_dr_GN M
  exact ⟨g, h1, (z_sv_get _ _ _ _ _ _ (Or.inr (by decide))).trans h2⟩
theorem g_turn_GN (M : z_M) : z_GN (g_turn M) := by
  obtain ⟨g, h1, h2⟩ := g_dr_GN (g_t1 M)
  exact ⟨g, h1, (z_sv_get _ _ _ _ _ _ (Or.inr (by decide))).trans h2⟩
def z_kq (M M2 : z_M) : Prop := ∀ a, (a < 53 ∨ (54 ≤ a ∧ a < 66)) → M2 a = M a
theorem z_kq.rf {M : z_M} : z_kq M M := fun _ _ => rfl
theorem z_kq.tr {M M2 M3 : z_M} (h : z_kq M M2) (g : z_kq M2 M3) : z_kq M M3 := fun a ha => (g a ha).trans (h a ha)
theorem z_kq.sv {M0 M : z_M} (h : z_kq M0 M) {k : Nat} (h1 : k = 53 ∨ 66 ≤ k) (j : Nat) (v : Int32) : z_kq M0 (z_sv M k j v) := fun a ha => (z_sv_row M j v (by omega)).trans (h a ha)
theorem z_okV_kq {M M2 : z_M} (h : z_kq M M2) (hR : ∀ r, r < 6 → z_okR (z_V M) r) : ∀ r, r < 6 → z_okR (z_V M2) r := by
  intro r hr
  obtain ⟨sz, h1, h2, h3⟩ := hR r hr
  have e61 : M2 61 = M 61 := h 61 (by omega)
  have e60 : M2 60 = M 60 := h 60 (by omega)
  refine ⟨sz, h1, ?_, fun t ht => ?_⟩
  · rw [z_V_at (z_m_reg hr), e61, ← z_V_at (B := M) (z_m_reg hr)]; exact h2
  · rw [z_V_at (z_m_tok hr (show t < 8 by omega)), e60, ← z_V_at (B := M) (z_m_tok hr (show t < 8 by omega))]; exact h3 t ht
theorem g_dr_kq {M0 M : z_M} (h : z_kq M0 M) : z_kq M0 (g_dr M) := h.sv (Or.inl rfl) _ _
theorem g_turn_kq {M0 M : z_M} (h : z_kq M0 M) : z_kq M0 (g_turn M) := (g_dr_kq ((g_dr_kq h).sv (Or.inl rfl) _ _)).sv (Or.inl rfl) _ _
def z_LD (M : z_M) (d : Nat) : Prop := ∃ w, w + d ≤ 12 ∧ M 53 21 = nI w ∧ M 53 22 = nI (w + d)
theorem z_LD.eq {M M2 : z_M} {d : Nat} (h : z_LD M d) (e1 : M2 53 21 = M 53 21) (e2 : M2 53 22 = M 53 22) : z_LD M2 d := by
  obtain ⟨w, h1, h2, h3⟩ := h
  exact ⟨w, h1, e1.trans h2, e2.trans h3⟩
def g_jn (M : z_M) (w jn : Nat) : z_M := z_sv (z_sv (z_sv (z_sv M 69 w (M 53 23)) 70 w (M 53 24)) 53 21 (nI (w + 1))) 53 22 (nI (jn + 1))
def g_j1 (M : z_M) : z_M := if M 53 22 = nI 12 then z_sv M 68 3 (M 68 3 + 1) else g_jn M (M 53 21).toNatClampNeg (M 53 22).toNatClampNeg
theorem g_j1_full {M : z_M} (h : M 53 22 = nI 12) : g_j1 M = z_sv M 68 3 (M 68 3 + 1) := if_pos h
theorem g_j1_open {M : z_M} {w jn : Nat} (hw : M 53 21 = nI w) (hj : M 53 22 = nI jn) (h1 : w < 12) (h2 : jn < 12) : g_j1 M = g_jn M w jn := by
  unfold g_j1
  rw [if_neg (fun q => by rw [hj] at q; have := (nI_eq (by omega) (by decide)).mp q; omega), hw, hj, nI_clamp (by omega), nI_clamp (by omega)]
theorem g_jn_kq {M0 M : z_M} (h : z_kq M0 M) (w jn : Nat) : z_kq M0 (g_jn M w jn) := (((h.sv (k := 69) (by omega) _ _).sv (k := 70) (by omega) _ _).sv (k := 53) (by omega) _ _).sv (k := 53) (by omega) _ _
theorem g_j1_kq {M0 M : z_M} (h : z_kq M0 M) : z_kq M0 (g_j1 M) := by
  by_cases q : M 53 22 = nI 12
  · rw [g_j1_full q]; exact h.sv (by omega) _ _
  · rw [g_j1, if_neg q]; exact g_jn_kq h _ _
theorem g_jn_at (M : z_M) (w jn : Nat) {b : Nat} (h1 : b ≠ 21) (h2 : b ≠ 22) : g_jn M w jn 53 b = M 53 b := by
  unfold g_jn
  rw [z_sv_get _ _ _ _ _ _ (Or.inr h2), z_sv_get _ _ _ _ _ _ (Or.inr h1), z_sv_get _ _ _ _ _ _ (Or.inl (by decide)), z_sv_get _ _ _ _ _ _ (Or.inl (by decide))]
theorem g_j1_at (M : z_M) {b : Nat} (h1 : b ≠ 21) (h2 : b ≠ 22) : g_j1 M 53 b = M 53 b := by
  by_cases q : M 53 22 = nI 12
  · rw [g_j1_full q]; exact z_sv_get _ _ _ _ _ _ (Or.inl (by decide))
  · rw [g_j1, if_neg q]; exact g_jn_at _ _ _ h1 h2
theorem g_j1_LD {M : z_M} {d : Nat} (h : z_LD M d) : z_LD (g_j1 M) d := by
  obtain ⟨w, h1, h2, h3⟩ := h
  by_cases hj : w + d < 12
  · rw [g_j1_open h2 h3 (by omega) hj]
    refine ⟨w + 1, by omega, ?_, ?_⟩
    · unfold g_jn
      rw [z_sv_get _ _ _ _ _ _ (Or.inr (by decide)), z_sv_self]
    · unfold g_jn
      rw [z_sv_self, show w + d + 1 = w + 1 + d by omega]
  · rw [g_j1_full (by rw [h3, show w + d = 12 by omega])]
    exact z_LD.eq ⟨w, h1, h2, h3⟩ (z_sv_get _ _ _ _ _ _ (Or.inl (by decide))) (z_sv_get _ _ _ _ _ _ (Or.inl (by decide)))
theorem c_Model_turn {dA : Nat → ClassId} {ad : Nat → Nat} {M : z_M} (hg : z_GN M) : z_CV y_Model_turn b_Model_turn 1 1 dA ad [.ref (ad 53)] M (g_turn M) := by
  refine z_ofV [some (.ref (ad 53))] (by decide) (Nat.le_of_ble_eq_true rfl) rfl (fun k C E => ?_)
  have C : z_C dA ad k b_Model_turn "CellTransportModel" 1 1 := C
  obtain ⟨g, hg1, hg2⟩ := hg
  obtain ⟨g2, hg3, hg4⟩ := g_t1_GN M
  refine x_aload_n C d_Model_turn_0 (i := 0) rfl rfl ?_
  refine x_aload_n C d_Model_turn_1 (i := 0) rfl rfl ?_
  refine x_bipush C (nI 8) d_Model_turn_2 rfl ?_
  refine x_callVi C (c_Model_draw (kk := 8) hg1 hg2 (by decide) (by decide)) mt_Model_draw zl_Model (zc_Model _) rfl rfl rfl (Nat.le_of_ble_eq_true rfl) (Nat.le_of_ble_eq_true rfl) lk_Model_93 d_Model_turn_4 ?_
  refine u_Model_direction C lk_Model_113 d_Model_turn_7 ?_
  refine x_eqM (M2 := g_t1 M) rfl ?_
  refine x_aload_n C d_Model_turn_10 (i := 0) rfl rfl ?_
  refine x_iconst C (1) d_Model_turn_11 rfl ?_
  refine x_aload_n C d_Model_turn_12 (i := 0) rfl rfl ?_
  refine x_sipush C (nI 2000) d_Model_turn_13 rfl ?_
  refine x_callVi C (c_Model_draw (M := g_t1 M) (kk := 2000) hg3 hg4 (by decide) (by decide)) mt_Model_draw zl_Model (zc_Model _) rfl rfl rfl (Nat.le_of_ble_eq_true rfl) (Nat.le_of_ble_eq_true rfl) lk_Model_93 d_Model_turn_16 ?_
  refine x_iadd C d_Model_turn_19 ?_
  refine u_Model_budget C lk_Model_116 d_Model_turn_20 ?_
  exact x_vret C E rfl d_Model_turn_23
theorem c_Model_joinO {dA : Nat → ClassId} {ad : Nat → Nat} {M : z_M} {w jn : Nat} (ew : M 53 21 = nI w) (ej : M 53 22 = nI jn) (hw : w < 12) (hj : jn < 12) : z_CV y_Model_join b_Model_join 1 0 dA ad [.ref (ad 53)] M (g_jn M w jn) := by
  refine z_ofV [some (.ref (ad 53))] (by decide) (Nat.le_of_ble_eq_true rfl) rfl (fun k C E => ?_)
  have C : z_C dA ad k b_Model_join "CellTransportModel" 0 1 := C
  refine x_aload_n C d_Model_join_0 (i := 0) rfl rfl ?_
  refine g_Model_particles C lk_Model_119 d_Model_join_1 ?_
  refine x_eqi ej ?_
  refine x_bipush C (12) d_Model_join_4 rfl ?_
  refine x_icmp_ne C 20 d_Model_join_6 rfl (fun h_6 => ?_) (fun h_6 => absurd ((nI_eq (a := jn) (b := 12) (by omega) (by decide)).mp h_6) (by omega))
  refine x_aload_n C d_Model_join_20 (i := 0) rfl rfl ?_
  refine g_Model_px C lk_Model_60 d_Model_join_21 ?_
  refine x_aload_n C d_Model_join_24 (i := 0) rfl rfl ?_
  refine g_Model_waiting C lk_Model_122 d_Model_join_25 ?_
  refine x_eqi ew ?_
  refine x_aload_n C d_Model_join_28 (i := 0) rfl rfl ?_
  refine g_Model_x C lk_Model_125 d_Model_join_29 ?_
  refine x_eqi rfl ?_
  refine rn_st_m_px C  hw d_Model_join_32 ?_
  refine x_aload_n C d_Model_join_33 (i := 0) rfl rfl ?_
  refine g_Model_py C lk_Model_63 d_Model_join_34 ?_
  refine x_aload_n C d_Model_join_37 (i := 0) rfl rfl ?_
  refine g_Model_waiting C lk_Model_122 d_Model_join_38 ?_
  refine x_eqi ((z_sv_get M _ _ _ _ _ (Or.inl (by decide))).trans ew) ?_
  refine x_aload_n C d_Model_join_41 (i := 0) rfl rfl ?_
  refine g_Model_y C lk_Model_128 d_Model_join_42 ?_
  refine x_eqi (z_sv_get M _ _ _ _ _ (Or.inl (by decide))) ?_
  refine rn_st_m_py C  hw d_Model_join_45 ?_
  refine x_aload_n C d_Model_join_46 (i := 0) rfl rfl ?_
  refine x_dup C d_Model_join_47 rfl ?_
  refine g_Model_waiting C lk_Model_122 d_Model_join_48 ?_
  refine x_eqi (((z_sv_get _ _ _ _ _ _ (Or.inl (by decide))).trans (z_sv_get M _ _ _ _ _ (Or.inl (by decide)))).trans ew) ?_
  refine x_iconst C (1) d_Model_join_51 rfl ?_
  refine x_iadd C d_Model_join_52 ?_
  refine x_eqi (nI_1 w) ?_
  refine u_Model_waiting C lk_Model_122 d_Model_join_53 ?_
  refine x_aload_n C d_Model_join_56 (i := 0) rfl rfl ?_
  refine x_dup C d_Model_join_57 rfl ?_
  refine g_Model_particles C lk_Model_119 d_Model_join_58 ?_
  refine x_eqi ((((z_sv_get _ _ _ _ _ _ (Or.inr (by decide))).trans (z_sv_get _ _ _ _ _ _ (Or.inl (by decide)))).trans (z_sv_get M _ _ _ _ _ (Or.inl (by decide)))).trans ej) ?_
  refine x_iconst C (1) d_Model_join_61 rfl ?_
  refine x_iadd C d_Model_join_62 ?_
  refine x_eqi (nI_1 jn) ?_
  refine u_Model_particles C lk_Model_119 d_Model_join_63 ?_
  exact x_vret C E rfl d_Model_join_66
theorem c_Model_joinF {dA : Nat → ClassId} {ad : Nat → Nat} {M : z_M} (ej : M 53 22 = nI 12) : z_CV y_Model_join b_Model_join 1 0 dA ad [.ref (ad 53)] M (z_sv M 68 3 (M 68 3 + 1)) := by
  refine z_ofV [some (.ref (ad 53))] (by decide) (Nat.le_of_ble_eq_true rfl) rfl (fun k C E => ?_)
  have C : z_C dA ad k b_Model_join "CellTransportModel" 0 1 := C
  refine x_aload_n C d_Model_join_0 (i := 0) rfl rfl ?_
  refine g_Model_particles C lk_Model_119 d_Model_join_1 ?_
  refine x_eqi ej ?_
  refine x_bipush C (12) d_Model_join_4 rfl ?_
  refine x_icmp_ne C 20 d_Model_join_6 rfl (fun h_6 => absurd rfl h_6) (fun h_6 => ?_)
  refine x_aload_n C d_Model_join_9 (i := 0) rfl rfl ?_
  refine g_Model_counts C lk_Model_57 d_Model_join_10 ?_
  refine x_iconst C (nI 3) d_Model_join_13 rfl ?_
  refine x_dup2 C d_Model_join_14 rfl rfl ?_
  refine rn_ld_m_counts C  (show 3 < 5 by decide) d_Model_join_15 ?_
  refine x_iconst C (1) d_Model_join_16 rfl ?_
  refine x_iadd C d_Model_join_17 ?_
  refine rn_st_m_counts C  (show 3 < 5 by decide) d_Model_join_18 ?_
  exact x_vret C E rfl d_Model_join_19
theorem c_Model_join {dA : Nat → ClassId} {ad : Nat → Nat} {M : z_M} {d : Nat} (h : z_LD M d) : z_CV y_Model_join b_Model_join 1 0 dA ad [.ref (ad 53)] M (g_j1 M) := by
  obtain ⟨w, h1, h2, h3⟩ := h
  by_cases hj : w + d < 12
  · rw [g_j1_open h2 h3 (by omega) hj]
    exact c_Model_joinO h2 h3 (by omega) hj
  · have e : M 53 22 = nI 12 := by rw [h3, show w + d = 12 by omega]
    rw [g_j1_full e]
    exact c_Model_joinF e
end
section
theorem z_1ne : ¬ (1 : Int32) = 0 := by decide
def z_GJ (M : z_M) (d : Nat) : Prop := (∀ r, r < 6 → z_okR (z_V M) r) ∧ z_GN M ∧ z_LD M d
theorem z_GJ.sv {M : z_M} {d : Nat} (h : z_GJ M d) {k j : Nat} (hk : (k = 53 ∧ j ≠ 15 ∧ j ≠ 21 ∧ j ≠ 22) ∨ 66 ≤ k) (v : Int32) : z_GJ (z_sv M k j v) d := by
  refine ⟨z_okV_kq (z_kq.rf.sv (by omega) j v) h.1, ?_, ?_⟩
  · obtain ⟨g, h1, h2⟩ := h.2.1
    exact ⟨g, h1, (z_sv_get _ _ _ _ _ _ (by omega)).trans h2⟩
  · exact h.2.2.eq (z_sv_get _ _ _ _ _ _ (by omega)) (z_sv_get _ _ _ _ _ _ (by omega))
theorem z_GJ.dr {M : z_M} {d : Nat} (h : z_GJ M d) : z_GJ (g_dr M) d := ⟨z_okV_kq (g_dr_kq z_kq.rf) h.1, g_dr_GN M, h.2.2.eq (z_sv_get _ _ _ _ _ _ (Or.inr (by decide))) (z_sv_get _ _ _ _ _ _ (Or.inr (by decide)))⟩
theorem z_GJ.turn {M : z_M} {d : Nat} (h : z_GJ M d) : z_GJ (g_turn M) d := ((h.dr.sv (Or.inl ⟨rfl, by decide, by decide, by decide⟩) _).dr).sv (Or.inl ⟨rfl, by decide, by decide, by decide⟩) _
theorem z_GJ.j1 {M : z_M} {d : Nat} (h : z_GJ M d) : z_GJ (g_j1 M) d := by
  refine ⟨z_okV_kq (g_j1_kq z_kq.rf) h.1, ?_, g_j1_LD h.2.2⟩
  obtain ⟨g, h1, h2⟩ := h.2.1
  exact ⟨g, h1, (g_j1_at M (by decide) (by decide)).trans h2⟩
theorem z_GJx {M2 M3 : z_M} {d : Nat} (e : M3 = M2) (h : z_GJ M2 d) : z_GJ M3 d := by rw [e]; exact h
theorem z_kqx {M0 M2 M3 : z_M} (e : M3 = M2) (h : z_kq M0 M2) : z_kq M0 M3 := by rw [e]; exact h
def g_ca1 (M : z_M) (c : Nat) : z_M := z_sv M 66 (4 * c + 1) (M 66 (4 * c + 1) + 1)
def g_cb (M : z_M) (c : Nat) : z_M := g_dr (g_ca1 M c)
def g_cr (M : z_M) (c : Nat) : Int32 := z_rm (f_nx (g_ca1 M c 53 15) / 256) (nI 1000)
def g_spl (M : z_M) : z_M := g_j1 (g_j1 M)
def g_c3 (M : z_M) (c : Nat) : z_M := z_sv (g_cb M c) 66 (4 * c + 3) (g_cb M c 66 (4 * c + 3) + 1)
def g_c2 (M : z_M) (c : Nat) : z_M := z_sv (g_cb M c) 66 (4 * c + 2) (g_cb M c 66 (4 * c + 2) + 1)
def g_col (M : z_M) (c : Nat) : Int32 × z_M := if g_cb M c 64 c ≤ g_cr M c then (if g_cb M c 64 c + g_cb M c 65 c ≤ g_cr M c then (1, g_turn (g_cb M c)) else (0, g_spl (g_c3 M c))) else (0, g_c2 M c)
theorem g_col_cases (M : z_M) (c : Nat) : g_col M c = (1, g_turn (g_cb M c)) ∨ g_col M c = (0, g_spl (g_c3 M c)) ∨ g_col M c = (0, g_c2 M c) := by
  by_cases h1 : g_cb M c 64 c ≤ g_cr M c
  · by_cases h2 : g_cb M c 64 c + g_cb M c 65 c ≤ g_cr M c
    · exact Or.inl (by rw [g_col, if_pos h1, if_pos h2])
    · exact Or.inr (Or.inl (by rw [g_col, if_pos h1, if_neg h2]))
  · exact Or.inr (Or.inr (by rw [g_col, if_neg h1]))
theorem g_cb_GJ {M : z_M} {d : Nat} (h : z_GJ M d) (c : Nat) : z_GJ (g_cb M c) d := (h.sv (Or.inr (by decide)) _).dr
theorem g_col_GJ {M : z_M} {d : Nat} (h : z_GJ M d) (c : Nat) : z_GJ (g_col M c).2 d := by
  have hb := g_cb_GJ h c
  rcases g_col_cases M c with e | e | e
  · exact z_GJx (congrArg Prod.snd e) hb.turn
  · exact z_GJx (congrArg Prod.snd e) (hb.sv (k := 66) (Or.inr (by decide)) _).j1.j1
  · exact z_GJx (congrArg Prod.snd e) (hb.sv (k := 66) (Or.inr (by decide)) _)
theorem g_cb_kq {M0 M : z_M} (h : z_kq M0 M) (c : Nat) : z_kq M0 (g_cb M c) := g_dr_kq (h.sv (Or.inr (by decide)) _ _)
theorem g_col_kq {M0 M : z_M} (h : z_kq M0 M) (c : Nat) : z_kq M0 (g_col M c).2 := by
  have hb := g_cb_kq h c
  rcases g_col_cases M c with e | e | e
  · exact z_kqx (congrArg Prod.snd e) (g_turn_kq hb)
  · exact z_kqx (congrArg Prod.snd e) (g_j1_kq (g_j1_kq (hb.sv (k := 66) (Or.inr (by decide)) _ _)))
  · exact z_kqx (congrArg Prod.snd e) (hb.sv (k := 66) (Or.inr (by decide)) _ _)
theorem g_turn_dir (M : z_M) : ∃ dd : Nat, dd < 8 ∧ g_turn M 53 25 = nI dd := by
  obtain ⟨n, hn, e⟩ := f_nx_rm (M 53 15) (k := 8) (by decide) (by decide)
  refine ⟨n, hn, ?_⟩
  unfold g_turn g_t1 g_dr
  rw [z_sv_get _ _ _ _ _ _ (Or.inr (by decide)), z_sv_get _ _ _ _ _ _ (Or.inr (by decide)), z_sv_self]
  exact e
theorem g_col_on {M : z_M} {c : Nat} (h : ¬ (g_col M c).1 = 0) : ∃ dd : Nat, dd < 8 ∧ (g_col M c).2 53 25 = nI dd := by
  rcases g_col_cases M c with e | e | e
  · have e2 : (g_col M c).2 = g_turn (g_cb M c) := congrArg Prod.snd e
    rw [e2]
    exact g_turn_dir _
  · exact absurd (congrArg Prod.fst e) h
  · exact absurd (congrArg Prod.fst e) h
theorem c_Model_collide {dA : Nat → ClassId} {ad : Nat → Nat} {M : z_M} {c d : Nat} (hc : c < 6) (h : z_GJ M d) : z_CI y_Model_collide b_Model_collide 3 .boolean 2 dA ad [.ref (ad 53), .int (nI c)] M (z_b ((g_col M c).1 = 0)) ((g_col M c).2) := by
  refine z_ofI [some (.ref (ad 53)), some (.int (nI c)), none] (by decide) (Nat.le_of_ble_eq_true rfl) rfl (fun k C E => ?_)
  have C : z_C dA ad k b_Model_collide "CellTransportModel" 2 3 := C
  obtain ⟨g, hg1, hg2⟩ := (h.sv (k := 66) (j := 4 * c + 1) (Or.inr (by decide)) (M 66 (4 * c + 1) + 1)).2.1
  have hb := g_cb_GJ h c
  refine x_aload_n C d_Model_collide_0 (i := 0) rfl rfl ?_
  refine g_Model_tallies C lk_Model_51 d_Model_collide_1 ?_
  refine x_iconst C (nI 4) d_Model_collide_4 rfl ?_
  refine x_iload_n C d_Model_collide_5 (i := 1) rfl rfl ?_
  refine x_imul C d_Model_collide_6 ?_
  refine x_iconst C (nI 1) d_Model_collide_7 rfl ?_
  refine x_iadd C d_Model_collide_8 ?_
  refine x_eqi (z_ix 4 c 1) ?_
  refine x_dup2 C d_Model_collide_9 rfl rfl ?_
  refine rn_ld_m_tallies C  (show 4 * c + 1 < 24 by omega) d_Model_collide_10 ?_
  refine x_iconst C (1) d_Model_collide_11 rfl ?_
  refine x_iadd C d_Model_collide_12 ?_
  refine rn_st_m_tallies C  (show 4 * c + 1 < 24 by omega) d_Model_collide_13 ?_
  refine x_eqM (M2 := g_ca1 M c) rfl ?_
  refine x_aload_n C d_Model_collide_14 (i := 0) rfl rfl ?_
  refine x_sipush C (nI 1000) d_Model_collide_15 rfl ?_
  refine x_callVi C (c_Model_draw (M := g_ca1 M c) (kk := 1000) hg1 hg2 (by decide) (by decide)) mt_Model_draw zl_Model (zc_Model _) rfl rfl rfl (Nat.le_of_ble_eq_true rfl) (Nat.le_of_ble_eq_true rfl) lk_Model_93 d_Model_collide_18 ?_
  refine x_istore_n C d_Model_collide_21 (i := 2) rfl rfl ?_
  refine x_eqM (M2 := g_cb M c) rfl ?_
  refine x_iload_n C d_Model_collide_22 (i := 2) rfl rfl ?_
  refine x_aload_n C d_Model_collide_23 (i := 0) rfl rfl ?_
  refine g_Model_absorbs C lk_Model_41 d_Model_collide_24 ?_
  refine x_iload_n C d_Model_collide_27 (i := 1) rfl rfl ?_
  refine rn_ld_m_absorbs C  hc d_Model_collide_28 ?_
  refine x_icmp_ge C 48 d_Model_collide_29 rfl (fun h_29 => ?_) (fun h_29 => ?_)
  · refine x_iload_n C d_Model_collide_48 (i := 2) rfl rfl ?_
    refine x_aload_n C d_Model_collide_49 (i := 0) rfl rfl ?_
    refine g_Model_absorbs C lk_Model_41 d_Model_collide_50 ?_
    refine x_iload_n C d_Model_collide_53 (i := 1) rfl rfl ?_
    refine rn_ld_m_absorbs C  hc d_Model_collide_54 ?_
    refine x_aload_n C d_Model_collide_55 (i := 0) rfl rfl ?_
    refine g_Model_splits C lk_Model_44 d_Model_collide_56 ?_
    refine x_iload_n C d_Model_collide_59 (i := 1) rfl rfl ?_
    refine rn_ld_m_splits C  hc d_Model_collide_60 ?_
    refine x_iadd C d_Model_collide_61 ?_
    refine x_icmp_ge C 89 d_Model_collide_62 rfl (fun h_62 => ?_) (fun h_62 => ?_)
    · refine x_aload_n C d_Model_collide_89 (i := 0) rfl rfl ?_
      refine x_callVv C (c_Model_turn (M := g_cb M c) hb.2.1) mt_Model_turn zl_Model (zc_Model _) rfl rfl rfl (Nat.le_of_ble_eq_true rfl) (Nat.le_of_ble_eq_true rfl) lk_Model_134 d_Model_collide_90 ?_
      refine x_iconst C (0) d_Model_collide_93 rfl ?_
      exact x_zret C E (z_b_f (fun q => absurd (show (1 : Int32) = 0 from (congrArg Prod.fst (show g_col M c = (1, g_turn (g_cb M c)) by rw [g_col, if_pos (show g_cb M c 64 c ≤ g_cr M c from h_29), if_pos (show g_cb M c 64 c + g_cb M c 65 c ≤ g_cr M c from h_62)])).symm.trans q) (by decide))).symm (congrArg Prod.snd (show g_col M c = (1, g_turn (g_cb M c)) by rw [g_col, if_pos (show g_cb M c 64 c ≤ g_cr M c from h_29), if_pos (show g_cb M c 64 c + g_cb M c 65 c ≤ g_cr M c from h_62)])).symm rfl d_Model_collide_94
    · refine x_aload_n C d_Model_collide_65 (i := 0) rfl rfl ?_
      refine g_Model_tallies C lk_Model_51 d_Model_collide_66 ?_
      refine x_iconst C (nI 4) d_Model_collide_69 rfl ?_
      refine x_iload_n C d_Model_collide_70 (i := 1) rfl rfl ?_
      refine x_imul C d_Model_collide_71 ?_
      refine x_iconst C (nI 3) d_Model_collide_72 rfl ?_
      refine x_iadd C d_Model_collide_73 ?_
      refine x_eqi (z_ix 4 c 3) ?_
      refine x_dup2 C d_Model_collide_74 rfl rfl ?_
      refine rn_ld_m_tallies C  (show 4 * c + 3 < 24 by omega) d_Model_collide_75 ?_
      refine x_iconst C (1) d_Model_collide_76 rfl ?_
      refine x_iadd C d_Model_collide_77 ?_
      refine rn_st_m_tallies C  (show 4 * c + 3 < 24 by omega) d_Model_collide_78 ?_
      refine x_eqM (M2 := g_c3 M c) rfl ?_
      refine x_aload_n C d_Model_collide_79 (i := 0) rfl rfl ?_
      refine x_callVv C (c_Model_join (M := g_c3 M c) (hb.sv (k := 66) (Or.inr (by decide)) _).2.2) mt_Model_join zl_Model (zc_Model _) rfl rfl rfl (Nat.le_of_ble_eq_true rfl) (Nat.le_of_ble_eq_true rfl) lk_Model_131 d_Model_collide_80 ?_
      refine x_aload_n C d_Model_collide_83 (i := 0) rfl rfl ?_
      refine x_callVv C (c_Model_join (M := g_j1 (g_c3 M c)) (hb.sv (k := 66) (Or.inr (by decide)) _).j1.2.2) mt_Model_join zl_Model (zc_Model _) rfl rfl rfl (Nat.le_of_ble_eq_true rfl) (Nat.le_of_ble_eq_true rfl) lk_Model_131 d_Model_collide_84 ?_
      refine x_iconst C (1) d_Model_collide_87 rfl ?_
      exact x_zret C E (z_b_t (show (g_col M c).1 = 0 from congrArg Prod.fst (show g_col M c = (0, g_spl (g_c3 M c)) by rw [g_col, if_pos (show g_cb M c 64 c ≤ g_cr M c from h_29), if_neg (show ¬ g_cb M c 64 c + g_cb M c 65 c ≤ g_cr M c from h_62)]))).symm (congrArg Prod.snd (show g_col M c = (0, g_spl (g_c3 M c)) by rw [g_col, if_pos (show g_cb M c 64 c ≤ g_cr M c from h_29), if_neg (show ¬ g_cb M c 64 c + g_cb M c 65 c ≤ g_cr M c from h_62)])).symm rfl d_Model_collide_88
  · refine x_aload_n C d_Model_collide_32 (i := 0) rfl rfl ?_
    refine g_Model_tallies C lk_Model_51 d_Model_collide_33 ?_
    refine x_iconst C (nI 4) d_Model_collide_36 rfl ?_
    refine x_iload_n C d_Model_collide_37 (i := 1) rfl rfl ?_
    refine x_imul C d_Model_collide_38 ?_
    refine x_iconst C (nI 2) d_Model_collide_39 rfl ?_
    refine x_iadd C d_Model_collide_40 ?_
    refine x_eqi (z_ix 4 c 2) ?_
    refine x_dup2 C d_Model_collide_41 rfl rfl ?_
    refine rn_ld_m_tallies C  (show 4 * c + 2 < 24 by omega) d_Model_collide_42 ?_
    refine x_iconst C (1) d_Model_collide_43 rfl ?_
    refine x_iadd C d_Model_collide_44 ?_
    refine rn_st_m_tallies C  (show 4 * c + 2 < 24 by omega) d_Model_collide_45 ?_
    refine x_iconst C (1) d_Model_collide_46 rfl ?_
    exact x_zret C E (z_b_t (show (g_col M c).1 = 0 from congrArg Prod.fst (show g_col M c = (0, g_c2 M c) by rw [g_col, if_neg (show ¬ g_cb M c 64 c ≤ g_cr M c from h_29)]))).symm (congrArg Prod.snd (show g_col M c = (0, g_c2 M c) by rw [g_col, if_neg (show ¬ g_cb M c 64 c ≤ g_cr M c from h_29)])).symm rfl d_Model_collide_47
def g_mv (M : z_M) (dd : Nat) : z_M := z_sv (z_sv M 53 23 (M 53 23 + z_sX dd)) 53 24 (M 53 24 + z_sY dd)
def g_tk (M : z_M) (c : Nat) : z_M := z_sv M 66 (4 * c) (M 66 (4 * c) + 1)
def g_at (M : z_M) (b c : Nat) : z_M := if b = c ∨ b = 6 then g_tk M c else z_sv (g_tk M c) 67 (6 * b + c) (g_tk M c 67 (6 * b + c) + 1)
def g_lk (M : z_M) (dd : Nat) : z_M := z_sv (g_mv M dd) 68 1 (g_mv M dd 68 1 + 1)
def g_s2 (M : z_M) (dd b c : Nat) : z_M := g_at (g_mv M dd) b c
def g_s3 (M : z_M) (dd b c : Nat) : z_M := z_sv (g_s2 M dd b c) 53 26 (g_s2 M dd b c 53 26 - g_s2 M dd b c 63 c)
def g_st0 (M : z_M) (dd b c : Nat) : Int32 × z_M := if c = 6 then (0, g_lk M dd) else if 0 < g_s2 M dd b c 53 26 - g_s2 M dd b c 63 c then (1, g_s3 M dd b c) else g_col (g_s3 M dd b c) c
theorem g_st0_cases (M : z_M) (dd b c : Nat) : (c = 6 ∧ g_st0 M dd b c = (0, g_lk M dd)) ∨ (¬ c = 6 ∧ g_st0 M dd b c = (1, g_s3 M dd b c)) ∨ (¬ c = 6 ∧ g_st0 M dd b c = g_col (g_s3 M dd b c) c) := by
  by_cases h1 : c = 6
  · exact Or.inl ⟨h1, by rw [g_st0, if_pos h1]⟩
  · by_cases h2 : 0 < g_s2 M dd b c 53 26 - g_s2 M dd b c 63 c
    · exact Or.inr (Or.inl ⟨h1, by rw [g_st0, if_neg h1, if_pos h2]⟩)
    · exact Or.inr (Or.inr ⟨h1, by rw [g_st0, if_neg h1, if_neg h2]⟩)
def g_dd (M : z_M) : Nat := (M 53 25).toNatClampNeg
def g_bb (M : z_M) : Nat := (f_ca (z_V M) (M 53 23) (M 53 24) 6 0).toNatClampNeg
def g_cc (M : z_M) : Nat := (f_ca (z_V (g_mv M (g_dd M))) (g_mv M (g_dd M) 53 23) (g_mv M (g_dd M) 53 24) 6 0).toNatClampNeg
def g_stp (M : z_M) : Int32 × z_M := g_st0 M (g_dd M) (g_bb M) (g_cc M)
theorem g_cc_n (M : z_M) : g_cc M ≤ 6 ∧ f_ca (z_V (g_mv M (g_dd M))) (g_mv M (g_dd M) 53 23) (g_mv M (g_dd M) 53 24) 6 0 = nI (g_cc M) := by
  obtain ⟨c, h1, h2⟩ := f_ca_n (z_V (g_mv M (g_dd M))) (g_mv M (g_dd M) 53 23) (g_mv M (g_dd M) 53 24) 6 0 (by omega)
  have e : g_cc M = c := by unfold g_cc; rw [h2]; exact nI_clamp (by omega)
  rw [e]
  exact ⟨h1, h2⟩
theorem g_bb_n (M : z_M) : g_bb M ≤ 6 ∧ f_ca (z_V M) (M 53 23) (M 53 24) 6 0 = nI (g_bb M) := by
  obtain ⟨c, h1, h2⟩ := f_ca_n (z_V M) (M 53 23) (M 53 24) 6 0 (by omega)
  have e : g_bb M = c := by unfold g_bb; rw [h2]; exact nI_clamp (by omega)
  rw [e]
  exact ⟨h1, h2⟩
theorem g_dd_n {M : z_M} (h : ∃ dd : Nat, dd < 8 ∧ M 53 25 = nI dd) : g_dd M < 8 ∧ M 53 25 = nI (g_dd M) := by
  obtain ⟨d, h1, h2⟩ := h
  have e : g_dd M = d := by unfold g_dd; rw [h2]; exact nI_clamp (by omega)
  rw [e]
  exact ⟨h1, h2⟩
theorem g_mv_GJ {M : z_M} {d : Nat} (h : z_GJ M d) (dd : Nat) : z_GJ (g_mv M dd) d := (h.sv (Or.inl ⟨rfl, by decide, by decide, by decide⟩) _).sv (Or.inl ⟨rfl, by decide, by decide, by decide⟩) _
theorem g_at_GJ {M : z_M} {d : Nat} (h : z_GJ M d) (b c : Nat) : z_GJ (g_at M b c) d := by
  by_cases q : b = c ∨ b = 6
  · rw [g_at, if_pos q]; exact h.sv (k := 66) (Or.inr (by decide)) _
  · rw [g_at, if_neg q]; exact (h.sv (k := 66) (Or.inr (by decide)) _).sv (k := 67) (Or.inr (by decide)) _
theorem g_s3_GJ {M : z_M} {d : Nat} (h : z_GJ M d) (dd b c : Nat) : z_GJ (g_s3 M dd b c) d := (g_at_GJ (g_mv_GJ h dd) b c).sv (Or.inl ⟨rfl, by decide, by decide, by decide⟩) _
theorem g_stp_GJ {M : z_M} {d : Nat} (h : z_GJ M d) : z_GJ (g_stp M).2 d := by
  rcases g_st0_cases M (g_dd M) (g_bb M) (g_cc M) with ⟨-, e⟩ | ⟨n, e⟩ | ⟨n, e⟩
  · exact z_GJx (congrArg Prod.snd e) ((g_mv_GJ h _).sv (k := 68) (Or.inr (by decide)) _)
  · exact z_GJx (congrArg Prod.snd e) (g_s3_GJ h _ _ _)
  · exact z_GJx (congrArg Prod.snd e) (g_col_GJ (g_s3_GJ h _ _ _) _)
theorem g_mv_kq {M0 M : z_M} (h : z_kq M0 M) (dd : Nat) : z_kq M0 (g_mv M dd) := (h.sv (Or.inl rfl) _ _).sv (Or.inl rfl) _ _
theorem g_at_kq {M0 M : z_M} (h : z_kq M0 M) (b c : Nat) : z_kq M0 (g_at M b c) := by
  by_cases q : b = c ∨ b = 6
  · rw [g_at, if_pos q]; exact h.sv (k := 66) (Or.inr (by decide)) _ _
  · rw [g_at, if_neg q]; exact (h.sv (k := 66) (Or.inr (by decide)) _ _).sv (k := 67) (Or.inr (by decide)) _ _
theorem g_s3_kq {M0 M : z_M} (h : z_kq M0 M) (dd b c : Nat) : z_kq M0 (g_s3 M dd b c) := (g_at_kq (g_mv_kq h dd) b c).sv (Or.inl rfl) _ _
theorem g_stp_kq (M : z_M) : z_kq M (g_stp M).2 := by
  rcases g_st0_cases M (g_dd M) (g_bb M) (g_cc M) with ⟨-, e⟩ | ⟨n, e⟩ | ⟨n, e⟩
  · exact z_kqx (congrArg Prod.snd e) ((g_mv_kq z_kq.rf _).sv (k := 68) (Or.inr (by decide)) _ _)
  · exact z_kqx (congrArg Prod.snd e) (g_s3_kq z_kq.rf _ _ _)
  · exact z_kqx (congrArg Prod.snd e) (g_col_kq (g_s3_kq z_kq.rf _ _ _) _)
theorem g_s3_25 (M : z_M) (dd b c : Nat) : g_s3 M dd b c 53 25 = M 53 25 := by
  have e1 : g_s2 M dd b c 53 = g_mv M dd 53 := by
    unfold g_s2
    by_cases q : b = c ∨ b = 6
    · rw [g_at, if_pos q, g_tk, z_sv_row _ _ _ (by decide)]
    · rw [g_at, if_neg q, z_sv_row _ _ _ (by decide), g_tk, z_sv_row _ _ _ (by decide)]
  unfold g_s3
  rw [z_sv_get _ _ _ _ _ _ (Or.inr (by decide)), e1]
  unfold g_mv
  rw [z_sv_get _ _ _ _ _ _ (Or.inr (by decide)), z_sv_get _ _ _ _ _ _ (Or.inr (by decide))]
theorem g_stp_on {M : z_M} (hd : ∃ dd : Nat, dd < 8 ∧ M 53 25 = nI dd) (h : ¬ (g_stp M).1 = 0) : ∃ dd : Nat, dd < 8 ∧ (g_stp M).2 53 25 = nI dd := by
  rcases g_st0_cases M (g_dd M) (g_bb M) (g_cc M) with ⟨-, e⟩ | ⟨n, e⟩ | ⟨n, e⟩
  · exact absurd (congrArg Prod.fst e) h
  · have e2 : (g_stp M).2 = g_s3 M (g_dd M) (g_bb M) (g_cc M) := congrArg Prod.snd e
    rw [e2]
    obtain ⟨q, h1, h2⟩ := hd
    exact ⟨q, h1, (g_s3_25 M _ _ _).trans h2⟩
  · have e1 : (g_stp M).1 = (g_col (g_s3 M (g_dd M) (g_bb M) (g_cc M)) (g_cc M)).1 := congrArg Prod.fst e
    have e2 : (g_stp M).2 = (g_col (g_s3 M (g_dd M) (g_bb M) (g_cc M)) (g_cc M)).2 := congrArg Prod.snd e
    rw [e2]
    exact g_col_on (by rw [← e1]; exact h)
def g_flp : Nat → z_M → z_M
  | 0, M => z_sv M 68 2 (M 68 2 + 1)
  | n + 1, M => if (g_stp M).1 = 0 then (g_stp M).2 else g_flp n (g_stp M).2
def g_fly (M : z_M) : z_M := g_flp 200 (g_turn M)
theorem lp_Model_fly {dA : Nat → ClassId} {ad : Nat → Nat} {M1 : z_M} {k : z_K} {d : Nat} (C : z_C dA ad k b_Model_fly "CellTransportModel" 3 4) (E : z_RV dA ad k M1) :
    ∀ (n i : Nat) (M : z_M) (a2 a3 : Option Value), i + n = 201 → z_GJ M d → (∃ dd : Nat, dd < 8 ∧ M 53 25 = nI dd) → g_flp n M = M1 → z_X dA ad k 6 [some (.ref (ad 53)), some (.int (nI i)), a2, a3] [] M := by
  intro n
  induction n with
  | zero =>
    intro i M a2 a3 hi hJ hD hr
    refine x_iload_n C d_Model_fly_6 (i := 1) rfl rfl ?_
    refine x_sipush C (200) d_Model_fly_7 rfl ?_
    refine x_icmp_gt C 163 d_Model_fly_10 rfl (fun h_10 => ?_) (fun h_10 => absurd (show (200 : Int32) < nI i from nI_lt (a := 200) (by omega) (by omega)) h_10)
    refine x_aload_n C d_Model_fly_163 (i := 0) rfl rfl ?_
    refine g_Model_counts C lk_Model_57 d_Model_fly_164 ?_
    refine x_iconst C (nI 2) d_Model_fly_167 rfl ?_
    refine x_dup2 C d_Model_fly_168 rfl rfl ?_
    refine rn_ld_m_counts C  (show 2 < 5 by decide) d_Model_fly_169 ?_
    refine x_iconst C (1) d_Model_fly_170 rfl ?_
    refine x_iadd C d_Model_fly_171 ?_
    refine rn_st_m_counts C  (show 2 < 5 by decide) d_Model_fly_172 ?_
    exact x_vret C E hr d_Model_fly_173
  | succ n ih =>
    intro i M a2 a3 hi hJ hD hr
    obtain ⟨hd, edd⟩ := g_dd_n hD
    obtain ⟨hb, eb⟩ := g_bb_n M
    obtain ⟨hc, ec⟩ := g_cc_n M
    have hJ1 := g_mv_GJ hJ (g_dd M)
    have hJ3 := g_s3_GJ hJ (g_dd M) (g_bb M) (g_cc M)
    generalize hdd0 : g_dd M = dd at hd edd ec hJ1 hJ3
    generalize hbb0 : g_bb M = b at hb eb hJ3
    generalize hcc0 : g_cc M = c at hc ec hJ3
    have hst : g_stp M = g_st0 M dd b c := by rw [g_stp, hdd0, hbb0, hcc0]
    refine x_iload_n C d_Model_fly_6 (i := 1) rfl rfl ?_
    refine x_sipush C (200) d_Model_fly_7 rfl ?_
    refine x_icmp_gt C 163 d_Model_fly_10 rfl (fun h_10 => absurd (show nI 200 < nI i from h_10) (nI_nlt (by omega) (by decide))) (fun h_10 => ?_)
    refine x_aload_n C d_Model_fly_13 (i := 0) rfl rfl ?_
    refine x_aload_n C d_Model_fly_14 (i := 0) rfl rfl ?_
    refine g_Model_x C lk_Model_125 d_Model_fly_15 ?_
    refine x_aload_n C d_Model_fly_18 (i := 0) rfl rfl ?_
    refine g_Model_y C lk_Model_128 d_Model_fly_19 ?_
    refine x_callVi C (c_Model_at hJ.1 _ _) mt_Model_at zl_Model (zc_Model _) rfl rfl rfl (Nat.le_of_ble_eq_true rfl) (Nat.le_of_ble_eq_true rfl) lk_Model_103 d_Model_fly_22 ?_
    refine x_eqi eb ?_
    refine x_istore_n C d_Model_fly_25 (i := 2) rfl rfl ?_
    refine x_aload_n C d_Model_fly_26 (i := 0) rfl rfl ?_
    refine x_dup C d_Model_fly_27 rfl ?_
    refine g_Model_x C lk_Model_125 d_Model_fly_28 ?_
    refine x_aload_n C d_Model_fly_31 (i := 0) rfl rfl ?_
    refine g_Model_direction C lk_Model_113 d_Model_fly_32 ?_
    refine x_eqi edd ?_
    refine x_callSi C (c_Model_stepX hd) mt_Model_stepX rfl rfl (Nat.le_of_ble_eq_true rfl) (Nat.le_of_ble_eq_true rfl) lk_Model_107 d_Model_fly_35 ?_
    refine x_iadd C d_Model_fly_38 ?_
    refine u_Model_x C lk_Model_125 d_Model_fly_39 ?_
    refine x_aload_n C d_Model_fly_42 (i := 0) rfl rfl ?_
    refine x_dup C d_Model_fly_43 rfl ?_
    refine g_Model_y C lk_Model_128 d_Model_fly_44 ?_
    refine x_eqi (z_sv_get M _ _ _ _ _ (Or.inr (by decide))) ?_
    refine x_aload_n C d_Model_fly_47 (i := 0) rfl rfl ?_
    refine g_Model_direction C lk_Model_113 d_Model_fly_48 ?_
    refine x_eqi ((z_sv_get M _ _ _ _ _ (Or.inr (by decide))).trans edd) ?_
    refine x_callSi C (c_Model_stepY hd) mt_Model_stepY rfl rfl (Nat.le_of_ble_eq_true rfl) (Nat.le_of_ble_eq_true rfl) lk_Model_110 d_Model_fly_51 ?_
    refine x_iadd C d_Model_fly_54 ?_
    refine u_Model_y C lk_Model_128 d_Model_fly_55 ?_
    refine x_eqM (M2 := g_mv M dd) rfl ?_
    refine x_aload_n C d_Model_fly_58 (i := 0) rfl rfl ?_
    refine x_aload_n C d_Model_fly_59 (i := 0) rfl rfl ?_
    refine g_Model_x C lk_Model_125 d_Model_fly_60 ?_
    refine x_aload_n C d_Model_fly_63 (i := 0) rfl rfl ?_
    refine g_Model_y C lk_Model_128 d_Model_fly_64 ?_
    refine x_callVi C (c_Model_at hJ1.1 _ _) mt_Model_at zl_Model (zc_Model _) rfl rfl rfl (Nat.le_of_ble_eq_true rfl) (Nat.le_of_ble_eq_true rfl) lk_Model_103 d_Model_fly_67 ?_
    refine x_eqi ec ?_
    refine x_istore_n C d_Model_fly_70 (i := 3) rfl rfl ?_
    refine x_iload_n C d_Model_fly_71 (i := 3) rfl rfl ?_
    refine x_bipush C (6) d_Model_fly_72 rfl ?_
    refine x_icmp_ne C 88 d_Model_fly_74 rfl (fun h_74 => ?_) (fun h_74 => ?_)
    · have hc6 : c < 6 := z_b6 hc h_74
      refine x_aload_n C d_Model_fly_88 (i := 0) rfl rfl ?_
      refine g_Model_tallies C lk_Model_51 d_Model_fly_89 ?_
      refine x_iconst C (nI 4) d_Model_fly_92 rfl ?_
      refine x_iload_n C d_Model_fly_93 (i := 3) rfl rfl ?_
      refine x_imul C d_Model_fly_94 ?_
      refine x_eqi (pk_mul 4 c) ?_
      refine x_dup2 C d_Model_fly_95 rfl rfl ?_
      refine rn_ld_m_tallies C  (show 4 * c < 24 by omega) d_Model_fly_96 ?_
      refine x_iconst C (1) d_Model_fly_97 rfl ?_
      refine x_iadd C d_Model_fly_98 ?_
      refine rn_st_m_tallies C  (show 4 * c < 24 by omega) d_Model_fly_99 ?_
      refine x_eqM (M2 := g_tk (g_mv M dd) c) rfl ?_
      refine x_iload_n C d_Model_fly_100 (i := 2) rfl rfl ?_
      refine x_bipush C (6) d_Model_fly_101 rfl ?_
      refine x_icmp_eq C 126 d_Model_fly_103 rfl (fun h_103 => ?_) (fun h_103 => ?_)
      · refine x_eqM (M2 := g_s2 M dd b c) (show _ = g_at (g_mv M dd) b c from (if_pos (Or.inr ((nI_eq (a := b) (b := 6) (by omega) (by decide)).mp h_103))).symm) ?_
        refine x_aload_n C d_Model_fly_126 (i := 0) rfl rfl ?_
        refine x_dup C d_Model_fly_127 rfl ?_
        refine g_Model_budget C lk_Model_116 d_Model_fly_128 ?_
        refine x_aload_n C d_Model_fly_131 (i := 0) rfl rfl ?_
        refine g_Model_density C lk_Model_38 d_Model_fly_132 ?_
        refine x_iload_n C d_Model_fly_135 (i := 3) rfl rfl ?_
        refine rn_ld_m_density C  hc6 d_Model_fly_136 ?_
        refine x_isub C d_Model_fly_137 ?_
        refine u_Model_budget C lk_Model_116 d_Model_fly_138 ?_
        refine x_eqM (M2 := g_s3 M dd b c) rfl ?_
        refine x_aload_n C d_Model_fly_141 (i := 0) rfl rfl ?_
        refine g_Model_budget C lk_Model_116 d_Model_fly_142 ?_
        refine x_eqi (z_sv_self _ _ _ _) ?_
        refine x_if_gt C 157 d_Model_fly_145 rfl (fun h_145 => ?_) (fun h_145 => ?_)
        · refine x_iinc C (nI (i + 1)) d_Model_fly_157 rfl (z_inc i) rfl ?_
          refine x_goto C 6 d_Model_fly_160 rfl ?_
          exact ih (i + 1) _ _ _ (by omega) hJ3 (by have q := g_stp_on hD (by rw [hst, (show g_st0 M dd b c = (1, g_s3 M dd b c) by rw [g_st0, if_neg (Nat.ne_of_lt hc6), if_pos (show 0 < g_s2 M dd b c 53 26 - g_s2 M dd b c 63 c from h_145)])]; exact z_1ne); rw [hst, (show g_st0 M dd b c = (1, g_s3 M dd b c) by rw [g_st0, if_neg (Nat.ne_of_lt hc6), if_pos (show 0 < g_s2 M dd b c 53 26 - g_s2 M dd b c 63 c from h_145)])] at q; exact q) (by rw [← hr, g_flp, if_neg (show ¬ (g_stp M).1 = 0 by rw [hst, (show g_st0 M dd b c = (1, g_s3 M dd b c) by rw [g_st0, if_neg (Nat.ne_of_lt hc6), if_pos (show 0 < g_s2 M dd b c 53 26 - g_s2 M dd b c 63 c from h_145)])]; exact z_1ne), hst, (show g_st0 M dd b c = (1, g_s3 M dd b c) by rw [g_st0, if_neg (Nat.ne_of_lt hc6), if_pos (show 0 < g_s2 M dd b c 53 26 - g_s2 M dd b c 63 c from h_145)])])
        · refine x_aload_n C d_Model_fly_148 (i := 0) rfl rfl ?_
          refine x_iload_n C d_Model_fly_149 (i := 3) rfl rfl ?_
          refine x_callVi C (c_Model_collide hc6 hJ3) mt_Model_collide zl_Model (zc_Model _) rfl rfl rfl (Nat.le_of_ble_eq_true rfl) (Nat.le_of_ble_eq_true rfl) lk_Model_137 d_Model_fly_150 ?_
          refine x_if_eq C 157 d_Model_fly_153 rfl (fun h_153 => ?_) (fun h_153 => ?_)
          · refine x_iinc C (nI (i + 1)) d_Model_fly_157 rfl (z_inc i) rfl ?_
            refine x_goto C 6 d_Model_fly_160 rfl ?_
            exact ih (i + 1) _ _ _ (by omega) (g_col_GJ hJ3 c) (g_col_on (z_b_0.mp h_153)) (by rw [← hr, g_flp, if_neg (show ¬ (g_stp M).1 = 0 by rw [hst, (show g_st0 M dd b c = g_col (g_s3 M dd b c) c by rw [g_st0, if_neg (Nat.ne_of_lt hc6), if_neg (show ¬ 0 < g_s2 M dd b c 53 26 - g_s2 M dd b c 63 c from h_145)])]; exact z_b_0.mp h_153), hst, (show g_st0 M dd b c = g_col (g_s3 M dd b c) c by rw [g_st0, if_neg (Nat.ne_of_lt hc6), if_neg (show ¬ 0 < g_s2 M dd b c 53 26 - g_s2 M dd b c 63 c from h_145)])])
          · exact x_vret C E (by rw [← hr, g_flp, if_pos (show (g_stp M).1 = 0 by rw [hst, (show g_st0 M dd b c = g_col (g_s3 M dd b c) c by rw [g_st0, if_neg (Nat.ne_of_lt hc6), if_neg (show ¬ 0 < g_s2 M dd b c 53 26 - g_s2 M dd b c 63 c from h_145)])]; exact z_b_n0.mp h_153), hst, (show g_st0 M dd b c = g_col (g_s3 M dd b c) c by rw [g_st0, if_neg (Nat.ne_of_lt hc6), if_neg (show ¬ 0 < g_s2 M dd b c 53 26 - g_s2 M dd b c 63 c from h_145)])]) d_Model_fly_156
      · refine x_iload_n C d_Model_fly_106 (i := 2) rfl rfl ?_
        refine x_iload_n C d_Model_fly_107 (i := 3) rfl rfl ?_
        refine x_icmp_eq C 126 d_Model_fly_108 rfl (fun h_108 => ?_) (fun h_108 => ?_)
        · refine x_eqM (M2 := g_s2 M dd b c) (show _ = g_at (g_mv M dd) b c from (if_pos (Or.inl ((nI_eq (by omega) (by omega)).mp h_108))).symm) ?_
          refine x_aload_n C d_Model_fly_126 (i := 0) rfl rfl ?_
          refine x_dup C d_Model_fly_127 rfl ?_
          refine g_Model_budget C lk_Model_116 d_Model_fly_128 ?_
          refine x_aload_n C d_Model_fly_131 (i := 0) rfl rfl ?_
          refine g_Model_density C lk_Model_38 d_Model_fly_132 ?_
          refine x_iload_n C d_Model_fly_135 (i := 3) rfl rfl ?_
          refine rn_ld_m_density C  hc6 d_Model_fly_136 ?_
          refine x_isub C d_Model_fly_137 ?_
          refine u_Model_budget C lk_Model_116 d_Model_fly_138 ?_
          refine x_eqM (M2 := g_s3 M dd b c) rfl ?_
          refine x_aload_n C d_Model_fly_141 (i := 0) rfl rfl ?_
          refine g_Model_budget C lk_Model_116 d_Model_fly_142 ?_
          refine x_eqi (z_sv_self _ _ _ _) ?_
          refine x_if_gt C 157 d_Model_fly_145 rfl (fun h_145 => ?_) (fun h_145 => ?_)
          · refine x_iinc C (nI (i + 1)) d_Model_fly_157 rfl (z_inc i) rfl ?_
            refine x_goto C 6 d_Model_fly_160 rfl ?_
            exact ih (i + 1) _ _ _ (by omega) hJ3 (by have q := g_stp_on hD (by rw [hst, (show g_st0 M dd b c = (1, g_s3 M dd b c) by rw [g_st0, if_neg (Nat.ne_of_lt hc6), if_pos (show 0 < g_s2 M dd b c 53 26 - g_s2 M dd b c 63 c from h_145)])]; exact z_1ne); rw [hst, (show g_st0 M dd b c = (1, g_s3 M dd b c) by rw [g_st0, if_neg (Nat.ne_of_lt hc6), if_pos (show 0 < g_s2 M dd b c 53 26 - g_s2 M dd b c 63 c from h_145)])] at q; exact q) (by rw [← hr, g_flp, if_neg (show ¬ (g_stp M).1 = 0 by rw [hst, (show g_st0 M dd b c = (1, g_s3 M dd b c) by rw [g_st0, if_neg (Nat.ne_of_lt hc6), if_pos (show 0 < g_s2 M dd b c 53 26 - g_s2 M dd b c 63 c from h_145)])]; exact z_1ne), hst, (show g_st0 M dd b c = (1, g_s3 M dd b c) by rw [g_st0, if_neg (Nat.ne_of_lt hc6), if_pos (show 0 < g_s2 M dd b c 53 26 - g_s2 M dd b c 63 c from h_145)])])
          · refine x_aload_n C d_Model_fly_148 (i := 0) rfl rfl ?_
            refine x_iload_n C d_Model_fly_149 (i := 3) rfl rfl ?_
            refine x_callVi C (c_Model_collide hc6 hJ3) mt_Model_collide zl_Model (zc_Model _) rfl rfl rfl (Nat.le_of_ble_eq_true rfl) (Nat.le_of_ble_eq_true rfl) lk_Model_137 d_Model_fly_150 ?_
            refine x_if_eq C 157 d_Model_fly_153 rfl (fun h_153 => ?_) (fun h_153 => ?_)
            · refine x_iinc C (nI (i + 1)) d_Model_fly_157 rfl (z_inc i) rfl ?_
              refine x_goto C 6 d_Model_fly_160 rfl ?_
              exact ih (i + 1) _ _ _ (by omega) (g_col_GJ hJ3 c) (g_col_on (z_b_0.mp h_153)) (by rw [← hr, g_flp, if_neg (show ¬ (g_stp M).1 = 0 by rw [hst, (show g_st0 M dd b c = g_col (g_s3 M dd b c) c by rw [g_st0, if_neg (Nat.ne_of_lt hc6), if_neg (show ¬ 0 < g_s2 M dd b c 53 26 - g_s2 M dd b c 63 c from h_145)])]; exact z_b_0.mp h_153), hst, (show g_st0 M dd b c = g_col (g_s3 M dd b c) c by rw [g_st0, if_neg (Nat.ne_of_lt hc6), if_neg (show ¬ 0 < g_s2 M dd b c 53 26 - g_s2 M dd b c 63 c from h_145)])])
            · exact x_vret C E (by rw [← hr, g_flp, if_pos (show (g_stp M).1 = 0 by rw [hst, (show g_st0 M dd b c = g_col (g_s3 M dd b c) c by rw [g_st0, if_neg (Nat.ne_of_lt hc6), if_neg (show ¬ 0 < g_s2 M dd b c 53 26 - g_s2 M dd b c 63 c from h_145)])]; exact z_b_n0.mp h_153), hst, (show g_st0 M dd b c = g_col (g_s3 M dd b c) c by rw [g_st0, if_neg (Nat.ne_of_lt hc6), if_neg (show ¬ 0 < g_s2 M dd b c 53 26 - g_s2 M dd b c 63 c from h_145)])]) d_Model_fly_156
        · refine x_aload_n C d_Model_fly_111 (i := 0) rfl rfl ?_
          refine g_Model_crossings C lk_Model_54 d_Model_fly_112 ?_
          refine x_bipush C (nI 6) d_Model_fly_115 rfl ?_
          refine x_iload_n C d_Model_fly_117 (i := 2) rfl rfl ?_
          refine x_imul C d_Model_fly_118 ?_
          refine x_iload_n C d_Model_fly_119 (i := 3) rfl rfl ?_
          refine x_iadd C d_Model_fly_120 ?_
          refine x_eqi (z_ix 6 b c) ?_
          refine x_dup2 C d_Model_fly_121 rfl rfl ?_
          refine rn_ld_m_crossings C  (show 6 * b + c < 36 by have := z_b6 hb h_103; omega) d_Model_fly_122 ?_
          refine x_iconst C (1) d_Model_fly_123 rfl ?_
          refine x_iadd C d_Model_fly_124 ?_
          refine rn_st_m_crossings C  (show 6 * b + c < 36 by have := z_b6 hb h_103; omega) d_Model_fly_125 ?_
          refine x_eqM (M2 := g_s2 M dd b c) (show _ = g_at (g_mv M dd) b c from (if_neg (fun q => q.elim (fun q => h_108 (by rw [q])) (fun q => h_103 (by rw [q]; rfl)))).symm) ?_
          refine x_aload_n C d_Model_fly_126 (i := 0) rfl rfl ?_
          refine x_dup C d_Model_fly_127 rfl ?_
          refine g_Model_budget C lk_Model_116 d_Model_fly_128 ?_
          refine x_aload_n C d_Model_fly_131 (i := 0) rfl rfl ?_
          refine g_Model_density C lk_Model_38 d_Model_fly_132 ?_
          refine x_iload_n C d_Model_fly_135 (i := 3) rfl rfl ?_
          refine rn_ld_m_density C  hc6 d_Model_fly_136 ?_
          refine x_isub C d_Model_fly_137 ?_
          refine u_Model_budget C lk_Model_116 d_Model_fly_138 ?_
          refine x_eqM (M2 := g_s3 M dd b c) rfl ?_
          refine x_aload_n C d_Model_fly_141 (i := 0) rfl rfl ?_
          refine g_Model_budget C lk_Model_116 d_Model_fly_142 ?_
          refine x_eqi (z_sv_self _ _ _ _) ?_
          refine x_if_gt C 157 d_Model_fly_145 rfl (fun h_145 => ?_) (fun h_145 => ?_)
          · refine x_iinc C (nI (i + 1)) d_Model_fly_157 rfl (z_inc i) rfl ?_
            refine x_goto C 6 d_Model_fly_160 rfl ?_
            exact ih (i + 1) _ _ _ (by omega) hJ3 (by have q := g_stp_on hD (by rw [hst, (show g_st0 M dd b c = (1, g_s3 M dd b c) by rw [g_st0, if_neg (Nat.ne_of_lt hc6), if_pos (show 0 < g_s2 M dd b c 53 26 - g_s2 M dd b c 63 c from h_145)])]; exact z_1ne); rw [hst, (show g_st0 M dd b c = (1, g_s3 M dd b c) by rw [g_st0, if_neg (Nat.ne_of_lt hc6), if_pos (show 0 < g_s2 M dd b c 53 26 - g_s2 M dd b c 63 c from h_145)])] at q; exact q) (by rw [← hr, g_flp, if_neg (show ¬ (g_stp M).1 = 0 by rw [hst, (show g_st0 M dd b c = (1, g_s3 M dd b c) by rw [g_st0, if_neg (Nat.ne_of_lt hc6), if_pos (show 0 < g_s2 M dd b c 53 26 - g_s2 M dd b c 63 c from h_145)])]; exact z_1ne), hst, (show g_st0 M dd b c = (1, g_s3 M dd b c) by rw [g_st0, if_neg (Nat.ne_of_lt hc6), if_pos (show 0 < g_s2 M dd b c 53 26 - g_s2 M dd b c 63 c from h_145)])])
          · refine x_aload_n C d_Model_fly_148 (i := 0) rfl rfl ?_
            refine x_iload_n C d_Model_fly_149 (i := 3) rfl rfl ?_
            refine x_callVi C (c_Model_collide hc6 hJ3) mt_Model_collide zl_Model (zc_Model _) rfl rfl rfl (Nat.le_of_ble_eq_true rfl) (Nat.le_of_ble_eq_true rfl) lk_Model_137 d_Model_fly_150 ?_
            refine x_if_eq C 157 d_Model_fly_153 rfl (fun h_153 => ?_) (fun h_153 => ?_)
            · refine x_iinc C (nI (i + 1)) d_Model_fly_157 rfl (z_inc i) rfl ?_
              refine x_goto C 6 d_Model_fly_160 rfl ?_
              exact ih (i + 1) _ _ _ (by omega) (g_col_GJ hJ3 c) (g_col_on (z_b_0.mp h_153)) (by rw [← hr, g_flp, if_neg (show ¬ (g_stp M).1 = 0 by rw [hst, (show g_st0 M dd b c = g_col (g_s3 M dd b c) c by rw [g_st0, if_neg (Nat.ne_of_lt hc6), if_neg (show ¬ 0 < g_s2 M dd b c 53 26 - g_s2 M dd b c 63 c from h_145)])]; exact z_b_0.mp h_153), hst, (show g_st0 M dd b c = g_col (g_s3 M dd b c) c by rw [g_st0, if_neg (Nat.ne_of_lt hc6), if_neg (show ¬ 0 < g_s2 M dd b c 53 26 - g_s2 M dd b c 63 c from h_145)])])
            · exact x_vret C E (by rw [← hr, g_flp, if_pos (show (g_stp M).1 = 0 by rw [hst, (show g_st0 M dd b c = g_col (g_s3 M dd b c) c by rw [g_st0, if_neg (Nat.ne_of_lt hc6), if_neg (show ¬ 0 < g_s2 M dd b c 53 26 - g_s2 M dd b c 63 c from h_145)])]; exact z_b_n0.mp h_153), hst, (show g_st0 M dd b c = g_col (g_s3 M dd b c) c by rw [g_st0, if_neg (Nat.ne_of_lt hc6), if_neg (show ¬ 0 < g_s2 M dd b c 53 26 - g_s2 M dd b c 63 c from h_145)])]) d_Model_fly_156
    · refine x_aload_n C d_Model_fly_77 (i := 0) rfl rfl ?_
      refine g_Model_counts C lk_Model_57 d_Model_fly_78 ?_
      refine x_iconst C (nI 1) d_Model_fly_81 rfl ?_
      refine x_dup2 C d_Model_fly_82 rfl rfl ?_
      refine rn_ld_m_counts C  (show 1 < 5 by decide) d_Model_fly_83 ?_
      refine x_iconst C (1) d_Model_fly_84 rfl ?_
      refine x_iadd C d_Model_fly_85 ?_
      refine rn_st_m_counts C  (show 1 < 5 by decide) d_Model_fly_86 ?_
      exact x_vret C E (by rw [← hr, g_flp, if_pos (show (g_stp M).1 = 0 by rw [hst, (show g_st0 M dd b c = (0, g_lk M dd) by rw [g_st0, if_pos ((nI_eq (a := c) (b := 6) (by omega) (by decide)).mp h_74)])]), hst, (show g_st0 M dd b c = (0, g_lk M dd) by rw [g_st0, if_pos ((nI_eq (a := c) (b := 6) (by omega) (by decide)).mp h_74)])]; rfl) d_Model_fly_87
theorem c_Model_fly {dA : Nat → ClassId} {ad : Nat → Nat} {M : z_M} {d : Nat} (h : z_GJ M d) : z_CV y_Model_fly b_Model_fly 4 3 dA ad [.ref (ad 53)] M (g_fly M) := by
  refine z_ofV [some (.ref (ad 53)), none, none, none] (by decide) (Nat.le_of_ble_eq_true rfl) rfl (fun k C E => ?_)
  have C : z_C dA ad k b_Model_fly "CellTransportModel" 3 4 := C
  refine x_aload_n C d_Model_fly_0 (i := 0) rfl rfl ?_
  refine x_callVv C (c_Model_turn h.2.1) mt_Model_turn zl_Model (zc_Model _) rfl rfl rfl (Nat.le_of_ble_eq_true rfl) (Nat.le_of_ble_eq_true rfl) lk_Model_134 d_Model_fly_1 ?_
  refine x_iconst C (1) d_Model_fly_4 rfl ?_
  refine x_istore_n C d_Model_fly_5 (i := 1) rfl rfl ?_
  exact lp_Model_fly C E 200 1 (g_turn M) none none (by omega) h.turn (g_turn_dir M) rfl
end
section
theorem g_flp_GJ : ∀ (n : Nat) (M : z_M) {d : Nat}, z_GJ M d → z_GJ (g_flp n M) d ∧ z_kq M (g_flp n M) := by
  intro n
  induction n with
  | zero => intro M d h; exact ⟨h.sv (k := 68) (Or.inr (by decide)) _, z_kq.rf.sv (k := 68) (Or.inr (by decide)) _ _⟩
  | succ n ih =>
    intro M d h
    by_cases q : (g_stp M).1 = 0
    · have e : g_flp (n + 1) M = (g_stp M).2 := by rw [g_flp, if_pos q]
      rw [e]
      exact ⟨g_stp_GJ h, g_stp_kq M⟩
    · have e : g_flp (n + 1) M = g_flp n (g_stp M).2 := by rw [g_flp, if_neg q]
      rw [e]
      obtain ⟨h1, h2⟩ := ih (g_stp M).2 (g_stp_GJ h)
      exact ⟨h1, (g_stp_kq M).tr h2⟩
theorem g_fly_GJ {M : z_M} {d : Nat} (h : z_GJ M d) : z_GJ (g_fly M) d ∧ z_kq M (g_fly M) := by
  obtain ⟨h1, h2⟩ := g_flp_GJ 200 (g_turn M) h.turn
  exact ⟨h1, (g_turn_kq z_kq.rf).tr h2⟩
def g_snd (M : z_M) (w : Nat) : z_M := z_sv (z_sv (z_sv M 53 21 (nI w)) 53 23 (M 69 w)) 53 24 (M 70 w)
def g_ww (M : z_M) : Nat := (M 53 21).toNatClampNeg
def g_hl : Nat → Nat → z_M → Nat × z_M
  | 0, fl, M => (fl, M)
  | n + 1, fl, M => if M 53 21 ≤ 0 then (fl, M) else g_hl n (fl + 1) (g_fly (g_snd M (g_ww M - 1)))
def g_h0 (M : z_M) : z_M := z_sv (z_sv (z_sv (z_sv M 69 0 (M 53 13)) 70 0 (M 53 14)) 53 21 (nI 1)) 53 22 (nI 1)
def g_h1 (p : Nat × z_M) : z_M := z_sv p.2 68 0 (p.2 68 0 + nI p.1)
def g_h2 (p : Nat × z_M) : z_M := z_sv (g_h1 p) 68 4 (g_h1 p 68 4 + 1)
theorem g_snd_GJ {M : z_M} {w d : Nat} (hR : ∀ r, r < 6 → z_okR (z_V M) r) (hg : z_GN M) (h1 : w + 1 + d ≤ 12) (h3 : M 53 22 = nI (w + 1 + d)) : z_GJ (g_snd M w) (d + 1) ∧ z_kq M (g_snd M w) := by
  have k1 : z_kq M (g_snd M w) := ((z_kq.rf.sv (Or.inl rfl) _ _).sv (Or.inl rfl) _ _).sv (Or.inl rfl) _ _
  refine ⟨⟨z_okV_kq k1 hR, ?_, w, by omega, ?_, ?_⟩, k1⟩
  · obtain ⟨g, g1, g2⟩ := hg
    refine ⟨g, g1, ?_⟩
    unfold g_snd
    rw [z_sv_get _ _ _ _ _ _ (Or.inr (by decide)), z_sv_get _ _ _ _ _ _ (Or.inr (by decide)), z_sv_get _ _ _ _ _ _ (Or.inr (by decide))]
    exact g2
  · unfold g_snd
    rw [z_sv_get _ _ _ _ _ _ (Or.inr (by decide)), z_sv_get _ _ _ _ _ _ (Or.inr (by decide)), z_sv_self]
  · unfold g_snd
    rw [z_sv_get _ _ _ _ _ _ (Or.inr (by decide)), z_sv_get _ _ _ _ _ _ (Or.inr (by decide)), z_sv_get _ _ _ _ _ _ (Or.inr (by decide)), h3, show w + 1 + d = w + (d + 1) by omega]
theorem g_h0_GJ {M : z_M} (hR : ∀ r, r < 6 → z_okR (z_V M) r) (hg : z_GN M) : z_GJ (g_h0 M) 0 ∧ z_kq M (g_h0 M) := by
  have k1 : z_kq M (g_h0 M) := (((z_kq.rf.sv (k := 69) (by omega) _ _).sv (k := 70) (by omega) _ _).sv (k := 53) (by omega) _ _).sv (k := 53) (by omega) _ _
  refine ⟨⟨z_okV_kq k1 hR, ?_, 1, by omega, ?_, ?_⟩, k1⟩
  · obtain ⟨g, g1, g2⟩ := hg
    refine ⟨g, g1, ?_⟩
    unfold g_h0
    rw [z_sv_get _ _ _ _ _ _ (Or.inr (by decide)), z_sv_get _ _ _ _ _ _ (Or.inr (by decide)), z_sv_get _ _ _ _ _ _ (Or.inl (by decide)), z_sv_get _ _ _ _ _ _ (Or.inl (by decide))]
    exact g2
  · unfold g_h0
    rw [z_sv_get _ _ _ _ _ _ (Or.inr (by decide)), z_sv_self]
  · unfold g_h0
    rw [z_sv_self]
/-- one turn of the history's loop -/
theorem g_hl_step {M : z_M} {fl : Nat} (h : z_GJ M fl) (g : ¬ M 53 21 ≤ 0) : (∃ w, g_ww M = w + 1 ∧ w < 12 ∧ M 53 21 = nI (w + 1)) ∧ z_GJ (g_snd M (g_ww M - 1)) (fl + 1) ∧ z_kq M (g_snd M (g_ww M - 1)) := by
  obtain ⟨hR, hg, w, h1, h2, h3⟩ := h
  have hw : 0 < w := by
    rcases Nat.eq_zero_or_pos w with q | q
    · exact absurd (by rw [h2, q]; decide) g
    · exact q
  have ew : g_ww M = w := by unfold g_ww; rw [h2]; exact nI_clamp (by omega)
  refine ⟨⟨w - 1, by omega, by omega, by rw [h2, show w - 1 + 1 = w by omega]⟩, ?_⟩
  rw [ew]
  exact g_snd_GJ hR hg (w := w - 1) (d := fl) (by omega) (by rw [h3, show w - 1 + 1 + fl = w + fl by omega])
theorem g_hl_GJ : ∀ (n fl : Nat) (M : z_M), z_GJ M fl → ((∀ r, r < 6 → z_okR (z_V (g_hl n fl M).2) r) ∧ z_GN (g_hl n fl M).2) ∧ z_kq M (g_hl n fl M).2 := by
  intro n
  induction n with
  | zero => intro fl M h; exact ⟨⟨h.1, h.2.1⟩, z_kq.rf⟩
  | succ n ih =>
    intro fl M h
    by_cases g : M 53 21 ≤ 0
    · have e : g_hl (n + 1) fl M = (fl, M) := by rw [g_hl, if_pos g]
      rw [e]
      exact ⟨⟨h.1, h.2.1⟩, z_kq.rf⟩
    · have e : g_hl (n + 1) fl M = g_hl n (fl + 1) (g_fly (g_snd M (g_ww M - 1))) := by rw [g_hl, if_neg g]
      rw [e]
      obtain ⟨-, h2, h3⟩ := g_hl_step h g
      obtain ⟨h4, h5⟩ := g_fly_GJ h2
      obtain ⟨h6, h7⟩ := ih (fl + 1) _ h4
      exact ⟨h6, (h3.tr h5).tr h7⟩
theorem lp_Model_history {dA : Nat → ClassId} {ad : Nat → Nat} {r0 : Int32} {M1 : z_M} {k : z_K} (C : z_C dA ad k b_Model_history "CellTransportModel" 4 2) (E : z_RI dA ad k .int r0 M1) :
    ∀ (n fl : Nat) (M : z_M), fl + n = 12 → z_GJ M fl → nI (g_hl n fl M).1 = r0 → g_h2 (g_hl n fl M) = M1 → z_X dA ad k 32 [some (.ref (ad 53)), some (.int (nI fl))] [] M := by
  have tail : ∀ (fl : Nat) (M : z_M), nI fl = r0 → g_h2 (fl, M) = M1 → z_X dA ad k 85 [some (.ref (ad 53)), some (.int (nI fl))] [] M := by
    intro fl M hr hM
    refine x_aload_n C d_Model_history_85 (i := 0) rfl rfl ?_
    refine g_Model_counts C lk_Model_57 d_Model_history_86 ?_
    refine x_iconst C (nI 0) d_Model_history_89 rfl ?_
    refine x_dup2 C d_Model_history_90 rfl rfl ?_
    refine rn_ld_m_counts C  (show 0 < 5 by decide) d_Model_history_91 ?_
    refine x_iload_n C d_Model_history_92 (i := 1) rfl rfl ?_
    refine x_iadd C d_Model_history_93 ?_
    refine rn_st_m_counts C  (show 0 < 5 by decide) d_Model_history_94 ?_
    refine x_aload_n C d_Model_history_95 (i := 0) rfl rfl ?_
    refine g_Model_counts C lk_Model_57 d_Model_history_96 ?_
    refine x_iconst C (nI 4) d_Model_history_99 rfl ?_
    refine x_dup2 C d_Model_history_100 rfl rfl ?_
    refine rn_ld_m_counts C  (show 4 < 5 by decide) d_Model_history_101 ?_
    refine x_iconst C (1) d_Model_history_102 rfl ?_
    refine x_iadd C d_Model_history_103 ?_
    refine rn_st_m_counts C  (show 4 < 5 by decide) d_Model_history_104 ?_
    refine x_iload_n C d_Model_history_105 (i := 1) rfl rfl ?_
    exact x_iret C E hr hM d_Model_history_106
  intro n
  induction n with
  | zero =>
    intro fl M hi hJ hr hM
    obtain ⟨w, h1, h2, h3⟩ := hJ.2.2
    have hw0 : M 53 21 ≤ 0 := by rw [h2, show w = 0 by omega]; decide
    refine x_aload_n C d_Model_history_32 (i := 0) rfl rfl ?_
    refine g_Model_waiting C lk_Model_122 d_Model_history_33 ?_
    refine x_if_le C 85 d_Model_history_36 rfl (fun h_36 => ?_) (fun h_36 => absurd hw0 h_36)
    exact tail fl M hr hM
  | succ n ih =>
    intro fl M hi hJ hr hM
    refine x_aload_n C d_Model_history_32 (i := 0) rfl rfl ?_
    refine g_Model_waiting C lk_Model_122 d_Model_history_33 ?_
    refine x_if_le C 85 d_Model_history_36 rfl (fun h_36 => ?_) (fun h_36 => ?_)
    · exact tail fl M (by rw [← hr, show g_hl (n + 1) fl M = (fl, M) by rw [g_hl, if_pos h_36]]) (by rw [← hM, show g_hl (n + 1) fl M = (fl, M) by rw [g_hl, if_pos h_36]])
    · have e : g_hl (n + 1) fl M = g_hl n (fl + 1) (g_fly (g_snd M (g_ww M - 1))) := by rw [g_hl, if_neg h_36]
      obtain ⟨⟨w, h11, h12, h13⟩, h2, h3⟩ := g_hl_step hJ h_36
      have ew : g_ww M - 1 = w := by omega
      rw [ew] at e h2 h3
      refine x_aload_n C d_Model_history_39 (i := 0) rfl rfl ?_
      refine x_dup C d_Model_history_40 rfl ?_
      refine g_Model_waiting C lk_Model_122 d_Model_history_41 ?_
      refine x_eqi h13 ?_
      refine x_iconst C (1) d_Model_history_44 rfl ?_
      refine x_isub C d_Model_history_45 ?_
      refine x_eqi (nI_pred w) ?_
      refine u_Model_waiting C lk_Model_122 d_Model_history_46 ?_
      refine x_aload_n C d_Model_history_49 (i := 0) rfl rfl ?_
      refine x_aload_n C d_Model_history_50 (i := 0) rfl rfl ?_
      refine g_Model_px C lk_Model_60 d_Model_history_51 ?_
      refine x_aload_n C d_Model_history_54 (i := 0) rfl rfl ?_
      refine g_Model_waiting C lk_Model_122 d_Model_history_55 ?_
      refine x_eqi (z_sv_self _ _ _ _) ?_
      refine rn_ld_m_px C  h12 d_Model_history_58 ?_
      refine x_eqi (z_sv_get _ _ _ _ _ _ (Or.inl (by decide))) ?_
      refine u_Model_x C lk_Model_125 d_Model_history_59 ?_
      refine x_aload_n C d_Model_history_62 (i := 0) rfl rfl ?_
      refine x_aload_n C d_Model_history_63 (i := 0) rfl rfl ?_
      refine g_Model_py C lk_Model_63 d_Model_history_64 ?_
      refine x_aload_n C d_Model_history_67 (i := 0) rfl rfl ?_
      refine g_Model_waiting C lk_Model_122 d_Model_history_68 ?_
      refine x_eqi ((z_sv_get _ _ _ _ _ _ (Or.inr (by decide))).trans (z_sv_self _ _ _ _)) ?_
      refine rn_ld_m_py C  h12 d_Model_history_71 ?_
      refine x_eqi ((z_sv_get _ _ _ _ _ _ (Or.inl (by decide))).trans (z_sv_get _ _ _ _ _ _ (Or.inl (by decide)))) ?_
      refine u_Model_y C lk_Model_128 d_Model_history_72 ?_
      refine x_eqM (M2 := g_snd M w) rfl ?_
      refine x_iinc C (nI (fl + 1)) d_Model_history_75 rfl (z_inc fl) rfl ?_
      refine x_aload_n C d_Model_history_78 (i := 0) rfl rfl ?_
      refine x_callVv C (c_Model_fly h2) mt_Model_fly zl_Model (zc_Model _) rfl rfl rfl (Nat.le_of_ble_eq_true rfl) (Nat.le_of_ble_eq_true rfl) lk_Model_141 d_Model_history_79 ?_
      refine x_goto C 32 d_Model_history_82 rfl ?_
      exact ih (fl + 1) _ (by omega) (g_fly_GJ h2).1 (by rw [← hr, e]) (by rw [← hM, e])
theorem c_Model_history {dA : Nat → ClassId} {ad : Nat → Nat} {M : z_M} (hR : ∀ r, r < 6 → z_okR (z_V M) r) (hg : z_GN M) : z_CI y_Model_history b_Model_history 2 .int 4 dA ad [.ref (ad 53)] M (nI (g_hl 12 0 (g_h0 M)).1) (g_h2 (g_hl 12 0 (g_h0 M))) := by
  refine z_ofI [some (.ref (ad 53)), none] (by decide) (Nat.le_of_ble_eq_true rfl) rfl (fun k C E => ?_)
  have C : z_C dA ad k b_Model_history "CellTransportModel" 4 2 := C
  refine x_aload_n C d_Model_history_0 (i := 0) rfl rfl ?_
  refine g_Model_px C lk_Model_60 d_Model_history_1 ?_
  refine x_iconst C (nI 0) d_Model_history_4 rfl ?_
  refine x_aload_n C d_Model_history_5 (i := 0) rfl rfl ?_
  refine g_Model_sourceX C lk_Model_78 d_Model_history_6 ?_
  refine rn_st_m_px C  (show 0 < 12 by decide) d_Model_history_9 ?_
  refine x_aload_n C d_Model_history_10 (i := 0) rfl rfl ?_
  refine g_Model_py C lk_Model_63 d_Model_history_11 ?_
  refine x_iconst C (nI 0) d_Model_history_14 rfl ?_
  refine x_aload_n C d_Model_history_15 (i := 0) rfl rfl ?_
  refine g_Model_sourceY C lk_Model_81 d_Model_history_16 ?_
  refine x_eqi (z_sv_get _ _ _ _ _ _ (Or.inl (by decide))) ?_
  refine rn_st_m_py C  (show 0 < 12 by decide) d_Model_history_19 ?_
  refine x_aload_n C d_Model_history_20 (i := 0) rfl rfl ?_
  refine x_iconst C (nI 1) d_Model_history_21 rfl ?_
  refine u_Model_waiting C lk_Model_122 d_Model_history_22 ?_
  refine x_aload_n C d_Model_history_25 (i := 0) rfl rfl ?_
  refine x_iconst C (nI 1) d_Model_history_26 rfl ?_
  refine u_Model_particles C lk_Model_119 d_Model_history_27 ?_
  refine x_iconst C (0) d_Model_history_30 rfl ?_
  refine x_istore_n C d_Model_history_31 (i := 1) rfl rfl ?_
  refine x_eqM (M2 := g_h0 M) rfl ?_
  exact lp_Model_history C E 12 0 (g_h0 M) (by omega) (g_h0_GJ hR hg).1 rfl rfl
theorem g_h2_kq {M0 : z_M} {p : Nat × z_M} (h : z_kq M0 p.2) : z_kq M0 (g_h2 p) := (h.sv (k := 68) (by omega) _ _).sv (k := 68) (by omega) _ _
theorem g_h2_GN {p : Nat × z_M} (h : z_GN p.2) : z_GN (g_h2 p) := by
  obtain ⟨g, g1, g2⟩ := h
  refine ⟨g, g1, ?_⟩
  unfold g_h2 g_h1
  rw [z_sv_get _ _ _ _ _ _ (Or.inl (by decide)), z_sv_get _ _ _ _ _ _ (Or.inl (by decide))]
  exact g2
def g_his (M : z_M) : Int32 × z_M := (nI (g_hl 12 0 (g_h0 M)).1, g_h2 (g_hl 12 0 (g_h0 M)))
theorem g_his_2 (M : z_M) : (g_his M).2 = g_h2 (g_hl 12 0 (g_h0 M)) := by rw [g_his]
theorem g_his_ok {M : z_M} (hR : ∀ r, r < 6 → z_okR (z_V M) r) (hg : z_GN M) : ((∀ r, r < 6 → z_okR (z_V (g_his M).2) r) ∧ z_GN (g_his M).2) ∧ z_kq M (g_his M).2 := by
  obtain ⟨j1, k1⟩ := g_h0_GJ hR hg
  obtain ⟨⟨-, h2⟩, k2⟩ := g_hl_GJ 12 0 (g_h0 M) j1
  rw [g_his_2]
  have k3 := g_h2_kq (k1.tr k2)
  exact ⟨⟨z_okV_kq k3 hR, g_h2_GN h2⟩, k3⟩
def g_run : Nat → Int32 → z_M → Int32 × z_M
  | 0, a, M => (a, M)
  | n + 1, a, M => g_run n (a + (g_his M).1) (g_his M).2
theorem lp_Model_run {dA : Nat → ClassId} {ad : Nat → Nat} {r0 : Int32} {M1 : z_M} {k : z_K} {N : Nat} (hN : N ≤ 2) (C : z_C dA ad k b_Model_run "CellTransportModel" 5 4) (E : z_RI dA ad k .int r0 M1) :
    ∀ (n i : Nat) (a : Int32) (M : z_M), i + n = N → (∀ r, r < 6 → z_okR (z_V M) r) → z_GN M → (g_run n a M).1 = r0 → (g_run n a M).2 = M1 → z_X dA ad k 15 [some (.ref (ad 53)), some (.int (nI N)), some (.int a), some (.int (nI i))] [] M := by
  intro n
  induction n with
  | zero =>
    intro i a M hi hR hg hr hM
    refine x_iload_n C d_Model_run_15 (i := 3) rfl rfl ?_
    refine x_iload_n C d_Model_run_16 (i := 1) rfl rfl ?_
    refine x_icmp_ge C 33 d_Model_run_17 rfl (fun h_17 => ?_) (fun h_17 => absurd (nI_le (by omega) (by omega)) h_17)
    refine x_iload_n C d_Model_run_33 (i := 2) rfl rfl ?_
    exact x_iret C E hr hM d_Model_run_34
  | succ n ih =>
    intro i a M hi hR hg hr hM
    refine x_iload_n C d_Model_run_15 (i := 3) rfl rfl ?_
    refine x_iload_n C d_Model_run_16 (i := 1) rfl rfl ?_
    refine x_icmp_ge C 33 d_Model_run_17 rfl (fun h_17 => absurd h_17 (nI_ge (by omega) (by omega))) (fun h_17 => ?_)
    refine x_iload_n C d_Model_run_20 (i := 2) rfl rfl ?_
    refine x_aload_n C d_Model_run_21 (i := 0) rfl rfl ?_
    refine x_callVi C (c_Model_history hR hg) mt_Model_history zl_Model (zc_Model _) rfl rfl rfl (Nat.le_of_ble_eq_true rfl) (Nat.le_of_ble_eq_true rfl) lk_Model_144 d_Model_run_22 ?_
    refine x_iadd C d_Model_run_25 ?_
    refine x_istore_n C d_Model_run_26 (i := 2) rfl rfl ?_
    refine x_iinc C (nI (i + 1)) d_Model_run_27 rfl (z_inc i) rfl ?_
    refine x_goto C 15 d_Model_run_30 rfl ?_
    exact ih (i + 1) _ (g_his M).2 (by omega) (g_his_ok hR hg).1.1 (g_his_ok hR hg).1.2 hr hM
theorem c_Model_runN {dA : Nat → ClassId} {ad : Nat → Nat} {M : z_M} {a : Int32} (hn : ¬ p_btw a 1 2) : z_CI y_Model_run b_Model_run 4 .int 5 dA ad [.ref (ad 53), .int a] M (-1) (M) := by
  refine z_ofI [some (.ref (ad 53)), some (.int a), none, none] (by decide) (Nat.le_of_ble_eq_true rfl) rfl (fun k C E => ?_)
  have C : z_C dA ad k b_Model_run "CellTransportModel" 5 4 := C
  refine x_iload_n C d_Model_run_0 (i := 1) rfl rfl ?_
  refine x_iconst C (1) d_Model_run_1 rfl ?_
  refine x_iconst C (2) d_Model_run_2 rfl ?_
  refine x_callSi C (c_Model_out _ _ _) mt_Model_out rfl rfl (Nat.le_of_ble_eq_true rfl) (Nat.le_of_ble_eq_true rfl) lk_Model_66 d_Model_run_3 ?_
  refine x_if_eq C 11 d_Model_run_6 rfl (fun h_6 => ?_) (fun h_6 => ?_)
  · exact absurd (z_out0 h_6) hn
  · refine x_iconst C (-1) d_Model_run_9 rfl ?_
    exact x_iret C E rfl rfl d_Model_run_10
theorem c_Model_runY {dA : Nat → ClassId} {ad : Nat → Nat} {M : z_M} {N : Nat} (h1 : 1 ≤ N) (hN : N ≤ 2) (hR : ∀ r, r < 6 → z_okR (z_V M) r) (hg : z_GN M) : z_CI y_Model_run b_Model_run 4 .int 5 dA ad [.ref (ad 53), .int (nI N)] M ((g_run N 0 M).1) ((g_run N 0 M).2) := by
  refine z_ofI [some (.ref (ad 53)), some (.int (nI N)), none, none] (by decide) (Nat.le_of_ble_eq_true rfl) rfl (fun k C E => ?_)
  have C : z_C dA ad k b_Model_run "CellTransportModel" 5 4 := C
  refine x_iload_n C d_Model_run_0 (i := 1) rfl rfl ?_
  refine x_iconst C (1) d_Model_run_1 rfl ?_
  refine x_iconst C (2) d_Model_run_2 rfl ?_
  refine x_callSi C (c_Model_out _ _ _) mt_Model_out rfl rfl (Nat.le_of_ble_eq_true rfl) (Nat.le_of_ble_eq_true rfl) lk_Model_66 d_Model_run_3 ?_
  refine x_if_eq C 11 d_Model_run_6 rfl (fun h_6 => ?_) (fun h_6 => absurd (show p_btw (nI N) 1 2 from ⟨nI_le (a := 1) h1 (by omega), nI_le (b := 2) hN (by decide)⟩) (z_b_n0.mp h_6))
  refine x_iconst C (0) d_Model_run_11 rfl ?_
  refine x_istore_n C d_Model_run_12 (i := 2) rfl rfl ?_
  refine x_iconst C (0) d_Model_run_13 rfl ?_
  refine x_istore_n C d_Model_run_14 (i := 3) rfl rfl ?_
  exact lp_Model_run hN C E N 0 0 M (by omega) hR hg rfl rfl
end
