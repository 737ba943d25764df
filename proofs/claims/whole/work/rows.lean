section
-- ===== PART A: goes FIRST, ahead of the names: the tables' words, and 'selects' of the private methods out of them =====
/-- a private method of a class that the tables say can be made, by its rows of tables_1 -/
def lw_okq (q : MethodName × Nat) : Prop := (q.1.cls ≠ "java/lang/invoke/MethodHandle" ∧ q.1.cls ≠ "java/lang/invoke/VarHandle") ∧ Cond.instantiable q.1.cls q.2 ∈ tables_1 ∧ Cond.privateMethod q.1 ∈ tables_1 ∧ Cond.instanceMethod q.1 ∈ tables_1
theorem lw_p0 : lw_okq (⟨"CellTransport$Surface", "become", "(IIII)V"⟩, 5) := ⟨⟨by decide +kernel, by decide +kernel⟩, List.mem_of_getElem? (i := 31) (by decide +kernel), List.mem_of_getElem? (i := 227) (by decide +kernel), List.mem_of_getElem? (i := 228) (by decide +kernel)⟩
theorem lw_p1 : lw_okq (⟨"CellTransport$Region", "add", "(I)V"⟩, 2) := ⟨⟨by decide +kernel, by decide +kernel⟩, List.mem_of_getElem? (i := 59) (by decide +kernel), List.mem_of_getElem? (i := 235) (by decide +kernel), List.mem_of_getElem? (i := 236) (by decide +kernel)⟩
theorem lw_p2 : lw_okq (⟨"CellTransport$Region", "isWhole", "()Z"⟩, 2) := ⟨⟨by decide +kernel, by decide +kernel⟩, List.mem_of_getElem? (i := 59) (by decide +kernel), List.mem_of_getElem? (i := 246) (by decide +kernel), List.mem_of_getElem? (i := 247) (by decide +kernel)⟩
theorem lw_p3 : lw_okq (⟨"CellTransport$Cell", "define", "(LCellTransport$Region;III)V"⟩, 5) := ⟨⟨by decide +kernel, by decide +kernel⟩, List.mem_of_getElem? (i := 53) (by decide +kernel), List.mem_of_getElem? (i := 253) (by decide +kernel), List.mem_of_getElem? (i := 254) (by decide +kernel)⟩
theorem lw_p4 : lw_okq (⟨"CellTransport$Region", "copyFrom", "(LCellTransport$Region;)V"⟩, 2) := ⟨⟨by decide +kernel, by decide +kernel⟩, List.mem_of_getElem? (i := 59) (by decide +kernel), List.mem_of_getElem? (i := 257) (by decide +kernel), List.mem_of_getElem? (i := 258) (by decide +kernel)⟩
theorem lw_p5 : lw_okq (⟨"CellTransport$Generator", "start", "(I)V"⟩, 1) := ⟨⟨by decide +kernel, by decide +kernel⟩, List.mem_of_getElem? (i := 107) (by decide +kernel), List.mem_of_getElem? (i := 276) (by decide +kernel), List.mem_of_getElem? (i := 277) (by decide +kernel)⟩
theorem lw_p6 : lw_okq (⟨"CellTransport$Generator", "leap", "(I)V"⟩, 1) := ⟨⟨by decide +kernel, by decide +kernel⟩, List.mem_of_getElem? (i := 107) (by decide +kernel), List.mem_of_getElem? (i := 286) (by decide +kernel), List.mem_of_getElem? (i := 287) (by decide +kernel)⟩
theorem lw_p7 : lw_okq (⟨"CellTransport", "playHistory", "()I"⟩, 8) := ⟨⟨by decide +kernel, by decide +kernel⟩, List.mem_of_getElem? (i := 14) (by decide +kernel), List.mem_of_getElem? (i := 299) (by decide +kernel), List.mem_of_getElem? (i := 300) (by decide +kernel)⟩
theorem lw_p8 : lw_okq (⟨"CellTransport$Line", "empty", "()V"⟩, 4) := ⟨⟨by decide +kernel, by decide +kernel⟩, List.mem_of_getElem? (i := 139) (by decide +kernel), List.mem_of_getElem? (i := 303) (by decide +kernel), List.mem_of_getElem? (i := 304) (by decide +kernel)⟩
theorem lw_p9 : lw_okq (⟨"CellTransport$Line", "join", "(II)Z"⟩, 4) := ⟨⟨by decide +kernel, by decide +kernel⟩, List.mem_of_getElem? (i := 139) (by decide +kernel), List.mem_of_getElem? (i := 307) (by decide +kernel), List.mem_of_getElem? (i := 308) (by decide +kernel)⟩
theorem lw_p10 : lw_okq (⟨"CellTransport$Line", "sendLast", "(LCellTransport$Particle;)V"⟩, 4) := ⟨⟨by decide +kernel, by decide +kernel⟩, List.mem_of_getElem? (i := 139) (by decide +kernel), List.mem_of_getElem? (i := 311) (by decide +kernel), List.mem_of_getElem? (i := 312) (by decide +kernel)⟩
theorem lw_p11 : lw_okq (⟨"CellTransport", "fly", "()V"⟩, 8) := ⟨⟨by decide +kernel, by decide +kernel⟩, List.mem_of_getElem? (i := 14) (by decide +kernel), List.mem_of_getElem? (i := 315) (by decide +kernel), List.mem_of_getElem? (i := 316) (by decide +kernel)⟩
theorem lw_p12 : lw_okq (⟨"CellTransport$Geometry", "cellAt", "(II)I"⟩, 2) := ⟨⟨by decide +kernel, by decide +kernel⟩, List.mem_of_getElem? (i := 22) (by decide +kernel), List.mem_of_getElem? (i := 319) (by decide +kernel), List.mem_of_getElem? (i := 320) (by decide +kernel)⟩
theorem lw_p13 : lw_okq (⟨"CellTransport$Region", "holds", "([LCellTransport$Surface;II)Z"⟩, 2) := ⟨⟨by decide +kernel, by decide +kernel⟩, List.mem_of_getElem? (i := 59) (by decide +kernel), List.mem_of_getElem? (i := 323) (by decide +kernel), List.mem_of_getElem? (i := 324) (by decide +kernel)⟩
theorem lw_p14 : lw_okq (⟨"CellTransport$Surface", "holds", "(II)Z"⟩, 5) := ⟨⟨by decide +kernel, by decide +kernel⟩, List.mem_of_getElem? (i := 31) (by decide +kernel), List.mem_of_getElem? (i := 327) (by decide +kernel), List.mem_of_getElem? (i := 328) (by decide +kernel)⟩
theorem lw_p15 : lw_okq (⟨"CellTransport", "aim", "()V"⟩, 8) := ⟨⟨by decide +kernel, by decide +kernel⟩, List.mem_of_getElem? (i := 14) (by decide +kernel), List.mem_of_getElem? (i := 332) (by decide +kernel), List.mem_of_getElem? (i := 333) (by decide +kernel)⟩
def lw_privs_1 : List (MethodName × Nat) := [(⟨"CellTransport$Surface", "become", "(IIII)V"⟩, 5), (⟨"CellTransport$Region", "add", "(I)V"⟩, 2), (⟨"CellTransport$Region", "isWhole", "()Z"⟩, 2), (⟨"CellTransport$Cell", "define", "(LCellTransport$Region;III)V"⟩, 5), (⟨"CellTransport$Region", "copyFrom", "(LCellTransport$Region;)V"⟩, 2), (⟨"CellTransport$Generator", "start", "(I)V"⟩, 1), (⟨"CellTransport$Generator", "leap", "(I)V"⟩, 1), (⟨"CellTransport", "playHistory", "()I"⟩, 8), (⟨"CellTransport$Line", "empty", "()V"⟩, 4), (⟨"CellTransport$Line", "join", "(II)Z"⟩, 4), (⟨"CellTransport$Line", "sendLast", "(LCellTransport$Particle;)V"⟩, 4), (⟨"CellTransport", "fly", "()V"⟩, 8), (⟨"CellTransport$Geometry", "cellAt", "(II)I"⟩, 2), (⟨"CellTransport$Region", "holds", "([LCellTransport$Surface;II)Z"⟩, 2), (⟨"CellTransport$Surface", "holds", "(II)Z"⟩, 5), (⟨"CellTransport", "aim", "()V"⟩, 8)]
theorem lw_r1 : ∀ q ∈ lw_privs_1, lw_okq q := List.forall_mem_cons.mpr ⟨lw_p0, List.forall_mem_cons.mpr ⟨lw_p1, List.forall_mem_cons.mpr ⟨lw_p2, List.forall_mem_cons.mpr ⟨lw_p3, List.forall_mem_cons.mpr ⟨lw_p4, List.forall_mem_cons.mpr ⟨lw_p5, List.forall_mem_cons.mpr ⟨lw_p6, List.forall_mem_cons.mpr ⟨lw_p7, List.forall_mem_cons.mpr ⟨lw_p8, List.forall_mem_cons.mpr ⟨lw_p9, List.forall_mem_cons.mpr ⟨lw_p10, List.forall_mem_cons.mpr ⟨lw_p11, List.forall_mem_cons.mpr ⟨lw_p12, List.forall_mem_cons.mpr ⟨lw_p13, List.forall_mem_cons.mpr ⟨lw_p14, List.forall_mem_cons.mpr ⟨lw_p15, fun _ h => absurd h List.not_mem_nil⟩⟩⟩⟩⟩⟩⟩⟩⟩⟩⟩⟩⟩⟩⟩⟩
theorem lw_p16 : lw_okq (⟨"CellTransport$Generator", "draw", "()I"⟩, 1) := ⟨⟨by decide +kernel, by decide +kernel⟩, List.mem_of_getElem? (i := 107) (by decide +kernel), List.mem_of_getElem? (i := 336) (by decide +kernel), List.mem_of_getElem? (i := 337) (by decide +kernel)⟩
theorem lw_p17 : lw_okq (⟨"CellTransport", "survivesStep", "()Z"⟩, 8) := ⟨⟨by decide +kernel, by decide +kernel⟩, List.mem_of_getElem? (i := 14) (by decide +kernel), List.mem_of_getElem? (i := 340) (by decide +kernel), List.mem_of_getElem? (i := 341) (by decide +kernel)⟩
theorem lw_p18 : lw_okq (⟨"CellTransport$Particle", "move", "()V"⟩, 5) := ⟨⟨by decide +kernel, by decide +kernel⟩, List.mem_of_getElem? (i := 159) (by decide +kernel), List.mem_of_getElem? (i := 344) (by decide +kernel), List.mem_of_getElem? (i := 345) (by decide +kernel)⟩
theorem lw_p19 : lw_okq (⟨"CellTransport$Counts", "addTrack", "(II)V"⟩, 3) := ⟨⟨by decide +kernel, by decide +kernel⟩, List.mem_of_getElem? (i := 118) (by decide +kernel), List.mem_of_getElem? (i := 352) (by decide +kernel), List.mem_of_getElem? (i := 353) (by decide +kernel)⟩
theorem lw_p20 : lw_okq (⟨"CellTransport", "survivesCollision", "(LCellTransport$Cell;)Z"⟩, 8) := ⟨⟨by decide +kernel, by decide +kernel⟩, List.mem_of_getElem? (i := 14) (by decide +kernel), List.mem_of_getElem? (i := 356) (by decide +kernel), List.mem_of_getElem? (i := 357) (by decide +kernel)⟩
theorem lw_p21 : lw_okq (⟨"CellTransport", "split", "()V"⟩, 8) := ⟨⟨by decide +kernel, by decide +kernel⟩, List.mem_of_getElem? (i := 14) (by decide +kernel), List.mem_of_getElem? (i := 360) (by decide +kernel), List.mem_of_getElem? (i := 361) (by decide +kernel)⟩
theorem lw_p22 : lw_okq (⟨"CellTransport$Geometry", "definedCells", "()I"⟩, 2) := ⟨⟨by decide +kernel, by decide +kernel⟩, List.mem_of_getElem? (i := 22) (by decide +kernel), List.mem_of_getElem? (i := 386) (by decide +kernel), List.mem_of_getElem? (i := 387) (by decide +kernel)⟩
theorem lw_p23 : lw_okq (⟨"CellTransport$Counts", "reset", "()V"⟩, 3) := ⟨⟨by decide +kernel, by decide +kernel⟩, List.mem_of_getElem? (i := 118) (by decide +kernel), List.mem_of_getElem? (i := 395) (by decide +kernel), List.mem_of_getElem? (i := 396) (by decide +kernel)⟩
theorem lw_p24 : lw_okq (⟨"CellTransportModel", "told", "()Z"⟩, 27) := ⟨⟨by decide +kernel, by decide +kernel⟩, List.mem_of_getElem? (i := 402) (by decide +kernel), List.mem_of_getElem? (i := 506) (by decide +kernel), List.mem_of_getElem? (i := 507) (by decide +kernel)⟩
theorem lw_p25 : lw_okq (⟨"CellTransportModel", "draw", "(I)I"⟩, 27) := ⟨⟨by decide +kernel, by decide +kernel⟩, List.mem_of_getElem? (i := 402) (by decide +kernel), List.mem_of_getElem? (i := 528) (by decide +kernel), List.mem_of_getElem? (i := 529) (by decide +kernel)⟩
theorem lw_p26 : lw_okq (⟨"CellTransportModel", "at", "(II)I"⟩, 27) := ⟨⟨by decide +kernel, by decide +kernel⟩, List.mem_of_getElem? (i := 402) (by decide +kernel), List.mem_of_getElem? (i := 543) (by decide +kernel), List.mem_of_getElem? (i := 544) (by decide +kernel)⟩
theorem lw_p27 : lw_okq (⟨"CellTransportModel", "inside", "(III)Z"⟩, 27) := ⟨⟨by decide +kernel, by decide +kernel⟩, List.mem_of_getElem? (i := 402) (by decide +kernel), List.mem_of_getElem? (i := 547) (by decide +kernel), List.mem_of_getElem? (i := 548) (by decide +kernel)⟩
theorem lw_p28 : lw_okq (⟨"CellTransportModel", "holds", "(III)Z"⟩, 27) := ⟨⟨by decide +kernel, by decide +kernel⟩, List.mem_of_getElem? (i := 402) (by decide +kernel), List.mem_of_getElem? (i := 551) (by decide +kernel), List.mem_of_getElem? (i := 552) (by decide +kernel)⟩
theorem lw_p29 : lw_okq (⟨"CellTransportModel", "history", "()I"⟩, 27) := ⟨⟨by decide +kernel, by decide +kernel⟩, List.mem_of_getElem? (i := 402) (by decide +kernel), List.mem_of_getElem? (i := 569) (by decide +kernel), List.mem_of_getElem? (i := 570) (by decide +kernel)⟩
theorem lw_p30 : lw_okq (⟨"CellTransportModel", "fly", "()V"⟩, 27) := ⟨⟨by decide +kernel, by decide +kernel⟩, List.mem_of_getElem? (i := 402) (by decide +kernel), List.mem_of_getElem? (i := 573) (by decide +kernel), List.mem_of_getElem? (i := 574) (by decide +kernel)⟩
theorem lw_p31 : lw_okq (⟨"CellTransportModel", "turn", "()V"⟩, 27) := ⟨⟨by decide +kernel, by decide +kernel⟩, List.mem_of_getElem? (i := 402) (by decide +kernel), List.mem_of_getElem? (i := 577) (by decide +kernel), List.mem_of_getElem? (i := 578) (by decide +kernel)⟩
def lw_privs_2 : List (MethodName × Nat) := [(⟨"CellTransport$Generator", "draw", "()I"⟩, 1), (⟨"CellTransport", "survivesStep", "()Z"⟩, 8), (⟨"CellTransport$Particle", "move", "()V"⟩, 5), (⟨"CellTransport$Counts", "addTrack", "(II)V"⟩, 3), (⟨"CellTransport", "survivesCollision", "(LCellTransport$Cell;)Z"⟩, 8), (⟨"CellTransport", "split", "()V"⟩, 8), (⟨"CellTransport$Geometry", "definedCells", "()I"⟩, 2), (⟨"CellTransport$Counts", "reset", "()V"⟩, 3), (⟨"CellTransportModel", "told", "()Z"⟩, 27), (⟨"CellTransportModel", "draw", "(I)I"⟩, 27), (⟨"CellTransportModel", "at", "(II)I"⟩, 27), (⟨"CellTransportModel", "inside", "(III)Z"⟩, 27), (⟨"CellTransportModel", "holds", "(III)Z"⟩, 27), (⟨"CellTransportModel", "history", "()I"⟩, 27), (⟨"CellTransportModel", "fly", "()V"⟩, 27), (⟨"CellTransportModel", "turn", "()V"⟩, 27)]
theorem lw_r2 : ∀ q ∈ lw_privs_2, lw_okq q := List.forall_mem_cons.mpr ⟨lw_p16, List.forall_mem_cons.mpr ⟨lw_p17, List.forall_mem_cons.mpr ⟨lw_p18, List.forall_mem_cons.mpr ⟨lw_p19, List.forall_mem_cons.mpr ⟨lw_p20, List.forall_mem_cons.mpr ⟨lw_p21, List.forall_mem_cons.mpr ⟨lw_p22, List.forall_mem_cons.mpr ⟨lw_p23, List.forall_mem_cons.mpr ⟨lw_p24, List.forall_mem_cons.mpr ⟨lw_p25, List.forall_mem_cons.mpr ⟨lw_p26, List.forall_mem_cons.mpr ⟨lw_p27, List.forall_mem_cons.mpr ⟨lw_p28, List.forall_mem_cons.mpr ⟨lw_p29, List.forall_mem_cons.mpr ⟨lw_p30, List.forall_mem_cons.mpr ⟨lw_p31, fun _ h => absurd h List.not_mem_nil⟩⟩⟩⟩⟩⟩⟩⟩⟩⟩⟩⟩⟩⟩⟩⟩
theorem lw_p32 : lw_okq (⟨"CellTransportModel", "collide", "(I)Z"⟩, 27) := ⟨⟨by decide +kernel, by decide +kernel⟩, List.mem_of_getElem? (i := 402) (by decide +kernel), List.mem_of_getElem? (i := 581) (by decide +kernel), List.mem_of_getElem? (i := 582) (by decide +kernel)⟩
theorem lw_p33 : lw_okq (⟨"CellTransportModel", "join", "()V"⟩, 27) := ⟨⟨by decide +kernel, by decide +kernel⟩, List.mem_of_getElem? (i := 402) (by decide +kernel), List.mem_of_getElem? (i := 585) (by decide +kernel), List.mem_of_getElem? (i := 586) (by decide +kernel)⟩
def lw_privs_3 : List (MethodName × Nat) := [(⟨"CellTransportModel", "collide", "(I)Z"⟩, 27), (⟨"CellTransportModel", "join", "()V"⟩, 27)]
theorem lw_r3 : ∀ q ∈ lw_privs_3, lw_okq q := List.forall_mem_cons.mpr ⟨lw_p32, List.forall_mem_cons.mpr ⟨lw_p33, fun _ h => absurd h List.not_mem_nil⟩⟩
def lw_privs : List (MethodName × Nat) := lw_privs_1 ++ (lw_privs_2 ++ (lw_privs_3))
def lw_tbl : List Cond := k2_sels lw_privs ++ tables_1
theorem lw_privs_ok : ∀ q ∈ lw_privs, lw_okq q := by
  show ∀ q ∈ lw_privs_1 ++ (lw_privs_2 ++ (lw_privs_3)), lw_okq q
  exact List.forall_mem_append.mpr ⟨lw_r1, List.forall_mem_append.mpr ⟨lw_r2, lw_r3⟩⟩
end
section
abbrev b_CellTransport_init : ByteArray := prog_1_method_1_code
def y_CellTransport_init : MethodName := ⟨"CellTransport", "<init>", "()V"⟩
abbrev b_CellTransport_surface : ByteArray := prog_1_method_2_code
def y_CellTransport_surface : MethodName := ⟨"CellTransport", "surface", "(IIIII)I"⟩
abbrev b_CellTransport_token : ByteArray := prog_1_method_3_code
def y_CellTransport_token : MethodName := ⟨"CellTransport", "token", "(I)I"⟩
abbrev b_CellTransport_cell : ByteArray := prog_1_method_4_code
def y_CellTransport_cell : MethodName := ⟨"CellTransport", "cell", "(IIII)I"⟩
abbrev b_CellTransport_undefine : ByteArray := prog_1_method_5_code
def y_CellTransport_undefine : MethodName := ⟨"CellTransport", "undefine", "(I)I"⟩
abbrev b_CellTransport_source : ByteArray := prog_1_method_6_code
def y_CellTransport_source : MethodName := ⟨"CellTransport", "source", "(II)I"⟩
abbrev b_CellTransport_seed : ByteArray := prog_1_method_7_code
def y_CellTransport_seed : MethodName := ⟨"CellTransport", "seed", "(I)V"⟩
abbrev b_CellTransport_skip : ByteArray := prog_1_method_8_code
def y_CellTransport_skip : MethodName := ⟨"CellTransport", "skip", "(I)I"⟩
abbrev b_CellTransport_state : ByteArray := prog_1_method_9_code
def y_CellTransport_state : MethodName := ⟨"CellTransport", "state", "()I"⟩
abbrev b_CellTransport_run : ByteArray := prog_1_method_10_code
def y_CellTransport_run : MethodName := ⟨"CellTransport", "run", "(I)I"⟩
abbrev b_CellTransport_where : ByteArray := prog_1_method_11_code
def y_CellTransport_where : MethodName := ⟨"CellTransport", "where", "(II)I"⟩
abbrev b_CellTransport_reach : ByteArray := prog_1_method_12_code
def y_CellTransport_reach : MethodName := ⟨"CellTransport", "reach", "(III)I"⟩
abbrev b_CellTransport_tally : ByteArray := prog_1_method_13_code
def y_CellTransport_tally : MethodName := ⟨"CellTransport", "tally", "(II)I"⟩
abbrev b_CellTransport_crossed : ByteArray := prog_1_method_14_code
def y_CellTransport_crossed : MethodName := ⟨"CellTransport", "crossed", "(II)I"⟩
abbrev b_CellTransport_count : ByteArray := prog_1_method_15_code
def y_CellTransport_count : MethodName := ⟨"CellTransport", "count", "(I)I"⟩
abbrev b_CellTransport_clear : ByteArray := prog_1_method_16_code
def y_CellTransport_clear : MethodName := ⟨"CellTransport", "clear", "()V"⟩
abbrev b_CellTransport_isBetween : ByteArray := prog_1_method_17_code
def y_CellTransport_isBetween : MethodName := ⟨"CellTransport", "isBetween", "(III)Z"⟩
abbrev b_CellTransport_areWithin : ByteArray := prog_1_method_18_code
def y_CellTransport_areWithin : MethodName := ⟨"CellTransport", "areWithin", "(III)Z"⟩
abbrev b_CellTransport_isSurface : ByteArray := prog_1_method_19_code
def y_CellTransport_isSurface : MethodName := ⟨"CellTransport", "isSurface", "(IIII)Z"⟩
abbrev b_CellTransport_areShares : ByteArray := prog_1_method_20_code
def y_CellTransport_areShares : MethodName := ⟨"CellTransport", "areShares", "(II)Z"⟩
abbrev b_CellTransport_oneIf : ByteArray := prog_1_method_21_code
def y_CellTransport_oneIf : MethodName := ⟨"CellTransport", "oneIf", "(Z)I"⟩
abbrev b_CellTransport_playHistory : ByteArray := prog_1_method_22_code
def y_CellTransport_playHistory : MethodName := ⟨"CellTransport", "playHistory", "()I"⟩
abbrev b_CellTransport_fly : ByteArray := prog_1_method_23_code
def y_CellTransport_fly : MethodName := ⟨"CellTransport", "fly", "()V"⟩
abbrev b_CellTransport_aim : ByteArray := prog_1_method_24_code
def y_CellTransport_aim : MethodName := ⟨"CellTransport", "aim", "()V"⟩
abbrev b_CellTransport_survivesStep : ByteArray := prog_1_method_25_code
def y_CellTransport_survivesStep : MethodName := ⟨"CellTransport", "survivesStep", "()Z"⟩
abbrev b_CellTransport_survivesCollision : ByteArray := prog_1_method_26_code
def y_CellTransport_survivesCollision : MethodName := ⟨"CellTransport", "survivesCollision", "(LCellTransport$Cell;)Z"⟩
abbrev b_CellTransport_split : ByteArray := prog_1_method_27_code
def y_CellTransport_split : MethodName := ⟨"CellTransport", "split", "()V"⟩
abbrev b_Model_init : ByteArray := prog_11_method_1_code
def y_Model_init : MethodName := ⟨"CellTransportModel", "<init>", "()V"⟩
abbrev b_Model_out : ByteArray := prog_11_method_2_code
def y_Model_out : MethodName := ⟨"CellTransportModel", "out", "(III)Z"⟩
abbrev b_Model_surface : ByteArray := prog_11_method_3_code
def y_Model_surface : MethodName := ⟨"CellTransportModel", "surface", "(IIIII)I"⟩
abbrev b_Model_token : ByteArray := prog_11_method_4_code
def y_Model_token : MethodName := ⟨"CellTransportModel", "token", "(I)I"⟩
abbrev b_Model_told : ByteArray := prog_11_method_5_code
def y_Model_told : MethodName := ⟨"CellTransportModel", "told", "()Z"⟩
abbrev b_Model_cell : ByteArray := prog_11_method_6_code
def y_Model_cell : MethodName := ⟨"CellTransportModel", "cell", "(IIII)I"⟩
abbrev b_Model_undefine : ByteArray := prog_11_method_7_code
def y_Model_undefine : MethodName := ⟨"CellTransportModel", "undefine", "(I)I"⟩
abbrev b_Model_source : ByteArray := prog_11_method_8_code
def y_Model_source : MethodName := ⟨"CellTransportModel", "source", "(II)I"⟩
abbrev b_Model_seed : ByteArray := prog_11_method_9_code
def y_Model_seed : MethodName := ⟨"CellTransportModel", "seed", "(I)V"⟩
abbrev b_Model_draw : ByteArray := prog_11_method_10_code
def y_Model_draw : MethodName := ⟨"CellTransportModel", "draw", "(I)I"⟩
abbrev b_Model_skip : ByteArray := prog_11_method_11_code
def y_Model_skip : MethodName := ⟨"CellTransportModel", "skip", "(I)I"⟩
abbrev b_Model_state : ByteArray := prog_11_method_12_code
def y_Model_state : MethodName := ⟨"CellTransportModel", "state", "()I"⟩
abbrev b_Model_holds : ByteArray := prog_11_method_13_code
def y_Model_holds : MethodName := ⟨"CellTransportModel", "holds", "(III)Z"⟩
abbrev b_Model_inside : ByteArray := prog_11_method_14_code
def y_Model_inside : MethodName := ⟨"CellTransportModel", "inside", "(III)Z"⟩
abbrev b_Model_at : ByteArray := prog_11_method_15_code
def y_Model_at : MethodName := ⟨"CellTransportModel", "at", "(II)I"⟩
abbrev b_Model_stepX : ByteArray := prog_11_method_16_code
def y_Model_stepX : MethodName := ⟨"CellTransportModel", "stepX", "(I)I"⟩
abbrev b_Model_stepY : ByteArray := prog_11_method_17_code
def y_Model_stepY : MethodName := ⟨"CellTransportModel", "stepY", "(I)I"⟩
abbrev b_Model_where : ByteArray := prog_11_method_18_code
def y_Model_where : MethodName := ⟨"CellTransportModel", "where", "(II)I"⟩
abbrev b_Model_reach : ByteArray := prog_11_method_19_code
def y_Model_reach : MethodName := ⟨"CellTransportModel", "reach", "(III)I"⟩
abbrev b_Model_turn : ByteArray := prog_11_method_20_code
def y_Model_turn : MethodName := ⟨"CellTransportModel", "turn", "()V"⟩
abbrev b_Model_join : ByteArray := prog_11_method_21_code
def y_Model_join : MethodName := ⟨"CellTransportModel", "join", "()V"⟩
abbrev b_Model_collide : ByteArray := prog_11_method_22_code
def y_Model_collide : MethodName := ⟨"CellTransportModel", "collide", "(I)Z"⟩
abbrev b_Model_fly : ByteArray := prog_11_method_23_code
def y_Model_fly : MethodName := ⟨"CellTransportModel", "fly", "()V"⟩
abbrev b_Model_history : ByteArray := prog_11_method_24_code
def y_Model_history : MethodName := ⟨"CellTransportModel", "history", "()I"⟩
abbrev b_Model_run : ByteArray := prog_11_method_25_code
def y_Model_run : MethodName := ⟨"CellTransportModel", "run", "(I)I"⟩
abbrev b_Model_tally : ByteArray := prog_11_method_26_code
def y_Model_tally : MethodName := ⟨"CellTransportModel", "tally", "(II)I"⟩
abbrev b_Model_crossed : ByteArray := prog_11_method_27_code
def y_Model_crossed : MethodName := ⟨"CellTransportModel", "crossed", "(II)I"⟩
abbrev b_Model_count : ByteArray := prog_11_method_28_code
def y_Model_count : MethodName := ⟨"CellTransportModel", "count", "(I)I"⟩
abbrev b_Model_clear : ByteArray := prog_11_method_29_code
def y_Model_clear : MethodName := ⟨"CellTransportModel", "clear", "()V"⟩
abbrev b_Cell_init : ByteArray := prog_2_method_1_code
def y_Cell_init : MethodName := ⟨"CellTransport$Cell", "<init>", "()V"⟩
abbrev b_Cell_define : ByteArray := prog_2_method_2_code
def y_Cell_define : MethodName := ⟨"CellTransport$Cell", "define", "(LCellTransport$Region;III)V"⟩
abbrev b_Counts_init : ByteArray := prog_3_method_1_code
def y_Counts_init : MethodName := ⟨"CellTransport$Counts", "<init>", "()V"⟩
abbrev b_Counts_addTrack : ByteArray := prog_3_method_2_code
def y_Counts_addTrack : MethodName := ⟨"CellTransport$Counts", "addTrack", "(II)V"⟩
abbrev b_Counts_reset : ByteArray := prog_3_method_3_code
def y_Counts_reset : MethodName := ⟨"CellTransport$Counts", "reset", "()V"⟩
abbrev b_Generator_init : ByteArray := prog_4_method_1_code
def y_Generator_init : MethodName := ⟨"CellTransport$Generator", "<init>", "()V"⟩
abbrev b_Generator_start : ByteArray := prog_4_method_2_code
def y_Generator_start : MethodName := ⟨"CellTransport$Generator", "start", "(I)V"⟩
abbrev b_Generator_draw : ByteArray := prog_4_method_3_code
def y_Generator_draw : MethodName := ⟨"CellTransport$Generator", "draw", "()I"⟩
abbrev b_Generator_leap : ByteArray := prog_4_method_4_code
def y_Generator_leap : MethodName := ⟨"CellTransport$Generator", "leap", "(I)V"⟩
abbrev b_Geometry_init : ByteArray := prog_5_method_1_code
def y_Geometry_init : MethodName := ⟨"CellTransport$Geometry", "<init>", "()V"⟩
abbrev b_Geometry_cellAt : ByteArray := prog_5_method_2_code
def y_Geometry_cellAt : MethodName := ⟨"CellTransport$Geometry", "cellAt", "(II)I"⟩
abbrev b_Geometry_definedCells : ByteArray := prog_5_method_3_code
def y_Geometry_definedCells : MethodName := ⟨"CellTransport$Geometry", "definedCells", "()I"⟩
abbrev b_Line_init : ByteArray := prog_6_method_1_code
def y_Line_init : MethodName := ⟨"CellTransport$Line", "<init>", "()V"⟩
abbrev b_Line_empty : ByteArray := prog_6_method_2_code
def y_Line_empty : MethodName := ⟨"CellTransport$Line", "empty", "()V"⟩
abbrev b_Line_join : ByteArray := prog_6_method_3_code
def y_Line_join : MethodName := ⟨"CellTransport$Line", "join", "(II)Z"⟩
abbrev b_Line_sendLast : ByteArray := prog_6_method_4_code
def y_Line_sendLast : MethodName := ⟨"CellTransport$Line", "sendLast", "(LCellTransport$Particle;)V"⟩
abbrev b_Particle_init : ByteArray := prog_7_method_1_code
def y_Particle_init : MethodName := ⟨"CellTransport$Particle", "<init>", "()V"⟩
abbrev b_Particle_move : ByteArray := prog_7_method_2_code
def y_Particle_move : MethodName := ⟨"CellTransport$Particle", "move", "()V"⟩
abbrev b_Region_init : ByteArray := prog_8_method_1_code
def y_Region_init : MethodName := ⟨"CellTransport$Region", "<init>", "()V"⟩
abbrev b_Region_add : ByteArray := prog_8_method_2_code
def y_Region_add : MethodName := ⟨"CellTransport$Region", "add", "(I)V"⟩
abbrev b_Region_copyFrom : ByteArray := prog_8_method_3_code
def y_Region_copyFrom : MethodName := ⟨"CellTransport$Region", "copyFrom", "(LCellTransport$Region;)V"⟩
abbrev b_Region_isWhole : ByteArray := prog_8_method_4_code
def y_Region_isWhole : MethodName := ⟨"CellTransport$Region", "isWhole", "()Z"⟩
abbrev b_Region_operandsOf : ByteArray := prog_8_method_5_code
def y_Region_operandsOf : MethodName := ⟨"CellTransport$Region", "operandsOf", "(I)I"⟩
abbrev b_Region_holds : ByteArray := prog_8_method_6_code
def y_Region_holds : MethodName := ⟨"CellTransport$Region", "holds", "([LCellTransport$Surface;II)Z"⟩
abbrev b_Surface_init : ByteArray := prog_9_method_1_code
def y_Surface_init : MethodName := ⟨"CellTransport$Surface", "<init>", "()V"⟩
abbrev b_Surface_become : ByteArray := prog_9_method_2_code
def y_Surface_become : MethodName := ⟨"CellTransport$Surface", "become", "(IIII)V"⟩
abbrev b_Surface_holds : ByteArray := prog_9_method_3_code
def y_Surface_holds : MethodName := ⟨"CellTransport$Surface", "holds", "(II)Z"⟩
abbrev b_Arrays_fill : ByteArray := prog_13_method_103_code
def y_Arrays_fill : MethodName := ⟨"java/util/Arrays", "fill", "([II)V"⟩
def i_surf (j : Nat) : Nat := 4 + j
def i_cell (j : Nat) : Nat := 12 + j
def i_reg (j : Nat) : Nat := 18 + j
def i_tok (j : Nat) : Nat := 25 + j
def i_talr (j : Nat) : Nat := 36 + j
def i_cror (j : Nat) : Nat := 43 + j
def R_CellTransport : String := "CellTransport"
def F_CellTransport : u_T := fun k => match k with
  | 0 => ("CellTransport", "geometry", "LCellTransport$Geometry;", true)
  | 1 => ("CellTransport", "buffer", "LCellTransport$Region;", true)
  | 2 => ("CellTransport", "generator", "LCellTransport$Generator;", true)
  | 3 => ("CellTransport", "counts", "LCellTransport$Counts;", true)
  | 4 => ("CellTransport", "line", "LCellTransport$Line;", true)
  | 5 => ("CellTransport", "particle", "LCellTransport$Particle;", true)
  | 6 => ("CellTransport", "sourceX", "I", false)
  | _ => ("CellTransport", "sourceY", "I", false)
def t_CellTransport : Nat → FieldType := fun k => match k with
  | 0 => .object "CellTransport$Geometry"
  | 1 => .object "CellTransport$Region"
  | 2 => .object "CellTransport$Generator"
  | 3 => .object "CellTransport$Counts"
  | 4 => .object "CellTransport$Line"
  | 5 => .object "CellTransport$Particle"
  | 6 => .int
  | _ => .int
theorem n_CellTransport : ∀ a, a < 8 → ∀ b, b < 8 → a ≠ b → (F_CellTransport a).2.1 ≠ (F_CellTransport b).2.1 := by decide +kernel
theorem t_CellTransport_ok : ∀ k, k < 8 → parseFieldDescriptor (F_CellTransport k).2.2.1 = some (t_CellTransport k) := by decide +kernel
def R_Geometry : String := "CellTransport$Geometry"
def F_Geometry : u_T := fun k => match k with
  | 0 => ("CellTransport$Geometry", "surfaces", "[LCellTransport$Surface;", true)
  | _ => ("CellTransport$Geometry", "cells", "[LCellTransport$Cell;", true)
def t_Geometry : Nat → FieldType := fun k => match k with
  | 0 => .array (.object "CellTransport$Surface")
  | _ => .array (.object "CellTransport$Cell")
theorem n_Geometry : ∀ a, a < 2 → ∀ b, b < 2 → a ≠ b → (F_Geometry a).2.1 ≠ (F_Geometry b).2.1 := by decide +kernel
theorem t_Geometry_ok : ∀ k, k < 2 → parseFieldDescriptor (F_Geometry k).2.2.1 = some (t_Geometry k) := by decide +kernel
def R_Surface : String := "CellTransport$Surface"
def F_Surface : u_T := fun k => match k with
  | 0 => ("CellTransport$Surface", "isSet", "Z", false)
  | 1 => ("CellTransport$Surface", "kind", "I", false)
  | 2 => ("CellTransport$Surface", "a", "I", false)
  | 3 => ("CellTransport$Surface", "b", "I", false)
  | _ => ("CellTransport$Surface", "c", "I", false)
def t_Surface : Nat → FieldType := fun k => match k with
  | 0 => .boolean
  | 1 => .int
  | 2 => .int
  | 3 => .int
  | _ => .int
theorem n_Surface : ∀ a, a < 5 → ∀ b, b < 5 → a ≠ b → (F_Surface a).2.1 ≠ (F_Surface b).2.1 := by decide +kernel
theorem t_Surface_ok : ∀ k, k < 5 → parseFieldDescriptor (F_Surface k).2.2.1 = some (t_Surface k) := by decide +kernel
def R_Cell : String := "CellTransport$Cell"
def F_Cell : u_T := fun k => match k with
  | 0 => ("CellTransport$Cell", "region", "LCellTransport$Region;", true)
  | 1 => ("CellTransport$Cell", "isDefined", "Z", false)
  | 2 => ("CellTransport$Cell", "density", "I", false)
  | 3 => ("CellTransport$Cell", "absorption", "I", false)
  | _ => ("CellTransport$Cell", "fission", "I", false)
def t_Cell : Nat → FieldType := fun k => match k with
  | 0 => .object "CellTransport$Region"
  | 1 => .boolean
  | 2 => .int
  | 3 => .int
  | _ => .int
theorem n_Cell : ∀ a, a < 5 → ∀ b, b < 5 → a ≠ b → (F_Cell a).2.1 ≠ (F_Cell b).2.1 := by decide +kernel
theorem t_Cell_ok : ∀ k, k < 5 → parseFieldDescriptor (F_Cell k).2.2.1 = some (t_Cell k) := by decide +kernel
def R_Region : String := "CellTransport$Region"
def F_Region : u_T := fun k => match k with
  | 0 => ("CellTransport$Region", "tokens", "[I", true)
  | _ => ("CellTransport$Region", "size", "I", false)
def t_Region : Nat → FieldType := fun k => match k with
  | 0 => .array (.int)
  | _ => .int
theorem n_Region : ∀ a, a < 2 → ∀ b, b < 2 → a ≠ b → (F_Region a).2.1 ≠ (F_Region b).2.1 := by decide +kernel
theorem t_Region_ok : ∀ k, k < 2 → parseFieldDescriptor (F_Region k).2.2.1 = some (t_Region k) := by decide +kernel
def R_Generator : String := "CellTransport$Generator"
def F_Generator : u_T := fun k => match k with
  | _ => ("CellTransport$Generator", "state", "I", false)
def t_Generator : Nat → FieldType := fun k => match k with
  | _ => .int
theorem n_Generator : ∀ a, a < 1 → ∀ b, b < 1 → a ≠ b → (F_Generator a).2.1 ≠ (F_Generator b).2.1 := by decide +kernel
theorem t_Generator_ok : ∀ k, k < 1 → parseFieldDescriptor (F_Generator k).2.2.1 = some (t_Generator k) := by decide +kernel
def R_Counts : String := "CellTransport$Counts"
def F_Counts : u_T := fun k => match k with
  | 0 => ("CellTransport$Counts", "totals", "[I", true)
  | 1 => ("CellTransport$Counts", "tallies", "[[I", true)
  | _ => ("CellTransport$Counts", "crossings", "[[I", true)
def t_Counts : Nat → FieldType := fun k => match k with
  | 0 => .array (.int)
  | 1 => .array (.array (.int))
  | _ => .array (.array (.int))
theorem n_Counts : ∀ a, a < 3 → ∀ b, b < 3 → a ≠ b → (F_Counts a).2.1 ≠ (F_Counts b).2.1 := by decide +kernel
theorem t_Counts_ok : ∀ k, k < 3 → parseFieldDescriptor (F_Counts k).2.2.1 = some (t_Counts k) := by decide +kernel
def R_Line : String := "CellTransport$Line"
def F_Line : u_T := fun k => match k with
  | 0 => ("CellTransport$Line", "placesX", "[I", true)
  | 1 => ("CellTransport$Line", "placesY", "[I", true)
  | 2 => ("CellTransport$Line", "waiting", "I", false)
  | _ => ("CellTransport$Line", "joined", "I", false)
def t_Line : Nat → FieldType := fun k => match k with
  | 0 => .array (.int)
  | 1 => .array (.int)
  | 2 => .int
  | _ => .int
theorem n_Line : ∀ a, a < 4 → ∀ b, b < 4 → a ≠ b → (F_Line a).2.1 ≠ (F_Line b).2.1 := by decide +kernel
theorem t_Line_ok : ∀ k, k < 4 → parseFieldDescriptor (F_Line k).2.2.1 = some (t_Line k) := by decide +kernel
def R_Particle : String := "CellTransport$Particle"
def F_Particle : u_T := fun k => match k with
  | 0 => ("CellTransport$Particle", "x", "I", false)
  | 1 => ("CellTransport$Particle", "y", "I", false)
  | 2 => ("CellTransport$Particle", "cell", "I", false)
  | 3 => ("CellTransport$Particle", "direction", "I", false)
  | _ => ("CellTransport$Particle", "budget", "I", false)
def t_Particle : Nat → FieldType := fun k => match k with
  | 0 => .int
  | 1 => .int
  | 2 => .int
  | 3 => .int
  | _ => .int
theorem n_Particle : ∀ a, a < 5 → ∀ b, b < 5 → a ≠ b → (F_Particle a).2.1 ≠ (F_Particle b).2.1 := by decide +kernel
theorem t_Particle_ok : ∀ k, k < 5 → parseFieldDescriptor (F_Particle k).2.2.1 = some (t_Particle k) := by decide +kernel
def R_Model : String := "CellTransportModel"
def F_Model : u_T := fun k => match k with
  | 0 => ("CellTransportModel", "kind", "[I", true)
  | 1 => ("CellTransportModel", "sa", "[I", true)
  | 2 => ("CellTransportModel", "sb", "[I", true)
  | 3 => ("CellTransportModel", "sc", "[I", true)
  | 4 => ("CellTransportModel", "set", "[Z", true)
  | 5 => ("CellTransportModel", "buffer", "[I", true)
  | 6 => ("CellTransportModel", "held", "I", false)
  | 7 => ("CellTransportModel", "region", "[I", true)
  | 8 => ("CellTransportModel", "tokens", "[I", true)
  | 9 => ("CellTransportModel", "defined", "[Z", true)
  | 10 => ("CellTransportModel", "density", "[I", true)
  | 11 => ("CellTransportModel", "absorbs", "[I", true)
  | 12 => ("CellTransportModel", "splits", "[I", true)
  | 13 => ("CellTransportModel", "sourceX", "I", false)
  | 14 => ("CellTransportModel", "sourceY", "I", false)
  | 15 => ("CellTransportModel", "generator", "J", false)
  | 16 => ("CellTransportModel", "tallies", "[I", true)
  | 17 => ("CellTransportModel", "crossings", "[I", true)
  | 18 => ("CellTransportModel", "counts", "[I", true)
  | 19 => ("CellTransportModel", "px", "[I", true)
  | 20 => ("CellTransportModel", "py", "[I", true)
  | 21 => ("CellTransportModel", "waiting", "I", false)
  | 22 => ("CellTransportModel", "particles", "I", false)
  | 23 => ("CellTransportModel", "x", "I", false)
  | 24 => ("CellTransportModel", "y", "I", false)
  | 25 => ("CellTransportModel", "direction", "I", false)
  | _ => ("CellTransportModel", "budget", "I", false)
def t_Model : Nat → FieldType := fun k => match k with
  | 0 => .array (.int)
  | 1 => .array (.int)
  | 2 => .array (.int)
  | 3 => .array (.int)
  | 4 => .array (.boolean)
  | 5 => .array (.int)
  | 6 => .int
  | 7 => .array (.int)
  | 8 => .array (.int)
  | 9 => .array (.boolean)
  | 10 => .array (.int)
  | 11 => .array (.int)
  | 12 => .array (.int)
  | 13 => .int
  | 14 => .int
  | 15 => .long
  | 16 => .array (.int)
  | 17 => .array (.int)
  | 18 => .array (.int)
  | 19 => .array (.int)
  | 20 => .array (.int)
  | 21 => .int
  | 22 => .int
  | 23 => .int
  | 24 => .int
  | 25 => .int
  | _ => .int
theorem n_Model : ∀ a, a < 27 → ∀ b, b < 27 → a ≠ b → (F_Model a).2.1 ≠ (F_Model b).2.1 := by decide +kernel
theorem t_Model_ok : ∀ k, k < 27 → parseFieldDescriptor (F_Model k).2.2.1 = some (t_Model k) := by decide +kernel
abbrev z_cl : List vw_C := [(R_CellTransport, F_CellTransport, 8), (R_Geometry, F_Geometry, 2), (R_Surface, F_Surface, 5), (R_Cell, F_Cell, 5), (R_Region, F_Region, 2), (R_Generator, F_Generator, 1), (R_Counts, F_Counts, 3), (R_Line, F_Line, 4), (R_Particle, F_Particle, 5), (R_Model, F_Model, 27)]
def z_N : Nat := 71
def z_tys (dA : Nat → ClassId) : List (ClassId × FieldType) := [(dA 0, .int), (dA 1, .object "CellTransport$Surface"), (dA 2, .object "CellTransport$Cell"), (dA 3, .array .int), (dA 4, .boolean)]
def z_c (dA : Nat → ClassId) (ad : Nat → Nat) (k : Nat) (f : Nat → Int32) : va_E :=
  if k = 0 then .inr (0, [.ref (ad 1), .ref (ad (i_reg 6)), .ref (ad 32), .ref (ad 33), .ref (ad 49), .ref (ad 52), .int (f 6), .int (f 7)]) else
  if k = 1 then .inr (1, [.ref (ad 2), .ref (ad 3)]) else
  if k = 2 then .inl (dA 1, 8, .inr (.inr (.inr (.inr (fun j => some (ad (i_surf j))))))) else
  if k = 3 then .inl (dA 2, 6, .inr (.inr (.inr (.inr (fun j => some (ad (i_cell j))))))) else
  if k < 12 then .inr (2, [.int (f 0), .int (f 1), .int (f 2), .int (f 3), .int (f 4)]) else
  if k < 18 then .inr (3, [.ref (ad (i_reg (k - 12))), .int (f 1), .int (f 2), .int (f 3), .int (f 4)]) else
  if k < 25 then .inr (4, [.ref (ad (i_tok (k - 18))), .int (f 1)]) else
  if k < 32 then .inl (dA 0, 8, .inl f) else
  if k = 32 then .inr (5, [.int (f 0)]) else
  if k = 33 then .inr (6, [.ref (ad 34), .ref (ad 35), .ref (ad 42)]) else
  if k = 34 then .inl (dA 0, 5, .inl f) else
  if k = 35 then .inl (dA 3, 6, .inr (.inr (.inr (.inr (fun j => some (ad (i_talr j))))))) else
  if k < 42 then .inl (dA 0, 4, .inl f) else
  if k = 42 then .inl (dA 3, 6, .inr (.inr (.inr (.inr (fun j => some (ad (i_cror j))))))) else
  if k < 49 then .inl (dA 0, 6, .inl f) else
  if k = 49 then .inr (7, [.ref (ad 50), .ref (ad 51), .int (f 2), .int (f 3)]) else
  if k = 50 then .inl (dA 0, 12, .inl f) else
  if k = 51 then .inl (dA 0, 12, .inl f) else
  if k = 52 then .inr (8, [.int (f 0), .int (f 1), .int (f 2), .int (f 3), .int (f 4)]) else
  if k = 53 then .inr (9, [.ref (ad 54), .ref (ad 55), .ref (ad 56), .ref (ad 57), .ref (ad 58), .ref (ad 59), .int (f 6), .ref (ad 60), .ref (ad 61), .ref (ad 62), .ref (ad 63), .ref (ad 64), .ref (ad 65), .int (f 13), .int (f 14), .long (f 15).toInt64, .ref (ad 66), .ref (ad 67), .ref (ad 68), .ref (ad 69), .ref (ad 70), .int (f 21), .int (f 22), .int (f 23), .int (f 24), .int (f 25), .int (f 26)]) else
  if k = 54 then .inl (dA 0, 8, .inl f) else
  if k = 55 then .inl (dA 0, 8, .inl f) else
  if k = 56 then .inl (dA 0, 8, .inl f) else
  if k = 57 then .inl (dA 0, 8, .inl f) else
  if k = 58 then .inl (dA 4, 8, .inl f) else
  if k = 59 then .inl (dA 0, 8, .inl f) else
  if k = 60 then .inl (dA 0, 48, .inl f) else
  if k = 61 then .inl (dA 0, 6, .inl f) else
  if k = 62 then .inl (dA 4, 6, .inl f) else
  if k = 63 then .inl (dA 0, 6, .inl f) else
  if k = 64 then .inl (dA 0, 6, .inl f) else
  if k = 65 then .inl (dA 0, 6, .inl f) else
  if k = 66 then .inl (dA 0, 24, .inl f) else
  if k = 67 then .inl (dA 0, 36, .inl f) else
  if k = 68 then .inl (dA 0, 5, .inl f) else
  if k = 69 then .inl (dA 0, 12, .inl f) else
  if k = 70 then .inl (dA 0, 12, .inl f) else
  .inl (dA 0, 0, .inl f)
theorem zl_CellTransport : 0 < z_N := by decide
theorem zc_CellTransport {dA : Nat → ClassId} {ad : Nat → Nat} (f : Nat → Int32) : z_c dA ad 0 f = .inr (0, [.ref (ad 1), .ref (ad (i_reg 6)), .ref (ad 32), .ref (ad 33), .ref (ad 49), .ref (ad 52), .int (f 6), .int (f 7)]) := rfl
theorem zl_Geometry : 1 < z_N := by decide
theorem zc_Geometry {dA : Nat → ClassId} {ad : Nat → Nat} (f : Nat → Int32) : z_c dA ad 1 f = .inr (1, [.ref (ad 2), .ref (ad 3)]) := rfl
theorem zl_surfaces : 2 < z_N := by decide
theorem zc_surfaces {dA : Nat → ClassId} {ad : Nat → Nat} (f : Nat → Int32) : z_c dA ad 2 f = .inl (dA 1, 8, .inr (.inr (.inr (.inr (fun j => some (ad (i_surf j))))))) := rfl
theorem zl_cells : 3 < z_N := by decide
theorem zc_cells {dA : Nat → ClassId} {ad : Nat → Nat} (f : Nat → Int32) : z_c dA ad 3 f = .inl (dA 2, 6, .inr (.inr (.inr (.inr (fun j => some (ad (i_cell j))))))) := rfl
theorem zl_Surface {j : Nat} (hj : j < 8) : (i_surf j) < z_N := by unfold i_surf z_N; omega
theorem zc_Surface {dA : Nat → ClassId} {ad : Nat → Nat} {j : Nat} (hj : j < 8) (f : Nat → Int32) : z_c dA ad (i_surf j) f = .inr (2, [.int (f 0), .int (f 1), .int (f 2), .int (f 3), .int (f 4)]) := by
  unfold z_c
  rw [if_neg (show ¬ i_surf j = 0 by unfold i_surf; omega), if_neg (show ¬ i_surf j = 1 by unfold i_surf; omega), if_neg (show ¬ i_surf j = 2 by unfold i_surf; omega), if_neg (show ¬ i_surf j = 3 by unfold i_surf; omega), if_pos (show i_surf j < 12 by unfold i_surf; omega)]
theorem zl_Cell {j : Nat} (hj : j < 6) : (i_cell j) < z_N := by unfold i_cell z_N; omega
theorem zc_Cell {dA : Nat → ClassId} {ad : Nat → Nat} {j : Nat} (hj : j < 6) (f : Nat → Int32) : z_c dA ad (i_cell j) f = .inr (3, [.ref (ad (i_reg j)), .int (f 1), .int (f 2), .int (f 3), .int (f 4)]) := by
  unfold z_c
  rw [if_neg (show ¬ i_cell j = 0 by unfold i_cell; omega), if_neg (show ¬ i_cell j = 1 by unfold i_cell; omega), if_neg (show ¬ i_cell j = 2 by unfold i_cell; omega), if_neg (show ¬ i_cell j = 3 by unfold i_cell; omega), if_neg (show ¬ i_cell j < 12 by unfold i_cell; omega), if_pos (show i_cell j < 18 by unfold i_cell; omega)]
  rw [show i_cell j - 12 = j by unfold i_cell; omega]
theorem zl_Region {j : Nat} (hj : j < 7) : (i_reg j) < z_N := by unfold i_reg z_N; omega
theorem zc_Region {dA : Nat → ClassId} {ad : Nat → Nat} {j : Nat} (hj : j < 7) (f : Nat → Int32) : z_c dA ad (i_reg j) f = .inr (4, [.ref (ad (i_tok j)), .int (f 1)]) := by
  unfold z_c
  rw [if_neg (show ¬ i_reg j = 0 by unfold i_reg; omega), if_neg (show ¬ i_reg j = 1 by unfold i_reg; omega), if_neg (show ¬ i_reg j = 2 by unfold i_reg; omega), if_neg (show ¬ i_reg j = 3 by unfold i_reg; omega), if_neg (show ¬ i_reg j < 12 by unfold i_reg; omega), if_neg (show ¬ i_reg j < 18 by unfold i_reg; omega), if_pos (show i_reg j < 25 by unfold i_reg; omega)]
  rw [show i_reg j - 18 = j by unfold i_reg; omega]
theorem zl_tokens {j : Nat} (hj : j < 7) : (i_tok j) < z_N := by unfold i_tok z_N; omega
theorem zc_tokens {dA : Nat → ClassId} {ad : Nat → Nat} {j : Nat} (hj : j < 7) (f : Nat → Int32) : z_c dA ad (i_tok j) f = .inl (dA 0, 8, .inl f) := by
  unfold z_c
  rw [if_neg (show ¬ i_tok j = 0 by unfold i_tok; omega), if_neg (show ¬ i_tok j = 1 by unfold i_tok; omega), if_neg (show ¬ i_tok j = 2 by unfold i_tok; omega), if_neg (show ¬ i_tok j = 3 by unfold i_tok; omega), if_neg (show ¬ i_tok j < 12 by unfold i_tok; omega), if_neg (show ¬ i_tok j < 18 by unfold i_tok; omega), if_neg (show ¬ i_tok j < 25 by unfold i_tok; omega), if_pos (show i_tok j < 32 by unfold i_tok; omega)]
theorem zl_Generator : 32 < z_N := by decide
theorem zc_Generator {dA : Nat → ClassId} {ad : Nat → Nat} (f : Nat → Int32) : z_c dA ad 32 f = .inr (5, [.int (f 0)]) := rfl
theorem zl_Counts : 33 < z_N := by decide
theorem zc_Counts {dA : Nat → ClassId} {ad : Nat → Nat} (f : Nat → Int32) : z_c dA ad 33 f = .inr (6, [.ref (ad 34), .ref (ad 35), .ref (ad 42)]) := rfl
theorem zl_totals : 34 < z_N := by decide
theorem zc_totals {dA : Nat → ClassId} {ad : Nat → Nat} (f : Nat → Int32) : z_c dA ad 34 f = .inl (dA 0, 5, .inl f) := rfl
theorem zl_tallies : 35 < z_N := by decide
theorem zc_tallies {dA : Nat → ClassId} {ad : Nat → Nat} (f : Nat → Int32) : z_c dA ad 35 f = .inl (dA 3, 6, .inr (.inr (.inr (.inr (fun j => some (ad (i_talr j))))))) := rfl
theorem zl_talrow {j : Nat} (hj : j < 6) : (i_talr j) < z_N := by unfold i_talr z_N; omega
theorem zc_talrow {dA : Nat → ClassId} {ad : Nat → Nat} {j : Nat} (hj : j < 6) (f : Nat → Int32) : z_c dA ad (i_talr j) f = .inl (dA 0, 4, .inl f) := by
  unfold z_c
  rw [if_neg (show ¬ i_talr j = 0 by unfold i_talr; omega), if_neg (show ¬ i_talr j = 1 by unfold i_talr; omega), if_neg (show ¬ i_talr j = 2 by unfold i_talr; omega), if_neg (show ¬ i_talr j = 3 by unfold i_talr; omega), if_neg (show ¬ i_talr j < 12 by unfold i_talr; omega), if_neg (show ¬ i_talr j < 18 by unfold i_talr; omega), if_neg (show ¬ i_talr j < 25 by unfold i_talr; omega), if_neg (show ¬ i_talr j < 32 by unfold i_talr; omega), if_neg (show ¬ i_talr j = 32 by unfold i_talr; omega), if_neg (show ¬ i_talr j = 33 by unfold i_talr; omega), if_neg (show ¬ i_talr j = 34 by unfold i_talr; omega), if_neg (show ¬ i_talr j = 35 by unfold i_talr; omega), if_pos (show i_talr j < 42 by unfold i_talr; omega)]
theorem zl_crossings : 42 < z_N := by decide
theorem zc_crossings {dA : Nat → ClassId} {ad : Nat → Nat} (f : Nat → Int32) : z_c dA ad 42 f = .inl (dA 3, 6, .inr (.inr (.inr (.inr (fun j => some (ad (i_cror j))))))) := rfl
theorem zl_crorow {j : Nat} (hj : j < 6) : (i_cror j) < z_N := by unfold i_cror z_N; omega
theorem zc_crorow {dA : Nat → ClassId} {ad : Nat → Nat} {j : Nat} (hj : j < 6) (f : Nat → Int32) : z_c dA ad (i_cror j) f = .inl (dA 0, 6, .inl f) := by
  unfold z_c
  rw [if_neg (show ¬ i_cror j = 0 by unfold i_cror; omega), if_neg (show ¬ i_cror j = 1 by unfold i_cror; omega), if_neg (show ¬ i_cror j = 2 by unfold i_cror; omega), if_neg (show ¬ i_cror j = 3 by unfold i_cror; omega), if_neg (show ¬ i_cror j < 12 by unfold i_cror; omega), if_neg (show ¬ i_cror j < 18 by unfold i_cror; omega), if_neg (show ¬ i_cror j < 25 by unfold i_cror; omega), if_neg (show ¬ i_cror j < 32 by unfold i_cror; omega), if_neg (show ¬ i_cror j = 32 by unfold i_cror; omega), if_neg (show ¬ i_cror j = 33 by unfold i_cror; omega), if_neg (show ¬ i_cror j = 34 by unfold i_cror; omega), if_neg (show ¬ i_cror j = 35 by unfold i_cror; omega), if_neg (show ¬ i_cror j < 42 by unfold i_cror; omega), if_neg (show ¬ i_cror j = 42 by unfold i_cror; omega), if_pos (show i_cror j < 49 by unfold i_cror; omega)]
theorem zl_Line : 49 < z_N := by decide
theorem zc_Line {dA : Nat → ClassId} {ad : Nat → Nat} (f : Nat → Int32) : z_c dA ad 49 f = .inr (7, [.ref (ad 50), .ref (ad 51), .int (f 2), .int (f 3)]) := rfl
theorem zl_placesX : 50 < z_N := by decide
theorem zc_placesX {dA : Nat → ClassId} {ad : Nat → Nat} (f : Nat → Int32) : z_c dA ad 50 f = .inl (dA 0, 12, .inl f) := rfl
theorem zl_placesY : 51 < z_N := by decide
theorem zc_placesY {dA : Nat → ClassId} {ad : Nat → Nat} (f : Nat → Int32) : z_c dA ad 51 f = .inl (dA 0, 12, .inl f) := rfl
theorem zl_Particle : 52 < z_N := by decide
theorem zc_Particle {dA : Nat → ClassId} {ad : Nat → Nat} (f : Nat → Int32) : z_c dA ad 52 f = .inr (8, [.int (f 0), .int (f 1), .int (f 2), .int (f 3), .int (f 4)]) := rfl
theorem zl_Model : 53 < z_N := by decide
theorem zc_Model {dA : Nat → ClassId} {ad : Nat → Nat} (f : Nat → Int32) : z_c dA ad 53 f = .inr (9, [.ref (ad 54), .ref (ad 55), .ref (ad 56), .ref (ad 57), .ref (ad 58), .ref (ad 59), .int (f 6), .ref (ad 60), .ref (ad 61), .ref (ad 62), .ref (ad 63), .ref (ad 64), .ref (ad 65), .int (f 13), .int (f 14), .long (f 15).toInt64, .ref (ad 66), .ref (ad 67), .ref (ad 68), .ref (ad 69), .ref (ad 70), .int (f 21), .int (f 22), .int (f 23), .int (f 24), .int (f 25), .int (f 26)]) := rfl
theorem zl_m_kind : 54 < z_N := by decide
theorem zc_m_kind {dA : Nat → ClassId} {ad : Nat → Nat} (f : Nat → Int32) : z_c dA ad 54 f = .inl (dA 0, 8, .inl f) := rfl
theorem zl_m_sa : 55 < z_N := by decide
theorem zc_m_sa {dA : Nat → ClassId} {ad : Nat → Nat} (f : Nat → Int32) : z_c dA ad 55 f = .inl (dA 0, 8, .inl f) := rfl
theorem zl_m_sb : 56 < z_N := by decide
theorem zc_m_sb {dA : Nat → ClassId} {ad : Nat → Nat} (f : Nat → Int32) : z_c dA ad 56 f = .inl (dA 0, 8, .inl f) := rfl
theorem zl_m_sc : 57 < z_N := by decide
theorem zc_m_sc {dA : Nat → ClassId} {ad : Nat → Nat} (f : Nat → Int32) : z_c dA ad 57 f = .inl (dA 0, 8, .inl f) := rfl
theorem zl_m_set : 58 < z_N := by decide
theorem zc_m_set {dA : Nat → ClassId} {ad : Nat → Nat} (f : Nat → Int32) : z_c dA ad 58 f = .inl (dA 4, 8, .inl f) := rfl
theorem zl_m_buffer : 59 < z_N := by decide
theorem zc_m_buffer {dA : Nat → ClassId} {ad : Nat → Nat} (f : Nat → Int32) : z_c dA ad 59 f = .inl (dA 0, 8, .inl f) := rfl
theorem zl_m_region : 60 < z_N := by decide
theorem zc_m_region {dA : Nat → ClassId} {ad : Nat → Nat} (f : Nat → Int32) : z_c dA ad 60 f = .inl (dA 0, 48, .inl f) := rfl
theorem zl_m_tokens : 61 < z_N := by decide
theorem zc_m_tokens {dA : Nat → ClassId} {ad : Nat → Nat} (f : Nat → Int32) : z_c dA ad 61 f = .inl (dA 0, 6, .inl f) := rfl
theorem zl_m_defined : 62 < z_N := by decide
theorem zc_m_defined {dA : Nat → ClassId} {ad : Nat → Nat} (f : Nat → Int32) : z_c dA ad 62 f = .inl (dA 4, 6, .inl f) := rfl
theorem zl_m_density : 63 < z_N := by decide
theorem zc_m_density {dA : Nat → ClassId} {ad : Nat → Nat} (f : Nat → Int32) : z_c dA ad 63 f = .inl (dA 0, 6, .inl f) := rfl
theorem zl_m_absorbs : 64 < z_N := by decide
theorem zc_m_absorbs {dA : Nat → ClassId} {ad : Nat → Nat} (f : Nat → Int32) : z_c dA ad 64 f = .inl (dA 0, 6, .inl f) := rfl
theorem zl_m_splits : 65 < z_N := by decide
theorem zc_m_splits {dA : Nat → ClassId} {ad : Nat → Nat} (f : Nat → Int32) : z_c dA ad 65 f = .inl (dA 0, 6, .inl f) := rfl
theorem zl_m_tallies : 66 < z_N := by decide
theorem zc_m_tallies {dA : Nat → ClassId} {ad : Nat → Nat} (f : Nat → Int32) : z_c dA ad 66 f = .inl (dA 0, 24, .inl f) := rfl
theorem zl_m_crossings : 67 < z_N := by decide
theorem zc_m_crossings {dA : Nat → ClassId} {ad : Nat → Nat} (f : Nat → Int32) : z_c dA ad 67 f = .inl (dA 0, 36, .inl f) := rfl
theorem zl_m_counts : 68 < z_N := by decide
theorem zc_m_counts {dA : Nat → ClassId} {ad : Nat → Nat} (f : Nat → Int32) : z_c dA ad 68 f = .inl (dA 0, 5, .inl f) := rfl
theorem zl_m_px : 69 < z_N := by decide
theorem zc_m_px {dA : Nat → ClassId} {ad : Nat → Nat} (f : Nat → Int32) : z_c dA ad 69 f = .inl (dA 0, 12, .inl f) := rfl
theorem zl_m_py : 70 < z_N := by decide
theorem zc_m_py {dA : Nat → ClassId} {ad : Nat → Nat} (f : Nat → Int32) : z_c dA ad 70 f = .inl (dA 0, 12, .inl f) := rfl
/-! the static tables of the class, which nobody writes -/
def z_A (base : Nat) : Nat → Prop := fun q => base ≤ q
def z_sX (j : Nat) : Int32 := [1, 1, 0, -1, -1, -1, 0, 1].getD j 0
def z_sY (j : Nat) : Int32 := [0, 1, 1, 1, 0, -1, -1, -1].getD j 0
def z_tab (nm : String) (g : Nat → Int32) (base : Nat) (U : State) : Prop := ∃ t : Nat, va_Z "CellTransport" nm "[I" (.ref t) (z_A base) U U.heap ∧ va_T .int t 8 (fun j => .int (g j)) (z_A base) U U.heap
def z_Z (base : Nat) (U : State) : Prop := z_tab "STEP_X" z_sX base U ∧ z_tab "STEP_Y" z_sY base U
theorem z_tab_moved {nm : String} {g : Nat → Int32} {base : Nat} {u U : State} (ha : u.vm.Alike U.vm) (hq : ∀ a : Nat, a < u.heap.size → ¬ z_A base a → U.heap[a]? = u.heap[a]?) (h : z_tab nm g base u) : z_tab nm g base U := by
  obtain ⟨t, h1, h2⟩ := h
  exact ⟨t, (va_Z.moved ha h1).kept hq, (va_T.moved ha h2).kept hq⟩
theorem z_Z_moved {base : Nat} {u U : State} (ha : u.vm.Alike U.vm) (hq : ∀ a : Nat, a < u.heap.size → ¬ z_A base a → U.heap[a]? = u.heap[a]?) (h : z_Z base u) : z_Z base U := ⟨z_tab_moved ha hq h.1, z_tab_moved ha hq h.2⟩
section ZN
variable {p : Program} {l : Launch} {e : Env} {R : Room} {s : State} {m : MethodId} {args : Array Value} {below : List Frame} {meth : Method} {c : Code} {H : Heap} {locs : List Loc} {cells slots : Nat} {Q : State → Prop}
variable {cc : ByteArray} {pc : Nat} {ls : Array Slot} {rest : List Value} {D : va_G} {cl : List vw_C} {A : Nat → Prop} {a : Nat} {tys : List (ClassId × FieldType)} {ws : va_W}
/-- aaload out of an array of arrays -/
theorem z_aldqA (hx : p.tables.exec = Jvm.exec) (hb : c.code = cc) (hK : va_K D cl tys s) (hP : va_P D cl ws H) (q0 t0 : Nat) {cA : ClassId} {tx : FieldType} {n : Nat} {f : Nat → Option Nat} (ha : ws[q0]? = some (a, .inl (cA, n, .inr (.inr (.inr (.inr f)))))) (ht : tys[t0]? = some (cA, .array tx)) {i : Int32} (hin : vp_in i n) (hdg : decode cc pc = .ok (.aaload, 1))
    (kk : W p l e R s m args below meth c H locs cells slots Q (F0 m (pc + 1) ls (va_rf (f i.toNatClampNeg) :: rest))) : W p l e R s m args below meth c H locs cells slots Q (F0 m pc ls (.int i :: .ref a :: rest)) := by
  have hlt : i.toNatClampNeg < n := Nat.not_le.mp fun q => hin (Or.inr q)
  refine W.aald (v := va_rf (f i.toNatClampNeg)) (ty := .array tx) hx hb (hP q0 _ ha) ((hK.2 t0 _ ht).1 n (fun j => va_rf (f j))) rfl (fun q => by cases q) ?_ ?_ rfl rfl hdg kk
  · show ¬ (i < 0 ∨ (arrV _ _ _).slots.size ≤ _)
    rw [arrV_size]
    exact hin
  · show (arrV _ _ _).slots[_]? = _
    rw [arrV_read _ _ hlt]
/-- getstatic of a private static of the nest's host -/
theorem z_getsN (hx : p.tables.exec = Jvm.exec) (hb : c.code = cc) {C n d own host : String} {v : Value} {index : Nat} (hZ : va_Z C n d v A s s.heap) (hS : va_S A s.heap H locs) (hown : s.vm.findClass own = some m.cls) (hlink : (Cond.fieldLinkNest own index C n d host).before args s = true) (hdg : decode cc pc = .ok (.getstatic index, 3))
    (kk : W p l e R s m args below meth c H locs cells slots Q (F0 m (pc + 3) ls (v :: rest))) : W p l e R s m args below meth c H locs cells slots Q (F0 m pc ls rest) := by
  obtain ⟨cf, kf, fi, f, a, cell, h1, h2, h3, h4, h5, h6, h7, h8⟩ := hZ
  intro T hT X
  have hcell : T.heap[a]? = some cell := by
    rw [hT, hS.2.1 a (Array.getElem?_eq_some_iff.mp h5).1 h8]
    exact h5
  obtain ⟨vm2, X2, st2⟩ := X.getstaticNest hx hown hlink h1 h2 h3 h4 hcell (fun e => by rw [e] at h6; cases h6) h7 (g := F0 m pc ls rest) rfl (by rw [hb]; exact hdg)
  obtain ⟨t, a1, b1⟩ := kk (T.setVm vm2) hT X2
  exact ⟨t, st2 t a1, b1⟩
end ZN
end
section

/-! ===== THE LAYER: one memory of ints for all cells (class and reference), fixed shape z_c; the judgement z_X; a row an instruction ===== -/
abbrev z_M : Type := Nat → Nat → Int32
def z_sv (M : z_M) (k j : Nat) (v : Int32) : z_M := va_up M k (upd (M k) j v)
theorem z_sv_self (M : z_M) (k j : Nat) (v : Int32) : z_sv M k j v k j = v := by simp [z_sv, va_up, upd]
theorem z_sv_row (M : z_M) {k a : Nat} (j : Nat) (v : Int32) (h : a ≠ k) : z_sv M k j v a = M a := by simp [z_sv, va_up, h]
theorem z_sv_at (M : z_M) (k j a b : Nat) (v : Int32) : z_sv M k j v a b = if a = k ∧ b = j then v else M a b := by
  by_cases h : a = k
  · subst h
    by_cases h2 : b = j <;> simp [z_sv, va_up, upd, h2]
  · simp [z_sv, va_up, h]
def z_W (dA : Nat → ClassId) (ad : Nat → Nat) (M : z_M) : va_W := (List.range z_N).map (fun k => (ad k, z_c dA ad k (M k)))
theorem z_W_get {dA : Nat → ClassId} {ad : Nat → Nat} {M : z_M} {i : Nat} (hi : i < z_N) : (z_W dA ad M)[i]? = some (ad i, z_c dA ad i (M i)) := by
  simp [z_W, hi]
theorem z_W_out {dA : Nat → ClassId} {ad : Nat → Nat} {M : z_M} {i : Nat} {q : Nat × va_E} (h : (z_W dA ad M)[i]? = some q) : i < z_N ∧ q = (ad i, z_c dA ad i (M i)) := by
  have hl : i < z_N := by
    have := (List.getElem?_eq_some_iff.mp h).1
    simpa [z_W] using this
  rw [z_W_get hl] at h
  exact ⟨hl, (Option.some.inj h).symm⟩
theorem z_W_set {dA : Nat → ClassId} {ad : Nat → Nat} {M M1 : z_M} {i : Nat} {e : va_E} (h0 : z_c dA ad i (M1 i) = e) (h1 : ∀ a, a ≠ i → M1 a = M a) : (z_W dA ad M).set i (ad i, e) = z_W dA ad M1 := by
  apply List.ext_getElem?
  intro n
  rw [List.getElem?_set]
  by_cases hn : i = n
  · subst hn
    by_cases hl : i < z_N
    · simp [z_W, hl, h0]
    · simp [z_W, hl]
  · rw [if_neg hn]
    by_cases hl : n < z_N
    · rw [z_W_get hl, z_W_get hl, h1 n (fun q => hn q.symm)]
    · simp [z_W, hl]
def z_apart (ad : Nat → Nat) (base : Nat) : Prop := (∀ i j, i < z_N → j < z_N → ad i = ad j → i = j) ∧ ∀ i, i < z_N → base ≤ ad i
theorem z_W_D {dA : Nat → ClassId} {ad : Nat → Nat} {M : z_M} {base : Nat} (h : z_apart ad base) : va_D (z_A base) (z_W dA ad M) := by
  refine ⟨fun i j x y hi hj hxy => ?_, fun k q hk => ?_⟩
  · obtain ⟨h1, rfl⟩ := z_W_out hi
    obtain ⟨h2, rfl⟩ := z_W_out hj
    exact h.1 i j h1 h2 hxy
  · obtain ⟨h1, rfl⟩ := z_W_out hk
    exact h.2 k h1
-- locals
def z_rd (lv : List (Option Value)) (i : Nat) : Option Value := match lv[i]? with
  | some o => o
  | none => none
def z_l (lv : List (Option Value)) : List (Nat × Value) := (List.range lv.length).filterMap (fun i => (z_rd lv i).map (fun v => (i, v)))
theorem z_l_mem {lv : List (Option Value)} {q : Nat × Value} : q ∈ z_l lv ↔ z_rd lv q.1 = some q.2 := by
  unfold z_l
  rw [List.mem_filterMap]
  constructor
  · rintro ⟨i, -, h⟩
    cases hr : z_rd lv i with
    | none => rw [hr] at h; cases h
    | some v => rw [hr] at h; cases h; exact hr
  · intro h
    refine ⟨q.1, ?_, by rw [h]; rfl⟩
    rw [List.mem_range]
    refine Nat.lt_of_not_le fun hle => ?_
    simp [z_rd, List.getElem?_eq_none hle] at h
theorem z_at {ls : Array Slot} {nL : Nat} {lv : List (Option Value)} (h : lv_has ls nL (z_l lv)) {i : Nat} {v : Value} (hv : z_rd lv i = some v) : ls[i]? = some (.val v) := h.2.2 (i, v) (z_l_mem.mpr hv)
def z_ok (lv : List (Option Value)) (i : Nat) : Bool := match i with
  | 0 => true
  | j + 1 => match z_rd lv j with
    | some v => v.category == 1
    | none => true
theorem z_l_store {ls : Array Slot} {nL : Nat} {lv : List (Option Value)} {i : Nat} {v : Value} (hi : i < lv.length) (hok : z_ok lv i = true)
    (h : lv_has ls nL ((i, v) :: (z_l lv).filter (fun q => !(q.1 == i) && !(q.1 + 1 == i && q.2.category == 2)))) : lv_has ls nL (z_l (lv.set i (some v))) := by
  refine ⟨h.1, h.2.1, fun q hq => h.2.2 q ?_⟩
  rw [z_l_mem] at hq
  obtain ⟨a, w⟩ := q
  by_cases e : a = i
  · subst e
    simp [z_rd, List.getElem?_set, hi] at hq
    subst hq
    exact List.mem_cons_self
  · refine List.mem_cons_of_mem _ (List.mem_filter.mpr ⟨z_l_mem.mpr ?_, ?_⟩)
    · have e2 : ¬ i = a := fun q => e q.symm
      simpa [z_rd, List.getElem?_set, e2] using hq
    · have e2 : ¬ i = a := fun q => e q.symm
      have hr : z_rd lv a = some w := by simpa [z_rd, List.getElem?_set, e2] using hq
      by_cases e3 : a + 1 = i
      · subst e3
        have hc : w.category = 1 := by simpa [z_ok, hr] using hok
        simp [hc]
      · simp [e, e3]
def z_bd (lv : List (Option Value)) (i n : Nat) : Bool := Nat.blt i n && (Nat.blt i lv.length && z_ok lv i)
theorem z_bd_of {lv : List (Option Value)} {i n : Nat} (h : z_bd lv i n = true) : i < n ∧ i < lv.length ∧ z_ok lv i = true := by
  unfold z_bd at h
  rw [Bool.and_eq_true, Bool.and_eq_true] at h
  exact ⟨Nat.lt_of_lt_of_le (Nat.lt_succ_self i) (Nat.le_of_ble_eq_true h.1), Nat.lt_of_lt_of_le (Nat.lt_succ_self i) (Nat.le_of_ble_eq_true h.2.1), h.2.2⟩
-- the environment, at a state
def z_use (w : Cond) : Bool := w.onTables && w.keepsH
def z_T : List Cond := lw_tbl.filter z_use
theorem z_T_mem {w : Cond} (h : w ∈ lw_tbl) (hu : z_use w = true) : w ∈ z_T := List.mem_filter.mpr ⟨h, hu⟩
def z_E (dA : Nat → ClassId) (ad : Nat → Nat) (D : va_G) (base : Nat) (U : State) : Prop :=
  va_K D z_cl (z_tys dA) U ∧ z_apart ad base ∧ base ≤ U.heap.size ∧ (∀ w ∈ z_T, va_Nw w U) ∧ z_Z base U
theorem z_E_same {dA : Nat → ClassId} {ad : Nat → Nat} {D : va_G} {base : Nat} {U U' : State} (hh : U'.heap = U.heap) (hv : U.vm = U'.vm) (h : z_E dA ad D base U) : z_E dA ad D base U' := by
  obtain ⟨h1, h2, h3, h4, h5⟩ := h
  have ha : U.vm.Alike U'.vm := hv ▸ Vm.Alike.refl U.vm
  refine ⟨va_K.moved ha h1, h2, by rw [hh]; exact h3, fun w hw => ?_, z_Z_moved ha (fun a _ _ => by rw [hh]) h5⟩
  have hu := (List.mem_filter.mp hw).2
  unfold z_use at hu
  rw [Bool.and_eq_true] at hu
  exact va_Nw.same hu.1 hv (h4 w hw)
theorem z_E_warm {dA : Nat → ClassId} {ad : Nat → Nat} {D : va_G} {base : Nat} {s U : State} {H : Heap} {locs : List Loc} (h : z_E dA ad D base s) (hU : U.heap = H) (hS : va_S (z_A base) s.heap H locs) (hW : s.WarmedH U.vm) : z_E dA ad D base U := by
  obtain ⟨h1, h2, h3, h4, h5⟩ := h
  refine ⟨va_K.moved hW.alike h1, h2, by rw [hU]; exact Nat.le_trans h3 hS.1, fun w hw => ?_, z_Z_moved hW.alike (fun a h1 h2 => by rw [hU]; exact hS.2.1 a h1 h2) h5⟩
  have hu := (List.mem_filter.mp hw).2
  unfold z_use at hu
  rw [Bool.and_eq_true] at hu
  exact Cond.onTables_warmH (T := U) hW hu.1 hu.2 (h4 w hw)
theorem z_w {dA : Nat → ClassId} {ad : Nat → Nat} {D : va_G} {base : Nat} {s : State} (h : z_E dA ad D base s) {w : Cond} (hw : w ∈ z_T) {args : Array Value} : w.before args s = true := by
  have hu := (List.mem_filter.mp hw).2
  unfold z_use at hu
  rw [Bool.and_eq_true] at hu
  exact va_Nw.use hu.1 (h.2.2.2.1 w hw)
abbrev z_K : Type := Program × Launch × Env × Room × State × MethodId × Array Value × List Frame × Method × Code × va_G × Nat × Nat × Nat × Nat × (State → Prop)
def z_X (dA : Nat → ClassId) (ad : Nat → Nat) (k : z_K) (pc : Nat) (lv : List (Option Value)) (st : List Value) (M : z_M) : Prop := match k with
  | (p, l, e, R, s, m, args, below, meth, c, D, base, nL, cells, slots, Q) => ∀ (H : Heap) (locs : List Loc) (ls : Array Slot), va_P D z_cl (z_W dA ad M) H → va_S (z_A base) s.heap H locs → lv_has ls nL (z_l lv) → W p l e R s m args below meth c H locs cells slots Q (F0 m pc ls st)
def z_C (dA : Nat → ClassId) (ad : Nat → Nat) (k : z_K) (cc : ByteArray) (own : String) (d n : Nat) : Prop := match k with
  | (p, l, e, R, s, m, args, below, meth, c, D, base, nL, cells, slots, Q) => p.tables.exec = Jvm.exec ∧ c.code = cc ∧ (c.maxLocals = nL ∧ nL = n) ∧ s.vm.findClass own = some m.cls ∧ meth.locks = false ∧ (d ≤ R.frames ∧ 40 * d ≤ R.locals ∧ cells ≤ R.cells ∧ slots ≤ R.slots) ∧ z_E dA ad D base s
section ZL
variable {dA : Nat → ClassId} {ad : Nat → Nat} {k : z_K} {cc : ByteArray} {own : String} {d n pc : Nat} {lv : List (Option Value)} {st : List Value} {M : z_M}

theorem x_iconst (C : z_C dA ad k cc own d n) {n : Int} (v : Int32) (hdg : decode cc pc = .ok (.iconst n, 1)) (hv : Int32.ofInt n = v) (kk : z_X dA ad k (pc + 1) lv (.int v :: st) M) : z_X dA ad k pc lv (st) M := by
  obtain ⟨p, l, e, R, s, m, args, below, meth, c, D, base, nL, cells, slots, Q⟩ := k
  obtain ⟨hx, hb, ⟨hml, rfl⟩, hown, hlk, hrm, hE⟩ := C
  intro H locs ls hP hS hl
  exact lv_iconst hx hb hdg hv (kk H locs ls hP hS hl)

theorem x_bipush (C : z_C dA ad k cc own d n) {n : Int} (v : Int32) (hdg : decode cc pc = .ok (.bipush n, 2)) (hv : (Int8.ofInt n).toInt32 = v) (kk : z_X dA ad k (pc + 2) lv (.int v :: st) M) : z_X dA ad k pc lv (st) M := by
  obtain ⟨p, l, e, R, s, m, args, below, meth, c, D, base, nL, cells, slots, Q⟩ := k
  obtain ⟨hx, hb, ⟨hml, rfl⟩, hown, hlk, hrm, hE⟩ := C
  intro H locs ls hP hS hl
  exact lv_bipush hx hb hdg hv (kk H locs ls hP hS hl)

theorem x_sipush (C : z_C dA ad k cc own d n) {n : Int} (v : Int32) (hdg : decode cc pc = .ok (.sipush n, 3)) (hv : (Int16.ofInt n).toInt32 = v) (kk : z_X dA ad k (pc + 3) lv (.int v :: st) M) : z_X dA ad k pc lv (st) M := by
  obtain ⟨p, l, e, R, s, m, args, below, meth, c, D, base, nL, cells, slots, Q⟩ := k
  obtain ⟨hx, hb, ⟨hml, rfl⟩, hown, hlk, hrm, hE⟩ := C
  intro H locs ls hP hS hl
  exact lv_sipush hx hb hdg hv (kk H locs ls hP hS hl)

theorem x_ldc (C : z_C dA ad k cc own d n) {index : Nat} (v : Int32) (hdg : decode cc pc = .ok (.ldc index, 2)) (hw : Cond.constant own index v ∈ z_T) (kk : z_X dA ad k (pc + 2) lv (.int v :: st) M) : z_X dA ad k pc lv (st) M := by
  obtain ⟨p, l, e, R, s, m, args, below, meth, c, D, base, nL, cells, slots, Q⟩ := k
  obtain ⟨hx, hb, ⟨hml, rfl⟩, hown, hlk, hrm, hE⟩ := C
  intro H locs ls hP hS hl
  exact lv_ldc hx hb hown (z_w hE hw) hdg (kk H locs ls hP hS hl)

theorem x_iload_n (C : z_C dA ad k cc own d n) {n4 : Fin 4} {i : Nat} {x : Int32} (hdg : decode cc pc = .ok (.iload_n n4, 1)) (hi : (n4 : Nat) = i) (hv : z_rd lv i = some (.int x)) (kk : z_X dA ad k (pc + 1) lv (.int x :: st) M) : z_X dA ad k pc lv (st) M := by
  obtain ⟨p, l, e, R, s, m, args, below, meth, c, D, base, nL, cells, slots, Q⟩ := k
  obtain ⟨hx, hb, ⟨hml, rfl⟩, hown, hlk, hrm, hE⟩ := C
  intro H locs ls hP hS hl
  exact lv_iload_n hx hb hdg hi (z_at hl hv) (kk H locs ls hP hS hl)

theorem x_iload (C : z_C dA ad k cc own d n) {i : Nat} {x : Int32} (hdg : decode cc pc = .ok (.iload i, 2)) (hv : z_rd lv i = some (.int x)) (kk : z_X dA ad k (pc + 2) lv (.int x :: st) M) : z_X dA ad k pc lv (st) M := by
  obtain ⟨p, l, e, R, s, m, args, below, meth, c, D, base, nL, cells, slots, Q⟩ := k
  obtain ⟨hx, hb, ⟨hml, rfl⟩, hown, hlk, hrm, hE⟩ := C
  intro H locs ls hP hS hl
  exact lv_iload hx hb hdg (z_at hl hv) (kk H locs ls hP hS hl)

theorem x_istore_n (C : z_C dA ad k cc own d n) {n4 : Fin 4} {i : Nat} {x : Int32} (hdg : decode cc pc = .ok (.istore_n n4, 1)) (hi : (n4 : Nat) = i) (hbd : z_bd lv i n = true) (kk : z_X dA ad k (pc + 1) (lv.set i (some (.int x))) (st) M) : z_X dA ad k pc lv (.int x :: st) M := by
  obtain ⟨p, l, e, R, s, m, args, below, meth, c, D, base, nL, cells, slots, Q⟩ := k
  obtain ⟨hx, hb, ⟨hml, rfl⟩, hown, hlk, hrm, hE⟩ := C
  intro H locs ls hP hS hl
  exact lv_istore_n hx hb hdg hi hl (z_bd_of hbd).1 rfl (fun ls2 hl2 => kk H locs ls2 hP hS (z_l_store (z_bd_of hbd).2.1 (z_bd_of hbd).2.2 hl2))

theorem x_istore (C : z_C dA ad k cc own d n) {i : Nat} {x : Int32} (hdg : decode cc pc = .ok (.istore i, 2)) (hbd : z_bd lv i n = true) (kk : z_X dA ad k (pc + 2) (lv.set i (some (.int x))) (st) M) : z_X dA ad k pc lv (.int x :: st) M := by
  obtain ⟨p, l, e, R, s, m, args, below, meth, c, D, base, nL, cells, slots, Q⟩ := k
  obtain ⟨hx, hb, ⟨hml, rfl⟩, hown, hlk, hrm, hE⟩ := C
  intro H locs ls hP hS hl
  exact lv_istore hx hb hdg hl (z_bd_of hbd).1 rfl (fun ls2 hl2 => kk H locs ls2 hP hS (z_l_store (z_bd_of hbd).2.1 (z_bd_of hbd).2.2 hl2))

theorem x_aload_n (C : z_C dA ad k cc own d n) {n4 : Fin 4} {i : Nat} {x : Nat} (hdg : decode cc pc = .ok (.aload_n n4, 1)) (hi : (n4 : Nat) = i) (hv : z_rd lv i = some (.ref x)) (kk : z_X dA ad k (pc + 1) lv (.ref x :: st) M) : z_X dA ad k pc lv (st) M := by
  obtain ⟨p, l, e, R, s, m, args, below, meth, c, D, base, nL, cells, slots, Q⟩ := k
  obtain ⟨hx, hb, ⟨hml, rfl⟩, hown, hlk, hrm, hE⟩ := C
  intro H locs ls hP hS hl
  exact lv_aload_n hx hb hdg hi (z_at hl hv) (kk H locs ls hP hS hl)

theorem x_aload (C : z_C dA ad k cc own d n) {i : Nat} {x : Nat} (hdg : decode cc pc = .ok (.aload i, 2)) (hv : z_rd lv i = some (.ref x)) (kk : z_X dA ad k (pc + 2) lv (.ref x :: st) M) : z_X dA ad k pc lv (st) M := by
  obtain ⟨p, l, e, R, s, m, args, below, meth, c, D, base, nL, cells, slots, Q⟩ := k
  obtain ⟨hx, hb, ⟨hml, rfl⟩, hown, hlk, hrm, hE⟩ := C
  intro H locs ls hP hS hl
  exact lv_aload hx hb hdg (z_at hl hv) (kk H locs ls hP hS hl)

theorem x_astore_n (C : z_C dA ad k cc own d n) {n4 : Fin 4} {i : Nat} {x : Nat} (hdg : decode cc pc = .ok (.astore_n n4, 1)) (hi : (n4 : Nat) = i) (hbd : z_bd lv i n = true) (kk : z_X dA ad k (pc + 1) (lv.set i (some (.ref x))) (st) M) : z_X dA ad k pc lv (.ref x :: st) M := by
  obtain ⟨p, l, e, R, s, m, args, below, meth, c, D, base, nL, cells, slots, Q⟩ := k
  obtain ⟨hx, hb, ⟨hml, rfl⟩, hown, hlk, hrm, hE⟩ := C
  intro H locs ls hP hS hl
  exact lv_astore_n hx hb hdg hi hl (z_bd_of hbd).1 rfl (fun ls2 hl2 => kk H locs ls2 hP hS (z_l_store (z_bd_of hbd).2.1 (z_bd_of hbd).2.2 hl2))

theorem x_astore (C : z_C dA ad k cc own d n) {i : Nat} {x : Nat} (hdg : decode cc pc = .ok (.astore i, 2)) (hbd : z_bd lv i n = true) (kk : z_X dA ad k (pc + 2) (lv.set i (some (.ref x))) (st) M) : z_X dA ad k pc lv (.ref x :: st) M := by
  obtain ⟨p, l, e, R, s, m, args, below, meth, c, D, base, nL, cells, slots, Q⟩ := k
  obtain ⟨hx, hb, ⟨hml, rfl⟩, hown, hlk, hrm, hE⟩ := C
  intro H locs ls hP hS hl
  exact lv_astore hx hb hdg hl (z_bd_of hbd).1 rfl (fun ls2 hl2 => kk H locs ls2 hP hS (z_l_store (z_bd_of hbd).2.1 (z_bd_of hbd).2.2 hl2))

theorem z_place {lv : List (Option Value)} {i : Nat} {v : Value} (h : z_rd lv i = some v) : ∃ q : Nat, (z_l lv)[q]? = some (i, v) := List.getElem?_of_mem (z_l_mem.mpr h)

theorem x_iinc (C : z_C dA ad k cc own d n) {i : Nat} {z : Int} {x : Int32} (v : Int32) (hdg : decode cc pc = .ok (.iinc i z, 3)) (hr : z_rd lv i = some (.int x)) (hv : x + Int32.ofInt z = v) (hbd : z_bd lv i n = true) (kk : z_X dA ad k (pc + 3) (lv.set i (some (.int v))) (st) M) : z_X dA ad k pc lv (st) M := by
  obtain ⟨p, l, e, R, s, m, args, below, meth, c, D, base, nL, cells, slots, Q⟩ := k
  obtain ⟨hx, hb, ⟨hml, rfl⟩, hown, hlk, hrm, hE⟩ := C
  intro H locs ls hP hS hl
  obtain ⟨q, hq⟩ := z_place hr
  exact lv_iinc hx hb hdg hl hq hv (z_bd_of hbd).1 rfl (fun ls2 hl2 => kk H locs ls2 hP hS (z_l_store (z_bd_of hbd).2.1 (z_bd_of hbd).2.2 hl2))

theorem x_iadd (C : z_C dA ad k cc own d n) {x y : Int32} (hdg : decode cc pc = .ok (.iadd, 1)) (kk : z_X dA ad k (pc + 1) lv (.int (x + y) :: st) M) : z_X dA ad k pc lv (.int y :: .int x :: st) M := by
  obtain ⟨p, l, e, R, s, m, args, below, meth, c, D, base, nL, cells, slots, Q⟩ := k
  obtain ⟨hx, hb, ⟨hml, rfl⟩, hown, hlk, hrm, hE⟩ := C
  intro H locs ls hP hS hl
  exact lv_iadd hx hb hdg (kk H locs ls hP hS hl)

theorem x_isub (C : z_C dA ad k cc own d n) {x y : Int32} (hdg : decode cc pc = .ok (.isub, 1)) (kk : z_X dA ad k (pc + 1) lv (.int (x - y) :: st) M) : z_X dA ad k pc lv (.int y :: .int x :: st) M := by
  obtain ⟨p, l, e, R, s, m, args, below, meth, c, D, base, nL, cells, slots, Q⟩ := k
  obtain ⟨hx, hb, ⟨hml, rfl⟩, hown, hlk, hrm, hE⟩ := C
  intro H locs ls hP hS hl
  exact lv_isub hx hb hdg (kk H locs ls hP hS hl)

theorem x_imul (C : z_C dA ad k cc own d n) {x y : Int32} (hdg : decode cc pc = .ok (.imul, 1)) (kk : z_X dA ad k (pc + 1) lv (.int (x * y) :: st) M) : z_X dA ad k pc lv (.int y :: .int x :: st) M := by
  obtain ⟨p, l, e, R, s, m, args, below, meth, c, D, base, nL, cells, slots, Q⟩ := k
  obtain ⟨hx, hb, ⟨hml, rfl⟩, hown, hlk, hrm, hE⟩ := C
  intro H locs ls hP hS hl
  exact lv_imul hx hb hdg (kk H locs ls hP hS hl)

theorem x_iand (C : z_C dA ad k cc own d n) {x y : Int32} (hdg : decode cc pc = .ok (.iand, 1)) (kk : z_X dA ad k (pc + 1) lv (.int (x &&& y) :: st) M) : z_X dA ad k pc lv (.int y :: .int x :: st) M := by
  obtain ⟨p, l, e, R, s, m, args, below, meth, c, D, base, nL, cells, slots, Q⟩ := k
  obtain ⟨hx, hb, ⟨hml, rfl⟩, hown, hlk, hrm, hE⟩ := C
  intro H locs ls hP hS hl
  exact lv_iand hx hb hdg (kk H locs ls hP hS hl)

theorem x_ior (C : z_C dA ad k cc own d n) {x y : Int32} (hdg : decode cc pc = .ok (.ior, 1)) (kk : z_X dA ad k (pc + 1) lv (.int (x ||| y) :: st) M) : z_X dA ad k pc lv (.int y :: .int x :: st) M := by
  obtain ⟨p, l, e, R, s, m, args, below, meth, c, D, base, nL, cells, slots, Q⟩ := k
  obtain ⟨hx, hb, ⟨hml, rfl⟩, hown, hlk, hrm, hE⟩ := C
  intro H locs ls hP hS hl
  exact lv_ior hx hb hdg (kk H locs ls hP hS hl)

theorem x_ixor (C : z_C dA ad k cc own d n) {x y : Int32} (hdg : decode cc pc = .ok (.ixor, 1)) (kk : z_X dA ad k (pc + 1) lv (.int (x ^^^ y) :: st) M) : z_X dA ad k pc lv (.int y :: .int x :: st) M := by
  obtain ⟨p, l, e, R, s, m, args, below, meth, c, D, base, nL, cells, slots, Q⟩ := k
  obtain ⟨hx, hb, ⟨hml, rfl⟩, hown, hlk, hrm, hE⟩ := C
  intro H locs ls hP hS hl
  exact lv_ixor hx hb hdg (kk H locs ls hP hS hl)

theorem x_idiv (C : z_C dA ad k cc own d n) {x y : Int32} (hdg : decode cc pc = .ok (.idiv, 1)) (hne : ¬ y = 0) (kk : z_X dA ad k (pc + 1) lv (.int (x / y) :: st) M) : z_X dA ad k pc lv (.int y :: .int x :: st) M := by
  obtain ⟨p, l, e, R, s, m, args, below, meth, c, D, base, nL, cells, slots, Q⟩ := k
  obtain ⟨hx, hb, ⟨hml, rfl⟩, hown, hlk, hrm, hE⟩ := C
  intro H locs ls hP hS hl
  exact lv_idiv hx hb hdg hne (kk H locs ls hP hS hl)

theorem x_irem (C : z_C dA ad k cc own d n) {x y : Int32} (hdg : decode cc pc = .ok (.irem, 1)) (hne : ¬ y = 0) (kk : z_X dA ad k (pc + 1) lv (.int (x - x / y * y) :: st) M) : z_X dA ad k pc lv (.int y :: .int x :: st) M := by
  obtain ⟨p, l, e, R, s, m, args, below, meth, c, D, base, nL, cells, slots, Q⟩ := k
  obtain ⟨hx, hb, ⟨hml, rfl⟩, hown, hlk, hrm, hE⟩ := C
  intro H locs ls hP hS hl
  exact lv_irem hx hb hdg hne (kk H locs ls hP hS hl)

theorem x_ineg (C : z_C dA ad k cc own d n) {x : Int32} (hdg : decode cc pc = .ok (.ineg, 1)) (kk : z_X dA ad k (pc + 1) lv (.int (-x) :: st) M) : z_X dA ad k pc lv (.int x :: st) M := by
  obtain ⟨p, l, e, R, s, m, args, below, meth, c, D, base, nL, cells, slots, Q⟩ := k
  obtain ⟨hx, hb, ⟨hml, rfl⟩, hown, hlk, hrm, hE⟩ := C
  intro H locs ls hP hS hl
  exact lv_ineg hx hb hdg (kk H locs ls hP hS hl)

theorem x_ishl (C : z_C dA ad k cc own d n) {x y : Int32} (hdg : decode cc pc = .ok (.ishl, 1)) (kk : z_X dA ad k (pc + 1) lv (.int (x <<< (y &&& 31)) :: st) M) : z_X dA ad k pc lv (.int y :: .int x :: st) M := by
  obtain ⟨p, l, e, R, s, m, args, below, meth, c, D, base, nL, cells, slots, Q⟩ := k
  obtain ⟨hx, hb, ⟨hml, rfl⟩, hown, hlk, hrm, hE⟩ := C
  intro H locs ls hP hS hl
  exact lv_ishl hx hb hdg (kk H locs ls hP hS hl)

theorem x_ishr (C : z_C dA ad k cc own d n) {x y : Int32} (hdg : decode cc pc = .ok (.ishr, 1)) (kk : z_X dA ad k (pc + 1) lv (.int (x >>> (y &&& 31)) :: st) M) : z_X dA ad k pc lv (.int y :: .int x :: st) M := by
  obtain ⟨p, l, e, R, s, m, args, below, meth, c, D, base, nL, cells, slots, Q⟩ := k
  obtain ⟨hx, hb, ⟨hml, rfl⟩, hown, hlk, hrm, hE⟩ := C
  intro H locs ls hP hS hl
  exact lv_ishr hx hb hdg (kk H locs ls hP hS hl)

theorem x_dup (C : z_C dA ad k cc own d n) {va : Value} (hdg : decode cc pc = .ok (.dup, 1)) (hva : va.category = 1) (kk : z_X dA ad k (pc + 1) lv (va :: va :: st) M) : z_X dA ad k pc lv (va :: st) M := by
  obtain ⟨p, l, e, R, s, m, args, below, meth, c, D, base, nL, cells, slots, Q⟩ := k
  obtain ⟨hx, hb, ⟨hml, rfl⟩, hown, hlk, hrm, hE⟩ := C
  intro H locs ls hP hS hl
  exact lv_dup hx hb hdg hva (kk H locs ls hP hS hl)

theorem x_pop (C : z_C dA ad k cc own d n) {va : Value} (hdg : decode cc pc = .ok (.pop, 1)) (hva : va.category = 1) (kk : z_X dA ad k (pc + 1) lv (st) M) : z_X dA ad k pc lv (va :: st) M := by
  obtain ⟨p, l, e, R, s, m, args, below, meth, c, D, base, nL, cells, slots, Q⟩ := k
  obtain ⟨hx, hb, ⟨hml, rfl⟩, hown, hlk, hrm, hE⟩ := C
  intro H locs ls hP hS hl
  exact lv_pop hx hb hdg hva (kk H locs ls hP hS hl)

theorem x_dup_x1 (C : z_C dA ad k cc own d n) {va vb : Value} (hdg : decode cc pc = .ok (.dup_x1, 1)) (hva : va.category = 1) (hvb : vb.category = 1) (kk : z_X dA ad k (pc + 1) lv (va :: vb :: va :: st) M) : z_X dA ad k pc lv (va :: vb :: st) M := by
  obtain ⟨p, l, e, R, s, m, args, below, meth, c, D, base, nL, cells, slots, Q⟩ := k
  obtain ⟨hx, hb, ⟨hml, rfl⟩, hown, hlk, hrm, hE⟩ := C
  intro H locs ls hP hS hl
  exact lv_dup_x1 hx hb hdg hva hvb (kk H locs ls hP hS hl)

theorem x_dup2 (C : z_C dA ad k cc own d n) {va vb : Value} (hdg : decode cc pc = .ok (.dup2, 1)) (hva : va.category = 1) (hvb : vb.category = 1) (kk : z_X dA ad k (pc + 1) lv (va :: vb :: va :: vb :: st) M) : z_X dA ad k pc lv (va :: vb :: st) M := by
  obtain ⟨p, l, e, R, s, m, args, below, meth, c, D, base, nL, cells, slots, Q⟩ := k
  obtain ⟨hx, hb, ⟨hml, rfl⟩, hown, hlk, hrm, hE⟩ := C
  intro H locs ls hP hS hl
  exact lv_dup2_11 hx hb hdg hva hvb (kk H locs ls hP hS hl)

theorem x_ladd (C : z_C dA ad k cc own d n) {x y : Int64} (hdg : decode cc pc = .ok (.ladd, 1)) (kk : z_X dA ad k (pc + 1) lv (.long (x + y) :: st) M) : z_X dA ad k pc lv (.long y :: .long x :: st) M := by
  obtain ⟨p, l, e, R, s, m, args, below, meth, c, D, base, nL, cells, slots, Q⟩ := k
  obtain ⟨hx, hb, ⟨hml, rfl⟩, hown, hlk, hrm, hE⟩ := C
  intro H locs ls hP hS hl
  exact lv_ladd hx hb hdg (kk H locs ls hP hS hl)

theorem x_lmul (C : z_C dA ad k cc own d n) {x y : Int64} (hdg : decode cc pc = .ok (.lmul, 1)) (kk : z_X dA ad k (pc + 1) lv (.long (x * y) :: st) M) : z_X dA ad k pc lv (.long y :: .long x :: st) M := by
  obtain ⟨p, l, e, R, s, m, args, below, meth, c, D, base, nL, cells, slots, Q⟩ := k
  obtain ⟨hx, hb, ⟨hml, rfl⟩, hown, hlk, hrm, hE⟩ := C
  intro H locs ls hP hS hl
  exact lv_lmul hx hb hdg (kk H locs ls hP hS hl)

theorem x_ldiv (C : z_C dA ad k cc own d n) {x y : Int64} (hdg : decode cc pc = .ok (.ldiv, 1)) (hne : ¬ y = 0) (kk : z_X dA ad k (pc + 1) lv (.long (x / y) :: st) M) : z_X dA ad k pc lv (.long y :: .long x :: st) M := by
  obtain ⟨p, l, e, R, s, m, args, below, meth, c, D, base, nL, cells, slots, Q⟩ := k
  obtain ⟨hx, hb, ⟨hml, rfl⟩, hown, hlk, hrm, hE⟩ := C
  intro H locs ls hP hS hl
  exact lv_ldiv hx hb hdg hne (kk H locs ls hP hS hl)

theorem x_lrem (C : z_C dA ad k cc own d n) {x y : Int64} (hdg : decode cc pc = .ok (.lrem, 1)) (hne : ¬ y = 0) (kk : z_X dA ad k (pc + 1) lv (.long (x - x / y * y) :: st) M) : z_X dA ad k pc lv (.long y :: .long x :: st) M := by
  obtain ⟨p, l, e, R, s, m, args, below, meth, c, D, base, nL, cells, slots, Q⟩ := k
  obtain ⟨hx, hb, ⟨hml, rfl⟩, hown, hlk, hrm, hE⟩ := C
  intro H locs ls hP hS hl
  exact lv_lrem hx hb hdg hne (kk H locs ls hP hS hl)

theorem x_i2l (C : z_C dA ad k cc own d n) {x : Int32} (hdg : decode cc pc = .ok (.i2l, 1)) (kk : z_X dA ad k (pc + 1) lv (.long x.toInt64 :: st) M) : z_X dA ad k pc lv (.int x :: st) M := by
  obtain ⟨p, l, e, R, s, m, args, below, meth, c, D, base, nL, cells, slots, Q⟩ := k
  obtain ⟨hx, hb, ⟨hml, rfl⟩, hown, hlk, hrm, hE⟩ := C
  intro H locs ls hP hS hl
  exact lv_i2l hx hb hdg rfl (kk H locs ls hP hS hl)

theorem x_l2i (C : z_C dA ad k cc own d n) {x : Int64} (v : Int32) (hdg : decode cc pc = .ok (.l2i, 1)) (hv : x.toInt32 = v) (kk : z_X dA ad k (pc + 1) lv (.int v :: st) M) : z_X dA ad k pc lv (.long x :: st) M := by
  obtain ⟨p, l, e, R, s, m, args, below, meth, c, D, base, nL, cells, slots, Q⟩ := k
  obtain ⟨hx, hb, ⟨hml, rfl⟩, hown, hlk, hrm, hE⟩ := C
  intro H locs ls hP hS hl
  exact lv_l2i hx hb hdg hv (kk H locs ls hP hS hl)

theorem x_ldc2 (C : z_C dA ad k cc own d n) {index : Nat} (v : Int64) (hdg : decode cc pc = .ok (.ldc2_w index, 3)) (hw : Cond.constantLong own index v ∈ z_T) (kk : z_X dA ad k (pc + 3) lv (.long v :: st) M) : z_X dA ad k pc lv (st) M := by
  obtain ⟨p, l, e, R, s, m, args, below, meth, c, D, base, nL, cells, slots, Q⟩ := k
  obtain ⟨hx, hb, ⟨hml, rfl⟩, hown, hlk, hrm, hE⟩ := C
  intro H locs ls hP hS hl
  exact lv_ldc2 hx hb hown (z_w hE hw) hdg (kk H locs ls hP hS hl)

theorem x_if_eq (C : z_C dA ad k cc own d n) {x : Int32} {off : Int} (tgt : Nat) (hdg : decode cc pc = .ok (.ifCond .eq off, 3)) (ht : (pc : Int) + off = (tgt : Int)) (kt : x = 0 → z_X dA ad k tgt lv (st) M) (kf : ¬ x = 0 → z_X dA ad k (pc + 3) lv (st) M) : z_X dA ad k pc lv (.int x :: st) M := by
  obtain ⟨p, l, e, R, s, m, args, below, meth, c, D, base, nL, cells, slots, Q⟩ := k
  obtain ⟨hx, hb, ⟨hml, rfl⟩, hown, hlk, hrm, hE⟩ := C
  intro H locs ls hP hS hl
  exact lv_if_eq hx hb hdg ht (fun q => kt q H locs ls hP hS hl) (fun q => kf q H locs ls hP hS hl)

theorem x_if_ne (C : z_C dA ad k cc own d n) {x : Int32} {off : Int} (tgt : Nat) (hdg : decode cc pc = .ok (.ifCond .ne off, 3)) (ht : (pc : Int) + off = (tgt : Int)) (kt : ¬ x = 0 → z_X dA ad k tgt lv (st) M) (kf : x = 0 → z_X dA ad k (pc + 3) lv (st) M) : z_X dA ad k pc lv (.int x :: st) M := by
  obtain ⟨p, l, e, R, s, m, args, below, meth, c, D, base, nL, cells, slots, Q⟩ := k
  obtain ⟨hx, hb, ⟨hml, rfl⟩, hown, hlk, hrm, hE⟩ := C
  intro H locs ls hP hS hl
  exact lv_if_ne hx hb hdg ht (fun q => kt q H locs ls hP hS hl) (fun q => kf q H locs ls hP hS hl)

theorem x_if_lt (C : z_C dA ad k cc own d n) {x : Int32} {off : Int} (tgt : Nat) (hdg : decode cc pc = .ok (.ifCond .lt off, 3)) (ht : (pc : Int) + off = (tgt : Int)) (kt : x < 0 → z_X dA ad k tgt lv (st) M) (kf : ¬ x < 0 → z_X dA ad k (pc + 3) lv (st) M) : z_X dA ad k pc lv (.int x :: st) M := by
  obtain ⟨p, l, e, R, s, m, args, below, meth, c, D, base, nL, cells, slots, Q⟩ := k
  obtain ⟨hx, hb, ⟨hml, rfl⟩, hown, hlk, hrm, hE⟩ := C
  intro H locs ls hP hS hl
  exact lv_if_lt hx hb hdg ht (fun q => kt q H locs ls hP hS hl) (fun q => kf q H locs ls hP hS hl)

theorem x_if_ge (C : z_C dA ad k cc own d n) {x : Int32} {off : Int} (tgt : Nat) (hdg : decode cc pc = .ok (.ifCond .ge off, 3)) (ht : (pc : Int) + off = (tgt : Int)) (kt : 0 ≤ x → z_X dA ad k tgt lv (st) M) (kf : ¬ 0 ≤ x → z_X dA ad k (pc + 3) lv (st) M) : z_X dA ad k pc lv (.int x :: st) M := by
  obtain ⟨p, l, e, R, s, m, args, below, meth, c, D, base, nL, cells, slots, Q⟩ := k
  obtain ⟨hx, hb, ⟨hml, rfl⟩, hown, hlk, hrm, hE⟩ := C
  intro H locs ls hP hS hl
  exact lv_if_ge hx hb hdg ht (fun q => kt q H locs ls hP hS hl) (fun q => kf q H locs ls hP hS hl)

theorem x_if_gt (C : z_C dA ad k cc own d n) {x : Int32} {off : Int} (tgt : Nat) (hdg : decode cc pc = .ok (.ifCond .gt off, 3)) (ht : (pc : Int) + off = (tgt : Int)) (kt : 0 < x → z_X dA ad k tgt lv (st) M) (kf : ¬ 0 < x → z_X dA ad k (pc + 3) lv (st) M) : z_X dA ad k pc lv (.int x :: st) M := by
  obtain ⟨p, l, e, R, s, m, args, below, meth, c, D, base, nL, cells, slots, Q⟩ := k
  obtain ⟨hx, hb, ⟨hml, rfl⟩, hown, hlk, hrm, hE⟩ := C
  intro H locs ls hP hS hl
  exact lv_if_gt hx hb hdg ht (fun q => kt q H locs ls hP hS hl) (fun q => kf q H locs ls hP hS hl)

theorem x_if_le (C : z_C dA ad k cc own d n) {x : Int32} {off : Int} (tgt : Nat) (hdg : decode cc pc = .ok (.ifCond .le off, 3)) (ht : (pc : Int) + off = (tgt : Int)) (kt : x ≤ 0 → z_X dA ad k tgt lv (st) M) (kf : ¬ x ≤ 0 → z_X dA ad k (pc + 3) lv (st) M) : z_X dA ad k pc lv (.int x :: st) M := by
  obtain ⟨p, l, e, R, s, m, args, below, meth, c, D, base, nL, cells, slots, Q⟩ := k
  obtain ⟨hx, hb, ⟨hml, rfl⟩, hown, hlk, hrm, hE⟩ := C
  intro H locs ls hP hS hl
  exact lv_if_le hx hb hdg ht (fun q => kt q H locs ls hP hS hl) (fun q => kf q H locs ls hP hS hl)

theorem x_icmp_eq (C : z_C dA ad k cc own d n) {x y : Int32} {off : Int} (tgt : Nat) (hdg : decode cc pc = .ok (.if_icmp .eq off, 3)) (ht : (pc : Int) + off = (tgt : Int)) (kt : x = y → z_X dA ad k tgt lv (st) M) (kf : ¬ x = y → z_X dA ad k (pc + 3) lv (st) M) : z_X dA ad k pc lv (.int y :: .int x :: st) M := by
  obtain ⟨p, l, e, R, s, m, args, below, meth, c, D, base, nL, cells, slots, Q⟩ := k
  obtain ⟨hx, hb, ⟨hml, rfl⟩, hown, hlk, hrm, hE⟩ := C
  intro H locs ls hP hS hl
  exact lv_icmp_eq hx hb hdg ht (fun q => kt q H locs ls hP hS hl) (fun q => kf q H locs ls hP hS hl)

theorem x_icmp_ne (C : z_C dA ad k cc own d n) {x y : Int32} {off : Int} (tgt : Nat) (hdg : decode cc pc = .ok (.if_icmp .ne off, 3)) (ht : (pc : Int) + off = (tgt : Int)) (kt : ¬ x = y → z_X dA ad k tgt lv (st) M) (kf : x = y → z_X dA ad k (pc + 3) lv (st) M) : z_X dA ad k pc lv (.int y :: .int x :: st) M := by
  obtain ⟨p, l, e, R, s, m, args, below, meth, c, D, base, nL, cells, slots, Q⟩ := k
  obtain ⟨hx, hb, ⟨hml, rfl⟩, hown, hlk, hrm, hE⟩ := C
  intro H locs ls hP hS hl
  exact lv_icmp_ne hx hb hdg ht (fun q => kt q H locs ls hP hS hl) (fun q => kf q H locs ls hP hS hl)

theorem x_icmp_lt (C : z_C dA ad k cc own d n) {x y : Int32} {off : Int} (tgt : Nat) (hdg : decode cc pc = .ok (.if_icmp .lt off, 3)) (ht : (pc : Int) + off = (tgt : Int)) (kt : x < y → z_X dA ad k tgt lv (st) M) (kf : ¬ x < y → z_X dA ad k (pc + 3) lv (st) M) : z_X dA ad k pc lv (.int y :: .int x :: st) M := by
  obtain ⟨p, l, e, R, s, m, args, below, meth, c, D, base, nL, cells, slots, Q⟩ := k
  obtain ⟨hx, hb, ⟨hml, rfl⟩, hown, hlk, hrm, hE⟩ := C
  intro H locs ls hP hS hl
  exact lv_icmp_lt hx hb hdg ht (fun q => kt q H locs ls hP hS hl) (fun q => kf q H locs ls hP hS hl)

theorem x_icmp_ge (C : z_C dA ad k cc own d n) {x y : Int32} {off : Int} (tgt : Nat) (hdg : decode cc pc = .ok (.if_icmp .ge off, 3)) (ht : (pc : Int) + off = (tgt : Int)) (kt : y ≤ x → z_X dA ad k tgt lv (st) M) (kf : ¬ y ≤ x → z_X dA ad k (pc + 3) lv (st) M) : z_X dA ad k pc lv (.int y :: .int x :: st) M := by
  obtain ⟨p, l, e, R, s, m, args, below, meth, c, D, base, nL, cells, slots, Q⟩ := k
  obtain ⟨hx, hb, ⟨hml, rfl⟩, hown, hlk, hrm, hE⟩ := C
  intro H locs ls hP hS hl
  exact lv_icmp_ge hx hb hdg ht (fun q => kt q H locs ls hP hS hl) (fun q => kf q H locs ls hP hS hl)

theorem x_icmp_gt (C : z_C dA ad k cc own d n) {x y : Int32} {off : Int} (tgt : Nat) (hdg : decode cc pc = .ok (.if_icmp .gt off, 3)) (ht : (pc : Int) + off = (tgt : Int)) (kt : y < x → z_X dA ad k tgt lv (st) M) (kf : ¬ y < x → z_X dA ad k (pc + 3) lv (st) M) : z_X dA ad k pc lv (.int y :: .int x :: st) M := by
  obtain ⟨p, l, e, R, s, m, args, below, meth, c, D, base, nL, cells, slots, Q⟩ := k
  obtain ⟨hx, hb, ⟨hml, rfl⟩, hown, hlk, hrm, hE⟩ := C
  intro H locs ls hP hS hl
  exact lv_icmp_gt hx hb hdg ht (fun q => kt q H locs ls hP hS hl) (fun q => kf q H locs ls hP hS hl)

theorem x_icmp_le (C : z_C dA ad k cc own d n) {x y : Int32} {off : Int} (tgt : Nat) (hdg : decode cc pc = .ok (.if_icmp .le off, 3)) (ht : (pc : Int) + off = (tgt : Int)) (kt : x ≤ y → z_X dA ad k tgt lv (st) M) (kf : ¬ x ≤ y → z_X dA ad k (pc + 3) lv (st) M) : z_X dA ad k pc lv (.int y :: .int x :: st) M := by
  obtain ⟨p, l, e, R, s, m, args, below, meth, c, D, base, nL, cells, slots, Q⟩ := k
  obtain ⟨hx, hb, ⟨hml, rfl⟩, hown, hlk, hrm, hE⟩ := C
  intro H locs ls hP hS hl
  exact lv_icmp_le hx hb hdg ht (fun q => kt q H locs ls hP hS hl) (fun q => kf q H locs ls hP hS hl)

theorem x_goto (C : z_C dA ad k cc own d n) {off : Int} (tgt : Nat) (hdg : decode cc pc = .ok (.goto off, 3)) (ht : (pc : Int) + off = (tgt : Int)) (kk : z_X dA ad k tgt lv (st) M) : z_X dA ad k pc lv (st) M := by
  obtain ⟨p, l, e, R, s, m, args, below, meth, c, D, base, nL, cells, slots, Q⟩ := k
  obtain ⟨hx, hb, ⟨hml, rfl⟩, hown, hlk, hrm, hE⟩ := C
  intro H locs ls hP hS hl
  exact lv_goto hx hb hdg ht (kk H locs ls hP hS hl)

theorem x_lookup (C : z_C dA ad k cc own d n) {dflt : Int} {ps : Array (Int × Int)} {len : Nat} {x : Int32} {off : Int} (tgt : Nat) (hdg : decode cc pc = .ok (.lookupswitch dflt ps, len)) (hp : (ps.toList.zip (ps.toList.drop 1)).all (fun (a, next) => a.1 < next.1) = true) (ho : Op.lookupswitch.offset ps.toList dflt x.toInt = off) (ht : (pc : Int) + off = (tgt : Int)) (kk : z_X dA ad k tgt lv (st) M) : z_X dA ad k pc lv (.int x :: st) M := by
  obtain ⟨p, l, e, R, s, m, args, below, meth, c, D, base, nL, cells, slots, Q⟩ := k
  obtain ⟨hx, hb, ⟨hml, rfl⟩, hown, hlk, hrm, hE⟩ := C
  intro H locs ls hP hS hl
  exact lv_lookup hx hb hdg hp ho ht (kk H locs ls hP hS hl)

theorem x_tableOut (C : z_C dA ad k cc own d n) {dflt lo hi : Int} {offs : Array Int} {len : Nat} {x : Int32} (tgt : Nat) (hdg : decode cc pc = .ok (.tableswitch dflt lo hi offs, len)) (h : x.toInt < lo ∨ hi < x.toInt) (ht : (pc : Int) + dflt = (tgt : Int)) (kk : z_X dA ad k tgt lv (st) M) : z_X dA ad k pc lv (.int x :: st) M := by
  obtain ⟨p, l, e, R, s, m, args, below, meth, c, D, base, nL, cells, slots, Q⟩ := k
  obtain ⟨hx, hb, ⟨hml, rfl⟩, hown, hlk, hrm, hE⟩ := C
  intro H locs ls hP hS hl
  exact lv_tableOut hx hb hdg h ht (kk H locs ls hP hS hl)

theorem x_tableIn (C : z_C dA ad k cc own d n) {dflt lo hi : Int} {offs : Array Int} {len : Nat} {x : Int32} {off : Int} (tgt : Nat) (hdg : decode cc pc = .ok (.tableswitch dflt lo hi offs, len)) (h1 : ¬ x.toInt < lo) (h2 : ¬ hi < x.toInt) (ho : offs[(x.toInt - lo).toNat]? = some off) (ht : (pc : Int) + off = (tgt : Int)) (kk : z_X dA ad k tgt lv (st) M) : z_X dA ad k pc lv (.int x :: st) M := by
  obtain ⟨p, l, e, R, s, m, args, below, meth, c, D, base, nL, cells, slots, Q⟩ := k
  obtain ⟨hx, hb, ⟨hml, rfl⟩, hown, hlk, hrm, hE⟩ := C
  intro H locs ls hP hS hl
  exact lv_tableIn hx hb hdg h1 h2 ho ht (kk H locs ls hP hS hl)

theorem x_topi {x : Int32} (kk : ∀ y : Int32, y = x → z_X dA ad k pc lv (.int y :: st) M) : z_X dA ad k pc lv (.int x :: st) M := kk x rfl

theorem x_get (C : z_C dA ad k cc own d n) {i ci j index N : Nat} {fs : List Value} {Cn ref : String} {T : u_T} {v : Value} (hi : i < z_N) (hc : z_c dA ad i (M i) = .inr (ci, fs)) (hcl : z_cl[ci]? = some (Cn, T, N)) (hlay : ∀ w ∈ u_ws Cn T N, w ∈ z_T) (hj : j < N) (href : (T j).1 = ref) (hlink : Cond.fieldLink own index ref (T j).2.1 (T j).2.2.1 ∈ z_T) (hv : fs[j]? = some v) (hdg : decode cc pc = .ok (.getfield index, 3)) (kk : z_X dA ad k (pc + 3) lv (v :: st) M) : z_X dA ad k pc lv (.ref (ad i) :: st) M := by
  obtain ⟨p, l, e, R, s, m, args, below, meth, c, D, base, nL, cells, slots, Q⟩ := k
  obtain ⟨hx, hb, ⟨hml, rfl⟩, hown, hlk, hrm, hE⟩ := C
  intro H locs ls hP hS hl
  exact va_get (D := D) (cl := z_cl) (tys := z_tys dA) (ws := z_W dA ad M) (Ts := z_T) hx hb (fun w hw => z_w hE hw) hlay hown hE.1 hP i (by rw [z_W_get hi, hc]) hcl j hj (z_w hE hlink) (fun _ h9 => by rw [← href]; exact h9) hv hdg (kk H locs ls hP hS hl)

theorem x_getN (C : z_C dA ad k cc own d n) {i ci j index N : Nat} {fs : List Value} {Cn ref : String} {T : u_T} {v : Value} {host : String} (hi : i < z_N) (hc : z_c dA ad i (M i) = .inr (ci, fs)) (hcl : z_cl[ci]? = some (Cn, T, N)) (hlay : ∀ w ∈ u_ws Cn T N, w ∈ z_T) (hj : j < N) (href : (T j).1 = ref) (hlink : Cond.fieldLinkNest own index ref (T j).2.1 (T j).2.2.1 host ∈ z_T) (hv : fs[j]? = some v) (hdg : decode cc pc = .ok (.getfield index, 3)) (kk : z_X dA ad k (pc + 3) lv (v :: st) M) : z_X dA ad k pc lv (.ref (ad i) :: st) M := by
  obtain ⟨p, l, e, R, s, m, args, below, meth, c, D, base, nL, cells, slots, Q⟩ := k
  obtain ⟨hx, hb, ⟨hml, rfl⟩, hown, hlk, hrm, hE⟩ := C
  intro H locs ls hP hS hl
  exact va_getN (D := D) (cl := z_cl) (tys := z_tys dA) (ws := z_W dA ad M) (Ts := z_T) hx hb (fun w hw => z_w hE hw) hlay hown hE.1 hP i (by rw [z_W_get hi, hc]) hcl j hj (z_w hE hlink) (fun _ h9 => by rw [← href]; exact h9) hv hdg (kk H locs ls hP hS hl)

theorem x_put (C : z_C dA ad k cc own d n) {i ci j index N : Nat} {fs : List Value} {Cn ref : String} {T : u_T} {x : Int32} {v : Value} (hi : i < z_N) (hc : z_c dA ad i (M i) = .inr (ci, fs)) (hcl : z_cl[ci]? = some (Cn, T, N)) (hlay : ∀ w ∈ u_ws Cn T N, w ∈ z_T) (hj : j < N) (href : (T j).1 = ref) (ty0 : Nat → FieldType) (hty : ∀ q, q < N → parseFieldDescriptor (T q).2.2.1 = some (ty0 q)) (hnm : ∀ a, a < N → ∀ b, b < N → a ≠ b → (T a).2.1 ≠ (T b).2.1) (hfin : (T j).2.2.2 = false) (hn : narrow (ty0 j) v = v) (hfit : fits (ty0 j) v = true) (hln : j < fs.length) (hset : z_c dA ad i (upd (M i) j x) = .inr (ci, fs.set j v)) (hlink : Cond.fieldLink own index ref (T j).2.1 (T j).2.2.1 ∈ z_T) (hdg : decode cc pc = .ok (.putfield index, 3)) (kk : z_X dA ad k (pc + 3) lv (st) (z_sv M i j x)) : z_X dA ad k pc lv (v :: .ref (ad i) :: st) M := by
  obtain ⟨p, l, e, R, s, m, args, below, meth, c, D, base, nL, cells, slots, Q⟩ := k
  obtain ⟨hx, hb, ⟨hml, rfl⟩, hown, hlk, hrm, hE⟩ := C
  intro H locs ls hP hS hl
  refine va_put (D := D) (cl := z_cl) (tys := z_tys dA) (ws := z_W dA ad M) (Ts := z_T) (A := z_A base) hx hb (fun w hw => z_w hE hw) hlay ty0 hty hnm hown hE.1 hP (z_W_D hE.2.1) hS i (by rw [z_W_get hi, hc]) hcl j hj (z_w hE hlink) (fun _ h9 => by rw [← href]; exact h9) hfin (hty j hj) hn hfit hln hdg (fun H1 locs1 hP1 hD1 hS1 => ?_)
  rw [z_W_set (M1 := z_sv M i j x) (by rw [← hset]; simp [z_sv, va_up]) (fun a ha => z_sv_row M j x ha)] at hP1
  exact kk H1 locs1 ls hP1 hS1 hl

theorem x_putN (C : z_C dA ad k cc own d n) {i ci j index N : Nat} {fs : List Value} {Cn ref : String} {T : u_T} {x : Int32} {v : Value} {host : String} (hi : i < z_N) (hc : z_c dA ad i (M i) = .inr (ci, fs)) (hcl : z_cl[ci]? = some (Cn, T, N)) (hlay : ∀ w ∈ u_ws Cn T N, w ∈ z_T) (hj : j < N) (href : (T j).1 = ref) (ty0 : Nat → FieldType) (hty : ∀ q, q < N → parseFieldDescriptor (T q).2.2.1 = some (ty0 q)) (hnm : ∀ a, a < N → ∀ b, b < N → a ≠ b → (T a).2.1 ≠ (T b).2.1) (hfin : (T j).2.2.2 = false) (hn : narrow (ty0 j) v = v) (hfit : fits (ty0 j) v = true) (hln : j < fs.length) (hset : z_c dA ad i (upd (M i) j x) = .inr (ci, fs.set j v)) (hlink : Cond.fieldLinkNest own index ref (T j).2.1 (T j).2.2.1 host ∈ z_T) (hdg : decode cc pc = .ok (.putfield index, 3)) (kk : z_X dA ad k (pc + 3) lv (st) (z_sv M i j x)) : z_X dA ad k pc lv (v :: .ref (ad i) :: st) M := by
  obtain ⟨p, l, e, R, s, m, args, below, meth, c, D, base, nL, cells, slots, Q⟩ := k
  obtain ⟨hx, hb, ⟨hml, rfl⟩, hown, hlk, hrm, hE⟩ := C
  intro H locs ls hP hS hl
  refine va_putN (D := D) (cl := z_cl) (tys := z_tys dA) (ws := z_W dA ad M) (Ts := z_T) (A := z_A base) hx hb (fun w hw => z_w hE hw) hlay ty0 hty hnm hown hE.1 hP (z_W_D hE.2.1) hS i (by rw [z_W_get hi, hc]) hcl j hj (z_w hE hlink) (fun _ h9 => by rw [← href]; exact h9) hfin (hty j hj) hn hfit hln hdg (fun H1 locs1 hP1 hD1 hS1 => ?_)
  rw [z_W_set (M1 := z_sv M i j x) (by rw [← hset]; simp [z_sv, va_up]) (fun a ha => z_sv_row M j x ha)] at hP1
  exact kk H1 locs1 ls hP1 hS1 hl

theorem x_iald (C : z_C dA ad k cc own d n) {q t0 nn : Nat} {cA : ClassId} {i : Int32} (hq : q < z_N) (hc : z_c dA ad q (M q) = .inl (cA, nn, .inl (M q))) (ht : (z_tys dA)[t0]? = some (cA, .int)) (hin : vp_in i nn) (hdg : decode cc pc = .ok (.iaload, 1)) (kk : z_X dA ad k (pc + 1) lv (.int (M q i.toNatClampNeg) :: st) M) : z_X dA ad k pc lv (.int i :: .ref (ad q) :: st) M := by
  obtain ⟨p, l, e, R, s, m, args, below, meth, c, D, base, nL, cells, slots, Q⟩ := k
  obtain ⟨hx, hb, ⟨hml, rfl⟩, hown, hlk, hrm, hE⟩ := C
  intro H locs ls hP hS hl
  exact va_iald hx hb hE.1 hP q t0 (by rw [z_W_get hq, hc]) ht hin hdg (kk H locs ls hP hS hl)

theorem x_iast (C : z_C dA ad k cc own d n) {q t0 nn : Nat} {cA : ClassId} {i x : Int32} (hq : q < z_N) (hc : ∀ f : Nat → Int32, z_c dA ad q f = .inl (cA, nn, .inl f)) (ht : (z_tys dA)[t0]? = some (cA, .int)) (hin : vp_in i nn) (hdg : decode cc pc = .ok (.iastore, 1)) (kk : z_X dA ad k (pc + 1) lv (st) (z_sv M q i.toNatClampNeg x)) : z_X dA ad k pc lv (.int x :: .int i :: .ref (ad q) :: st) M := by
  obtain ⟨p, l, e, R, s, m, args, below, meth, c, D, base, nL, cells, slots, Q⟩ := k
  obtain ⟨hx, hb, ⟨hml, rfl⟩, hown, hlk, hrm, hE⟩ := C
  intro H locs ls hP hS hl
  refine va_iast hx hb hE.1 hP (z_W_D (base := base) hE.2.1) hS q t0 (by rw [z_W_get hq, hc]) ht hin hdg (fun H1 locs1 hP1 hD1 hS1 => ?_)
  rw [z_W_set (M1 := z_sv M q i.toNatClampNeg x) (by rw [hc]; simp [z_sv, va_up]) (fun a ha => z_sv_row M _ x ha)] at hP1
  exact kk H1 locs1 ls hP1 hS1 hl

theorem x_zald (C : z_C dA ad k cc own d n) {q t0 nn : Nat} {cA : ClassId} {i : Int32} (hq : q < z_N) (hc : z_c dA ad q (M q) = .inl (cA, nn, .inl (M q))) (ht : (z_tys dA)[t0]? = some (cA, .boolean)) (hin : vp_in i nn) (hdg : decode cc pc = .ok (.baload, 1)) (kk : z_X dA ad k (pc + 1) lv (.int (M q i.toNatClampNeg) :: st) M) : z_X dA ad k pc lv (.int i :: .ref (ad q) :: st) M := by
  obtain ⟨p, l, e, R, s, m, args, below, meth, c, D, base, nL, cells, slots, Q⟩ := k
  obtain ⟨hx, hb, ⟨hml, rfl⟩, hown, hlk, hrm, hE⟩ := C
  intro H locs ls hP hS hl
  exact va_zald hx hb hE.1 hP q t0 (by rw [z_W_get hq, hc]) ht hin hdg (kk H locs ls hP hS hl)

theorem x_zast (C : z_C dA ad k cc own d n) {q t0 nn : Nat} {cA : ClassId} {i x : Int32} (hq : q < z_N) (hc : ∀ f : Nat → Int32, z_c dA ad q f = .inl (cA, nn, .inl f)) (ht : (z_tys dA)[t0]? = some (cA, .boolean)) (hin : vp_in i nn) (hnr : vp_nar .boolean x = x) (hdg : decode cc pc = .ok (.bastore, 1)) (kk : z_X dA ad k (pc + 1) lv (st) (z_sv M q i.toNatClampNeg x)) : z_X dA ad k pc lv (.int x :: .int i :: .ref (ad q) :: st) M := by
  obtain ⟨p, l, e, R, s, m, args, below, meth, c, D, base, nL, cells, slots, Q⟩ := k
  obtain ⟨hx, hb, ⟨hml, rfl⟩, hown, hlk, hrm, hE⟩ := C
  intro H locs ls hP hS hl
  refine va_zast hx hb hE.1 hP (z_W_D (base := base) hE.2.1) hS q t0 (by rw [z_W_get hq, hc]) ht hin hdg (fun H1 locs1 hP1 hD1 hS1 => ?_)
  rw [hnr] at hP1
  rw [z_W_set (M1 := z_sv M q i.toNatClampNeg x) (by rw [hc]; simp [z_sv, va_up]) (fun a ha => z_sv_row M _ x ha)] at hP1
  exact kk H1 locs1 ls hP1 hS1 hl

theorem x_alen (C : z_C dA ad k cc own d n) {q t0 : Nat} {cA : ClassId} {ar : vp_A} {ty : FieldType} (v : Int32) (hq : q < z_N) (hc : z_c dA ad q (M q) = .inl (cA, ar)) (ht : (z_tys dA)[t0]? = some (cA, ty)) (hv : Int32.ofNat ar.1 = v) (hdg : decode cc pc = .ok (.arraylength, 1)) (kk : z_X dA ad k (pc + 1) lv (.int v :: st) M) : z_X dA ad k pc lv (.ref (ad q) :: st) M := by
  obtain ⟨p, l, e, R, s, m, args, below, meth, c, D, base, nL, cells, slots, Q⟩ := k
  obtain ⟨hx, hb, ⟨hml, rfl⟩, hown, hlk, hrm, hE⟩ := C
  intro H locs ls hP hS hl
  exact va_alen hx hb hE.1 hP q t0 (by rw [z_W_get hq, hc]) ht hv hdg (kk H locs ls hP hS hl)

theorem x_aald (C : z_C dA ad k cc own d n) {q t0 nn : Nat} {cA : ClassId} {Cx : String} {g : Nat → Nat} {i : Int32} (hq : q < z_N) (hc : z_c dA ad q (M q) = .inl (cA, nn, .inr (.inr (.inr (.inr (fun j => some (ad (g j)))))))) (ht : (z_tys dA)[t0]? = some (cA, .object Cx)) (hin : vp_in i nn) (hdg : decode cc pc = .ok (.aaload, 1)) (kk : z_X dA ad k (pc + 1) lv (.ref (ad (g i.toNatClampNeg)) :: st) M) : z_X dA ad k pc lv (.int i :: .ref (ad q) :: st) M := by
  obtain ⟨p, l, e, R, s, m, args, below, meth, c, D, base, nL, cells, slots, Q⟩ := k
  obtain ⟨hx, hb, ⟨hml, rfl⟩, hown, hlk, hrm, hE⟩ := C
  intro H locs ls hP hS hl
  exact va_aldq (f := fun j => some (ad (g j))) hx hb hE.1 hP q t0 (by rw [z_W_get hq, hc]) ht hin hdg (kk H locs ls hP hS hl)

theorem x_aaldA (C : z_C dA ad k cc own d n) {q t0 nn : Nat} {cA : ClassId} {tx : FieldType} {g : Nat → Nat} {i : Int32} (hq : q < z_N) (hc : z_c dA ad q (M q) = .inl (cA, nn, .inr (.inr (.inr (.inr (fun j => some (ad (g j)))))))) (ht : (z_tys dA)[t0]? = some (cA, .array tx)) (hin : vp_in i nn) (hdg : decode cc pc = .ok (.aaload, 1)) (kk : z_X dA ad k (pc + 1) lv (.ref (ad (g i.toNatClampNeg)) :: st) M) : z_X dA ad k pc lv (.int i :: .ref (ad q) :: st) M := by
  obtain ⟨p, l, e, R, s, m, args, below, meth, c, D, base, nL, cells, slots, Q⟩ := k
  obtain ⟨hx, hb, ⟨hml, rfl⟩, hown, hlk, hrm, hE⟩ := C
  intro H locs ls hP hS hl
  exact z_aldqA (f := fun j => some (ad (g j))) hx hb hE.1 hP q t0 (by rw [z_W_get hq, hc]) ht hin hdg (kk H locs ls hP hS hl)

theorem x_copy (C : z_C dA ad k cc own d n) {q0 q1 t0 nn0 nn1 index : Nat} {c0 : ClassId} {sp dp nc : Int32} (hq0 : q0 < z_N) (hq1 : q1 < z_N) (hc0 : ∀ f : Nat → Int32, z_c dA ad q0 f = .inl (c0, nn0, .inl f)) (hc1 : ∀ f : Nat → Int32, z_c dA ad q1 f = .inl (c0, nn1, .inl f)) (ht : (z_tys dA)[t0]? = some (c0, .int)) (h1 : ¬ sp < 0) (h2 : ¬ dp < 0) (h3 : ¬ nc < 0) (h4 : sp.toNatClampNeg + nc.toNatClampNeg ≤ nn0) (h5 : dp.toNatClampNeg + nc.toNatClampNeg ≤ nn1) (hd : 1 ≤ d) (hlo : (st.map fun v => v.category).sum + (nativeFrameWords "java/lang/System" "arraycopy" 5 + 11) ≤ 40) (hl1 : Cond.methodLink own index arraycopyName ∈ z_T) (hl2 : Cond.native arraycopyName ∈ z_T) (hl3 : Cond.static arraycopyName ∈ z_T) (hl4 : Cond.initialized "java/lang/System" ∈ z_T) (hdg : decode cc pc = .ok (.invokestatic index, 3)) (kk : z_X dA ad k (pc + 3) lv (st) (va_up M q1 (va_cpy (M q0) (M q1) sp.toNatClampNeg dp.toNatClampNeg nc.toNatClampNeg))) : z_X dA ad k pc lv (.int nc :: .int dp :: .ref (ad q1) :: .int sp :: .ref (ad q0) :: st) M := by
  obtain ⟨p, l, e, R, s, m, args, below, meth, c, D, base, nL, cells, slots, Q⟩ := k
  obtain ⟨hx, hb, ⟨hml, rfl⟩, hown, hlk, hrm, hE⟩ := C
  intro H locs ls hP hS hl
  refine va_copyi hx hb (hml.trans hl.1.symm) hown (z_w hE hl1) (z_w hE hl2) (z_w hE hl3) (z_w hE hl4) hE.1 hP (z_W_D (base := base) hE.2.1) hS q0 q1 t0 t0 (by rw [z_W_get hq0, hc0]) (by rw [z_W_get hq1, hc1]) ht ht rfl h1 h2 h3 h4 h5 (fun _ _ => rfl) (by have := hrm.1; omega) (by have := hrm.2.1; omega) hdg (fun H1 locs1 hP1 hD1 hS1 => ?_)
  rw [z_W_set (M1 := va_up M q1 (va_cpy (M q0) (M q1) sp.toNatClampNeg dp.toNatClampNeg nc.toNatClampNeg)) (by rw [hc1]; simp [va_up]) (fun a ha => by simp [va_up, ha])] at hP1
  exact kk H1 locs1 ls hP1 hS1 hl

/-- what a method must end with: an int r0 (of the type rt) and the memory M1 -/
def z_RI (dA : Nat → ClassId) (ad : Nat → Nat) (k : z_K) (rt : FieldType) (r0 : Int32) (M1 : z_M) : Prop := match k with
  | (_, _, _, _, s, _, args, below, meth, _, D, base, _, cells, slots, Q) => meth.sig.returnType = some rt ∧ cells = 0 ∧ slots = 0 ∧ Q = MQ below (va_Qi (fun (r : Int32) (M2 : z_M) => r = r0 ∧ M2 = M1) (fun M2 t => va_P D z_cl (z_W dA ad M2) t.heap) (z_A base)) args s 0 0 (z_A base)
def z_RV (dA : Nat → ClassId) (ad : Nat → Nat) (k : z_K) (M1 : z_M) : Prop := match k with
  | (_, _, _, _, s, _, args, below, meth, _, D, base, _, cells, slots, Q) => meth.sig.returnType = none ∧ cells = 0 ∧ slots = 0 ∧ Q = MQ below (va_Qv (fun (M2 : z_M) => M2 = M1) (fun M2 t => va_P D z_cl (z_W dA ad M2) t.heap) (z_A base)) args s 0 0 (z_A base)

/-- the contract of a method that answers an int: it answers r0 and leaves the memory M1 -/
def z_CI (y : MethodName) (bytes : ByteArray) (mx : Nat) (rt : FieldType) (d : Nat) (dA : Nat → ClassId) (ad : Nat → Nat) (av : List Value) (M : z_M) (r0 : Int32) (M1 : z_M) : Prop :=
  ∀ (l : Launch) (D : va_G) (base : Nat), Met l y [Cond.code y bytes mx (some rt)] { frames := d, cells := 0, slots := 0, locals := 40 * d } (va_Pc av (fun U => va_P D z_cl (z_W dA ad M) U.heap ∧ z_E dA ad D base U)) (va_Qi (fun (r : Int32) (M2 : z_M) => r = r0 ∧ M2 = M1) (fun M2 t => va_P D z_cl (z_W dA ad M2) t.heap) (z_A base)) 0 0 (z_A base)
def z_CV (y : MethodName) (bytes : ByteArray) (mx : Nat) (d : Nat) (dA : Nat → ClassId) (ad : Nat → Nat) (av : List Value) (M M1 : z_M) : Prop :=
  ∀ (l : Launch) (D : va_G) (base : Nat), Met l y [Cond.code y bytes mx none] { frames := d, cells := 0, slots := 0, locals := 40 * d } (va_Pc av (fun U => va_P D z_cl (z_W dA ad M) U.heap ∧ z_E dA ad D base U)) (va_Qv (fun (M2 : z_M) => M2 = M1) (fun M2 t => va_P D z_cl (z_W dA ad M2) t.heap) (z_A base)) 0 0 (z_A base)
theorem z_blind {av : List Value} {D : va_G} {base : Nat} : FrameBlind (va_Pc av (fun U => va_P D z_cl (z_W dA ad M) U.heap ∧ z_E dA ad D base U)) := by
  intro a U g mk q
  obtain ⟨q0, q1, q2⟩ := q
  exact ⟨q0, q1, z_E_same (U := U) rfl rfl q2⟩
/-- what the tables say of a method: static; of an instance -/
def z_ms (y : MethodName) (bytes : ByteArray) (mx : Nat) (rt : Option FieldType) (na : Nat) : Prop := Cond.static y ∈ z_T ∧ Cond.initialized y.cls ∈ z_T ∧ Cond.code y bytes mx rt ∈ z_T ∧ (y.cls ≠ "java/lang/invoke/MethodHandle" ∧ y.cls ≠ "java/lang/invoke/VarHandle") ∧ (parseMethodDescriptor y.desc).map (fun q => q.parameters.length) = some na ∧ mx ≤ 21
def z_mv (y : MethodName) (bytes : ByteArray) (mx : Nat) (rt : Option FieldType) (na : Nat) : Prop := (Cond.instanceMethod y ∈ z_T ∧ Cond.selects y.cls y y ∈ z_T) ∧ Cond.initialized y.cls ∈ z_T ∧ Cond.code y bytes mx rt ∈ z_T ∧ (y.cls ≠ "java/lang/invoke/MethodHandle" ∧ y.cls ≠ "java/lang/invoke/VarHandle") ∧ (parseMethodDescriptor y.desc).map (fun q => q.parameters.length) = some na ∧ mx ≤ 21
theorem z_na {y : MethodName} {na : Nat} (h : (parseMethodDescriptor y.desc).map (fun q => q.parameters.length) = some na) : ∀ sig, parseMethodDescriptor y.desc = some sig → na = sig.parameters.length := by
  intro sig h2
  rw [h2] at h
  exact (Option.some.inj h).symm
/-- entry: a method's contract by its walk -/
theorem z_ofI {y : MethodName} {bytes : ByteArray} {mx : Nat} {rt : FieldType} {av : List Value} {r0 : Int32} {M1 : z_M} (lv0 : List (Option Value)) (hy : plainName y.cls = true) (hlen : (lg_sl av).length ≤ mx) (hlv : lv_args 0 av = z_l lv0)
    (body : ∀ k : z_K, z_C dA ad k bytes y.cls d mx → z_RI dA ad k rt r0 M1 → z_X dA ad k 0 lv0 [] M) : z_CI y bytes mx rt d dA ad av M r0 M1 := by
  intro l D base
  refine Met.ofW (cc := bytes) (maxL := mx) (ret := some rt) hy rfl ?_
  intro p e s m args below meth c s₁ B hml hv
  obtain ⟨rfl, hP, hE⟩ := hv
  have hl := lv_entry av (n := mx) hlen
  rw [lg_entry_eq]
  rw [hlv] at hl
  refine body (p, l, e, _, s, m, _, below, meth, c, D, base, mx, 0, 0, _) ⟨B.exec, B.bytes, ⟨hml, rfl⟩, findClass_of_methodNamed B.named, B.notSynchronized, ⟨Nat.le_refl _, Nat.le_refl _, Nat.zero_le _, Nat.zero_le _⟩, hE⟩ ⟨B.returns, rfl, rfl, rfl⟩ s.heap [] _ hP va_S.rf hl
theorem z_ofV {y : MethodName} {bytes : ByteArray} {mx : Nat} {av : List Value} {M1 : z_M} (lv0 : List (Option Value)) (hy : plainName y.cls = true) (hlen : (lg_sl av).length ≤ mx) (hlv : lv_args 0 av = z_l lv0)
    (body : ∀ k : z_K, z_C dA ad k bytes y.cls d mx → z_RV dA ad k M1 → z_X dA ad k 0 lv0 [] M) : z_CV y bytes mx d dA ad av M M1 := by
  intro l D base
  refine Met.ofW (cc := bytes) (maxL := mx) (ret := none) hy rfl ?_
  intro p e s m args below meth c s₁ B hml hv
  obtain ⟨rfl, hP, hE⟩ := hv
  have hl := lv_entry av (n := mx) hlen
  rw [lg_entry_eq]
  rw [hlv] at hl
  refine body (p, l, e, _, s, m, _, below, meth, c, D, base, mx, 0, 0, _) ⟨B.exec, B.bytes, ⟨hml, rfl⟩, findClass_of_methodNamed B.named, B.notSynchronized, ⟨Nat.le_refl _, Nat.le_refl _, Nat.zero_le _, Nat.zero_le _⟩, hE⟩ ⟨B.returns, rfl, rfl, rfl⟩ s.heap [] _ hP va_S.rf hl

theorem x_iret (C : z_C dA ad k cc own d n) {r r0 : Int32} {M1 : z_M} (E : z_RI dA ad k .int r0 M1) (hr0 : r = r0) (hM : M = M1) (hdg : decode cc pc = .ok (.ireturn, 1))  : z_X dA ad k pc lv [.int r] M := by
  obtain ⟨p, l, e, R, s, m, args, below, meth, c, D, base, nL, cells, slots, Q⟩ := k
  obtain ⟨hx, hb, ⟨hml, rfl⟩, hown, hlk, hrm, hE⟩ := C
  intro H locs ls hP hS hl
  obtain ⟨hr, rfl, rfl, rfl⟩ := E
  exact W.iret hx hb hr (fun t ht hW => ⟨⟨r, M, rfl, ⟨hr0, hM⟩, by show va_P D z_cl (z_W dA ad M) t.heap; rw [ht]; exact hP⟩, hS.F ht⟩) hS.2.2 hdg hlk

theorem x_zret (C : z_C dA ad k cc own d n) {r r0 : Int32} {M1 : z_M} (E : z_RI dA ad k .boolean r0 M1) (hr0 : r = r0) (hM : M = M1) (hnr : narrow .boolean (.int r) = .int r) (hdg : decode cc pc = .ok (.ireturn, 1))  : z_X dA ad k pc lv [.int r] M := by
  obtain ⟨p, l, e, R, s, m, args, below, meth, c, D, base, nL, cells, slots, Q⟩ := k
  obtain ⟨hx, hb, ⟨hml, rfl⟩, hown, hlk, hrm, hE⟩ := C
  intro H locs ls hP hS hl
  obtain ⟨hr, rfl, rfl, rfl⟩ := E
  exact W.zret hx hb hr hnr (fun t ht hW => ⟨⟨r, M, rfl, ⟨hr0, hM⟩, by show va_P D z_cl (z_W dA ad M) t.heap; rw [ht]; exact hP⟩, hS.F ht⟩) hS.2.2 hdg hlk

theorem x_vret (C : z_C dA ad k cc own d n) {M1 : z_M} (E : z_RV dA ad k M1) (hM : M = M1) (hdg : decode cc pc = .ok (.return_, 1))  : z_X dA ad k pc lv [] M := by
  obtain ⟨p, l, e, R, s, m, args, below, meth, c, D, base, nL, cells, slots, Q⟩ := k
  obtain ⟨hx, hb, ⟨hml, rfl⟩, hown, hlk, hrm, hE⟩ := C
  intro H locs ls hP hS hl
  obtain ⟨hr, rfl, rfl, rfl⟩ := E
  exact W.vret hx hb hr (fun t ht hW => ⟨⟨M, rfl, hM, by show va_P D z_cl (z_W dA ad M) t.heap; rw [ht]; exact hP⟩, hS.F ht⟩) hS.2.2 hdg hlk

theorem x_callSi (C : z_C dA ad k cc own d n) {y : MethodName} {bytes : ByteArray} {mx d2 na index : Nat} {av st0 : List Value} {M1 : z_M} {rt : FieldType} {r0 : Int32} (hM : z_CI y bytes mx rt d2 dA ad av M r0 M1) (hm : z_ms y bytes mx (some rt) na) (hna : av.length = na) (hst : st0 = av.reverse ++ st) (hcat : (st.map fun v => v.category).sum ≤ 8) (hd : d2 + 1 ≤ d) (hlink : Cond.methodLink own index y ∈ z_T) (hdg : decode cc pc = .ok (.invokestatic index, 3)) (kk : z_X dA ad k (pc + 3) lv (.int r0 :: st) M1) : z_X dA ad k pc lv (st0) M := by
  obtain ⟨p, l, e, R, s, m, args, below, meth, c, D, base, nL, cells, slots, Q⟩ := k
  obtain ⟨hx, hb, ⟨hml, rfl⟩, hown, hlk, hrm, hE⟩ := C
  intro H locs ls hP hS hl
  obtain ⟨hstt, hini, hcd, hcn, hpa, hmx⟩ := hm
  refine va_calli (va_runS (Ts := []) (As := av) (rest := st) (n := na) ⟨hx, hb, hml, hown, fun w hw => by cases hw⟩ (hM l D base) ⟨⟨rfl, rfl, by have := hrm.1; show d2 + 1 ≤ R.frames; omega, by have := hrm.2.1; have := hmx; show 8 + (mx + 11) + 40 * d2 ≤ R.locals; omega, fun w hw a2 U hW => by rw [List.mem_singleton.mp hw]; exact word_at hW (Or.inl rfl) (z_w (args := #[]) hE hcd), List.mem_singleton.mpr rfl, z_w hE hcd, z_w hE hini, hcn, z_na hpa, z_w hE hlink⟩, z_w hE hstt⟩ ⟨z_blind, fun U hU hW => ⟨rfl, by rw [hU]; exact hP, z_E_warm hE hU hS hW⟩⟩ rfl hna hl.1 hst (lv_room hcat) hdg ⟨hrm.2.2.1, hrm.2.2.2⟩) hS (fun q _ h => h) (fun q h => h) (fun r u t H1 locs1 ht hvm hw hB hz1 hk1 hS1 => ?_)
  obtain ⟨rfl, rfl⟩ := hw
  have hB : va_P D z_cl (z_W dA ad _) t.heap := hB
  rw [ht] at hB
  exact kk H1 locs1 ls hB hS1 hl

theorem x_callSv (C : z_C dA ad k cc own d n) {y : MethodName} {bytes : ByteArray} {mx d2 na index : Nat} {av st0 : List Value} {M1 : z_M}  (hM : z_CV y bytes mx d2 dA ad av M M1) (hm : z_ms y bytes mx none na) (hna : av.length = na) (hst : st0 = av.reverse ++ st) (hcat : (st.map fun v => v.category).sum ≤ 8) (hd : d2 + 1 ≤ d) (hlink : Cond.methodLink own index y ∈ z_T) (hdg : decode cc pc = .ok (.invokestatic index, 3)) (kk : z_X dA ad k (pc + 3) lv (st) M1) : z_X dA ad k pc lv (st0) M := by
  obtain ⟨p, l, e, R, s, m, args, below, meth, c, D, base, nL, cells, slots, Q⟩ := k
  obtain ⟨hx, hb, ⟨hml, rfl⟩, hown, hlk, hrm, hE⟩ := C
  intro H locs ls hP hS hl
  obtain ⟨hstt, hini, hcd, hcn, hpa, hmx⟩ := hm
  refine va_callv (va_runS (Ts := []) (As := av) (rest := st) (n := na) ⟨hx, hb, hml, hown, fun w hw => by cases hw⟩ (hM l D base) ⟨⟨rfl, rfl, by have := hrm.1; show d2 + 1 ≤ R.frames; omega, by have := hrm.2.1; have := hmx; show 8 + (mx + 11) + 40 * d2 ≤ R.locals; omega, fun w hw a2 U hW => by rw [List.mem_singleton.mp hw]; exact word_at hW (Or.inl rfl) (z_w (args := #[]) hE hcd), List.mem_singleton.mpr rfl, z_w hE hcd, z_w hE hini, hcn, z_na hpa, z_w hE hlink⟩, z_w hE hstt⟩ ⟨z_blind, fun U hU hW => ⟨rfl, by rw [hU]; exact hP, z_E_warm hE hU hS hW⟩⟩ rfl hna hl.1 hst (lv_room hcat) hdg ⟨hrm.2.2.1, hrm.2.2.2⟩) hS (fun q _ h => h) (fun q h => h) (fun u t H1 locs1 ht hvm hw hB hz1 hk1 hS1 => ?_)
  subst hw
  have hB : va_P D z_cl (z_W dA ad _) t.heap := hB
  rw [ht] at hB
  exact kk H1 locs1 ls hB hS1 hl

theorem x_callSNi (C : z_C dA ad k cc own d n) {y : MethodName} {bytes : ByteArray} {mx d2 na index : Nat} {av st0 : List Value} {M1 : z_M} {rt : FieldType} {r0 : Int32} {host : String} (hM : z_CI y bytes mx rt d2 dA ad av M r0 M1) (hm : z_ms y bytes mx (some rt) na) (hna : av.length = na) (hst : st0 = av.reverse ++ st) (hcat : (st.map fun v => v.category).sum ≤ 8) (hd : d2 + 1 ≤ d) (hlink : Cond.methodLinkNest own index y host ∈ z_T) (hdg : decode cc pc = .ok (.invokestatic index, 3)) (kk : z_X dA ad k (pc + 3) lv (.int r0 :: st) M1) : z_X dA ad k pc lv (st0) M := by
  obtain ⟨p, l, e, R, s, m, args, below, meth, c, D, base, nL, cells, slots, Q⟩ := k
  obtain ⟨hx, hb, ⟨hml, rfl⟩, hown, hlk, hrm, hE⟩ := C
  intro H locs ls hP hS hl
  obtain ⟨hstt, hini, hcd, hcn, hpa, hmx⟩ := hm
  refine va_calli (va_runSN (Ts := []) (As := av) (rest := st) (n := na) ⟨hx, hb, hml, hown, fun w hw => by cases hw⟩ (hM l D base) ⟨⟨⟨rfl, rfl, by have := hrm.1; show d2 + 1 ≤ R.frames; omega, by have := hrm.2.1; have := hmx; show 8 + (mx + 11) + 40 * d2 ≤ R.locals; omega, fun w hw a2 U hW => by rw [List.mem_singleton.mp hw]; exact word_at hW (Or.inl rfl) (z_w (args := #[]) hE hcd), List.mem_singleton.mpr rfl⟩, z_w hE hcd, z_w hE hini, hcn, z_na hpa, z_w hE hlink⟩, z_w hE hstt, trivial⟩ ⟨z_blind, fun U hU hW => ⟨rfl, by rw [hU]; exact hP, z_E_warm hE hU hS hW⟩⟩ rfl hna hl.1 hst (lv_room hcat) hdg ⟨hrm.2.2.1, hrm.2.2.2⟩) hS (fun q _ h => h) (fun q h => h) (fun r u t H1 locs1 ht hvm hw hB hz1 hk1 hS1 => ?_)
  obtain ⟨rfl, rfl⟩ := hw
  have hB : va_P D z_cl (z_W dA ad _) t.heap := hB
  rw [ht] at hB
  exact kk H1 locs1 ls hB hS1 hl

theorem x_callSNv (C : z_C dA ad k cc own d n) {y : MethodName} {bytes : ByteArray} {mx d2 na index : Nat} {av st0 : List Value} {M1 : z_M}  {host : String} (hM : z_CV y bytes mx d2 dA ad av M M1) (hm : z_ms y bytes mx none na) (hna : av.length = na) (hst : st0 = av.reverse ++ st) (hcat : (st.map fun v => v.category).sum ≤ 8) (hd : d2 + 1 ≤ d) (hlink : Cond.methodLinkNest own index y host ∈ z_T) (hdg : decode cc pc = .ok (.invokestatic index, 3)) (kk : z_X dA ad k (pc + 3) lv (st) M1) : z_X dA ad k pc lv (st0) M := by
  obtain ⟨p, l, e, R, s, m, args, below, meth, c, D, base, nL, cells, slots, Q⟩ := k
  obtain ⟨hx, hb, ⟨hml, rfl⟩, hown, hlk, hrm, hE⟩ := C
  intro H locs ls hP hS hl
  obtain ⟨hstt, hini, hcd, hcn, hpa, hmx⟩ := hm
  refine va_callv (va_runSN (Ts := []) (As := av) (rest := st) (n := na) ⟨hx, hb, hml, hown, fun w hw => by cases hw⟩ (hM l D base) ⟨⟨⟨rfl, rfl, by have := hrm.1; show d2 + 1 ≤ R.frames; omega, by have := hrm.2.1; have := hmx; show 8 + (mx + 11) + 40 * d2 ≤ R.locals; omega, fun w hw a2 U hW => by rw [List.mem_singleton.mp hw]; exact word_at hW (Or.inl rfl) (z_w (args := #[]) hE hcd), List.mem_singleton.mpr rfl⟩, z_w hE hcd, z_w hE hini, hcn, z_na hpa, z_w hE hlink⟩, z_w hE hstt, trivial⟩ ⟨z_blind, fun U hU hW => ⟨rfl, by rw [hU]; exact hP, z_E_warm hE hU hS hW⟩⟩ rfl hna hl.1 hst (lv_room hcat) hdg ⟨hrm.2.2.1, hrm.2.2.2⟩) hS (fun q _ h => h) (fun q h => h) (fun u t H1 locs1 ht hvm hw hB hz1 hk1 hS1 => ?_)
  subst hw
  have hB : va_P D z_cl (z_W dA ad _) t.heap := hB
  rw [ht] at hB
  exact kk H1 locs1 ls hB hS1 hl

theorem x_callVi (C : z_C dA ad k cc own d n) {y : MethodName} {bytes : ByteArray} {mx d2 na index : Nat} {av st0 : List Value} {M1 : z_M} {rt : FieldType} {r0 : Int32} {i ci N : Nat} {fs : List Value} {T : u_T} (hM : z_CI y bytes mx rt d2 dA ad (.ref (ad i) :: av) M r0 M1) (hm : z_mv y bytes mx (some rt) na) (hi : i < z_N) (hc : z_c dA ad i (M i) = .inr (ci, fs)) (hcl : z_cl[ci]? = some (y.cls, T, N)) (hna : av.length = na) (hst : st0 = av.reverse ++ .ref (ad i) :: st) (hcat : (st.map fun v => v.category).sum ≤ 8) (hd : d2 + 1 ≤ d) (hlink : Cond.methodLink own index y ∈ z_T) (hdg : decode cc pc = .ok (.invokevirtual index, 3)) (kk : z_X dA ad k (pc + 3) lv (.int r0 :: st) M1) : z_X dA ad k pc lv (st0) M := by
  obtain ⟨p, l, e, R, s, m, args, below, meth, c, D, base, nL, cells, slots, Q⟩ := k
  obtain ⟨hx, hb, ⟨hml, rfl⟩, hown, hlk, hrm, hE⟩ := C
  intro H locs ls hP hS hl
  obtain ⟨⟨hins, hsel⟩, hini, hcd, hcn, hpa, hmx⟩ := hm
  refine va_calli (va_runV (Ts := []) (As := av) (rest := st) (n := na) (C := y.cls) ⟨hx, hb, hml, hown, fun w hw => by cases hw⟩ (hM l D base) ⟨⟨rfl, rfl, by have := hrm.1; show d2 + 1 ≤ R.frames; omega, by have := hrm.2.1; have := hmx; show 8 + (mx + 11) + 40 * d2 ≤ R.locals; omega, fun w hw a2 U hW => by rw [List.mem_singleton.mp hw]; exact word_at hW (Or.inl rfl) (z_w (args := #[]) hE hcd), List.mem_singleton.mpr rfl, z_w hE hcd, z_w hE hini, hcn, z_na hpa, z_w hE hlink⟩, z_w hE hins, z_w hE hsel⟩ ⟨z_blind, va_recv (q := (y.cls, T, N)) hE.1 hP hcl (by rw [z_W_get hi, hc]), fun U hU hW => ⟨rfl, by rw [hU]; exact hP, z_E_warm hE hU hS hW⟩⟩ rfl hna hl.1 hst (lv_room hcat) hdg ⟨hrm.2.2.1, hrm.2.2.2⟩) hS (fun q _ h => h) (fun q h => h) (fun r u t H1 locs1 ht hvm hw hB hz1 hk1 hS1 => ?_)
  obtain ⟨rfl, rfl⟩ := hw
  have hB : va_P D z_cl (z_W dA ad _) t.heap := hB
  rw [ht] at hB
  exact kk H1 locs1 ls hB hS1 hl

theorem x_callVv (C : z_C dA ad k cc own d n) {y : MethodName} {bytes : ByteArray} {mx d2 na index : Nat} {av st0 : List Value} {M1 : z_M}  {i ci N : Nat} {fs : List Value} {T : u_T} (hM : z_CV y bytes mx d2 dA ad (.ref (ad i) :: av) M M1) (hm : z_mv y bytes mx none na) (hi : i < z_N) (hc : z_c dA ad i (M i) = .inr (ci, fs)) (hcl : z_cl[ci]? = some (y.cls, T, N)) (hna : av.length = na) (hst : st0 = av.reverse ++ .ref (ad i) :: st) (hcat : (st.map fun v => v.category).sum ≤ 8) (hd : d2 + 1 ≤ d) (hlink : Cond.methodLink own index y ∈ z_T) (hdg : decode cc pc = .ok (.invokevirtual index, 3)) (kk : z_X dA ad k (pc + 3) lv (st) M1) : z_X dA ad k pc lv (st0) M := by
  obtain ⟨p, l, e, R, s, m, args, below, meth, c, D, base, nL, cells, slots, Q⟩ := k
  obtain ⟨hx, hb, ⟨hml, rfl⟩, hown, hlk, hrm, hE⟩ := C
  intro H locs ls hP hS hl
  obtain ⟨⟨hins, hsel⟩, hini, hcd, hcn, hpa, hmx⟩ := hm
  refine va_callv (va_runV (Ts := []) (As := av) (rest := st) (n := na) (C := y.cls) ⟨hx, hb, hml, hown, fun w hw => by cases hw⟩ (hM l D base) ⟨⟨rfl, rfl, by have := hrm.1; show d2 + 1 ≤ R.frames; omega, by have := hrm.2.1; have := hmx; show 8 + (mx + 11) + 40 * d2 ≤ R.locals; omega, fun w hw a2 U hW => by rw [List.mem_singleton.mp hw]; exact word_at hW (Or.inl rfl) (z_w (args := #[]) hE hcd), List.mem_singleton.mpr rfl, z_w hE hcd, z_w hE hini, hcn, z_na hpa, z_w hE hlink⟩, z_w hE hins, z_w hE hsel⟩ ⟨z_blind, va_recv (q := (y.cls, T, N)) hE.1 hP hcl (by rw [z_W_get hi, hc]), fun U hU hW => ⟨rfl, by rw [hU]; exact hP, z_E_warm hE hU hS hW⟩⟩ rfl hna hl.1 hst (lv_room hcat) hdg ⟨hrm.2.2.1, hrm.2.2.2⟩) hS (fun q _ h => h) (fun q h => h) (fun u t H1 locs1 ht hvm hw hB hz1 hk1 hS1 => ?_)
  subst hw
  have hB : va_P D z_cl (z_W dA ad _) t.heap := hB
  rw [ht] at hB
  exact kk H1 locs1 ls hB hS1 hl

theorem x_callVNi (C : z_C dA ad k cc own d n) {y : MethodName} {bytes : ByteArray} {mx d2 na index : Nat} {av st0 : List Value} {M1 : z_M} {rt : FieldType} {r0 : Int32} {i ci N : Nat} {fs : List Value} {T : u_T} {host : String} (hM : z_CI y bytes mx rt d2 dA ad (.ref (ad i) :: av) M r0 M1) (hm : z_mv y bytes mx (some rt) na) (hi : i < z_N) (hc : z_c dA ad i (M i) = .inr (ci, fs)) (hcl : z_cl[ci]? = some (y.cls, T, N)) (hna : av.length = na) (hst : st0 = av.reverse ++ .ref (ad i) :: st) (hcat : (st.map fun v => v.category).sum ≤ 8) (hd : d2 + 1 ≤ d) (hlink : Cond.methodLinkNest own index y host ∈ z_T) (hdg : decode cc pc = .ok (.invokevirtual index, 3)) (kk : z_X dA ad k (pc + 3) lv (.int r0 :: st) M1) : z_X dA ad k pc lv (st0) M := by
  obtain ⟨p, l, e, R, s, m, args, below, meth, c, D, base, nL, cells, slots, Q⟩ := k
  obtain ⟨hx, hb, ⟨hml, rfl⟩, hown, hlk, hrm, hE⟩ := C
  intro H locs ls hP hS hl
  obtain ⟨⟨hins, hsel⟩, hini, hcd, hcn, hpa, hmx⟩ := hm
  refine va_calli (va_runVN (Ts := []) (As := av) (rest := st) (n := na) (C := y.cls) ⟨hx, hb, hml, hown, fun w hw => by cases hw⟩ (hM l D base) ⟨⟨⟨rfl, rfl, by have := hrm.1; show d2 + 1 ≤ R.frames; omega, by have := hrm.2.1; have := hmx; show 8 + (mx + 11) + 40 * d2 ≤ R.locals; omega, fun w hw a2 U hW => by rw [List.mem_singleton.mp hw]; exact word_at hW (Or.inl rfl) (z_w (args := #[]) hE hcd), List.mem_singleton.mpr rfl⟩, z_w hE hcd, z_w hE hini, hcn, z_na hpa, z_w hE hlink⟩, z_w hE hins, z_w hE hsel⟩ ⟨z_blind, va_recv (q := (y.cls, T, N)) hE.1 hP hcl (by rw [z_W_get hi, hc]), fun U hU hW => ⟨rfl, by rw [hU]; exact hP, z_E_warm hE hU hS hW⟩⟩ rfl hna hl.1 hst (lv_room hcat) hdg ⟨hrm.2.2.1, hrm.2.2.2⟩) hS (fun q _ h => h) (fun q h => h) (fun r u t H1 locs1 ht hvm hw hB hz1 hk1 hS1 => ?_)
  obtain ⟨rfl, rfl⟩ := hw
  have hB : va_P D z_cl (z_W dA ad _) t.heap := hB
  rw [ht] at hB
  exact kk H1 locs1 ls hB hS1 hl

theorem x_callVNv (C : z_C dA ad k cc own d n) {y : MethodName} {bytes : ByteArray} {mx d2 na index : Nat} {av st0 : List Value} {M1 : z_M}  {i ci N : Nat} {fs : List Value} {T : u_T} {host : String} (hM : z_CV y bytes mx d2 dA ad (.ref (ad i) :: av) M M1) (hm : z_mv y bytes mx none na) (hi : i < z_N) (hc : z_c dA ad i (M i) = .inr (ci, fs)) (hcl : z_cl[ci]? = some (y.cls, T, N)) (hna : av.length = na) (hst : st0 = av.reverse ++ .ref (ad i) :: st) (hcat : (st.map fun v => v.category).sum ≤ 8) (hd : d2 + 1 ≤ d) (hlink : Cond.methodLinkNest own index y host ∈ z_T) (hdg : decode cc pc = .ok (.invokevirtual index, 3)) (kk : z_X dA ad k (pc + 3) lv (st) M1) : z_X dA ad k pc lv (st0) M := by
  obtain ⟨p, l, e, R, s, m, args, below, meth, c, D, base, nL, cells, slots, Q⟩ := k
  obtain ⟨hx, hb, ⟨hml, rfl⟩, hown, hlk, hrm, hE⟩ := C
  intro H locs ls hP hS hl
  obtain ⟨⟨hins, hsel⟩, hini, hcd, hcn, hpa, hmx⟩ := hm
  refine va_callv (va_runVN (Ts := []) (As := av) (rest := st) (n := na) (C := y.cls) ⟨hx, hb, hml, hown, fun w hw => by cases hw⟩ (hM l D base) ⟨⟨⟨rfl, rfl, by have := hrm.1; show d2 + 1 ≤ R.frames; omega, by have := hrm.2.1; have := hmx; show 8 + (mx + 11) + 40 * d2 ≤ R.locals; omega, fun w hw a2 U hW => by rw [List.mem_singleton.mp hw]; exact word_at hW (Or.inl rfl) (z_w (args := #[]) hE hcd), List.mem_singleton.mpr rfl⟩, z_w hE hcd, z_w hE hini, hcn, z_na hpa, z_w hE hlink⟩, z_w hE hins, z_w hE hsel⟩ ⟨z_blind, va_recv (q := (y.cls, T, N)) hE.1 hP hcl (by rw [z_W_get hi, hc]), fun U hU hW => ⟨rfl, by rw [hU]; exact hP, z_E_warm hE hU hS hW⟩⟩ rfl hna hl.1 hst (lv_room hcat) hdg ⟨hrm.2.2.1, hrm.2.2.2⟩) hS (fun q _ h => h) (fun q h => h) (fun u t H1 locs1 ht hvm hw hB hz1 hk1 hS1 => ?_)
  subst hw
  have hB : va_P D z_cl (z_W dA ad _) t.heap := hB
  rw [ht] at hB
  exact kk H1 locs1 ls hB hS1 hl

end ZL
end
