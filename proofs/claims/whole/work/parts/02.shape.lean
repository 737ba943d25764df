abbrev b_CellTransport_init : ByteArray := prog_1_method_1_code
def y_CellTransport_init : MethodName := ⟨"CellTransport", "<init>", "()V"⟩
abbrev b_CellTransport_surface : ByteArray := prog_1_method_2_code
def y_CellTransport_surface : MethodName := ⟨"CellTransport", "surface", "(IIIII)I"⟩
abbrev b_CellTransport_token : ByteArray := prog_1_method_3_code
def y_CellTransport_token : MethodName := ⟨"CellTransport", "token", "(I)I"⟩
abbrev b_CellTransport_cell : ByteArray := prog_1_method_4_code
def y_CellTransport_cell : MethodName := ⟨"CellTransport", "cell", "(IIII)I"⟩
abbrev b_CellTransport_undefine : ByteArray := prog_1_method_5_code
def y_CellTransport_undefine : MethodName := ⟨"CellTransport", "undefine", "(I)I"⟩
abbrev b_CellTransport_source : ByteArray := prog_1_method_6_code
def y_CellTransport_source : MethodName := ⟨"CellTransport", "source", "(II)I"⟩
abbrev b_CellTransport_seed : ByteArray := prog_1_method_7_code
def y_CellTransport_seed : MethodName := ⟨"CellTransport", "seed", "(I)V"⟩
abbrev b_CellTransport_skip : ByteArray := prog_1_method_8_code
def y_CellTransport_skip : MethodName := ⟨"CellTransport", "skip", "(I)I"⟩
abbrev b_CellTransport_state : ByteArray := prog_1_method_9_code
def y_CellTransport_state : MethodName := ⟨"CellTransport", "state", "()I"⟩
abbrev b_CellTransport_run : ByteArray := prog_1_method_10_code
def y_CellTransport_run : MethodName := ⟨"CellTransport", "run", "(I)I"⟩
abbrev b_CellTransport_where : ByteArray := prog_1_method_11_code
def y_CellTransport_where : MethodName := ⟨"CellTransport", "where", "(II)I"⟩
abbrev b_CellTransport_reach : ByteArray := prog_1_method_12_code
def y_CellTransport_reach : MethodName := ⟨"CellTransport", "reach", "(III)I"⟩
abbrev b_CellTransport_tally : ByteArray := prog_1_method_13_code
def y_CellTransport_tally : MethodName := ⟨"CellTransport", "tally", "(II)I"⟩
abbrev b_CellTransport_crossed : ByteArray := prog_1_method_14_code
def y_CellTransport_crossed : MethodName := ⟨"CellTransport", "crossed", "(II)I"⟩
abbrev b_CellTransport_count : ByteArray := prog_1_method_15_code
def y_CellTransport_count : MethodName := ⟨"CellTransport", "count", "(I)I"⟩
abbrev b_CellTransport_clear : ByteArray := prog_1_method_16_code
def y_CellTransport_clear : MethodName := ⟨"CellTransport", "clear", "()V"⟩
abbrev b_CellTransport_isBetween : ByteArray := prog_1_method_17_code
def y_CellTransport_isBetween : MethodName := ⟨"CellTransport", "isBetween", "(III)Z"⟩
abbrev b_CellTransport_areWithin : ByteArray := prog_1_method_18_code
def y_CellTransport_areWithin : MethodName := ⟨"CellTransport", "areWithin", "(III)Z"⟩
abbrev b_CellTransport_isSurface : ByteArray := prog_1_method_19_code
def y_CellTransport_isSurface : MethodName := ⟨"CellTransport", "isSurface", "(IIII)Z"⟩
abbrev b_CellTransport_areShares : ByteArray := prog_1_method_20_code
def y_CellTransport_areShares : MethodName := ⟨"CellTransport", "areShares", "(II)Z"⟩
abbrev b_CellTransport_oneIf : ByteArray := prog_1_method_21_code
def y_CellTransport_oneIf : MethodName := ⟨"CellTransport", "oneIf", "(Z)I"⟩
abbrev b_CellTransport_playHistory : ByteArray := prog_1_method_22_code
def y_CellTransport_playHistory : MethodName := ⟨"CellTransport", "playHistory", "()I"⟩
abbrev b_CellTransport_fly : ByteArray := prog_1_method_23_code
def y_CellTransport_fly : MethodName := ⟨"CellTransport", "fly", "()V"⟩
abbrev b_CellTransport_aim : ByteArray := prog_1_method_24_code
def y_CellTransport_aim : MethodName := ⟨"CellTransport", "aim", "()V"⟩
abbrev b_CellTransport_survivesStep : ByteArray := prog_1_method_25_code
def y_CellTransport_survivesStep : MethodName := ⟨"CellTransport", "survivesStep", "()Z"⟩
abbrev b_CellTransport_survivesCollision : ByteArray := prog_1_method_26_code
def y_CellTransport_survivesCollision : MethodName := ⟨"CellTransport", "survivesCollision", "(LCellTransport$Cell;)Z"⟩
abbrev b_CellTransport_split : ByteArray := prog_1_method_27_code
def y_CellTransport_split : MethodName := ⟨"CellTransport", "split", "()V"⟩
abbrev b_Model_init : ByteArray := prog_11_method_1_code
def y_Model_init : MethodName := ⟨"CellTransportModel", "<init>", "()V"⟩
abbrev b_Model_out : ByteArray := prog_11_method_2_code
def y_Model_out : MethodName := ⟨"CellTransportModel", "out", "(III)Z"⟩
abbrev b_Model_surface : ByteArray := prog_11_method_3_code
def y_Model_surface : MethodName := ⟨"CellTransportModel", "surface", "(IIIII)I"⟩
abbrev b_Model_token : ByteArray := prog_11_method_4_code
def y_Model_token : MethodName := ⟨"CellTransportModel", "token", "(I)I"⟩
abbrev b_Model_told : ByteArray := prog_11_method_5_code
def y_Model_told : MethodName := ⟨"CellTransportModel", "told", "()Z"⟩
abbrev b_Model_cell : ByteArray := prog_11_method_6_code
def y_Model_cell : MethodName := ⟨"CellTransportModel", "cell", "(IIII)I"⟩
abbrev b_Model_undefine : ByteArray := prog_11_method_7_code
def y_Model_undefine : MethodName := ⟨"CellTransportModel", "undefine", "(I)I"⟩
abbrev b_Model_source : ByteArray := prog_11_method_8_code
def y_Model_source : MethodName := ⟨"CellTransportModel", "source", "(II)I"⟩
abbrev b_Model_seed : ByteArray := prog_11_method_9_code
def y_Model_seed : MethodName := ⟨"CellTransportModel", "seed", "(I)V"⟩
abbrev b_Model_draw : ByteArray := prog_11_method_10_code
def y_Model_draw : MethodName := ⟨"CellTransportModel", "draw", "(I)I"⟩
abbrev b_Model_skip : ByteArray := prog_11_method_11_code
def y_Model_skip : MethodName := ⟨"CellTransportModel", "skip", "(I)I"⟩
abbrev b_Model_state : ByteArray := prog_11_method_12_code
def y_Model_state : MethodName := ⟨"CellTransportModel", "state", "()I"⟩
abbrev b_Model_holds : ByteArray := prog_11_method_13_code
def y_Model_holds : MethodName := ⟨"CellTransportModel", "holds", "(III)Z"⟩
abbrev b_Model_inside : ByteArray := prog_11_method_14_code
def y_Model_inside : MethodName := ⟨"CellTransportModel", "inside", "(III)Z"⟩
abbrev b_Model_at : ByteArray := prog_11_method_15_code
def y_Model_at : MethodName := ⟨"CellTransportModel", "at", "(II)I"⟩
abbrev b_Model_stepX : ByteArray := prog_11_method_16_code
def y_Model_stepX : MethodName := ⟨"CellTransportModel", "stepX", "(I)I"⟩
abbrev b_Model_stepY : ByteArray := prog_11_method_17_code
def y_Model_stepY : MethodName := ⟨"CellTransportModel", "stepY", "(I)I"⟩
abbrev b_Model_where : ByteArray := prog_11_method_18_code
def y_Model_where : MethodName := ⟨"CellTransportModel", "where", "(II)I"⟩
abbrev b_Model_reach : ByteArray := prog_11_method_19_code
def y_Model_reach : MethodName := ⟨"CellTransportModel", "reach", "(III)I"⟩
abbrev b_Model_turn : ByteArray := prog_11_method_20_code
def y_Model_turn : MethodName := ⟨"CellTransportModel", "turn", "()V"⟩
abbrev b_Model_join : ByteArray := prog_11_method_21_code
def y_Model_join : MethodName := ⟨"CellTransportModel", "join", "()V"⟩
abbrev b_Model_collide : ByteArray := prog_11_method_22_code
def y_Model_collide : MethodName := ⟨"CellTransportModel", "collide", "(I)Z"⟩
abbrev b_Model_fly : ByteArray := prog_11_method_23_code
def y_Model_fly : MethodName := ⟨"CellTransportModel", "fly", "()V"⟩
abbrev b_Model_history : ByteArray := prog_11_method_24_code
def y_Model_history : MethodName := ⟨"CellTransportModel", "history", "()I"⟩
abbrev b_Model_run : ByteArray := prog_11_method_25_code
def y_Model_run : MethodName := ⟨"CellTransportModel", "run", "(I)I"⟩
abbrev b_Model_tally : ByteArray := prog_11_method_26_code
def y_Model_tally : MethodName := ⟨"CellTransportModel", "tally", "(II)I"⟩
abbrev b_Model_crossed : ByteArray := prog_11_method_27_code
def y_Model_crossed : MethodName := ⟨"CellTransportModel", "crossed", "(II)I"⟩
abbrev b_Model_count : ByteArray := prog_11_method_28_code
def y_Model_count : MethodName := ⟨"CellTransportModel", "count", "(I)I"⟩
abbrev b_Model_clear : ByteArray := prog_11_method_29_code
def y_Model_clear : MethodName := ⟨"CellTransportModel", "clear", "()V"⟩
abbrev b_Cell_init : ByteArray := prog_2_method_1_code
def y_Cell_init : MethodName := ⟨"CellTransport$Cell", "<init>", "()V"⟩
abbrev b_Cell_define : ByteArray := prog_2_method_2_code
def y_Cell_define : MethodName := ⟨"CellTransport$Cell", "define", "(LCellTransport$Region;III)V"⟩
abbrev b_Counts_init : ByteArray := prog_3_method_1_code
def y_Counts_init : MethodName := ⟨"CellTransport$Counts", "<init>", "()V"⟩
abbrev b_Counts_addTrack : ByteArray := prog_3_method_2_code
def y_Counts_addTrack : MethodName := ⟨"CellTransport$Counts", "addTrack", "(II)V"⟩
abbrev b_Counts_reset : ByteArray := prog_3_method_3_code
def y_Counts_reset : MethodName := ⟨"CellTransport$Counts", "reset", "()V"⟩
abbrev b_Generator_init : ByteArray := prog_4_method_1_code
def y_Generator_init : MethodName := ⟨"CellTransport$Generator", "<init>", "()V"⟩
abbrev b_Generator_start : ByteArray := prog_4_method_2_code
def y_Generator_start : MethodName := ⟨"CellTransport$Generator", "start", "(I)V"⟩
abbrev b_Generator_draw : ByteArray := prog_4_method_3_code
def y_Generator_draw : MethodName := ⟨"CellTransport$Generator", "draw", "()I"⟩
abbrev b_Generator_leap : ByteArray := prog_4_method_4_code
def y_Generator_leap : MethodName := ⟨"CellTransport$Generator", "leap", "(I)V"⟩
abbrev b_Geometry_init : ByteArray := prog_5_method_1_code
def y_Geometry_init : MethodName := ⟨"CellTransport$Geometry", "<init>", "()V"⟩
abbrev b_Geometry_cellAt : ByteArray := prog_5_method_2_code
def y_Geometry_cellAt : MethodName := ⟨"CellTransport$Geometry", "cellAt", "(II)I"⟩
abbrev b_Geometry_definedCells : ByteArray := prog_5_method_3_code
def y_Geometry_definedCells : MethodName := ⟨"CellTransport$Geometry", "definedCells", "()I"⟩
abbrev b_Line_init : ByteArray := prog_6_method_1_code
def y_Line_init : MethodName := ⟨"CellTransport$Line", "<init>", "()V"⟩
abbrev b_Line_empty : ByteArray := prog_6_method_2_code
def y_Line_empty : MethodName := ⟨"CellTransport$Line", "empty", "()V"⟩
abbrev b_Line_join : ByteArray := prog_6_method_3_code
def y_Line_join : MethodName := ⟨"CellTransport$Line", "join", "(II)Z"⟩
abbrev b_Line_sendLast : ByteArray := prog_6_method_4_code
def y_Line_sendLast : MethodName := ⟨"CellTransport$Line", "sendLast", "(LCellTransport$Particle;)V"⟩
abbrev b_Particle_init : ByteArray := prog_7_method_1_code
def y_Particle_init : MethodName := ⟨"CellTransport$Particle", "<init>", "()V"⟩
abbrev b_Particle_move : ByteArray := prog_7_method_2_code
def y_Particle_move : MethodName := ⟨"CellTransport$Particle", "move", "()V"⟩
abbrev b_Region_init : ByteArray := prog_8_method_1_code
def y_Region_init : MethodName := ⟨"CellTransport$Region", "<init>", "()V"⟩
abbrev b_Region_add : ByteArray := prog_8_method_2_code
def y_Region_add : MethodName := ⟨"CellTransport$Region", "add", "(I)V"⟩
abbrev b_Region_copyFrom : ByteArray := prog_8_method_3_code
def y_Region_copyFrom : MethodName := ⟨"CellTransport$Region", "copyFrom", "(LCellTransport$Region;)V"⟩
abbrev b_Region_isWhole : ByteArray := prog_8_method_4_code
def y_Region_isWhole : MethodName := ⟨"CellTransport$Region", "isWhole", "()Z"⟩
abbrev b_Region_operandsOf : ByteArray := prog_8_method_5_code
def y_Region_operandsOf : MethodName := ⟨"CellTransport$Region", "operandsOf", "(I)I"⟩
abbrev b_Region_holds : ByteArray := prog_8_method_6_code
def y_Region_holds : MethodName := ⟨"CellTransport$Region", "holds", "([LCellTransport$Surface;II)Z"⟩
abbrev b_Surface_init : ByteArray := prog_9_method_1_code
def y_Surface_init : MethodName := ⟨"CellTransport$Surface", "<init>", "()V"⟩
abbrev b_Surface_become : ByteArray := prog_9_method_2_code
def y_Surface_become : MethodName := ⟨"CellTransport$Surface", "become", "(IIII)V"⟩
abbrev b_Surface_holds : ByteArray := prog_9_method_3_code
def y_Surface_holds : MethodName := ⟨"CellTransport$Surface", "holds", "(II)Z"⟩
abbrev b_Arrays_fill : ByteArray := prog_13_method_103_code
def y_Arrays_fill : MethodName := ⟨"java/util/Arrays", "fill", "([II)V"⟩
def i_surf (j : Nat) : Nat := 4 + j
def i_cell (j : Nat) : Nat := 12 + j
def i_reg (j : Nat) : Nat := 18 + j
def i_tok (j : Nat) : Nat := 25 + j
def i_talr (j : Nat) : Nat := 36 + j
def i_cror (j : Nat) : Nat := 43 + j
def R_CellTransport : String := "CellTransport"
def F_CellTransport : u_T := fun k => match k with
  | 0 => ("CellTransport", "geometry", "LCellTransport$Geometry;", true)
  | 1 => ("CellTransport", "buffer", "LCellTransport$Region;", true)
  | 2 => ("CellTransport", "generator", "LCellTransport$Generator;", true)
  | 3 => ("CellTransport", "counts", "LCellTransport$Counts;", true)
  | 4 => ("CellTransport", "line", "LCellTransport$Line;", true)
  | 5 => ("CellTransport", "particle", "LCellTransport$Particle;", true)
  | 6 => ("CellTransport", "sourceX", "I", false)
  | _ => ("CellTransport", "sourceY", "I", false)
def t_CellTransport : Nat → FieldType := fun k => match k with
  | 0 => .object "CellTransport$Geometry"
  | 1 => .object "CellTransport$Region"
  | 2 => .object "CellTransport$Generator"
  | 3 => .object "CellTransport$Counts"
  | 4 => .object "CellTransport$Line"
  | 5 => .object "CellTransport$Particle"
  | 6 => .int
  | _ => .int
theorem n_CellTransport : ∀ a, a < 8 → ∀ b, b < 8 → a ≠ b → (F_CellTransport a).2.1 ≠ (F_CellTransport b).2.1 := by decide +kernel
theorem t_CellTransport_ok : ∀ k, k < 8 → parseFieldDescriptor (F_CellTransport k).2.2.1 = some (t_CellTransport k) := by decide +kernel
def R_Geometry : String := "CellTransport$Geometry"
def F_Geometry : u_T := fun k => match k with
  | 0 => ("CellTransport$Geometry", "surfaces", "[LCellTransport$Surface;", true)
  | _ => ("CellTransport$Geometry", "cells", "[LCellTransport$Cell;", true)
def t_Geometry : Nat → FieldType := fun k => match k with
  | 0 => .array (.object "CellTransport$Surface")
  | _ => .array (.object "CellTransport$Cell")
theorem n_Geometry : ∀ a, a < 2 → ∀ b, b < 2 → a ≠ b → (F_Geometry a).2.1 ≠ (F_Geometry b).2.1 := by decide +kernel
theorem t_Geometry_ok : ∀ k, k < 2 → parseFieldDescriptor (F_Geometry k).2.2.1 = some (t_Geometry k) := by decide +kernel
def R_Surface : String := "CellTransport$Surface"
def F_Surface : u_T := fun k => match k with
  | 0 => ("CellTransport$Surface", "isSet", "Z", false)
  | 1 => ("CellTransport$Surface", "kind", "I", false)
  | 2 => ("CellTransport$Surface", "a", "I", false)
  | 3 => ("CellTransport$Surface", "b", "I", false)
  | _ => ("CellTransport$Surface", "c", "I", false)
def t_Surface : Nat → FieldType := fun k => match k with
  | 0 => .boolean
  | 1 => .int
  | 2 => .int
  | 3 => .int
  | _ => .int
theorem n_Surface : ∀ a, a < 5 → ∀ b, b < 5 → a ≠ b → (F_Surface a).2.1 ≠ (F_Surface b).2.1 := by decide +kernel
theorem t_Surface_ok : ∀ k, k < 5 → parseFieldDescriptor (F_Surface k).2.2.1 = some (t_Surface k) := by decide +kernel
def R_Cell : String := "CellTransport$Cell"
def F_Cell : u_T := fun k => match k with
  | 0 => ("CellTransport$Cell", "region", "LCellTransport$Region;", true)
  | 1 => ("CellTransport$Cell", "isDefined", "Z", false)
  | 2 => ("CellTransport$Cell", "density", "I", false)
  | 3 => ("CellTransport$Cell", "absorption", "I", false)
  | _ => ("CellTransport$Cell", "fission", "I", false)
def t_Cell : Nat → FieldType := fun k => match k with
  | 0 => .object "CellTransport$Region"
  | 1 => .boolean
  | 2 => .int
  | 3 => .int
  | _ => .int
theorem n_Cell : ∀ a, a < 5 → ∀ b, b < 5 → a ≠ b → (F_Cell a).2.1 ≠ (F_Cell b).2.1 := by decide +kernel
theorem t_Cell_ok : ∀ k, k < 5 → parseFieldDescriptor (F_Cell k).2.2.1 = some (t_Cell k) := by decide +kernel
def R_Region : String := "CellTransport$Region"
def F_Region : u_T := fun k => match k with
  | 0 => ("CellTransport$Region", "tokens", "[I", true)
  | _ => ("CellTransport$Region", "size", "I", false)
def t_Region : Nat → FieldType := fun k => match k with
  | 0 => .array (.int)
  | _ => .int
theorem n_Region : ∀ a, a < 2 → ∀ b, b < 2 → a ≠ b → (F_Region a).2.1 ≠ (F_Region b).2.1 := by decide +kernel
theorem t_Region_ok : ∀ k, k < 2 → parseFieldDescriptor (F_Region k).2.2.1 = some (t_Region k) := by decide +kernel
def R_Generator : String := "CellTransport$Generator"
def F_Generator : u_T := fun k => match k with
  | _ => ("CellTransport$Generator", "state", "I", false)
def t_Generator : Nat → FieldType := fun k => match k with
  | _ => .int
theorem n_Generator : ∀ a, a < 1 → ∀ b, b < 1 → a ≠ b → (F_Generator a).2.1 ≠ (F_Generator b).2.1 := by decide +kernel
theorem t_Generator_ok : ∀ k, k < 1 → parseFieldDescriptor (F_Generator k).2.2.1 = some (t_Generator k) := by decide +kernel
def R_Counts : String := "CellTransport$Counts"
def F_Counts : u_T := fun k => match k with
  | 0 => ("CellTransport$Counts", "totals", "[I", true)
  | 1 => ("CellTransport$Counts", "tallies", "[[I", true)
  | _ => ("CellTransport$Counts", "crossings", "[[I", true)
def t_Counts : Nat → FieldType := fun k => match k with
  | 0 => .array (.int)
  | 1 => .array (.array (.int))
  | _ => .array (.array (.int))
theorem n_Counts : ∀ a, a < 3 → ∀ b, b < 3 → a ≠ b → (F_Counts a).2.1 ≠ (F_Counts b).2.1 := by decide +kernel
theorem t_Counts_ok : ∀ k, k < 3 → parseFieldDescriptor (F_Counts k).2.2.1 = some (t_Counts k) := by decide +kernel
def R_Line : String := "CellTransport$Line"
def F_Line : u_T := fun k => match k with
  | 0 => ("CellTransport$Line", "placesX", "[I", true)
  | 1 => ("CellTransport$Line", "placesY", "[I", true)
  | 2 => ("CellTransport$Line", "waiting", "I", false)
  | _ => ("CellTransport$Line", "joined", "I", false)
def t_Line : Nat → FieldType := fun k => match k with
  | 0 => .array (.int)
  | 1 => .array (.int)
  | 2 => .int
  | _ => .int
theorem n_Line : ∀ a, a < 4 → ∀ b, b < 4 → a ≠ b → (F_Line a).2.1 ≠ (F_Line b).2.1 := by decide +kernel
theorem t_Line_ok : ∀ k, k < 4 → parseFieldDescriptor (F_Line k).2.2.1 = some (t_Line k) := by decide +kernel
def R_Particle : String := "CellTransport$Particle"
def F_Particle : u_T := fun k => match k with
  | 0 => ("CellTransport$Particle", "x", "I", false)
  | 1 => ("CellTransport$Particle", "y", "I", false)
  | 2 => ("CellTransport$Particle", "cell", "I", false)
  | 3 => ("CellTransport$Particle", "direction", "I", false)
  | _ => ("CellTransport$Particle", "budget", "I", false)
def t_Particle : Nat → FieldType := fun k => match k with
  | 0 => .int
  | 1 => .int
  | 2 => .int
  | 3 => .int
  | _ => .int
theorem n_Particle : ∀ a, a < 5 → ∀ b, b < 5 → a ≠ b → (F_Particle a).2.1 ≠ (F_Particle b).2.1 := by decide +kernel
theorem t_Particle_ok : ∀ k, k < 5 → parseFieldDescriptor (F_Particle k).2.2.1 = some (t_Particle k) := by decide +kernel
def R_Model : String := "CellTransportModel"
def F_Model : u_T := fun k => match k with
  | 0 => ("CellTransportModel", "kind", "[I", true)
  | 1 => ("CellTransportModel", "sa", "[I", true)
  | 2 => ("CellTransportModel", "sb", "[I", true)
  | 3 => ("CellTransportModel", "sc", "[I", true)
  | 4 => ("CellTransportModel", "set", "[Z", true)
  | 5 => ("CellTransportModel", "buffer", "[I", true)
  | 6 => ("CellTransportModel", "held", "I", false)
  | 7 => ("CellTransportModel", "region", "[I", true)
  | 8 => ("CellTransportModel", "tokens", "[I", true)
  | 9 => ("CellTransportModel", "defined", "[Z", true)
  | 10 => ("CellTransportModel", "density", "[I", true)
  | 11 => ("CellTransportModel", "absorbs", "[I", true)
  | 12 => ("CellTransportModel", "splits", "[I", true)
  | 13 => ("CellTransportModel", "sourceX", "I", false)
  | 14 => ("CellTransportModel", "sourceY", "I", false)
  | 15 => ("CellTransportModel", "generator", "J", false)
  | 16 => ("CellTransportModel", "tallies", "[I", true)
  | 17 => ("CellTransportModel", "crossings", "[I", true)
  | 18 => ("CellTransportModel", "counts", "[I", true)
  | 19 => ("CellTransportModel", "px", "[I", true)
  | 20 => ("CellTransportModel", "py", "[I", true)
  | 21 => ("CellTransportModel", "waiting", "I", false)
  | 22 => ("CellTransportModel", "particles", "I", false)
  | 23 => ("CellTransportModel", "x", "I", false)
  | 24 => ("CellTransportModel", "y", "I", false)
  | 25 => ("CellTransportModel", "direction", "I", false)
  | _ => ("CellTransportModel", "budget", "I", false)
def t_Model : Nat → FieldType := fun k => match k with
  | 0 => .array (.int)
  | 1 => .array (.int)
  | 2 => .array (.int)
  | 3 => .array (.int)
  | 4 => .array (.boolean)
  | 5 => .array (.int)
  | 6 => .int
  | 7 => .array (.int)
  | 8 => .array (.int)
  | 9 => .array (.boolean)
  | 10 => .array (.int)
  | 11 => .array (.int)
  | 12 => .array (.int)
  | 13 => .int
  | 14 => .int
  | 15 => .long
  | 16 => .array (.int)
  | 17 => .array (.int)
  | 18 => .array (.int)
  | 19 => .array (.int)
  | 20 => .array (.int)
  | 21 => .int
  | 22 => .int
  | 23 => .int
  | 24 => .int
  | 25 => .int
  | _ => .int
theorem n_Model : ∀ a, a < 27 → ∀ b, b < 27 → a ≠ b → (F_Model a).2.1 ≠ (F_Model b).2.1 := by decide +kernel
theorem t_Model_ok : ∀ k, k < 27 → parseFieldDescriptor (F_Model k).2.2.1 = some (t_Model k) := by decide +kernel
abbrev z_cl : List vw_C := [(R_CellTransport, F_CellTransport, 8), (R_Geometry, F_Geometry, 2), (R_Surface, F_Surface, 5), (R_Cell, F_Cell, 5), (R_Region, F_Region, 2), (R_Generator, F_Generator, 1), (R_Counts, F_Counts, 3), (R_Line, F_Line, 4), (R_Particle, F_Particle, 5), (R_Model, F_Model, 27)]
def z_N : Nat := 71
def z_tys (dA : Nat → ClassId) : List (ClassId × FieldType) := [(dA 0, .int), (dA 1, .object "CellTransport$Surface"), (dA 2, .object "CellTransport$Cell"), (dA 3, .array .int), (dA 4, .boolean)]
def z_c (dA : Nat → ClassId) (ad : Nat → Nat) (k : Nat) (f : Nat → Int32) : va_E :=
  if k = 0 then .inr (0, [.ref (ad 1), .ref (ad (i_reg 6)), .ref (ad 32), .ref (ad 33), .ref (ad 49), .ref (ad 52), .int (f 6), .int (f 7)]) else
  if k = 1 then .inr (1, [.ref (ad 2), .ref (ad 3)]) else
  if k = 2 then .inl (dA 1, 8, .inr (.inr (.inr (.inr (fun j => some (ad (i_surf j))))))) else
  if k = 3 then .inl (dA 2, 6, .inr (.inr (.inr (.inr (fun j => some (ad (i_cell j))))))) else
  if k < 12 then .inr (2, [.int (f 0), .int (f 1), .int (f 2), .int (f 3), .int (f 4)]) else
  if k < 18 then .inr (3, [.ref (ad (i_reg (k - 12))), .int (f 1), .int (f 2), .int (f 3), .int (f 4)]) else
  if k < 25 then .inr (4, [.ref (ad (i_tok (k - 18))), .int (f 1)]) else
  if k < 32 then .inl (dA 0, 8, .inl f) else
  if k = 32 then .inr (5, [.int (f 0)]) else
  if k = 33 then .inr (6, [.ref (ad 34), .ref (ad 35), .ref (ad 42)]) else
  if k = 34 then .inl (dA 0, 5, .inl f) else
  if k = 35 then .inl (dA 3, 6, .inr (.inr (.inr (.inr (fun j => some (ad (i_talr j))))))) else
  if k < 42 then .inl (dA 0, 4, .inl f) else
  if k = 42 then .inl (dA 3, 6, .inr (.inr (.inr (.inr (fun j => some (ad (i_cror j))))))) else
  if k < 49 then .inl (dA 0, 6, .inl f) else
  if k = 49 then .inr (7, [.ref (ad 50), .ref (ad 51), .int (f 2), .int (f 3)]) else
  if k = 50 then .inl (dA 0, 12, .inl f) else
  if k = 51 then .inl (dA 0, 12, .inl f) else
  if k = 52 then .inr (8, [.int (f 0), .int (f 1), .int (f 2), .int (f 3), .int (f 4)]) else
  if k = 53 then .inr (9, [.ref (ad 54), .ref (ad 55), .ref (ad 56), .ref (ad 57), .ref (ad 58), .ref (ad 59), .int (f 6), .ref (ad 60), .ref (ad 61), .ref (ad 62), .ref (ad 63), .ref (ad 64), .ref (ad 65), .int (f 13), .int (f 14), .long (f 15).toInt64, .ref (ad 66), .ref (ad 67), .ref (ad 68), .ref (ad 69), .ref (ad 70), .int (f 21), .int (f 22), .int (f 23), .int (f 24), .int (f 25), .int (f 26)]) else
  if k = 54 then .inl (dA 0, 8, .inl f) else
  if k = 55 then .inl (dA 0, 8, .inl f) else
  if k = 56 then .inl (dA 0, 8, .inl f) else
  if k = 57 then .inl (dA 0, 8, .inl f) else
  if k = 58 then .inl (dA 4, 8, .inl f) else
  if k = 59 then .inl (dA 0, 8, .inl f) else
  if k = 60 then .inl (dA 0, 48, .inl f) else
  if k = 61 then .inl (dA 0, 6, .inl f) else
  if k = 62 then .inl (dA 4, 6, .inl f) else
  if k = 63 then .inl (dA 0, 6, .inl f) else
  if k = 64 then .inl (dA 0, 6, .inl f) else
  if k = 65 then .inl (dA 0, 6, .inl f) else
  if k = 66 then .inl (dA 0, 24, .inl f) else
  if k = 67 then .inl (dA 0, 36, .inl f) else
  if k = 68 then .inl (dA 0, 5, .inl f) else
  if k = 69 then .inl (dA 0, 12, .inl f) else
  if k = 70 then .inl (dA 0, 12, .inl f) else
  .inl (dA 0, 0, .inl f)
theorem zl_CellTransport : 0 < z_N := by decide
theorem zc_CellTransport {dA : Nat → ClassId} {ad : Nat → Nat} (f : Nat → Int32) : z_c dA ad 0 f = .inr (0, [.ref (ad 1), .ref (ad (i_reg 6)), .ref (ad 32), .ref (ad 33), .ref (ad 49), .ref (ad 52), .int (f 6), .int (f 7)]) := rfl
theorem zl_Geometry : 1 < z_N := by decide
theorem zc_Geometry {dA : Nat → ClassId} {ad : Nat → Nat} (f : Nat → Int32) : z_c dA ad 1 f = .inr (1, [.ref (ad 2), .ref (ad 3)]) := rfl
theorem zl_surfaces : 2 < z_N := by decide
theorem zc_surfaces {dA : Nat → ClassId} {ad : Nat → Nat} (f : Nat → Int32) : z_c dA ad 2 f = .inl (dA 1, 8, .inr (.inr (.inr (.inr (fun j => some (ad (i_surf j))))))) := rfl
theorem zl_cells : 3 < z_N := by decide
theorem zc_cells {dA : Nat → ClassId} {ad : Nat → Nat} (f : Nat → Int32) : z_c dA ad 3 f = .inl (dA 2, 6, .inr (.inr (.inr (.inr (fun j => some (ad (i_cell j))))))) := rfl
theorem zl_Surface {j : Nat} (hj : j < 8) : (i_surf j) < z_N := by unfold i_surf z_N; omega
theorem zc_Surface {dA : Nat → ClassId} {ad : Nat → Nat} {j : Nat} (hj : j < 8) (f : Nat → Int32) : z_c dA ad (i_surf j) f = .inr (2, [.int (f 0), .int (f 1), .int (f 2), .int (f 3), .int (f 4)]) := by
  unfold z_c
  rw [if_neg (show ¬ i_surf j = 0 by unfold i_surf; omega), if_neg (show ¬ i_surf j = 1 by unfold i_surf; omega), if_neg (show ¬ i_surf j = 2 by unfold i_surf; omega), if_neg (show ¬ i_surf j = 3 by unfold i_surf; omega), if_pos (show i_surf j < 12 by unfold i_surf; omega)]
theorem zl_Cell {j : Nat} (hj : j < 6) : (i_cell j) < z_N := by unfold i_cell z_N; omega
theorem zc_Cell {dA : Nat → ClassId} {ad : Nat → Nat} {j : Nat} (hj : j < 6) (f : Nat → Int32) : z_c dA ad (i_cell j) f = .inr (3, [.ref (ad (i_reg j)), .int (f 1), .int (f 2), .int (f 3), .int (f 4)]) := by
  unfold z_c
  rw [if_neg (show ¬ i_cell j = 0 by unfold i_cell; omega), if_neg (show ¬ i_cell j = 1 by unfold i_cell; omega), if_neg (show ¬ i_cell j = 2 by unfold i_cell; omega), if_neg (show ¬ i_cell j = 3 by unfold i_cell; omega), if_neg (show ¬ i_cell j < 12 by unfold i_cell; omega), if_pos (show i_cell j < 18 by unfold i_cell; omega)]
  rw [show i_cell j - 12 = j by unfold i_cell; omega]
theorem zl_Region {j : Nat} (hj : j < 7) : (i_reg j) < z_N := by unfold i_reg z_N; omega
theorem zc_Region {dA : Nat → ClassId} {ad : Nat → Nat} {j : Nat} (hj : j < 7) (f : Nat → Int32) : z_c dA ad (i_reg j) f = .inr (4, [.ref (ad (i_tok j)), .int (f 1)]) := by
  unfold z_c
  rw [if_neg (show ¬ i_reg j = 0 by unfold i_reg; omega), if_neg (show ¬ i_reg j = 1 by unfold i_reg; omega), if_neg (show ¬ i_reg j = 2 by unfold i_reg; omega), if_neg (show ¬ i_reg j = 3 by unfold i_reg; omega), if_neg (show ¬ i_reg j < 12 by unfold i_reg; omega), if_neg (show ¬ i_reg j < 18 by unfold i_reg; omega), if_pos (show i_reg j < 25 by unfold i_reg; omega)]
  rw [show i_reg j - 18 = j by unfold i_reg; omega]
theorem zl_tokens {j : Nat} (hj : j < 7) : (i_tok j) < z_N := by unfold i_tok z_N; omega
theorem zc_tokens {dA : Nat → ClassId} {ad : Nat → Nat} {j : Nat} (hj : j < 7) (f : Nat → Int32) : z_c dA ad (i_tok j) f = .inl (dA 0, 8, .inl f) := by
  unfold z_c
  rw [if_neg (show ¬ i_tok j = 0 by unfold i_tok; omega), if_neg (show ¬ i_tok j = 1 by unfold i_tok; omega), if_neg (show ¬ i_tok j = 2 by unfold i_tok; omega), if_neg (show ¬ i_tok j = 3 by unfold i_tok; omega), if_neg (show ¬ i_tok j < 12 by unfold i_tok; omega), if_neg (show ¬ i_tok j < 18 by unfold i_tok; omega), if_neg (show ¬ i_tok j < 25 by unfold i_tok; omega), if_pos (show i_tok j < 32 by unfold i_tok; omega)]
theorem zl_Generator : 32 < z_N := by decide
theorem zc_Generator {dA : Nat → ClassId} {ad : Nat → Nat} (f : Nat → Int32) : z_c dA ad 32 f = .inr (5, [.int (f 0)]) := rfl
theorem zl_Counts : 33 < z_N := by decide
theorem zc_Counts {dA : Nat → ClassId} {ad : Nat → Nat} (f : Nat → Int32) : z_c dA ad 33 f = .inr (6, [.ref (ad 34), .ref (ad 35), .ref (ad 42)]) := rfl
theorem zl_totals : 34 < z_N := by decide
theorem zc_totals {dA : Nat → ClassId} {ad : Nat → Nat} (f : Nat → Int32) : z_c dA ad 34 f = .inl (dA 0, 5, .inl f) := rfl
theorem zl_tallies : 35 < z_N := by decide
theorem zc_tallies {dA : Nat → ClassId} {ad : Nat → Nat} (f : Nat → Int32) : z_c dA ad 35 f = .inl (dA 3, 6, .inr (.inr (.inr (.inr (fun j => some (ad (i_talr j))))))) := rfl
theorem zl_talrow {j : Nat} (hj : j < 6) : (i_talr j) < z_N := by unfold i_talr z_N; omega
theorem zc_talrow {dA : Nat → ClassId} {ad : Nat → Nat} {j : Nat} (hj : j < 6) (f : Nat → Int32) : z_c dA ad (i_talr j) f = .inl (dA 0, 4, .inl f) := by
  unfold z_c
  rw [if_neg (show ¬ i_talr j = 0 by unfold i_talr; omega), if_neg (show ¬ i_talr j = 1 by unfold i_talr; omega), if_neg (show ¬ i_talr j = 2 by unfold i_talr; omega), if_neg (show ¬ i_talr j = 3 by unfold i_talr; omega), if_neg (show ¬ i_talr j < 12 by unfold i_talr; omega), if_neg (show ¬ i_talr j < 18 by unfold i_talr; omega), if_neg (show ¬ i_talr j < 25 by unfold i_talr; omega), if_neg (show ¬ i_talr j < 32 by unfold i_talr; omega), if_neg (show ¬ i_talr j = 32 by unfold i_talr; omega), if_neg (show ¬ i_talr j = 33 by unfold i_talr; omega), if_neg (show ¬ i_talr j = 34 by unfold i_talr; omega), if_neg (show ¬ i_talr j = 35 by unfold i_talr; omega), if_pos (show i_talr j < 42 by unfold i_talr; omega)]
theorem zl_crossings : 42 < z_N := by decide
theorem zc_crossings {dA : Nat → ClassId} {ad : Nat → Nat} (f : Nat → Int32) : z_c dA ad 42 f = .inl (dA 3, 6, .inr (.inr (.inr (.inr (fun j => some (ad (i_cror j))))))) := rfl
theorem zl_crorow {j : Nat} (hj : j < 6) : (i_cror j) < z_N := by unfold i_cror z_N; omega
theorem zc_crorow {dA : Nat → ClassId} {ad : Nat → Nat} {j : Nat} (hj : j < 6) (f : Nat → Int32) : z_c dA ad (i_cror j) f = .inl (dA 0, 6, .inl f) := by
  unfold z_c
  rw [if_neg (show ¬ i_cror j = 0 by unfold i_cror; omega), if_neg (show ¬ i_cror j = 1 by unfold i_cror; omega), if_neg (show ¬ i_cror j = 2 by unfold i_cror; omega), if_neg (show ¬ i_cror j = 3 by unfold i_cror; omega), if_neg (show ¬ i_cror j < 12 by unfold i_cror; omega), if_neg (show ¬ i_cror j < 18 by unfold i_cror; omega), if_neg (show ¬ i_cror j < 25 by unfold i_cror; omega), if_neg (show ¬ i_cror j < 32 by unfold i_cror; omega), if_neg (show ¬ i_cror j = 32 by unfold i_cror; omega), if_neg (show ¬ i_cror j = 33 by unfold i_cror; omega), if_neg (show ¬ i_cror j = 34 by unfold i_cror; omega), if_neg (show ¬ i_cror j = 35 by unfold i_cror; omega), if_neg (show ¬ i_cror j < 42 by unfold i_cror; omega), if_neg (show ¬ i_cror j = 42 by unfold i_cror; omega), if_pos (show i_cror j < 49 by unfold i_cror; omega)]
theorem zl_Line : 49 < z_N := by decide
theorem zc_Line {dA : Nat → ClassId} {ad : Nat → Nat} (f : Nat → Int32) : z_c dA ad 49 f = .inr (7, [.ref (ad 50), .ref (ad 51), .int (f 2), .int (f 3)]) := rfl
theorem zl_placesX : 50 < z_N := by decide
theorem zc_placesX {dA : Nat → ClassId} {ad : Nat → Nat} (f : Nat → Int32) : z_c dA ad 50 f = .inl (dA 0, 12, .inl f) := rfl
theorem zl_placesY : 51 < z_N := by decide
theorem zc_placesY {dA : Nat → ClassId} {ad : Nat → Nat} (f : Nat → Int32) : z_c dA ad 51 f = .inl (dA 0, 12, .inl f) := rfl
theorem zl_Particle : 52 < z_N := by decide
theorem zc_Particle {dA : Nat → ClassId} {ad : Nat → Nat} (f : Nat → Int32) : z_c dA ad 52 f = .inr (8, [.int (f 0), .int (f 1), .int (f 2), .int (f 3), .int (f 4)]) := rfl
theorem zl_Model : 53 < z_N := by decide
theorem zc_Model {dA : Nat → ClassId} {ad : Nat → Nat} (f : Nat → Int32) : z_c dA ad 53 f = .inr (9, [.ref (ad 54), .ref (ad 55), .ref (ad 56), .ref (ad 57), .ref (ad 58), .ref (ad 59), .int (f 6), .ref (ad 60), .ref (ad 61), .ref (ad 62), .ref (ad 63), .ref (ad 64), .ref (ad 65), .int (f 13), .int (f 14), .long (f 15).toInt64, .ref (ad 66), .ref (ad 67), .ref (ad 68), .ref (ad 69), .ref (ad 70), .int (f 21), .int (f 22), .int (f 23), .int (f 24), .int (f 25), .int (f 26)]) := rfl
theorem zl_m_kind : 54 < z_N := by decide
theorem zc_m_kind {dA : Nat → ClassId} {ad : Nat → Nat} (f : Nat → Int32) : z_c dA ad 54 f = .inl (dA 0, 8, .inl f) := rfl
theorem zl_m_sa : 55 < z_N := by decide
theorem zc_m_sa {dA : Nat → ClassId} {ad : Nat → Nat} (f : Nat → Int32) : z_c dA ad 55 f = .inl (dA 0, 8, .inl f) := rfl
theorem zl_m_sb : 56 < z_N := by decide
theorem zc_m_sb {dA : Nat → ClassId} {ad : Nat → Nat} (f : Nat → Int32) : z_c dA ad 56 f = .inl (dA 0, 8, .inl f) := rfl
theorem zl_m_sc : 57 < z_N := by decide
theorem zc_m_sc {dA : Nat → ClassId} {ad : Nat → Nat} (f : Nat → Int32) : z_c dA ad 57 f = .inl (dA 0, 8, .inl f) := rfl
theorem zl_m_set : 58 < z_N := by decide
theorem zc_m_set {dA : Nat → ClassId} {ad : Nat → Nat} (f : Nat → Int32) : z_c dA ad 58 f = .inl (dA 4, 8, .inl f) := rfl
theorem zl_m_buffer : 59 < z_N := by decide
theorem zc_m_buffer {dA : Nat → ClassId} {ad : Nat → Nat} (f : Nat → Int32) : z_c dA ad 59 f = .inl (dA 0, 8, .inl f) := rfl
theorem zl_m_region : 60 < z_N := by decide
theorem zc_m_region {dA : Nat → ClassId} {ad : Nat → Nat} (f : Nat → Int32) : z_c dA ad 60 f = .inl (dA 0, 48, .inl f) := rfl
theorem zl_m_tokens : 61 < z_N := by decide
theorem zc_m_tokens {dA : Nat → ClassId} {ad : Nat → Nat} (f : Nat → Int32) : z_c dA ad 61 f = .inl (dA 0, 6, .inl f) := rfl
theorem zl_m_defined : 62 < z_N := by decide
theorem zc_m_defined {dA : Nat → ClassId} {ad : Nat → Nat} (f : Nat → Int32) : z_c dA ad 62 f = .inl (dA 4, 6, .inl f) := rfl
theorem zl_m_density : 63 < z_N := by decide
theorem zc_m_density {dA : Nat → ClassId} {ad : Nat → Nat} (f : Nat → Int32) : z_c dA ad 63 f = .inl (dA 0, 6, .inl f) := rfl
theorem zl_m_absorbs : 64 < z_N := by decide
theorem zc_m_absorbs {dA : Nat → ClassId} {ad : Nat → Nat} (f : Nat → Int32) : z_c dA ad 64 f = .inl (dA 0, 6, .inl f) := rfl
theorem zl_m_splits : 65 < z_N := by decide
theorem zc_m_splits {dA : Nat → ClassId} {ad : Nat → Nat} (f : Nat → Int32) : z_c dA ad 65 f = .inl (dA 0, 6, .inl f) := rfl
theorem zl_m_tallies : 66 < z_N := by decide
theorem zc_m_tallies {dA : Nat → ClassId} {ad : Nat → Nat} (f : Nat → Int32) : z_c dA ad 66 f = .inl (dA 0, 24, .inl f) := rfl
theorem zl_m_crossings : 67 < z_N := by decide
theorem zc_m_crossings {dA : Nat → ClassId} {ad : Nat → Nat} (f : Nat → Int32) : z_c dA ad 67 f = .inl (dA 0, 36, .inl f) := rfl
theorem zl_m_counts : 68 < z_N := by decide
theorem zc_m_counts {dA : Nat → ClassId} {ad : Nat → Nat} (f : Nat → Int32) : z_c dA ad 68 f = .inl (dA 0, 5, .inl f) := rfl
theorem zl_m_px : 69 < z_N := by decide
theorem zc_m_px {dA : Nat → ClassId} {ad : Nat → Nat} (f : Nat → Int32) : z_c dA ad 69 f = .inl (dA 0, 12, .inl f) := rfl
theorem zl_m_py : 70 < z_N := by decide
theorem zc_m_py {dA : Nat → ClassId} {ad : Nat → Nat} (f : Nat → Int32) : z_c dA ad 70 f = .inl (dA 0, 12, .inl f) := rfl
/-! the static tables of the class, which nobody writes -/
def z_A (base : Nat) : Nat → Prop := fun q => base ≤ q
def z_sX (j : Nat) : Int32 := [1, 1, 0, -1, -1, -1, 0, 1].getD j 0
def z_sY (j : Nat) : Int32 := [0, 1, 1, 1, 0, -1, -1, -1].getD j 0
def z_tab (nm : String) (g : Nat → Int32) (base : Nat) (U : State) : Prop := ∃ t : Nat, va_Z "CellTransport" nm "[I" (.ref t) (z_A base) U U.heap ∧ va_T .int t 8 (fun j => .int (g j)) (z_A base) U U.heap
def z_Z (base : Nat) (U : State) : Prop := z_tab "STEP_X" z_sX base U ∧ z_tab "STEP_Y" z_sY base U
theorem z_tab_moved {nm : String} {g : Nat → Int32} {base : Nat} {u U : State} (ha : u.vm.Alike U.vm) (hq : ∀ a : Nat, a < u.heap.size → ¬ z_A base a → U.heap[a]? = u.heap[a]?) (h : z_tab nm g base u) : z_tab nm g base U := by
  obtain ⟨t, h1, h2⟩ := h
  exact ⟨t, (va_Z.moved ha h1).kept hq, (va_T.moved ha h2).kept hq⟩
theorem z_Z_moved {base : Nat} {u U : State} (ha : u.vm.Alike U.vm) (hq : ∀ a : Nat, a < u.heap.size → ¬ z_A base a → U.heap[a]? = u.heap[a]?) (h : z_Z base u) : z_Z base U := ⟨z_tab_moved ha hq h.1, z_tab_moved ha hq h.2⟩
section ZN
variable {p : Program} {l : Launch} {e : Env} {R : Room} {s : State} {m : MethodId} {args : Array Value} {below : List Frame} {meth : Method} {c : Code} {H : Heap} {locs : List Loc} {cells slots : Nat} {Q : State → Prop}
variable {cc : ByteArray} {pc : Nat} {ls : Array Slot} {rest : List Value} {D : va_G} {cl : List vw_C} {A : Nat → Prop} {a : Nat} {tys : List (ClassId × FieldType)} {ws : va_W}
/-- aaload out of an array of arrays -/
theorem z_aldqA (hx : p.tables.exec = Jvm.exec) (hb : c.code = cc) (hK : va_K D cl tys s) (hP : va_P D cl ws H) (q0 t0 : Nat) {cA : ClassId} {tx : FieldType} {n : Nat} {f : Nat → Option Nat} (ha : ws[q0]? = some (a, .inl (cA, n, .inr (.inr (.inr (.inr f)))))) (ht : tys[t0]? = some (cA, .array tx)) {i : Int32} (hin : vp_in i n) (hdg : decode cc pc = .ok (.aaload, 1))
    (kk : W p l e R s m args below meth c H locs cells slots Q (F0 m (pc + 1) ls (va_rf (f i.toNatClampNeg) :: rest))) : W p l e R s m args below meth c H locs cells slots Q (F0 m pc ls (.int i :: .ref a :: rest)) := by
  have hlt : i.toNatClampNeg < n := Nat.not_le.mp fun q => hin (Or.inr q)
  refine W.aald (v := va_rf (f i.toNatClampNeg)) (ty := .array tx) hx hb (hP q0 _ ha) ((hK.2 t0 _ ht).1 n (fun j => va_rf (f j))) rfl (fun q => by cases q) ?_ ?_ rfl rfl hdg kk
  · show ¬ (i < 0 ∨ (arrV _ _ _).slots.size ≤ _)
    rw [arrV_size]
    exact hin
  · show (arrV _ _ _).slots[_]? = _
    rw [arrV_read _ _ hlt]
/-- getstatic of a private static of the nest's host -/
theorem z_getsN (hx : p.tables.exec = Jvm.exec) (hb : c.code = cc) {C n d own host : String} {v : Value} {index : Nat} (hZ : va_Z C n d v A s s.heap) (hS : va_S A s.heap H locs) (hown : s.vm.findClass own = some m.cls) (hlink : (Cond.fieldLinkNest own index C n d host).before args s = true) (hdg : decode cc pc = .ok (.getstatic index, 3))
    (kk : W p l e R s m args below meth c H locs cells slots Q (F0 m (pc + 3) ls (v :: rest))) : W p l e R s m args below meth c H locs cells slots Q (F0 m pc ls rest) := by
  obtain ⟨cf, kf, fi, f, a, cell, h1, h2, h3, h4, h5, h6, h7, h8⟩ := hZ
  intro T hT X
  have hcell : T.heap[a]? = some cell := by
    rw [hT, hS.2.1 a (Array.getElem?_eq_some_iff.mp h5).1 h8]
    exact h5
  obtain ⟨vm2, X2, st2⟩ := X.getstaticNest hx hown hlink h1 h2 h3 h4 hcell (fun e => by rw [e] at h6; cases h6) h7 (g := F0 m pc ls rest) rfl (by rw [hb]; exact hdg)
  obtain ⟨t, a1, b1⟩ := kk (T.setVm vm2) hT X2
  exact ⟨t, st2 t a1, b1⟩
end ZN
