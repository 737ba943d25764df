theorem wn_Law : Cond.initialized "CellTransportLaw" ∈ z_T := z_T_mem (List.mem_append_right _ (List.mem_of_getElem? (i := 0) (by decide +kernel))) rfl
theorem wn_CellTransport : Cond.initialized "CellTransport" ∈ z_T := z_T_mem (List.mem_append_right _ (List.mem_of_getElem? (i := 1) (by decide +kernel))) rfl
theorem wn_Geometry : Cond.initialized "CellTransport$Geometry" ∈ z_T := z_T_mem (List.mem_append_right _ (List.mem_of_getElem? (i := 2) (by decide +kernel))) rfl
theorem wn_Surface : Cond.initialized "CellTransport$Surface" ∈ z_T := z_T_mem (List.mem_append_right _ (List.mem_of_getElem? (i := 3) (by decide +kernel))) rfl
theorem wn_Cell : Cond.initialized "CellTransport$Cell" ∈ z_T := z_T_mem (List.mem_append_right _ (List.mem_of_getElem? (i := 4) (by decide +kernel))) rfl
theorem wn_Region : Cond.initialized "CellTransport$Region" ∈ z_T := z_T_mem (List.mem_append_right _ (List.mem_of_getElem? (i := 5) (by decide +kernel))) rfl
theorem wn_Generator : Cond.initialized "CellTransport$Generator" ∈ z_T := z_T_mem (List.mem_append_right _ (List.mem_of_getElem? (i := 6) (by decide +kernel))) rfl
theorem wn_Counts : Cond.initialized "CellTransport$Counts" ∈ z_T := z_T_mem (List.mem_append_right _ (List.mem_of_getElem? (i := 7) (by decide +kernel))) rfl
theorem wn_Line : Cond.initialized "CellTransport$Line" ∈ z_T := z_T_mem (List.mem_append_right _ (List.mem_of_getElem? (i := 8) (by decide +kernel))) rfl
theorem wn_Particle : Cond.initialized "CellTransport$Particle" ∈ z_T := z_T_mem (List.mem_append_right _ (List.mem_of_getElem? (i := 9) (by decide +kernel))) rfl
theorem wn_Model : Cond.initialized "CellTransportModel" ∈ z_T := z_T_mem (List.mem_append_right _ (List.mem_of_getElem? (i := 10) (by decide +kernel))) rfl
theorem wn_System : Cond.initialized "java/lang/System" ∈ z_T := z_T_mem (List.mem_append_right _ (List.mem_of_getElem? (i := 11) (by decide +kernel))) rfl
theorem wn_Arrays : Cond.initialized "java/util/Arrays" ∈ z_T := z_T_mem (List.mem_append_right _ (List.mem_of_getElem? (i := 12) (by decide +kernel))) rfl
theorem wc_Law_7 : Cond.classLink "CellTransportLaw" 7 "CellTransport" ∈ z_T := z_T_mem (List.mem_append_right _ (List.mem_of_getElem? (i := 13) (by decide +kernel))) rfl
theorem wi_CellTransport : Cond.instantiable "CellTransport" 8 ∈ z_T := z_T_mem (List.mem_append_right _ (List.mem_of_getElem? (i := 14) (by decide +kernel))) rfl
theorem wm_CellTransport : Cond.instanceMethod ⟨"CellTransport", "<init>", "()V"⟩ ∈ z_T := z_T_mem (List.mem_append_right _ (List.mem_of_getElem? (i := 16) (by decide +kernel))) rfl
theorem wd_CellTransport : Cond.code ⟨"CellTransport", "<init>", "()V"⟩ prog_1_method_1_code 1 none ∈ z_T := z_T_mem (List.mem_append_right _ (List.mem_of_getElem? (i := 17) (by decide +kernel))) rfl
theorem wm_Object : Cond.instanceMethod ⟨"java/lang/Object", "<init>", "()V"⟩ ∈ z_T := z_T_mem (List.mem_append_right _ (List.mem_of_getElem? (i := 19) (by decide +kernel))) rfl
theorem wd_Object : Cond.code ⟨"java/lang/Object", "<init>", "()V"⟩ object_method_1_code 1 none ∈ z_T := z_T_mem (List.mem_append_right _ (List.mem_of_getElem? (i := 20) (by decide +kernel))) rfl
theorem wc_CellTransport_7 : Cond.classLink "CellTransport" 7 "CellTransport$Geometry" ∈ z_T := z_T_mem (List.mem_append_right _ (List.mem_of_getElem? (i := 21) (by decide +kernel))) rfl
theorem wi_Geometry : Cond.instantiable "CellTransport$Geometry" 2 ∈ z_T := z_T_mem (List.mem_append_right _ (List.mem_of_getElem? (i := 22) (by decide +kernel))) rfl
theorem wm_Geometry : Cond.instanceMethod ⟨"CellTransport$Geometry", "<init>", "()V"⟩ ∈ z_T := z_T_mem (List.mem_append_right _ (List.mem_of_getElem? (i := 24) (by decide +kernel))) rfl
theorem wd_Geometry : Cond.code ⟨"CellTransport$Geometry", "<init>", "()V"⟩ prog_5_method_1_code 2 none ∈ z_T := z_T_mem (List.mem_append_right _ (List.mem_of_getElem? (i := 25) (by decide +kernel))) rfl
theorem wc_Geometry_9 : Cond.classLink "CellTransport$Geometry" 9 "CellTransport$Surface" ∈ z_T := z_T_mem (List.mem_append_right _ (List.mem_of_getElem? (i := 27) (by decide +kernel))) rfl
theorem wc_Geometry_17 : Cond.classLink "CellTransport$Geometry" 17 "CellTransport$Cell" ∈ z_T := z_T_mem (List.mem_append_right _ (List.mem_of_getElem? (i := 29) (by decide +kernel))) rfl
theorem wi_Surface : Cond.instantiable "CellTransport$Surface" 5 ∈ z_T := z_T_mem (List.mem_append_right _ (List.mem_of_getElem? (i := 31) (by decide +kernel))) rfl
theorem wm_Surface : Cond.instanceMethod ⟨"CellTransport$Surface", "<init>", "()V"⟩ ∈ z_T := z_T_mem (List.mem_append_right _ (List.mem_of_getElem? (i := 33) (by decide +kernel))) rfl
theorem wd_Surface : Cond.code ⟨"CellTransport$Surface", "<init>", "()V"⟩ prog_9_method_1_code 1 none ∈ z_T := z_T_mem (List.mem_append_right _ (List.mem_of_getElem? (i := 34) (by decide +kernel))) rfl
theorem wi_Cell : Cond.instantiable "CellTransport$Cell" 5 ∈ z_T := z_T_mem (List.mem_append_right _ (List.mem_of_getElem? (i := 53) (by decide +kernel))) rfl
theorem wm_Cell : Cond.instanceMethod ⟨"CellTransport$Cell", "<init>", "()V"⟩ ∈ z_T := z_T_mem (List.mem_append_right _ (List.mem_of_getElem? (i := 55) (by decide +kernel))) rfl
theorem wd_Cell : Cond.code ⟨"CellTransport$Cell", "<init>", "()V"⟩ prog_2_method_1_code 1 none ∈ z_T := z_T_mem (List.mem_append_right _ (List.mem_of_getElem? (i := 56) (by decide +kernel))) rfl
theorem wc_Cell_7 : Cond.classLink "CellTransport$Cell" 7 "CellTransport$Region" ∈ z_T := z_T_mem (List.mem_append_right _ (List.mem_of_getElem? (i := 58) (by decide +kernel))) rfl
theorem wi_Region : Cond.instantiable "CellTransport$Region" 2 ∈ z_T := z_T_mem (List.mem_append_right _ (List.mem_of_getElem? (i := 59) (by decide +kernel))) rfl
theorem wm_Region : Cond.instanceMethod ⟨"CellTransport$Region", "<init>", "()V"⟩ ∈ z_T := z_T_mem (List.mem_append_right _ (List.mem_of_getElem? (i := 61) (by decide +kernel))) rfl
theorem wd_Region : Cond.code ⟨"CellTransport$Region", "<init>", "()V"⟩ prog_8_method_1_code 1 none ∈ z_T := z_T_mem (List.mem_append_right _ (List.mem_of_getElem? (i := 62) (by decide +kernel))) rfl
theorem wc_CellTransport_16 : Cond.classLink "CellTransport" 16 "CellTransport$Region" ∈ z_T := z_T_mem (List.mem_append_right _ (List.mem_of_getElem? (i := 104) (by decide +kernel))) rfl
theorem wc_CellTransport_23 : Cond.classLink "CellTransport" 23 "CellTransport$Generator" ∈ z_T := z_T_mem (List.mem_append_right _ (List.mem_of_getElem? (i := 106) (by decide +kernel))) rfl
theorem wi_Generator : Cond.instantiable "CellTransport$Generator" 1 ∈ z_T := z_T_mem (List.mem_append_right _ (List.mem_of_getElem? (i := 107) (by decide +kernel))) rfl
theorem wm_Generator : Cond.instanceMethod ⟨"CellTransport$Generator", "<init>", "()V"⟩ ∈ z_T := z_T_mem (List.mem_append_right _ (List.mem_of_getElem? (i := 109) (by decide +kernel))) rfl
theorem wd_Generator : Cond.code ⟨"CellTransport$Generator", "<init>", "()V"⟩ prog_4_method_1_code 1 none ∈ z_T := z_T_mem (List.mem_append_right _ (List.mem_of_getElem? (i := 110) (by decide +kernel))) rfl
theorem wc_CellTransport_30 : Cond.classLink "CellTransport" 30 "CellTransport$Counts" ∈ z_T := z_T_mem (List.mem_append_right _ (List.mem_of_getElem? (i := 117) (by decide +kernel))) rfl
theorem wi_Counts : Cond.instantiable "CellTransport$Counts" 3 ∈ z_T := z_T_mem (List.mem_append_right _ (List.mem_of_getElem? (i := 118) (by decide +kernel))) rfl
theorem wm_Counts : Cond.instanceMethod ⟨"CellTransport$Counts", "<init>", "()V"⟩ ∈ z_T := z_T_mem (List.mem_append_right _ (List.mem_of_getElem? (i := 120) (by decide +kernel))) rfl
theorem wd_Counts : Cond.code ⟨"CellTransport$Counts", "<init>", "()V"⟩ prog_3_method_1_code 1 none ∈ z_T := z_T_mem (List.mem_append_right _ (List.mem_of_getElem? (i := 121) (by decide +kernel))) rfl
theorem wc_Counts_15 : Cond.classLink "CellTransport$Counts" 15 "[[I" ∈ z_T := z_T_mem (List.mem_append_right _ (List.mem_of_getElem? (i := 123) (by decide +kernel))) rfl
theorem wc_CellTransport_37 : Cond.classLink "CellTransport" 37 "CellTransport$Line" ∈ z_T := z_T_mem (List.mem_append_right _ (List.mem_of_getElem? (i := 138) (by decide +kernel))) rfl
theorem wi_Line : Cond.instantiable "CellTransport$Line" 4 ∈ z_T := z_T_mem (List.mem_append_right _ (List.mem_of_getElem? (i := 139) (by decide +kernel))) rfl
theorem wm_Line : Cond.instanceMethod ⟨"CellTransport$Line", "<init>", "()V"⟩ ∈ z_T := z_T_mem (List.mem_append_right _ (List.mem_of_getElem? (i := 141) (by decide +kernel))) rfl
theorem wd_Line : Cond.code ⟨"CellTransport$Line", "<init>", "()V"⟩ prog_6_method_1_code 1 none ∈ z_T := z_T_mem (List.mem_append_right _ (List.mem_of_getElem? (i := 142) (by decide +kernel))) rfl
theorem wc_CellTransport_44 : Cond.classLink "CellTransport" 44 "CellTransport$Particle" ∈ z_T := z_T_mem (List.mem_append_right _ (List.mem_of_getElem? (i := 158) (by decide +kernel))) rfl
theorem wi_Particle : Cond.instantiable "CellTransport$Particle" 5 ∈ z_T := z_T_mem (List.mem_append_right _ (List.mem_of_getElem? (i := 159) (by decide +kernel))) rfl
theorem wm_Particle : Cond.instanceMethod ⟨"CellTransport$Particle", "<init>", "()V"⟩ ∈ z_T := z_T_mem (List.mem_append_right _ (List.mem_of_getElem? (i := 161) (by decide +kernel))) rfl
theorem wd_Particle : Cond.code ⟨"CellTransport$Particle", "<init>", "()V"⟩ prog_7_method_1_code 1 none ∈ z_T := z_T_mem (List.mem_append_right _ (List.mem_of_getElem? (i := 162) (by decide +kernel))) rfl
theorem wc_Law_10 : Cond.classLink "CellTransportLaw" 10 "CellTransportModel" ∈ z_T := z_T_mem (List.mem_append_right _ (List.mem_of_getElem? (i := 401) (by decide +kernel))) rfl
theorem wi_Model : Cond.instantiable "CellTransportModel" 27 ∈ z_T := z_T_mem (List.mem_append_right _ (List.mem_of_getElem? (i := 402) (by decide +kernel))) rfl
theorem wm_Model : Cond.instanceMethod ⟨"CellTransportModel", "<init>", "()V"⟩ ∈ z_T := z_T_mem (List.mem_append_right _ (List.mem_of_getElem? (i := 404) (by decide +kernel))) rfl
theorem wd_Model : Cond.code ⟨"CellTransportModel", "<init>", "()V"⟩ prog_11_method_1_code 1 none ∈ z_T := z_T_mem (List.mem_append_right _ (List.mem_of_getElem? (i := 405) (by decide +kernel))) rfl
abbrev dl_CellTransport : List Value := [.null, .null, .null, .null, .null, .null, .int 0, .int 0]
theorem df_CellTransport : ∀ j, j < 8 → defaultValue (t_CellTransport j) = vp_V dl_CellTransport j := by decide +kernel
abbrev dl_Geometry : List Value := [.null, .null]
theorem df_Geometry : ∀ j, j < 2 → defaultValue (t_Geometry j) = vp_V dl_Geometry j := by decide +kernel
abbrev dl_Surface : List Value := [.int 0, .int 0, .int 0, .int 0, .int 0]
theorem df_Surface : ∀ j, j < 5 → defaultValue (t_Surface j) = vp_V dl_Surface j := by decide +kernel
abbrev dl_Cell : List Value := [.null, .int 0, .int 0, .int 0, .int 0]
theorem df_Cell : ∀ j, j < 5 → defaultValue (t_Cell j) = vp_V dl_Cell j := by decide +kernel
abbrev dl_Region : List Value := [.null, .int 0]
theorem df_Region : ∀ j, j < 2 → defaultValue (t_Region j) = vp_V dl_Region j := by decide +kernel
abbrev dl_Generator : List Value := [.int 0]
theorem df_Generator : ∀ j, j < 1 → defaultValue (t_Generator j) = vp_V dl_Generator j := by decide +kernel
abbrev dl_Counts : List Value := [.null, .null, .null]
theorem df_Counts : ∀ j, j < 3 → defaultValue (t_Counts j) = vp_V dl_Counts j := by decide +kernel
abbrev dl_Line : List Value := [.null, .null, .int 0, .int 0]
theorem df_Line : ∀ j, j < 4 → defaultValue (t_Line j) = vp_V dl_Line j := by decide +kernel
abbrev dl_Particle : List Value := [.int 0, .int 0, .int 0, .int 0, .int 0]
theorem df_Particle : ∀ j, j < 5 → defaultValue (t_Particle j) = vp_V dl_Particle j := by decide +kernel
abbrev dl_Model : List Value := [.null, .null, .null, .null, .null, .null, .int 0, .null, .null, .null, .null, .null, .null, .int 0, .int 0, .long 0, .null, .null, .null, .null, .null, .int 0, .int 0, .int 0, .int 0, .int 0, .int 0]
theorem df_Model : ∀ j, j < 27 → defaultValue (t_Model j) = vp_V dl_Model j := by decide +kernel
theorem k_Surface {dA : Nat → ClassId} : z_CT y_Surface_init b_Surface_init 1 1 0 0 dA (.inr (2, dl_Surface)) (fun (h0 : Nat) (u : Unit) => [(h0, .inr (2, [.int 0, .int 0, .int 0, .int 0, .int 0]))]) := by
  refine y_of (by decide) rfl (by decide) [] (fun _ => rfl) (fun k A h0 C I E => ?_)
  have C : y_C dA k A b_Surface_init "CellTransport$Surface" 1 1 0 0 := C
  show y_X k A 0 [some (.ref h0)] [] [(h0, .inr (2, [.int 0, .int 0, .int 0, .int 0, .int 0]))] 0 0
  refine y_aload_n C d_Surface_init_0 rfl rfl ?_
  refine y_obj C lk_Surface_3 wm_Object wd_Object (by decide) (Nat.le_of_ble_eq_true rfl) d_Surface_init_1 ?_
  refine y_ret C () E rfl d_Surface_init_4
theorem k_Particle {dA : Nat → ClassId} : z_CT y_Particle_init b_Particle_init 1 1 0 0 dA (.inr (8, dl_Particle)) (fun (h0 : Nat) (u : Unit) => [(h0, .inr (8, [.int 0, .int 0, .int 0, .int 0, .int 0]))]) := by
  refine y_of (by decide) rfl (by decide) [] (fun _ => rfl) (fun k A h0 C I E => ?_)
  have C : y_C dA k A b_Particle_init "CellTransport$Particle" 1 1 0 0 := C
  show y_X k A 0 [some (.ref h0)] [] [(h0, .inr (8, [.int 0, .int 0, .int 0, .int 0, .int 0]))] 0 0
  refine y_aload_n C d_Particle_init_0 rfl rfl ?_
  refine y_obj C lk_Particle_1 wm_Object wd_Object (by decide) (Nat.le_of_ble_eq_true rfl) d_Particle_init_1 ?_
  refine y_ret C () E rfl d_Particle_init_4
theorem k_Generator {dA : Nat → ClassId} : z_CT y_Generator_init b_Generator_init 1 1 0 0 dA (.inr (5, dl_Generator)) (fun (h0 : Nat) (u : Unit) => [(h0, .inr (5, [.int 1]))]) := by
  refine y_of (by decide) rfl (by decide) [] (fun _ => rfl) (fun k A h0 C I E => ?_)
  have C : y_C dA k A b_Generator_init "CellTransport$Generator" 1 1 0 0 := C
  show y_X k A 0 [some (.ref h0)] [] [(h0, .inr (5, [.int 0]))] 0 0
  refine y_aload_n C d_Generator_init_0 rfl rfl ?_
  refine y_obj C lk_Generator_3 wm_Object wd_Object (by decide) (Nat.le_of_ble_eq_true rfl) d_Generator_init_1 ?_
  refine y_aload_n C d_Generator_init_4 rfl rfl ?_
  refine y_iconst C (1) d_Generator_init_5 rfl ?_
  refine y_put C (ci := 5) (N := 1) (T := F_Generator) (j := 0) 0 rfl rfl lay_Generator (by decide) rfl t_Generator t_Generator_ok n_Generator rfl rfl (Nat.le_of_ble_eq_true rfl) lk_Generator_9 d_Generator_init_6 rfl ?_
  show y_X k A 9 [some (.ref h0)] [] [(h0, .inr (5, [.int (1)]))] 0 0
  refine y_ret C () E rfl d_Generator_init_9
theorem k_Region {dA : Nat → ClassId} : z_CT y_Region_init b_Region_init 1 1 1 8 dA (.inr (4, dl_Region)) (fun (h0 : Nat) (u : Nat → Nat) => [(h0, .inr (4, [.ref (u 0), .int 0])), (u 0, .inl (dA 0, 8, .inl (fun _ => 0)))]) := by
  refine y_of (by decide) rfl (by decide) [] (fun _ => rfl) (fun k A h0 C I E => ?_)
  have C : y_C dA k A b_Region_init "CellTransport$Region" 1 1 1 8 := C
  show y_X k A 0 [some (.ref h0)] [] [(h0, .inr (4, [.null, .int 0]))] 0 0
  refine y_aload_n C d_Region_init_0 rfl rfl ?_
  refine y_obj C lk_Region_3 wm_Object wd_Object (by decide) (Nat.le_of_ble_eq_true rfl) d_Region_init_1 ?_
  refine y_aload_n C d_Region_init_4 rfl rfl ?_
  refine y_bipush C (8) d_Region_init_5 rfl ?_
  refine y_newi C 8 (by decide) (by decide) (by decide) (Nat.le_of_ble_eq_true rfl) (Nat.le_of_ble_eq_true rfl) d_Region_init_7 (fun q0 => ?_)
  show y_X k A 9 [some (.ref h0)] [.ref q0, .ref h0] [(h0, .inr (4, [.null, .int 0])), (q0, .inl (dA 0, 8, .inl (fun _ => 0)))] 1 8
  refine y_putF C (ci := 4) (N := 2) (T := F_Region) (j := 0) 0 rfl rfl lay_Region (by decide) rfl t_Region t_Region_ok n_Region rfl rfl (Nat.le_of_ble_eq_true rfl) lk_Region_9 d_Region_init_9 rfl I rfl ?_
  show y_X k A 12 [some (.ref h0)] [] [(h0, .inr (4, [.ref q0, .int 0])), (q0, .inl (dA 0, 8, .inl (fun _ => 0)))] 1 8
  refine y_ret C (fun k => ([q0] : List Nat).getD k 0) E rfl d_Region_init_12
theorem k_Cell {dA : Nat → ClassId} : z_CT y_Cell_init b_Cell_init 1 2 2 10 dA (.inr (3, dl_Cell)) (fun (h0 : Nat) (u : Nat → Nat) => [(h0, .inr (3, [.ref (u 0), .int 0, .int 0, .int 0, .int 0])), (u 0, .inr (4, [.ref (u 1), .int 0])), (u 1, .inl (dA 0, 8, .inl (fun _ => 0)))]) := by
  refine y_of (by decide) rfl (by decide) [] (fun _ => rfl) (fun k A h0 C I E => ?_)
  have C : y_C dA k A b_Cell_init "CellTransport$Cell" 2 1 2 10 := C
  show y_X k A 0 [some (.ref h0)] [] [(h0, .inr (3, [.null, .int 0, .int 0, .int 0, .int 0]))] 0 0
  refine y_aload_n C d_Cell_init_0 rfl rfl ?_
  refine y_obj C lk_Cell_1 wm_Object wd_Object (by decide) (Nat.le_of_ble_eq_true rfl) d_Cell_init_1 ?_
  refine y_aload_n C d_Cell_init_4 rfl rfl ?_
  refine y_new C (ci := 4) (N := 2) (T := F_Region) t_Region dl_Region rfl lay_Region t_Region_ok wc_Cell_7 wi_Region wn_Region df_Region (Nat.le_of_ble_eq_true rfl) (Nat.le_of_ble_eq_true rfl) d_Cell_init_5 (fun q0 => ?_)
  refine y_dup C d_Cell_init_8 rfl ?_
  refine y_ctorN C (wr := [(h0, .inr (3, [.null, .int 0, .int 0, .int 0, .int 0]))]) k_Region rfl wm_Region wn_Region wd_Region (by decide) (by decide) (by decide) (Nat.le_of_ble_eq_true rfl) (Nat.le_of_ble_eq_true rfl) (Nat.le_of_ble_eq_true rfl) (Nat.le_of_ble_eq_true rfl) lk_Cell_9 d_Cell_init_9 (fun u1 => ?_)
  show y_X k A 12 [some (.ref h0)] [.ref q0, .ref h0] [(h0, .inr (3, [.null, .int 0, .int 0, .int 0, .int 0])), (q0, .inr (4, [.ref (u1 0), .int 0])), (u1 0, .inl (dA 0, 8, .inl (fun _ => 0)))] 2 10
  refine y_putF C (ci := 3) (N := 5) (T := F_Cell) (j := 0) 0 rfl rfl lay_Cell (by decide) rfl t_Cell t_Cell_ok n_Cell rfl rfl (Nat.le_of_ble_eq_true rfl) lk_Cell_10 d_Cell_init_12 rfl I rfl ?_
  show y_X k A 15 [some (.ref h0)] [] [(h0, .inr (3, [.ref q0, .int 0, .int 0, .int 0, .int 0])), (q0, .inr (4, [.ref (u1 0), .int 0])), (u1 0, .inl (dA 0, 8, .inl (fun _ => 0)))] 2 10
  refine y_ret C (fun k => ([q0, u1 0] : List Nat).getD k 0) E rfl d_Cell_init_15
theorem k_Line {dA : Nat → ClassId} : z_CT y_Line_init b_Line_init 1 1 2 24 dA (.inr (7, dl_Line)) (fun (h0 : Nat) (u : Nat → Nat) => [(h0, .inr (7, [.ref (u 0), .ref (u 1), .int 0, .int 0])), (u 0, .inl (dA 0, 12, .inl (fun _ => 0))), (u 1, .inl (dA 0, 12, .inl (fun _ => 0)))]) := by
  refine y_of (by decide) rfl (by decide) [] (fun _ => rfl) (fun k A h0 C I E => ?_)
  have C : y_C dA k A b_Line_init "CellTransport$Line" 1 1 2 24 := C
  show y_X k A 0 [some (.ref h0)] [] [(h0, .inr (7, [.null, .null, .int 0, .int 0]))] 0 0
  refine y_aload_n C d_Line_init_0 rfl rfl ?_
  refine y_obj C lk_Line_3 wm_Object wd_Object (by decide) (Nat.le_of_ble_eq_true rfl) d_Line_init_1 ?_
  refine y_aload_n C d_Line_init_4 rfl rfl ?_
  refine y_bipush C (12) d_Line_init_5 rfl ?_
  refine y_newi C 12 (by decide) (by decide) (by decide) (Nat.le_of_ble_eq_true rfl) (Nat.le_of_ble_eq_true rfl) d_Line_init_7 (fun q0 => ?_)
  show y_X k A 9 [some (.ref h0)] [.ref q0, .ref h0] [(h0, .inr (7, [.null, .null, .int 0, .int 0])), (q0, .inl (dA 0, 12, .inl (fun _ => 0)))] 1 12
  refine y_putF C (ci := 7) (N := 4) (T := F_Line) (j := 0) 0 rfl rfl lay_Line (by decide) rfl t_Line t_Line_ok n_Line rfl rfl (Nat.le_of_ble_eq_true rfl) lk_Line_9 d_Line_init_9 rfl I rfl ?_
  show y_X k A 12 [some (.ref h0)] [] [(h0, .inr (7, [.ref q0, .null, .int 0, .int 0])), (q0, .inl (dA 0, 12, .inl (fun _ => 0)))] 1 12
  refine y_aload_n C d_Line_init_12 rfl rfl ?_
  refine y_bipush C (12) d_Line_init_13 rfl ?_
  refine y_newi C 12 (by decide) (by decide) (by decide) (Nat.le_of_ble_eq_true rfl) (Nat.le_of_ble_eq_true rfl) d_Line_init_15 (fun q1 => ?_)
  show y_X k A 17 [some (.ref h0)] [.ref q1, .ref h0] [(h0, .inr (7, [.ref q0, .null, .int 0, .int 0])), (q0, .inl (dA 0, 12, .inl (fun _ => 0))), (q1, .inl (dA 0, 12, .inl (fun _ => 0)))] 2 24
  refine y_putF C (ci := 7) (N := 4) (T := F_Line) (j := 1) 0 rfl rfl lay_Line (by decide) rfl t_Line t_Line_ok n_Line rfl rfl (Nat.le_of_ble_eq_true rfl) lk_Line_15 d_Line_init_17 rfl I rfl ?_
  show y_X k A 20 [some (.ref h0)] [] [(h0, .inr (7, [.ref q0, .ref q1, .int 0, .int 0])), (q0, .inl (dA 0, 12, .inl (fun _ => 0))), (q1, .inl (dA 0, 12, .inl (fun _ => 0)))] 2 24
  refine y_ret C (fun k => ([q0, q1] : List Nat).getD k 0) E rfl d_Line_init_20
theorem k_Counts {dA : Nat → ClassId} : z_CT y_Counts_init b_Counts_init 1 1 15 77 dA (.inr (6, dl_Counts)) (fun (h0 : Nat) (u : Nat → Nat) => [(h0, .inr (6, [.ref (u 0), .ref (u 1), .ref (u 8)])), (u 0, .inl (dA 0, 5, .inl (fun _ => 0))), (u 1, .inl (dA 3, 6, .inr (.inr (.inr (.inr (fun j => some (u (2 + j)))))))), (u 2, .inl (dA 0, 4, .inl (fun _ => 0))), (u 3, .inl (dA 0, 4, .inl (fun _ => 0))), (u 4, .inl (dA 0, 4, .inl (fun _ => 0))), (u 5, .inl (dA 0, 4, .inl (fun _ => 0))), (u 6, .inl (dA 0, 4, .inl (fun _ => 0))), (u 7, .inl (dA 0, 4, .inl (fun _ => 0))), (u 8, .inl (dA 3, 6, .inr (.inr (.inr (.inr (fun j => some (u (9 + j)))))))), (u 9, .inl (dA 0, 6, .inl (fun _ => 0))), (u 10, .inl (dA 0, 6, .inl (fun _ => 0))), (u 11, .inl (dA 0, 6, .inl (fun _ => 0))), (u 12, .inl (dA 0, 6, .inl (fun _ => 0))), (u 13, .inl (dA 0, 6, .inl (fun _ => 0))), (u 14, .inl (dA 0, 6, .inl (fun _ => 0)))]) := by
  refine y_of (by decide) rfl (by decide) [] (fun _ => rfl) (fun k A h0 C I E => ?_)
  have C : y_C dA k A b_Counts_init "CellTransport$Counts" 1 1 15 77 := C
  show y_X k A 0 [some (.ref h0)] [] [(h0, .inr (6, [.null, .null, .null]))] 0 0
  refine y_aload_n C d_Counts_init_0 rfl rfl ?_
  refine y_obj C lk_Counts_3 wm_Object wd_Object (by decide) (Nat.le_of_ble_eq_true rfl) d_Counts_init_1 ?_
  refine y_aload_n C d_Counts_init_4 rfl rfl ?_
  refine y_iconst C (5) d_Counts_init_5 rfl ?_
  refine y_newi C 5 (by decide) (by decide) (by decide) (Nat.le_of_ble_eq_true rfl) (Nat.le_of_ble_eq_true rfl) d_Counts_init_6 (fun q0 => ?_)
  show y_X k A 8 [some (.ref h0)] [.ref q0, .ref h0] [(h0, .inr (6, [.null, .null, .null])), (q0, .inl (dA 0, 5, .inl (fun _ => 0)))] 1 5
  refine y_putF C (ci := 6) (N := 3) (T := F_Counts) (j := 0) 0 rfl rfl lay_Counts (by decide) rfl t_Counts t_Counts_ok n_Counts rfl rfl (Nat.le_of_ble_eq_true rfl) lk_Counts_9 d_Counts_init_8 rfl I rfl ?_
  show y_X k A 11 [some (.ref h0)] [] [(h0, .inr (6, [.ref q0, .null, .null])), (q0, .inl (dA 0, 5, .inl (fun _ => 0)))] 1 5
  refine y_aload_n C d_Counts_init_11 rfl rfl ?_
  refine y_bipush C (6) d_Counts_init_12 rfl ?_
  refine y_iconst C (4) d_Counts_init_14 rfl ?_
  refine y_mna C 6 4 (by decide) (by decide) (by decide) (by decide) (by decide) (by decide) (Nat.le_of_ble_eq_true rfl) (Nat.le_of_ble_eq_true rfl) wc_Counts_15 d_Counts_init_15 (fun q1 r1 => ?_)
  show y_X k A 19 [some (.ref h0)] [.ref q1, .ref h0] [(h0, .inr (6, [.ref q0, .null, .null])), (q0, .inl (dA 0, 5, .inl (fun _ => 0))), (q1, .inl (dA 3, 6, .inr (.inr (.inr (.inr (fun i => some (r1 i))))))), (r1 0, .inl (dA 0, 4, .inl (fun _ => 0))), (r1 1, .inl (dA 0, 4, .inl (fun _ => 0))), (r1 2, .inl (dA 0, 4, .inl (fun _ => 0))), (r1 3, .inl (dA 0, 4, .inl (fun _ => 0))), (r1 4, .inl (dA 0, 4, .inl (fun _ => 0))), (r1 5, .inl (dA 0, 4, .inl (fun _ => 0)))] 8 35
  refine y_putF C (ci := 6) (N := 3) (T := F_Counts) (j := 1) 0 rfl rfl lay_Counts (by decide) rfl t_Counts t_Counts_ok n_Counts rfl rfl (Nat.le_of_ble_eq_true rfl) lk_Counts_17 d_Counts_init_19 rfl I rfl ?_
  show y_X k A 22 [some (.ref h0)] [] [(h0, .inr (6, [.ref q0, .ref q1, .null])), (q0, .inl (dA 0, 5, .inl (fun _ => 0))), (q1, .inl (dA 3, 6, .inr (.inr (.inr (.inr (fun i => some (r1 i))))))), (r1 0, .inl (dA 0, 4, .inl (fun _ => 0))), (r1 1, .inl (dA 0, 4, .inl (fun _ => 0))), (r1 2, .inl (dA 0, 4, .inl (fun _ => 0))), (r1 3, .inl (dA 0, 4, .inl (fun _ => 0))), (r1 4, .inl (dA 0, 4, .inl (fun _ => 0))), (r1 5, .inl (dA 0, 4, .inl (fun _ => 0)))] 8 35
  refine y_aload_n C d_Counts_init_22 rfl rfl ?_
  refine y_bipush C (6) d_Counts_init_23 rfl ?_
  refine y_bipush C (6) d_Counts_init_25 rfl ?_
  refine y_mna C 6 6 (by decide) (by decide) (by decide) (by decide) (by decide) (by decide) (Nat.le_of_ble_eq_true rfl) (Nat.le_of_ble_eq_true rfl) wc_Counts_15 d_Counts_init_27 (fun q2 r2 => ?_)
  show y_X k A 31 [some (.ref h0)] [.ref q2, .ref h0] [(h0, .inr (6, [.ref q0, .ref q1, .null])), (q0, .inl (dA 0, 5, .inl (fun _ => 0))), (q1, .inl (dA 3, 6, .inr (.inr (.inr (.inr (fun i => some (r1 i))))))), (r1 0, .inl (dA 0, 4, .inl (fun _ => 0))), (r1 1, .inl (dA 0, 4, .inl (fun _ => 0))), (r1 2, .inl (dA 0, 4, .inl (fun _ => 0))), (r1 3, .inl (dA 0, 4, .inl (fun _ => 0))), (r1 4, .inl (dA 0, 4, .inl (fun _ => 0))), (r1 5, .inl (dA 0, 4, .inl (fun _ => 0))), (q2, .inl (dA 3, 6, .inr (.inr (.inr (.inr (fun i => some (r2 i))))))), (r2 0, .inl (dA 0, 6, .inl (fun _ => 0))), (r2 1, .inl (dA 0, 6, .inl (fun _ => 0))), (r2 2, .inl (dA 0, 6, .inl (fun _ => 0))), (r2 3, .inl (dA 0, 6, .inl (fun _ => 0))), (r2 4, .inl (dA 0, 6, .inl (fun _ => 0))), (r2 5, .inl (dA 0, 6, .inl (fun _ => 0)))] 15 77
  refine y_putF C (ci := 6) (N := 3) (T := F_Counts) (j := 2) 0 rfl rfl lay_Counts (by decide) rfl t_Counts t_Counts_ok n_Counts rfl rfl (Nat.le_of_ble_eq_true rfl) lk_Counts_20 d_Counts_init_31 rfl I rfl ?_
  show y_X k A 34 [some (.ref h0)] [] [(h0, .inr (6, [.ref q0, .ref q1, .ref q2])), (q0, .inl (dA 0, 5, .inl (fun _ => 0))), (q1, .inl (dA 3, 6, .inr (.inr (.inr (.inr (fun i => some (r1 i))))))), (r1 0, .inl (dA 0, 4, .inl (fun _ => 0))), (r1 1, .inl (dA 0, 4, .inl (fun _ => 0))), (r1 2, .inl (dA 0, 4, .inl (fun _ => 0))), (r1 3, .inl (dA 0, 4, .inl (fun _ => 0))), (r1 4, .inl (dA 0, 4, .inl (fun _ => 0))), (r1 5, .inl (dA 0, 4, .inl (fun _ => 0))), (q2, .inl (dA 3, 6, .inr (.inr (.inr (.inr (fun i => some (r2 i))))))), (r2 0, .inl (dA 0, 6, .inl (fun _ => 0))), (r2 1, .inl (dA 0, 6, .inl (fun _ => 0))), (r2 2, .inl (dA 0, 6, .inl (fun _ => 0))), (r2 3, .inl (dA 0, 6, .inl (fun _ => 0))), (r2 4, .inl (dA 0, 6, .inl (fun _ => 0))), (r2 5, .inl (dA 0, 6, .inl (fun _ => 0)))] 15 77
  refine y_arrq k (fun j => some ((fun k => ([q0, q1, r1 0, r1 1, r1 2, r1 3, r1 4, r1 5, q2, r2 0, r2 1, r2 2, r2 3, r2 4, r2 5] : List Nat).getD k 0) (2 + j))) 2 rfl (fun j hj => by match j, hj with | 0, _ => rfl | 1, _ => rfl | 2, _ => rfl | 3, _ => rfl | 4, _ => rfl | 5, _ => rfl | (t + 6), h => exact absurd h (by omega)) ?_
  show y_X k A 34 [some (.ref h0)] [] [(h0, .inr (6, [.ref q0, .ref q1, .ref q2])), (q0, .inl (dA 0, 5, .inl (fun _ => 0))), (q1, .inl (dA 3, 6, .inr (.inr (.inr (.inr (fun j => some ((fun k => ([q0, q1, r1 0, r1 1, r1 2, r1 3, r1 4, r1 5, q2, r2 0, r2 1, r2 2, r2 3, r2 4, r2 5] : List Nat).getD k 0) (2 + j)))))))), (r1 0, .inl (dA 0, 4, .inl (fun _ => 0))), (r1 1, .inl (dA 0, 4, .inl (fun _ => 0))), (r1 2, .inl (dA 0, 4, .inl (fun _ => 0))), (r1 3, .inl (dA 0, 4, .inl (fun _ => 0))), (r1 4, .inl (dA 0, 4, .inl (fun _ => 0))), (r1 5, .inl (dA 0, 4, .inl (fun _ => 0))), (q2, .inl (dA 3, 6, .inr (.inr (.inr (.inr (fun i => some (r2 i))))))), (r2 0, .inl (dA 0, 6, .inl (fun _ => 0))), (r2 1, .inl (dA 0, 6, .inl (fun _ => 0))), (r2 2, .inl (dA 0, 6, .inl (fun _ => 0))), (r2 3, .inl (dA 0, 6, .inl (fun _ => 0))), (r2 4, .inl (dA 0, 6, .inl (fun _ => 0))), (r2 5, .inl (dA 0, 6, .inl (fun _ => 0)))] 15 77
  refine y_arrq k (fun j => some ((fun k => ([q0, q1, r1 0, r1 1, r1 2, r1 3, r1 4, r1 5, q2, r2 0, r2 1, r2 2, r2 3, r2 4, r2 5] : List Nat).getD k 0) (9 + j))) 9 rfl (fun j hj => by match j, hj with | 0, _ => rfl | 1, _ => rfl | 2, _ => rfl | 3, _ => rfl | 4, _ => rfl | 5, _ => rfl | (t + 6), h => exact absurd h (by omega)) ?_
  show y_X k A 34 [some (.ref h0)] [] [(h0, .inr (6, [.ref q0, .ref q1, .ref q2])), (q0, .inl (dA 0, 5, .inl (fun _ => 0))), (q1, .inl (dA 3, 6, .inr (.inr (.inr (.inr (fun j => some ((fun k => ([q0, q1, r1 0, r1 1, r1 2, r1 3, r1 4, r1 5, q2, r2 0, r2 1, r2 2, r2 3, r2 4, r2 5] : List Nat).getD k 0) (2 + j)))))))), (r1 0, .inl (dA 0, 4, .inl (fun _ => 0))), (r1 1, .inl (dA 0, 4, .inl (fun _ => 0))), (r1 2, .inl (dA 0, 4, .inl (fun _ => 0))), (r1 3, .inl (dA 0, 4, .inl (fun _ => 0))), (r1 4, .inl (dA 0, 4, .inl (fun _ => 0))), (r1 5, .inl (dA 0, 4, .inl (fun _ => 0))), (q2, .inl (dA 3, 6, .inr (.inr (.inr (.inr (fun j => some ((fun k => ([q0, q1, r1 0, r1 1, r1 2, r1 3, r1 4, r1 5, q2, r2 0, r2 1, r2 2, r2 3, r2 4, r2 5] : List Nat).getD k 0) (9 + j)))))))), (r2 0, .inl (dA 0, 6, .inl (fun _ => 0))), (r2 1, .inl (dA 0, 6, .inl (fun _ => 0))), (r2 2, .inl (dA 0, 6, .inl (fun _ => 0))), (r2 3, .inl (dA 0, 6, .inl (fun _ => 0))), (r2 4, .inl (dA 0, 6, .inl (fun _ => 0))), (r2 5, .inl (dA 0, 6, .inl (fun _ => 0)))] 15 77
  refine y_ret C (fun k => ([q0, q1, r1 0, r1 1, r1 2, r1 3, r1 4, r1 5, q2, r2 0, r2 1, r2 2, r2 3, r2 4, r2 5] : List Nat).getD k 0) E rfl d_Counts_init_34
