theorem d_CellTransport_init_0 : decode b_CellTransport_init 0 = .ok (.aload_n 0, 1) := by decide +kernel
theorem d_CellTransport_init_1 : decode b_CellTransport_init 1 = .ok (.invokespecial 1, 3) := by decide +kernel
theorem d_CellTransport_init_4 : decode b_CellTransport_init 4 = .ok (.aload_n 0, 1) := by decide +kernel
theorem d_CellTransport_init_5 : decode b_CellTransport_init 5 = .ok (.new 7, 3) := by decide +kernel
theorem d_CellTransport_init_8 : decode b_CellTransport_init 8 = .ok (.dup, 1) := by decide +kernel
theorem d_CellTransport_init_9 : decode b_CellTransport_init 9 = .ok (.invokespecial 9, 3) := by decide +kernel
theorem d_CellTransport_init_12 : decode b_CellTransport_init 12 = .ok (.putfield 10, 3) := by decide +kernel
theorem d_CellTransport_init_15 : decode b_CellTransport_init 15 = .ok (.aload_n 0, 1) := by decide +kernel
theorem d_CellTransport_init_16 : decode b_CellTransport_init 16 = .ok (.new 16, 3) := by decide +kernel
theorem d_CellTransport_init_19 : decode b_CellTransport_init 19 = .ok (.dup, 1) := by decide +kernel
theorem d_CellTransport_init_20 : decode b_CellTransport_init 20 = .ok (.invokespecial 18, 3) := by decide +kernel
theorem d_CellTransport_init_23 : decode b_CellTransport_init 23 = .ok (.putfield 19, 3) := by decide +kernel
theorem d_CellTransport_init_26 : decode b_CellTransport_init 26 = .ok (.aload_n 0, 1) := by decide +kernel
theorem d_CellTransport_init_27 : decode b_CellTransport_init 27 = .ok (.new 23, 3) := by decide +kernel
theorem d_CellTransport_init_30 : decode b_CellTransport_init 30 = .ok (.dup, 1) := by decide +kernel
theorem d_CellTransport_init_31 : decode b_CellTransport_init 31 = .ok (.invokespecial 25, 3) := by decide +kernel
theorem d_CellTransport_init_34 : decode b_CellTransport_init 34 = .ok (.putfield 26, 3) := by decide +kernel
theorem d_CellTransport_init_37 : decode b_CellTransport_init 37 = .ok (.aload_n 0, 1) := by decide +kernel
theorem d_CellTransport_init_38 : decode b_CellTransport_init 38 = .ok (.new 30, 3) := by decide +kernel
theorem d_CellTransport_init_41 : decode b_CellTransport_init 41 = .ok (.dup, 1) := by decide +kernel
theorem d_CellTransport_init_42 : decode b_CellTransport_init 42 = .ok (.invokespecial 32, 3) := by decide +kernel
theorem d_CellTransport_init_45 : decode b_CellTransport_init 45 = .ok (.putfield 33, 3) := by decide +kernel
theorem d_CellTransport_init_48 : decode b_CellTransport_init 48 = .ok (.aload_n 0, 1) := by decide +kernel
theorem d_CellTransport_init_49 : decode b_CellTransport_init 49 = .ok (.new 37, 3) := by decide +kernel
theorem d_CellTransport_init_52 : decode b_CellTransport_init 52 = .ok (.dup, 1) := by decide +kernel
theorem d_CellTransport_init_53 : decode b_CellTransport_init 53 = .ok (.invokespecial 39, 3) := by decide +kernel
theorem d_CellTransport_init_56 : decode b_CellTransport_init 56 = .ok (.putfield 40, 3) := by decide +kernel
theorem d_CellTransport_init_59 : decode b_CellTransport_init 59 = .ok (.aload_n 0, 1) := by decide +kernel
theorem d_CellTransport_init_60 : decode b_CellTransport_init 60 = .ok (.new 44, 3) := by decide +kernel
theorem d_CellTransport_init_63 : decode b_CellTransport_init 63 = .ok (.dup, 1) := by decide +kernel
theorem d_CellTransport_init_64 : decode b_CellTransport_init 64 = .ok (.invokespecial 46, 3) := by decide +kernel
theorem d_CellTransport_init_67 : decode b_CellTransport_init 67 = .ok (.putfield 47, 3) := by decide +kernel
theorem d_CellTransport_init_70 : decode b_CellTransport_init 70 = .ok (.return_, 1) := by decide +kernel
theorem d_CellTransport_surface_0 : decode b_CellTransport_surface 0 = .ok (.iload_n 1, 1) := by decide +kernel
theorem d_CellTransport_surface_1 : decode b_CellTransport_surface 1 = .ok (.iconst 0, 1) := by decide +kernel
theorem d_CellTransport_surface_2 : decode b_CellTransport_surface 2 = .ok (.bipush 7, 2) := by decide +kernel
theorem d_CellTransport_surface_4 : decode b_CellTransport_surface 4 = .ok (.invokestatic 51, 3) := by decide +kernel
theorem d_CellTransport_surface_7 : decode b_CellTransport_surface 7 = .ok (.ifCond .eq 15, 3) := by decide +kernel
theorem d_CellTransport_surface_10 : decode b_CellTransport_surface 10 = .ok (.iload_n 2, 1) := by decide +kernel
theorem d_CellTransport_surface_11 : decode b_CellTransport_surface 11 = .ok (.iload_n 3, 1) := by decide +kernel
theorem d_CellTransport_surface_12 : decode b_CellTransport_surface 12 = .ok (.iload 4, 2) := by decide +kernel
theorem d_CellTransport_surface_14 : decode b_CellTransport_surface 14 = .ok (.iload 5, 2) := by decide +kernel
theorem d_CellTransport_surface_16 : decode b_CellTransport_surface 16 = .ok (.invokestatic 55, 3) := by decide +kernel
theorem d_CellTransport_surface_19 : decode b_CellTransport_surface 19 = .ok (.ifCond .ne 5, 3) := by decide +kernel
theorem d_CellTransport_surface_22 : decode b_CellTransport_surface 22 = .ok (.iconst (-1), 1) := by decide +kernel
theorem d_CellTransport_surface_23 : decode b_CellTransport_surface 23 = .ok (.ireturn, 1) := by decide +kernel
theorem d_CellTransport_surface_24 : decode b_CellTransport_surface 24 = .ok (.aload_n 0, 1) := by decide +kernel
theorem d_CellTransport_surface_25 : decode b_CellTransport_surface 25 = .ok (.getfield 10, 3) := by decide +kernel
theorem d_CellTransport_surface_28 : decode b_CellTransport_surface 28 = .ok (.getfield 59, 3) := by decide +kernel
theorem d_CellTransport_surface_31 : decode b_CellTransport_surface 31 = .ok (.iload_n 1, 1) := by decide +kernel
theorem d_CellTransport_surface_32 : decode b_CellTransport_surface 32 = .ok (.aaload, 1) := by decide +kernel
theorem d_CellTransport_surface_33 : decode b_CellTransport_surface 33 = .ok (.astore 6, 2) := by decide +kernel
theorem d_CellTransport_surface_35 : decode b_CellTransport_surface 35 = .ok (.aload 6, 2) := by decide +kernel
theorem d_CellTransport_surface_37 : decode b_CellTransport_surface 37 = .ok (.getfield 63, 3) := by decide +kernel
theorem d_CellTransport_surface_40 : decode b_CellTransport_surface 40 = .ok (.invokestatic 69, 3) := by decide +kernel
theorem d_CellTransport_surface_43 : decode b_CellTransport_surface 43 = .ok (.istore 7, 2) := by decide +kernel
theorem d_CellTransport_surface_45 : decode b_CellTransport_surface 45 = .ok (.aload 6, 2) := by decide +kernel
theorem d_CellTransport_surface_47 : decode b_CellTransport_surface 47 = .ok (.iload_n 2, 1) := by decide +kernel
theorem d_CellTransport_surface_48 : decode b_CellTransport_surface 48 = .ok (.iload_n 3, 1) := by decide +kernel
theorem d_CellTransport_surface_49 : decode b_CellTransport_surface 49 = .ok (.iload 4, 2) := by decide +kernel
theorem d_CellTransport_surface_51 : decode b_CellTransport_surface 51 = .ok (.iload 5, 2) := by decide +kernel
theorem d_CellTransport_surface_53 : decode b_CellTransport_surface 53 = .ok (.invokevirtual 73, 3) := by decide +kernel
theorem d_CellTransport_surface_56 : decode b_CellTransport_surface 56 = .ok (.iload 7, 2) := by decide +kernel
theorem d_CellTransport_surface_58 : decode b_CellTransport_surface 58 = .ok (.ireturn, 1) := by decide +kernel
theorem d_CellTransport_token_0 : decode b_CellTransport_token 0 = .ok (.iload_n 1, 1) := by decide +kernel
theorem d_CellTransport_token_1 : decode b_CellTransport_token 1 = .ok (.iconst 0, 1) := by decide +kernel
theorem d_CellTransport_token_2 : decode b_CellTransport_token 2 = .ok (.bipush 10, 2) := by decide +kernel
theorem d_CellTransport_token_4 : decode b_CellTransport_token 4 = .ok (.invokestatic 51, 3) := by decide +kernel
theorem d_CellTransport_token_7 : decode b_CellTransport_token 7 = .ok (.ifCond .eq 15, 3) := by decide +kernel
theorem d_CellTransport_token_10 : decode b_CellTransport_token 10 = .ok (.aload_n 0, 1) := by decide +kernel
theorem d_CellTransport_token_11 : decode b_CellTransport_token 11 = .ok (.getfield 19, 3) := by decide +kernel
theorem d_CellTransport_token_14 : decode b_CellTransport_token 14 = .ok (.getfield 77, 3) := by decide +kernel
theorem d_CellTransport_token_17 : decode b_CellTransport_token 17 = .ok (.bipush 8, 2) := by decide +kernel
theorem d_CellTransport_token_19 : decode b_CellTransport_token 19 = .ok (.if_icmp .lt 5, 3) := by decide +kernel
theorem d_CellTransport_token_22 : decode b_CellTransport_token 22 = .ok (.iconst (-1), 1) := by decide +kernel
theorem d_CellTransport_token_23 : decode b_CellTransport_token 23 = .ok (.ireturn, 1) := by decide +kernel
theorem d_CellTransport_token_24 : decode b_CellTransport_token 24 = .ok (.aload_n 0, 1) := by decide +kernel
theorem d_CellTransport_token_25 : decode b_CellTransport_token 25 = .ok (.getfield 19, 3) := by decide +kernel
theorem d_CellTransport_token_28 : decode b_CellTransport_token 28 = .ok (.iload_n 1, 1) := by decide +kernel
theorem d_CellTransport_token_29 : decode b_CellTransport_token 29 = .ok (.invokevirtual 81, 3) := by decide +kernel
theorem d_CellTransport_token_32 : decode b_CellTransport_token 32 = .ok (.aload_n 0, 1) := by decide +kernel
theorem d_CellTransport_token_33 : decode b_CellTransport_token 33 = .ok (.getfield 19, 3) := by decide +kernel
theorem d_CellTransport_token_36 : decode b_CellTransport_token 36 = .ok (.getfield 77, 3) := by decide +kernel
theorem d_CellTransport_token_39 : decode b_CellTransport_token 39 = .ok (.ireturn, 1) := by decide +kernel
theorem d_CellTransport_cell_0 : decode b_CellTransport_cell 0 = .ok (.iload_n 1, 1) := by decide +kernel
theorem d_CellTransport_cell_1 : decode b_CellTransport_cell 1 = .ok (.iconst 0, 1) := by decide +kernel
theorem d_CellTransport_cell_2 : decode b_CellTransport_cell 2 = .ok (.iconst 5, 1) := by decide +kernel
theorem d_CellTransport_cell_3 : decode b_CellTransport_cell 3 = .ok (.invokestatic 51, 3) := by decide +kernel
theorem d_CellTransport_cell_6 : decode b_CellTransport_cell 6 = .ok (.ifCond .eq 23, 3) := by decide +kernel
theorem d_CellTransport_cell_9 : decode b_CellTransport_cell 9 = .ok (.iload_n 2, 1) := by decide +kernel
theorem d_CellTransport_cell_10 : decode b_CellTransport_cell 10 = .ok (.iconst 0, 1) := by decide +kernel
theorem d_CellTransport_cell_11 : decode b_CellTransport_cell 11 = .ok (.sipush 1000, 3) := by decide +kernel
theorem d_CellTransport_cell_14 : decode b_CellTransport_cell 14 = .ok (.invokestatic 51, 3) := by decide +kernel
theorem d_CellTransport_cell_17 : decode b_CellTransport_cell 17 = .ok (.ifCond .eq 12, 3) := by decide +kernel
theorem d_CellTransport_cell_20 : decode b_CellTransport_cell 20 = .ok (.iload_n 3, 1) := by decide +kernel
theorem d_CellTransport_cell_21 : decode b_CellTransport_cell 21 = .ok (.iload 4, 2) := by decide +kernel
theorem d_CellTransport_cell_23 : decode b_CellTransport_cell 23 = .ok (.invokestatic 85, 3) := by decide +kernel
theorem d_CellTransport_cell_26 : decode b_CellTransport_cell 26 = .ok (.ifCond .ne 5, 3) := by decide +kernel
theorem d_CellTransport_cell_29 : decode b_CellTransport_cell 29 = .ok (.iconst (-1), 1) := by decide +kernel
theorem d_CellTransport_cell_30 : decode b_CellTransport_cell 30 = .ok (.ireturn, 1) := by decide +kernel
theorem d_CellTransport_cell_31 : decode b_CellTransport_cell 31 = .ok (.aload_n 0, 1) := by decide +kernel
theorem d_CellTransport_cell_32 : decode b_CellTransport_cell 32 = .ok (.getfield 19, 3) := by decide +kernel
theorem d_CellTransport_cell_35 : decode b_CellTransport_cell 35 = .ok (.invokevirtual 89, 3) := by decide +kernel
theorem d_CellTransport_cell_38 : decode b_CellTransport_cell 38 = .ok (.ifCond .ne 13, 3) := by decide +kernel
theorem d_CellTransport_cell_41 : decode b_CellTransport_cell 41 = .ok (.aload_n 0, 1) := by decide +kernel
theorem d_CellTransport_cell_42 : decode b_CellTransport_cell 42 = .ok (.getfield 19, 3) := by decide +kernel
theorem d_CellTransport_cell_45 : decode b_CellTransport_cell 45 = .ok (.iconst 0, 1) := by decide +kernel
theorem d_CellTransport_cell_46 : decode b_CellTransport_cell 46 = .ok (.putfield 77, 3) := by decide +kernel
theorem d_CellTransport_cell_49 : decode b_CellTransport_cell 49 = .ok (.iconst (-1), 1) := by decide +kernel
theorem d_CellTransport_cell_50 : decode b_CellTransport_cell 50 = .ok (.ireturn, 1) := by decide +kernel
theorem d_CellTransport_cell_51 : decode b_CellTransport_cell 51 = .ok (.aload_n 0, 1) := by decide +kernel
theorem d_CellTransport_cell_52 : decode b_CellTransport_cell 52 = .ok (.getfield 10, 3) := by decide +kernel
theorem d_CellTransport_cell_55 : decode b_CellTransport_cell 55 = .ok (.getfield 93, 3) := by decide +kernel
theorem d_CellTransport_cell_58 : decode b_CellTransport_cell 58 = .ok (.iload_n 1, 1) := by decide +kernel
theorem d_CellTransport_cell_59 : decode b_CellTransport_cell 59 = .ok (.aaload, 1) := by decide +kernel
theorem d_CellTransport_cell_60 : decode b_CellTransport_cell 60 = .ok (.astore 5, 2) := by decide +kernel
theorem d_CellTransport_cell_62 : decode b_CellTransport_cell 62 = .ok (.aload 5, 2) := by decide +kernel
theorem d_CellTransport_cell_64 : decode b_CellTransport_cell 64 = .ok (.getfield 97, 3) := by decide +kernel
theorem d_CellTransport_cell_67 : decode b_CellTransport_cell 67 = .ok (.invokestatic 69, 3) := by decide +kernel
theorem d_CellTransport_cell_70 : decode b_CellTransport_cell 70 = .ok (.istore 6, 2) := by decide +kernel
theorem d_CellTransport_cell_72 : decode b_CellTransport_cell 72 = .ok (.aload 5, 2) := by decide +kernel
theorem d_CellTransport_cell_74 : decode b_CellTransport_cell 74 = .ok (.aload_n 0, 1) := by decide +kernel
theorem d_CellTransport_cell_75 : decode b_CellTransport_cell 75 = .ok (.getfield 19, 3) := by decide +kernel
theorem d_CellTransport_cell_78 : decode b_CellTransport_cell 78 = .ok (.iload_n 2, 1) := by decide +kernel
theorem d_CellTransport_cell_79 : decode b_CellTransport_cell 79 = .ok (.iload_n 3, 1) := by decide +kernel
theorem d_CellTransport_cell_80 : decode b_CellTransport_cell 80 = .ok (.iload 4, 2) := by decide +kernel
theorem d_CellTransport_cell_82 : decode b_CellTransport_cell 82 = .ok (.invokevirtual 102, 3) := by decide +kernel
theorem d_CellTransport_cell_85 : decode b_CellTransport_cell 85 = .ok (.aload_n 0, 1) := by decide +kernel
theorem d_CellTransport_cell_86 : decode b_CellTransport_cell 86 = .ok (.getfield 19, 3) := by decide +kernel
theorem d_CellTransport_cell_89 : decode b_CellTransport_cell 89 = .ok (.iconst 0, 1) := by decide +kernel
theorem d_CellTransport_cell_90 : decode b_CellTransport_cell 90 = .ok (.putfield 77, 3) := by decide +kernel
theorem d_CellTransport_cell_93 : decode b_CellTransport_cell 93 = .ok (.iload 6, 2) := by decide +kernel
theorem d_CellTransport_cell_95 : decode b_CellTransport_cell 95 = .ok (.ireturn, 1) := by decide +kernel
theorem d_CellTransport_undefine_0 : decode b_CellTransport_undefine 0 = .ok (.iload_n 1, 1) := by decide +kernel
theorem d_CellTransport_undefine_1 : decode b_CellTransport_undefine 1 = .ok (.iconst 0, 1) := by decide +kernel
theorem d_CellTransport_undefine_2 : decode b_CellTransport_undefine 2 = .ok (.iconst 5, 1) := by decide +kernel
theorem d_CellTransport_undefine_3 : decode b_CellTransport_undefine 3 = .ok (.invokestatic 51, 3) := by decide +kernel
theorem d_CellTransport_undefine_6 : decode b_CellTransport_undefine 6 = .ok (.ifCond .ne 5, 3) := by decide +kernel
theorem d_CellTransport_undefine_9 : decode b_CellTransport_undefine 9 = .ok (.iconst (-1), 1) := by decide +kernel
theorem d_CellTransport_undefine_10 : decode b_CellTransport_undefine 10 = .ok (.ireturn, 1) := by decide +kernel
theorem d_CellTransport_undefine_11 : decode b_CellTransport_undefine 11 = .ok (.aload_n 0, 1) := by decide +kernel
theorem d_CellTransport_undefine_12 : decode b_CellTransport_undefine 12 = .ok (.getfield 10, 3) := by decide +kernel
theorem d_CellTransport_undefine_15 : decode b_CellTransport_undefine 15 = .ok (.getfield 93, 3) := by decide +kernel
theorem d_CellTransport_undefine_18 : decode b_CellTransport_undefine 18 = .ok (.iload_n 1, 1) := by decide +kernel
theorem d_CellTransport_undefine_19 : decode b_CellTransport_undefine 19 = .ok (.aaload, 1) := by decide +kernel
theorem d_CellTransport_undefine_20 : decode b_CellTransport_undefine 20 = .ok (.astore_n 2, 1) := by decide +kernel
theorem d_CellTransport_undefine_21 : decode b_CellTransport_undefine 21 = .ok (.aload_n 2, 1) := by decide +kernel
theorem d_CellTransport_undefine_22 : decode b_CellTransport_undefine 22 = .ok (.getfield 97, 3) := by decide +kernel
theorem d_CellTransport_undefine_25 : decode b_CellTransport_undefine 25 = .ok (.invokestatic 69, 3) := by decide +kernel
theorem d_CellTransport_undefine_28 : decode b_CellTransport_undefine 28 = .ok (.istore_n 3, 1) := by decide +kernel
theorem d_CellTransport_undefine_29 : decode b_CellTransport_undefine 29 = .ok (.aload_n 2, 1) := by decide +kernel
theorem d_CellTransport_undefine_30 : decode b_CellTransport_undefine 30 = .ok (.iconst 0, 1) := by decide +kernel
theorem d_CellTransport_undefine_31 : decode b_CellTransport_undefine 31 = .ok (.putfield 97, 3) := by decide +kernel
theorem d_CellTransport_undefine_34 : decode b_CellTransport_undefine 34 = .ok (.iload_n 3, 1) := by decide +kernel
theorem d_CellTransport_undefine_35 : decode b_CellTransport_undefine 35 = .ok (.ireturn, 1) := by decide +kernel
theorem d_CellTransport_source_0 : decode b_CellTransport_source 0 = .ok (.iload_n 1, 1) := by decide +kernel
theorem d_CellTransport_source_1 : decode b_CellTransport_source 1 = .ok (.iload_n 2, 1) := by decide +kernel
theorem d_CellTransport_source_2 : decode b_CellTransport_source 2 = .ok (.sipush 300, 3) := by decide +kernel
theorem d_CellTransport_source_5 : decode b_CellTransport_source 5 = .ok (.invokestatic 106, 3) := by decide +kernel
theorem d_CellTransport_source_8 : decode b_CellTransport_source 8 = .ok (.ifCond .ne 5, 3) := by decide +kernel
theorem d_CellTransport_source_11 : decode b_CellTransport_source 11 = .ok (.iconst (-1), 1) := by decide +kernel
theorem d_CellTransport_source_12 : decode b_CellTransport_source 12 = .ok (.ireturn, 1) := by decide +kernel
theorem d_CellTransport_source_13 : decode b_CellTransport_source 13 = .ok (.aload_n 0, 1) := by decide +kernel
theorem d_CellTransport_source_14 : decode b_CellTransport_source 14 = .ok (.iload_n 1, 1) := by decide +kernel
theorem d_CellTransport_source_15 : decode b_CellTransport_source 15 = .ok (.putfield 109, 3) := by decide +kernel
theorem d_CellTransport_source_18 : decode b_CellTransport_source 18 = .ok (.aload_n 0, 1) := by decide +kernel
theorem d_CellTransport_source_19 : decode b_CellTransport_source 19 = .ok (.iload_n 2, 1) := by decide +kernel
theorem d_CellTransport_source_20 : decode b_CellTransport_source 20 = .ok (.putfield 112, 3) := by decide +kernel
theorem d_CellTransport_source_23 : decode b_CellTransport_source 23 = .ok (.iconst 0, 1) := by decide +kernel
theorem d_CellTransport_source_24 : decode b_CellTransport_source 24 = .ok (.ireturn, 1) := by decide +kernel
theorem d_CellTransport_seed_0 : decode b_CellTransport_seed 0 = .ok (.aload_n 0, 1) := by decide +kernel
theorem d_CellTransport_seed_1 : decode b_CellTransport_seed 1 = .ok (.getfield 26, 3) := by decide +kernel
theorem d_CellTransport_seed_4 : decode b_CellTransport_seed 4 = .ok (.iload_n 1, 1) := by decide +kernel
theorem d_CellTransport_seed_5 : decode b_CellTransport_seed 5 = .ok (.invokevirtual 115, 3) := by decide +kernel
theorem d_CellTransport_seed_8 : decode b_CellTransport_seed 8 = .ok (.return_, 1) := by decide +kernel
theorem d_CellTransport_skip_0 : decode b_CellTransport_skip 0 = .ok (.iload_n 1, 1) := by decide +kernel
theorem d_CellTransport_skip_1 : decode b_CellTransport_skip 1 = .ok (.iconst 0, 1) := by decide +kernel
theorem d_CellTransport_skip_2 : decode b_CellTransport_skip 2 = .ok (.ldc 118, 2) := by decide +kernel
theorem d_CellTransport_skip_4 : decode b_CellTransport_skip 4 = .ok (.invokestatic 51, 3) := by decide +kernel
theorem d_CellTransport_skip_7 : decode b_CellTransport_skip 7 = .ok (.ifCond .ne 5, 3) := by decide +kernel
theorem d_CellTransport_skip_10 : decode b_CellTransport_skip 10 = .ok (.iconst (-1), 1) := by decide +kernel
theorem d_CellTransport_skip_11 : decode b_CellTransport_skip 11 = .ok (.ireturn, 1) := by decide +kernel
theorem d_CellTransport_skip_12 : decode b_CellTransport_skip 12 = .ok (.aload_n 0, 1) := by decide +kernel
theorem d_CellTransport_skip_13 : decode b_CellTransport_skip 13 = .ok (.getfield 26, 3) := by decide +kernel
theorem d_CellTransport_skip_16 : decode b_CellTransport_skip 16 = .ok (.iload_n 1, 1) := by decide +kernel
theorem d_CellTransport_skip_17 : decode b_CellTransport_skip 17 = .ok (.invokevirtual 119, 3) := by decide +kernel
theorem d_CellTransport_skip_20 : decode b_CellTransport_skip 20 = .ok (.aload_n 0, 1) := by decide +kernel
theorem d_CellTransport_skip_21 : decode b_CellTransport_skip 21 = .ok (.getfield 26, 3) := by decide +kernel
theorem d_CellTransport_skip_24 : decode b_CellTransport_skip 24 = .ok (.getfield 122, 3) := by decide +kernel
theorem d_CellTransport_skip_27 : decode b_CellTransport_skip 27 = .ok (.ireturn, 1) := by decide +kernel
theorem d_CellTransport_state_0 : decode b_CellTransport_state 0 = .ok (.aload_n 0, 1) := by decide +kernel
theorem d_CellTransport_state_1 : decode b_CellTransport_state 1 = .ok (.getfield 26, 3) := by decide +kernel
theorem d_CellTransport_state_4 : decode b_CellTransport_state 4 = .ok (.getfield 122, 3) := by decide +kernel
theorem d_CellTransport_state_7 : decode b_CellTransport_state 7 = .ok (.ireturn, 1) := by decide +kernel
theorem d_CellTransport_run_0 : decode b_CellTransport_run 0 = .ok (.iload_n 1, 1) := by decide +kernel
theorem d_CellTransport_run_1 : decode b_CellTransport_run 1 = .ok (.iconst 1, 1) := by decide +kernel
theorem d_CellTransport_run_2 : decode b_CellTransport_run 2 = .ok (.iconst 2, 1) := by decide +kernel
theorem d_CellTransport_run_3 : decode b_CellTransport_run 3 = .ok (.invokestatic 51, 3) := by decide +kernel
theorem d_CellTransport_run_6 : decode b_CellTransport_run 6 = .ok (.ifCond .ne 5, 3) := by decide +kernel
theorem d_CellTransport_run_9 : decode b_CellTransport_run 9 = .ok (.iconst (-1), 1) := by decide +kernel
theorem d_CellTransport_run_10 : decode b_CellTransport_run 10 = .ok (.ireturn, 1) := by decide +kernel
theorem d_CellTransport_run_11 : decode b_CellTransport_run 11 = .ok (.iconst 0, 1) := by decide +kernel
theorem d_CellTransport_run_12 : decode b_CellTransport_run 12 = .ok (.istore_n 2, 1) := by decide +kernel
theorem d_CellTransport_run_13 : decode b_CellTransport_run 13 = .ok (.iconst 0, 1) := by decide +kernel
theorem d_CellTransport_run_14 : decode b_CellTransport_run 14 = .ok (.istore_n 3, 1) := by decide +kernel
theorem d_CellTransport_run_15 : decode b_CellTransport_run 15 = .ok (.iload_n 3, 1) := by decide +kernel
theorem d_CellTransport_run_16 : decode b_CellTransport_run 16 = .ok (.iload_n 1, 1) := by decide +kernel
theorem d_CellTransport_run_17 : decode b_CellTransport_run 17 = .ok (.if_icmp .ge 16, 3) := by decide +kernel
theorem d_CellTransport_run_20 : decode b_CellTransport_run 20 = .ok (.iload_n 2, 1) := by decide +kernel
theorem d_CellTransport_run_21 : decode b_CellTransport_run 21 = .ok (.aload_n 0, 1) := by decide +kernel
theorem d_CellTransport_run_22 : decode b_CellTransport_run 22 = .ok (.invokevirtual 125, 3) := by decide +kernel
theorem d_CellTransport_run_25 : decode b_CellTransport_run 25 = .ok (.iadd, 1) := by decide +kernel
theorem d_CellTransport_run_26 : decode b_CellTransport_run 26 = .ok (.istore_n 2, 1) := by decide +kernel
theorem d_CellTransport_run_27 : decode b_CellTransport_run 27 = .ok (.iinc 3 1, 3) := by decide +kernel
theorem d_CellTransport_run_30 : decode b_CellTransport_run 30 = .ok (.goto (-15), 3) := by decide +kernel
theorem d_CellTransport_run_33 : decode b_CellTransport_run 33 = .ok (.iload_n 2, 1) := by decide +kernel
theorem d_CellTransport_run_34 : decode b_CellTransport_run 34 = .ok (.ireturn, 1) := by decide +kernel
theorem d_CellTransport_where_0 : decode b_CellTransport_where 0 = .ok (.iload_n 1, 1) := by decide +kernel
theorem d_CellTransport_where_1 : decode b_CellTransport_where 1 = .ok (.iload_n 2, 1) := by decide +kernel
theorem d_CellTransport_where_2 : decode b_CellTransport_where 2 = .ok (.sipush 1000, 3) := by decide +kernel
theorem d_CellTransport_where_5 : decode b_CellTransport_where 5 = .ok (.invokestatic 106, 3) := by decide +kernel
theorem d_CellTransport_where_8 : decode b_CellTransport_where 8 = .ok (.ifCond .ne 5, 3) := by decide +kernel
theorem d_CellTransport_where_11 : decode b_CellTransport_where 11 = .ok (.iconst (-1), 1) := by decide +kernel
theorem d_CellTransport_where_12 : decode b_CellTransport_where 12 = .ok (.ireturn, 1) := by decide +kernel
theorem d_CellTransport_where_13 : decode b_CellTransport_where 13 = .ok (.aload_n 0, 1) := by decide +kernel
theorem d_CellTransport_where_14 : decode b_CellTransport_where 14 = .ok (.getfield 10, 3) := by decide +kernel
theorem d_CellTransport_where_17 : decode b_CellTransport_where 17 = .ok (.iload_n 1, 1) := by decide +kernel
theorem d_CellTransport_where_18 : decode b_CellTransport_where 18 = .ok (.iload_n 2, 1) := by decide +kernel
theorem d_CellTransport_where_19 : decode b_CellTransport_where 19 = .ok (.invokevirtual 129, 3) := by decide +kernel
theorem d_CellTransport_where_22 : decode b_CellTransport_where 22 = .ok (.ireturn, 1) := by decide +kernel
theorem d_CellTransport_reach_0 : decode b_CellTransport_reach 0 = .ok (.iload_n 1, 1) := by decide +kernel
theorem d_CellTransport_reach_1 : decode b_CellTransport_reach 1 = .ok (.iload_n 2, 1) := by decide +kernel
theorem d_CellTransport_reach_2 : decode b_CellTransport_reach 2 = .ok (.sipush 1000, 3) := by decide +kernel
theorem d_CellTransport_reach_5 : decode b_CellTransport_reach 5 = .ok (.invokestatic 106, 3) := by decide +kernel
theorem d_CellTransport_reach_8 : decode b_CellTransport_reach 8 = .ok (.ifCond .eq 13, 3) := by decide +kernel
theorem d_CellTransport_reach_11 : decode b_CellTransport_reach 11 = .ok (.iload_n 3, 1) := by decide +kernel
theorem d_CellTransport_reach_12 : decode b_CellTransport_reach 12 = .ok (.iconst 0, 1) := by decide +kernel
theorem d_CellTransport_reach_13 : decode b_CellTransport_reach 13 = .ok (.bipush 7, 2) := by decide +kernel
theorem d_CellTransport_reach_15 : decode b_CellTransport_reach 15 = .ok (.invokestatic 51, 3) := by decide +kernel
theorem d_CellTransport_reach_18 : decode b_CellTransport_reach 18 = .ok (.ifCond .ne 5, 3) := by decide +kernel
theorem d_CellTransport_reach_21 : decode b_CellTransport_reach 21 = .ok (.iconst (-1), 1) := by decide +kernel
theorem d_CellTransport_reach_22 : decode b_CellTransport_reach 22 = .ok (.ireturn, 1) := by decide +kernel
theorem d_CellTransport_reach_23 : decode b_CellTransport_reach 23 = .ok (.aload_n 0, 1) := by decide +kernel
theorem d_CellTransport_reach_24 : decode b_CellTransport_reach 24 = .ok (.getfield 10, 3) := by decide +kernel
theorem d_CellTransport_reach_27 : decode b_CellTransport_reach 27 = .ok (.iload_n 1, 1) := by decide +kernel
theorem d_CellTransport_reach_28 : decode b_CellTransport_reach 28 = .ok (.iload_n 2, 1) := by decide +kernel
theorem d_CellTransport_reach_29 : decode b_CellTransport_reach 29 = .ok (.invokevirtual 129, 3) := by decide +kernel
theorem d_CellTransport_reach_32 : decode b_CellTransport_reach 32 = .ok (.istore 4, 2) := by decide +kernel
theorem d_CellTransport_reach_34 : decode b_CellTransport_reach 34 = .ok (.iconst 1, 1) := by decide +kernel
theorem d_CellTransport_reach_35 : decode b_CellTransport_reach 35 = .ok (.istore 5, 2) := by decide +kernel
theorem d_CellTransport_reach_37 : decode b_CellTransport_reach 37 = .ok (.iload 5, 2) := by decide +kernel
theorem d_CellTransport_reach_39 : decode b_CellTransport_reach 39 = .ok (.sipush 200, 3) := by decide +kernel
theorem d_CellTransport_reach_42 : decode b_CellTransport_reach 42 = .ok (.if_icmp .gt 46, 3) := by decide +kernel
theorem d_CellTransport_reach_45 : decode b_CellTransport_reach 45 = .ok (.aload_n 0, 1) := by decide +kernel
theorem d_CellTransport_reach_46 : decode b_CellTransport_reach 46 = .ok (.getfield 10, 3) := by decide +kernel
theorem d_CellTransport_reach_49 : decode b_CellTransport_reach 49 = .ok (.iload_n 1, 1) := by decide +kernel
theorem d_CellTransport_reach_50 : decode b_CellTransport_reach 50 = .ok (.iload 5, 2) := by decide +kernel
theorem d_CellTransport_reach_52 : decode b_CellTransport_reach 52 = .ok (.getstatic 133, 3) := by decide +kernel
theorem d_CellTransport_reach_55 : decode b_CellTransport_reach 55 = .ok (.iload_n 3, 1) := by decide +kernel
theorem d_CellTransport_reach_56 : decode b_CellTransport_reach 56 = .ok (.iaload, 1) := by decide +kernel
theorem d_CellTransport_reach_57 : decode b_CellTransport_reach 57 = .ok (.imul, 1) := by decide +kernel
theorem d_CellTransport_reach_58 : decode b_CellTransport_reach 58 = .ok (.iadd, 1) := by decide +kernel
theorem d_CellTransport_reach_59 : decode b_CellTransport_reach 59 = .ok (.iload_n 2, 1) := by decide +kernel
theorem d_CellTransport_reach_60 : decode b_CellTransport_reach 60 = .ok (.iload 5, 2) := by decide +kernel
theorem d_CellTransport_reach_62 : decode b_CellTransport_reach 62 = .ok (.getstatic 137, 3) := by decide +kernel
theorem d_CellTransport_reach_65 : decode b_CellTransport_reach 65 = .ok (.iload_n 3, 1) := by decide +kernel
theorem d_CellTransport_reach_66 : decode b_CellTransport_reach 66 = .ok (.iaload, 1) := by decide +kernel
theorem d_CellTransport_reach_67 : decode b_CellTransport_reach 67 = .ok (.imul, 1) := by decide +kernel
theorem d_CellTransport_reach_68 : decode b_CellTransport_reach 68 = .ok (.iadd, 1) := by decide +kernel
theorem d_CellTransport_reach_69 : decode b_CellTransport_reach 69 = .ok (.invokevirtual 129, 3) := by decide +kernel
theorem d_CellTransport_reach_72 : decode b_CellTransport_reach 72 = .ok (.iload 4, 2) := by decide +kernel
theorem d_CellTransport_reach_74 : decode b_CellTransport_reach 74 = .ok (.if_icmp .eq 8, 3) := by decide +kernel
theorem d_CellTransport_reach_77 : decode b_CellTransport_reach 77 = .ok (.iload 5, 2) := by decide +kernel
theorem d_CellTransport_reach_79 : decode b_CellTransport_reach 79 = .ok (.iconst 1, 1) := by decide +kernel
theorem d_CellTransport_reach_80 : decode b_CellTransport_reach 80 = .ok (.isub, 1) := by decide +kernel
theorem d_CellTransport_reach_81 : decode b_CellTransport_reach 81 = .ok (.ireturn, 1) := by decide +kernel
theorem d_CellTransport_reach_82 : decode b_CellTransport_reach 82 = .ok (.iinc 5 1, 3) := by decide +kernel
theorem d_CellTransport_reach_85 : decode b_CellTransport_reach 85 = .ok (.goto (-48), 3) := by decide +kernel
theorem d_CellTransport_reach_88 : decode b_CellTransport_reach 88 = .ok (.sipush 200, 3) := by decide +kernel
theorem d_CellTransport_reach_91 : decode b_CellTransport_reach 91 = .ok (.ireturn, 1) := by decide +kernel
theorem d_CellTransport_tally_0 : decode b_CellTransport_tally 0 = .ok (.iload_n 1, 1) := by decide +kernel
theorem d_CellTransport_tally_1 : decode b_CellTransport_tally 1 = .ok (.iconst 0, 1) := by decide +kernel
theorem d_CellTransport_tally_2 : decode b_CellTransport_tally 2 = .ok (.iconst 5, 1) := by decide +kernel
theorem d_CellTransport_tally_3 : decode b_CellTransport_tally 3 = .ok (.invokestatic 51, 3) := by decide +kernel
theorem d_CellTransport_tally_6 : decode b_CellTransport_tally 6 = .ok (.ifCond .eq 12, 3) := by decide +kernel
theorem d_CellTransport_tally_9 : decode b_CellTransport_tally 9 = .ok (.iload_n 2, 1) := by decide +kernel
theorem d_CellTransport_tally_10 : decode b_CellTransport_tally 10 = .ok (.iconst 0, 1) := by decide +kernel
theorem d_CellTransport_tally_11 : decode b_CellTransport_tally 11 = .ok (.iconst 3, 1) := by decide +kernel
theorem d_CellTransport_tally_12 : decode b_CellTransport_tally 12 = .ok (.invokestatic 51, 3) := by decide +kernel
theorem d_CellTransport_tally_15 : decode b_CellTransport_tally 15 = .ok (.ifCond .ne 5, 3) := by decide +kernel
theorem d_CellTransport_tally_18 : decode b_CellTransport_tally 18 = .ok (.iconst (-1), 1) := by decide +kernel
theorem d_CellTransport_tally_19 : decode b_CellTransport_tally 19 = .ok (.ireturn, 1) := by decide +kernel
theorem d_CellTransport_tally_20 : decode b_CellTransport_tally 20 = .ok (.aload_n 0, 1) := by decide +kernel
theorem d_CellTransport_tally_21 : decode b_CellTransport_tally 21 = .ok (.getfield 33, 3) := by decide +kernel
theorem d_CellTransport_tally_24 : decode b_CellTransport_tally 24 = .ok (.getfield 140, 3) := by decide +kernel
theorem d_CellTransport_tally_27 : decode b_CellTransport_tally 27 = .ok (.iload_n 1, 1) := by decide +kernel
theorem d_CellTransport_tally_28 : decode b_CellTransport_tally 28 = .ok (.aaload, 1) := by decide +kernel
theorem d_CellTransport_tally_29 : decode b_CellTransport_tally 29 = .ok (.iload_n 2, 1) := by decide +kernel
theorem d_CellTransport_tally_30 : decode b_CellTransport_tally 30 = .ok (.iaload, 1) := by decide +kernel
theorem d_CellTransport_tally_31 : decode b_CellTransport_tally 31 = .ok (.ireturn, 1) := by decide +kernel
theorem d_CellTransport_crossed_0 : decode b_CellTransport_crossed 0 = .ok (.iload_n 1, 1) := by decide +kernel
theorem d_CellTransport_crossed_1 : decode b_CellTransport_crossed 1 = .ok (.iconst 0, 1) := by decide +kernel
theorem d_CellTransport_crossed_2 : decode b_CellTransport_crossed 2 = .ok (.iconst 5, 1) := by decide +kernel
theorem d_CellTransport_crossed_3 : decode b_CellTransport_crossed 3 = .ok (.invokestatic 51, 3) := by decide +kernel
theorem d_CellTransport_crossed_6 : decode b_CellTransport_crossed 6 = .ok (.ifCond .eq 12, 3) := by decide +kernel
theorem d_CellTransport_crossed_9 : decode b_CellTransport_crossed 9 = .ok (.iload_n 2, 1) := by decide +kernel
theorem d_CellTransport_crossed_10 : decode b_CellTransport_crossed 10 = .ok (.iconst 0, 1) := by decide +kernel
theorem d_CellTransport_crossed_11 : decode b_CellTransport_crossed 11 = .ok (.iconst 5, 1) := by decide +kernel
theorem d_CellTransport_crossed_12 : decode b_CellTransport_crossed 12 = .ok (.invokestatic 51, 3) := by decide +kernel
theorem d_CellTransport_crossed_15 : decode b_CellTransport_crossed 15 = .ok (.ifCond .ne 5, 3) := by decide +kernel
theorem d_CellTransport_crossed_18 : decode b_CellTransport_crossed 18 = .ok (.iconst (-1), 1) := by decide +kernel
theorem d_CellTransport_crossed_19 : decode b_CellTransport_crossed 19 = .ok (.ireturn, 1) := by decide +kernel
theorem d_CellTransport_crossed_20 : decode b_CellTransport_crossed 20 = .ok (.aload_n 0, 1) := by decide +kernel
theorem d_CellTransport_crossed_21 : decode b_CellTransport_crossed 21 = .ok (.getfield 33, 3) := by decide +kernel
theorem d_CellTransport_crossed_24 : decode b_CellTransport_crossed 24 = .ok (.getfield 144, 3) := by decide +kernel
theorem d_CellTransport_crossed_27 : decode b_CellTransport_crossed 27 = .ok (.iload_n 1, 1) := by decide +kernel
theorem d_CellTransport_crossed_28 : decode b_CellTransport_crossed 28 = .ok (.aaload, 1) := by decide +kernel
theorem d_CellTransport_crossed_29 : decode b_CellTransport_crossed 29 = .ok (.iload_n 2, 1) := by decide +kernel
theorem d_CellTransport_crossed_30 : decode b_CellTransport_crossed 30 = .ok (.iaload, 1) := by decide +kernel
theorem d_CellTransport_crossed_31 : decode b_CellTransport_crossed 31 = .ok (.ireturn, 1) := by decide +kernel
theorem d_CellTransport_count_0 : decode b_CellTransport_count 0 = .ok (.iload_n 1, 1) := by decide +kernel
theorem d_CellTransport_count_1 : decode b_CellTransport_count 1 = .ok (.iconst 0, 1) := by decide +kernel
theorem d_CellTransport_count_2 : decode b_CellTransport_count 2 = .ok (.iconst 4, 1) := by decide +kernel
theorem d_CellTransport_count_3 : decode b_CellTransport_count 3 = .ok (.invokestatic 51, 3) := by decide +kernel
theorem d_CellTransport_count_6 : decode b_CellTransport_count 6 = .ok (.ifCond .eq 13, 3) := by decide +kernel
theorem d_CellTransport_count_9 : decode b_CellTransport_count 9 = .ok (.aload_n 0, 1) := by decide +kernel
theorem d_CellTransport_count_10 : decode b_CellTransport_count 10 = .ok (.getfield 33, 3) := by decide +kernel
theorem d_CellTransport_count_13 : decode b_CellTransport_count 13 = .ok (.getfield 147, 3) := by decide +kernel
theorem d_CellTransport_count_16 : decode b_CellTransport_count 16 = .ok (.iload_n 1, 1) := by decide +kernel
theorem d_CellTransport_count_17 : decode b_CellTransport_count 17 = .ok (.iaload, 1) := by decide +kernel
theorem d_CellTransport_count_18 : decode b_CellTransport_count 18 = .ok (.ireturn, 1) := by decide +kernel
theorem d_CellTransport_count_19 : decode b_CellTransport_count 19 = .ok (.iload_n 1, 1) := by decide +kernel
theorem d_CellTransport_count_20 : decode b_CellTransport_count 20 = .ok (.lookupswitch 44 #[(5, 28), (6, 36)], 28) := by decide +kernel
theorem d_CellTransport_count_48 : decode b_CellTransport_count 48 = .ok (.aload_n 0, 1) := by decide +kernel
theorem d_CellTransport_count_49 : decode b_CellTransport_count 49 = .ok (.getfield 19, 3) := by decide +kernel
theorem d_CellTransport_count_52 : decode b_CellTransport_count 52 = .ok (.getfield 77, 3) := by decide +kernel
theorem d_CellTransport_count_55 : decode b_CellTransport_count 55 = .ok (.ireturn, 1) := by decide +kernel
theorem d_CellTransport_count_56 : decode b_CellTransport_count 56 = .ok (.aload_n 0, 1) := by decide +kernel
theorem d_CellTransport_count_57 : decode b_CellTransport_count 57 = .ok (.getfield 10, 3) := by decide +kernel
theorem d_CellTransport_count_60 : decode b_CellTransport_count 60 = .ok (.invokevirtual 150, 3) := by decide +kernel
theorem d_CellTransport_count_63 : decode b_CellTransport_count 63 = .ok (.ireturn, 1) := by decide +kernel
theorem d_CellTransport_count_64 : decode b_CellTransport_count 64 = .ok (.iconst (-1), 1) := by decide +kernel
theorem d_CellTransport_count_65 : decode b_CellTransport_count 65 = .ok (.ireturn, 1) := by decide +kernel
theorem d_CellTransport_clear_0 : decode b_CellTransport_clear 0 = .ok (.aload_n 0, 1) := by decide +kernel
theorem d_CellTransport_clear_1 : decode b_CellTransport_clear 1 = .ok (.getfield 33, 3) := by decide +kernel
theorem d_CellTransport_clear_4 : decode b_CellTransport_clear 4 = .ok (.invokevirtual 153, 3) := by decide +kernel
theorem d_CellTransport_clear_7 : decode b_CellTransport_clear 7 = .ok (.return_, 1) := by decide +kernel
theorem d_CellTransport_isBetween_0 : decode b_CellTransport_isBetween 0 = .ok (.iload_n 1, 1) := by decide +kernel
theorem d_CellTransport_isBetween_1 : decode b_CellTransport_isBetween 1 = .ok (.iload_n 0, 1) := by decide +kernel
theorem d_CellTransport_isBetween_2 : decode b_CellTransport_isBetween 2 = .ok (.if_icmp .gt 12, 3) := by decide +kernel
theorem d_CellTransport_isBetween_5 : decode b_CellTransport_isBetween 5 = .ok (.iload_n 0, 1) := by decide +kernel
theorem d_CellTransport_isBetween_6 : decode b_CellTransport_isBetween 6 = .ok (.iload_n 2, 1) := by decide +kernel
theorem d_CellTransport_isBetween_7 : decode b_CellTransport_isBetween 7 = .ok (.if_icmp .gt 7, 3) := by decide +kernel
theorem d_CellTransport_isBetween_10 : decode b_CellTransport_isBetween 10 = .ok (.iconst 1, 1) := by decide +kernel
theorem d_CellTransport_isBetween_11 : decode b_CellTransport_isBetween 11 = .ok (.goto 4, 3) := by decide +kernel
theorem d_CellTransport_isBetween_14 : decode b_CellTransport_isBetween 14 = .ok (.iconst 0, 1) := by decide +kernel
theorem d_CellTransport_isBetween_15 : decode b_CellTransport_isBetween 15 = .ok (.ireturn, 1) := by decide +kernel
theorem d_CellTransport_areWithin_0 : decode b_CellTransport_areWithin 0 = .ok (.iload_n 0, 1) := by decide +kernel
theorem d_CellTransport_areWithin_1 : decode b_CellTransport_areWithin 1 = .ok (.iload_n 2, 1) := by decide +kernel
theorem d_CellTransport_areWithin_2 : decode b_CellTransport_areWithin 2 = .ok (.ineg, 1) := by decide +kernel
theorem d_CellTransport_areWithin_3 : decode b_CellTransport_areWithin 3 = .ok (.iload_n 2, 1) := by decide +kernel
theorem d_CellTransport_areWithin_4 : decode b_CellTransport_areWithin 4 = .ok (.invokestatic 51, 3) := by decide +kernel
theorem d_CellTransport_areWithin_7 : decode b_CellTransport_areWithin 7 = .ok (.ifCond .eq 17, 3) := by decide +kernel
theorem d_CellTransport_areWithin_10 : decode b_CellTransport_areWithin 10 = .ok (.iload_n 1, 1) := by decide +kernel
theorem d_CellTransport_areWithin_11 : decode b_CellTransport_areWithin 11 = .ok (.iload_n 2, 1) := by decide +kernel
theorem d_CellTransport_areWithin_12 : decode b_CellTransport_areWithin 12 = .ok (.ineg, 1) := by decide +kernel
theorem d_CellTransport_areWithin_13 : decode b_CellTransport_areWithin 13 = .ok (.iload_n 2, 1) := by decide +kernel
theorem d_CellTransport_areWithin_14 : decode b_CellTransport_areWithin 14 = .ok (.invokestatic 51, 3) := by decide +kernel
theorem d_CellTransport_areWithin_17 : decode b_CellTransport_areWithin 17 = .ok (.ifCond .eq 7, 3) := by decide +kernel
theorem d_CellTransport_areWithin_20 : decode b_CellTransport_areWithin 20 = .ok (.iconst 1, 1) := by decide +kernel
theorem d_CellTransport_areWithin_21 : decode b_CellTransport_areWithin 21 = .ok (.goto 4, 3) := by decide +kernel
theorem d_CellTransport_areWithin_24 : decode b_CellTransport_areWithin 24 = .ok (.iconst 0, 1) := by decide +kernel
theorem d_CellTransport_areWithin_25 : decode b_CellTransport_areWithin 25 = .ok (.ireturn, 1) := by decide +kernel
theorem d_CellTransport_isSurface_0 : decode b_CellTransport_isSurface 0 = .ok (.iload_n 0, 1) := by decide +kernel
theorem d_CellTransport_isSurface_1 : decode b_CellTransport_isSurface 1 = .ok (.lookupswitch 84 #[(0, 27), (1, 56)], 27) := by decide +kernel
theorem d_CellTransport_isSurface_28 : decode b_CellTransport_isSurface 28 = .ok (.iload_n 1, 1) := by decide +kernel
theorem d_CellTransport_isSurface_29 : decode b_CellTransport_isSurface 29 = .ok (.iload_n 2, 1) := by decide +kernel
theorem d_CellTransport_isSurface_30 : decode b_CellTransport_isSurface 30 = .ok (.bipush 9, 2) := by decide +kernel
theorem d_CellTransport_isSurface_32 : decode b_CellTransport_isSurface 32 = .ok (.invokestatic 106, 3) := by decide +kernel
theorem d_CellTransport_isSurface_35 : decode b_CellTransport_isSurface 35 = .ok (.ifCond .eq 20, 3) := by decide +kernel
theorem d_CellTransport_isSurface_38 : decode b_CellTransport_isSurface 38 = .ok (.iload_n 3, 1) := by decide +kernel
theorem d_CellTransport_isSurface_39 : decode b_CellTransport_isSurface 39 = .ok (.sipush (-9999), 3) := by decide +kernel
theorem d_CellTransport_isSurface_42 : decode b_CellTransport_isSurface 42 = .ok (.sipush 9999, 3) := by decide +kernel
theorem d_CellTransport_isSurface_45 : decode b_CellTransport_isSurface 45 = .ok (.invokestatic 51, 3) := by decide +kernel
theorem d_CellTransport_isSurface_48 : decode b_CellTransport_isSurface 48 = .ok (.ifCond .eq 7, 3) := by decide +kernel
theorem d_CellTransport_isSurface_51 : decode b_CellTransport_isSurface 51 = .ok (.iconst 1, 1) := by decide +kernel
theorem d_CellTransport_isSurface_52 : decode b_CellTransport_isSurface 52 = .ok (.goto 4, 3) := by decide +kernel
theorem d_CellTransport_isSurface_55 : decode b_CellTransport_isSurface 55 = .ok (.iconst 0, 1) := by decide +kernel
theorem d_CellTransport_isSurface_56 : decode b_CellTransport_isSurface 56 = .ok (.ireturn, 1) := by decide +kernel
theorem d_CellTransport_isSurface_57 : decode b_CellTransport_isSurface 57 = .ok (.iload_n 1, 1) := by decide +kernel
theorem d_CellTransport_isSurface_58 : decode b_CellTransport_isSurface 58 = .ok (.iload_n 2, 1) := by decide +kernel
theorem d_CellTransport_isSurface_59 : decode b_CellTransport_isSurface 59 = .ok (.sipush 300, 3) := by decide +kernel
theorem d_CellTransport_isSurface_62 : decode b_CellTransport_isSurface 62 = .ok (.invokestatic 106, 3) := by decide +kernel
theorem d_CellTransport_isSurface_65 : decode b_CellTransport_isSurface 65 = .ok (.ifCond .eq 18, 3) := by decide +kernel
theorem d_CellTransport_isSurface_68 : decode b_CellTransport_isSurface 68 = .ok (.iload_n 3, 1) := by decide +kernel
theorem d_CellTransport_isSurface_69 : decode b_CellTransport_isSurface 69 = .ok (.iconst 0, 1) := by decide +kernel
theorem d_CellTransport_isSurface_70 : decode b_CellTransport_isSurface 70 = .ok (.sipush 300, 3) := by decide +kernel
theorem d_CellTransport_isSurface_73 : decode b_CellTransport_isSurface 73 = .ok (.invokestatic 51, 3) := by decide +kernel
theorem d_CellTransport_isSurface_76 : decode b_CellTransport_isSurface 76 = .ok (.ifCond .eq 7, 3) := by decide +kernel
theorem d_CellTransport_isSurface_79 : decode b_CellTransport_isSurface 79 = .ok (.iconst 1, 1) := by decide +kernel
theorem d_CellTransport_isSurface_80 : decode b_CellTransport_isSurface 80 = .ok (.goto 4, 3) := by decide +kernel
theorem d_CellTransport_isSurface_83 : decode b_CellTransport_isSurface 83 = .ok (.iconst 0, 1) := by decide +kernel
theorem d_CellTransport_isSurface_84 : decode b_CellTransport_isSurface 84 = .ok (.ireturn, 1) := by decide +kernel
theorem d_CellTransport_isSurface_85 : decode b_CellTransport_isSurface 85 = .ok (.iconst 0, 1) := by decide +kernel
theorem d_CellTransport_isSurface_86 : decode b_CellTransport_isSurface 86 = .ok (.ireturn, 1) := by decide +kernel
theorem d_CellTransport_areShares_0 : decode b_CellTransport_areShares 0 = .ok (.iload_n 0, 1) := by decide +kernel
theorem d_CellTransport_areShares_1 : decode b_CellTransport_areShares 1 = .ok (.iconst 0, 1) := by decide +kernel
theorem d_CellTransport_areShares_2 : decode b_CellTransport_areShares 2 = .ok (.sipush 1000, 3) := by decide +kernel
theorem d_CellTransport_areShares_5 : decode b_CellTransport_areShares 5 = .ok (.invokestatic 51, 3) := by decide +kernel
theorem d_CellTransport_areShares_8 : decode b_CellTransport_areShares 8 = .ok (.ifCond .eq 20, 3) := by decide +kernel
theorem d_CellTransport_areShares_11 : decode b_CellTransport_areShares 11 = .ok (.iload_n 1, 1) := by decide +kernel
theorem d_CellTransport_areShares_12 : decode b_CellTransport_areShares 12 = .ok (.iconst 0, 1) := by decide +kernel
theorem d_CellTransport_areShares_13 : decode b_CellTransport_areShares 13 = .ok (.sipush 1000, 3) := by decide +kernel
theorem d_CellTransport_areShares_16 : decode b_CellTransport_areShares 16 = .ok (.iload_n 0, 1) := by decide +kernel
theorem d_CellTransport_areShares_17 : decode b_CellTransport_areShares 17 = .ok (.isub, 1) := by decide +kernel
theorem d_CellTransport_areShares_18 : decode b_CellTransport_areShares 18 = .ok (.invokestatic 51, 3) := by decide +kernel
theorem d_CellTransport_areShares_21 : decode b_CellTransport_areShares 21 = .ok (.ifCond .eq 7, 3) := by decide +kernel
theorem d_CellTransport_areShares_24 : decode b_CellTransport_areShares 24 = .ok (.iconst 1, 1) := by decide +kernel
theorem d_CellTransport_areShares_25 : decode b_CellTransport_areShares 25 = .ok (.goto 4, 3) := by decide +kernel
theorem d_CellTransport_areShares_28 : decode b_CellTransport_areShares 28 = .ok (.iconst 0, 1) := by decide +kernel
theorem d_CellTransport_areShares_29 : decode b_CellTransport_areShares 29 = .ok (.ireturn, 1) := by decide +kernel
theorem d_CellTransport_oneIf_0 : decode b_CellTransport_oneIf 0 = .ok (.iload_n 0, 1) := by decide +kernel
theorem d_CellTransport_oneIf_1 : decode b_CellTransport_oneIf 1 = .ok (.ifCond .eq 7, 3) := by decide +kernel
theorem d_CellTransport_oneIf_4 : decode b_CellTransport_oneIf 4 = .ok (.iconst 1, 1) := by decide +kernel
theorem d_CellTransport_oneIf_5 : decode b_CellTransport_oneIf 5 = .ok (.goto 4, 3) := by decide +kernel
theorem d_CellTransport_oneIf_8 : decode b_CellTransport_oneIf 8 = .ok (.iconst 0, 1) := by decide +kernel
theorem d_CellTransport_oneIf_9 : decode b_CellTransport_oneIf 9 = .ok (.ireturn, 1) := by decide +kernel
theorem d_CellTransport_playHistory_0 : decode b_CellTransport_playHistory 0 = .ok (.aload_n 0, 1) := by decide +kernel
theorem d_CellTransport_playHistory_1 : decode b_CellTransport_playHistory 1 = .ok (.getfield 40, 3) := by decide +kernel
theorem d_CellTransport_playHistory_4 : decode b_CellTransport_playHistory 4 = .ok (.invokevirtual 156, 3) := by decide +kernel
theorem d_CellTransport_playHistory_7 : decode b_CellTransport_playHistory 7 = .ok (.aload_n 0, 1) := by decide +kernel
theorem d_CellTransport_playHistory_8 : decode b_CellTransport_playHistory 8 = .ok (.getfield 40, 3) := by decide +kernel
theorem d_CellTransport_playHistory_11 : decode b_CellTransport_playHistory 11 = .ok (.aload_n 0, 1) := by decide +kernel
theorem d_CellTransport_playHistory_12 : decode b_CellTransport_playHistory 12 = .ok (.getfield 109, 3) := by decide +kernel
theorem d_CellTransport_playHistory_15 : decode b_CellTransport_playHistory 15 = .ok (.aload_n 0, 1) := by decide +kernel
theorem d_CellTransport_playHistory_16 : decode b_CellTransport_playHistory 16 = .ok (.getfield 112, 3) := by decide +kernel
theorem d_CellTransport_playHistory_19 : decode b_CellTransport_playHistory 19 = .ok (.invokevirtual 159, 3) := by decide +kernel
theorem d_CellTransport_playHistory_22 : decode b_CellTransport_playHistory 22 = .ok (.pop, 1) := by decide +kernel
theorem d_CellTransport_playHistory_23 : decode b_CellTransport_playHistory 23 = .ok (.iconst 0, 1) := by decide +kernel
theorem d_CellTransport_playHistory_24 : decode b_CellTransport_playHistory 24 = .ok (.istore_n 1, 1) := by decide +kernel
theorem d_CellTransport_playHistory_25 : decode b_CellTransport_playHistory 25 = .ok (.aload_n 0, 1) := by decide +kernel
theorem d_CellTransport_playHistory_26 : decode b_CellTransport_playHistory 26 = .ok (.getfield 40, 3) := by decide +kernel
theorem d_CellTransport_playHistory_29 : decode b_CellTransport_playHistory 29 = .ok (.getfield 162, 3) := by decide +kernel
theorem d_CellTransport_playHistory_32 : decode b_CellTransport_playHistory 32 = .ok (.ifCond .le 30, 3) := by decide +kernel
theorem d_CellTransport_playHistory_35 : decode b_CellTransport_playHistory 35 = .ok (.iload_n 1, 1) := by decide +kernel
theorem d_CellTransport_playHistory_36 : decode b_CellTransport_playHistory 36 = .ok (.bipush 12, 2) := by decide +kernel
theorem d_CellTransport_playHistory_38 : decode b_CellTransport_playHistory 38 = .ok (.if_icmp .ge 24, 3) := by decide +kernel
theorem d_CellTransport_playHistory_41 : decode b_CellTransport_playHistory 41 = .ok (.aload_n 0, 1) := by decide +kernel
theorem d_CellTransport_playHistory_42 : decode b_CellTransport_playHistory 42 = .ok (.getfield 40, 3) := by decide +kernel
theorem d_CellTransport_playHistory_45 : decode b_CellTransport_playHistory 45 = .ok (.aload_n 0, 1) := by decide +kernel
theorem d_CellTransport_playHistory_46 : decode b_CellTransport_playHistory 46 = .ok (.getfield 47, 3) := by decide +kernel
theorem d_CellTransport_playHistory_49 : decode b_CellTransport_playHistory 49 = .ok (.invokevirtual 165, 3) := by decide +kernel
theorem d_CellTransport_playHistory_52 : decode b_CellTransport_playHistory 52 = .ok (.iinc 1 1, 3) := by decide +kernel
theorem d_CellTransport_playHistory_55 : decode b_CellTransport_playHistory 55 = .ok (.aload_n 0, 1) := by decide +kernel
theorem d_CellTransport_playHistory_56 : decode b_CellTransport_playHistory 56 = .ok (.invokevirtual 169, 3) := by decide +kernel
theorem d_CellTransport_playHistory_59 : decode b_CellTransport_playHistory 59 = .ok (.goto (-34), 3) := by decide +kernel
theorem d_CellTransport_playHistory_62 : decode b_CellTransport_playHistory 62 = .ok (.aload_n 0, 1) := by decide +kernel
theorem d_CellTransport_playHistory_63 : decode b_CellTransport_playHistory 63 = .ok (.getfield 33, 3) := by decide +kernel
theorem d_CellTransport_playHistory_66 : decode b_CellTransport_playHistory 66 = .ok (.getfield 147, 3) := by decide +kernel
theorem d_CellTransport_playHistory_69 : decode b_CellTransport_playHistory 69 = .ok (.iconst 0, 1) := by decide +kernel
theorem d_CellTransport_playHistory_70 : decode b_CellTransport_playHistory 70 = .ok (.dup2, 1) := by decide +kernel
theorem d_CellTransport_playHistory_71 : decode b_CellTransport_playHistory 71 = .ok (.iaload, 1) := by decide +kernel
theorem d_CellTransport_playHistory_72 : decode b_CellTransport_playHistory 72 = .ok (.iload_n 1, 1) := by decide +kernel
theorem d_CellTransport_playHistory_73 : decode b_CellTransport_playHistory 73 = .ok (.iadd, 1) := by decide +kernel
theorem d_CellTransport_playHistory_74 : decode b_CellTransport_playHistory 74 = .ok (.iastore, 1) := by decide +kernel
theorem d_CellTransport_playHistory_75 : decode b_CellTransport_playHistory 75 = .ok (.aload_n 0, 1) := by decide +kernel
theorem d_CellTransport_playHistory_76 : decode b_CellTransport_playHistory 76 = .ok (.getfield 33, 3) := by decide +kernel
theorem d_CellTransport_playHistory_79 : decode b_CellTransport_playHistory 79 = .ok (.getfield 147, 3) := by decide +kernel
theorem d_CellTransport_playHistory_82 : decode b_CellTransport_playHistory 82 = .ok (.iconst 4, 1) := by decide +kernel
theorem d_CellTransport_playHistory_83 : decode b_CellTransport_playHistory 83 = .ok (.dup2, 1) := by decide +kernel
theorem d_CellTransport_playHistory_84 : decode b_CellTransport_playHistory 84 = .ok (.iaload, 1) := by decide +kernel
theorem d_CellTransport_playHistory_85 : decode b_CellTransport_playHistory 85 = .ok (.iconst 1, 1) := by decide +kernel
theorem d_CellTransport_playHistory_86 : decode b_CellTransport_playHistory 86 = .ok (.iadd, 1) := by decide +kernel
theorem d_CellTransport_playHistory_87 : decode b_CellTransport_playHistory 87 = .ok (.iastore, 1) := by decide +kernel
theorem d_CellTransport_playHistory_88 : decode b_CellTransport_playHistory 88 = .ok (.iload_n 1, 1) := by decide +kernel
theorem d_CellTransport_playHistory_89 : decode b_CellTransport_playHistory 89 = .ok (.ireturn, 1) := by decide +kernel
theorem d_CellTransport_fly_0 : decode b_CellTransport_fly 0 = .ok (.aload_n 0, 1) := by decide +kernel
theorem d_CellTransport_fly_1 : decode b_CellTransport_fly 1 = .ok (.getfield 47, 3) := by decide +kernel
theorem d_CellTransport_fly_4 : decode b_CellTransport_fly 4 = .ok (.aload_n 0, 1) := by decide +kernel
theorem d_CellTransport_fly_5 : decode b_CellTransport_fly 5 = .ok (.getfield 10, 3) := by decide +kernel
theorem d_CellTransport_fly_8 : decode b_CellTransport_fly 8 = .ok (.aload_n 0, 1) := by decide +kernel
theorem d_CellTransport_fly_9 : decode b_CellTransport_fly 9 = .ok (.getfield 47, 3) := by decide +kernel
theorem d_CellTransport_fly_12 : decode b_CellTransport_fly 12 = .ok (.getfield 172, 3) := by decide +kernel
theorem d_CellTransport_fly_15 : decode b_CellTransport_fly 15 = .ok (.aload_n 0, 1) := by decide +kernel
theorem d_CellTransport_fly_16 : decode b_CellTransport_fly 16 = .ok (.getfield 47, 3) := by decide +kernel
theorem d_CellTransport_fly_19 : decode b_CellTransport_fly 19 = .ok (.getfield 175, 3) := by decide +kernel
theorem d_CellTransport_fly_22 : decode b_CellTransport_fly 22 = .ok (.invokevirtual 129, 3) := by decide +kernel
theorem d_CellTransport_fly_25 : decode b_CellTransport_fly 25 = .ok (.putfield 178, 3) := by decide +kernel
theorem d_CellTransport_fly_28 : decode b_CellTransport_fly 28 = .ok (.aload_n 0, 1) := by decide +kernel
theorem d_CellTransport_fly_29 : decode b_CellTransport_fly 29 = .ok (.invokevirtual 181, 3) := by decide +kernel
theorem d_CellTransport_fly_32 : decode b_CellTransport_fly 32 = .ok (.iconst 0, 1) := by decide +kernel
theorem d_CellTransport_fly_33 : decode b_CellTransport_fly 33 = .ok (.istore_n 1, 1) := by decide +kernel
theorem d_CellTransport_fly_34 : decode b_CellTransport_fly 34 = .ok (.iload_n 1, 1) := by decide +kernel
theorem d_CellTransport_fly_35 : decode b_CellTransport_fly 35 = .ok (.sipush 200, 3) := by decide +kernel
theorem d_CellTransport_fly_38 : decode b_CellTransport_fly 38 = .ok (.if_icmp .ge 17, 3) := by decide +kernel
theorem d_CellTransport_fly_41 : decode b_CellTransport_fly 41 = .ok (.aload_n 0, 1) := by decide +kernel
theorem d_CellTransport_fly_42 : decode b_CellTransport_fly 42 = .ok (.invokevirtual 184, 3) := by decide +kernel
theorem d_CellTransport_fly_45 : decode b_CellTransport_fly 45 = .ok (.ifCond .ne 4, 3) := by decide +kernel
theorem d_CellTransport_fly_48 : decode b_CellTransport_fly 48 = .ok (.return_, 1) := by decide +kernel
theorem d_CellTransport_fly_49 : decode b_CellTransport_fly 49 = .ok (.iinc 1 1, 3) := by decide +kernel
theorem d_CellTransport_fly_52 : decode b_CellTransport_fly 52 = .ok (.goto (-18), 3) := by decide +kernel
theorem d_CellTransport_fly_55 : decode b_CellTransport_fly 55 = .ok (.aload_n 0, 1) := by decide +kernel
theorem d_CellTransport_fly_56 : decode b_CellTransport_fly 56 = .ok (.getfield 33, 3) := by decide +kernel
theorem d_CellTransport_fly_59 : decode b_CellTransport_fly 59 = .ok (.getfield 147, 3) := by decide +kernel
theorem d_CellTransport_fly_62 : decode b_CellTransport_fly 62 = .ok (.iconst 2, 1) := by decide +kernel
theorem d_CellTransport_fly_63 : decode b_CellTransport_fly 63 = .ok (.dup2, 1) := by decide +kernel
theorem d_CellTransport_fly_64 : decode b_CellTransport_fly 64 = .ok (.iaload, 1) := by decide +kernel
theorem d_CellTransport_fly_65 : decode b_CellTransport_fly 65 = .ok (.iconst 1, 1) := by decide +kernel
theorem d_CellTransport_fly_66 : decode b_CellTransport_fly 66 = .ok (.iadd, 1) := by decide +kernel
theorem d_CellTransport_fly_67 : decode b_CellTransport_fly 67 = .ok (.iastore, 1) := by decide +kernel
theorem d_CellTransport_fly_68 : decode b_CellTransport_fly 68 = .ok (.return_, 1) := by decide +kernel
theorem d_CellTransport_aim_0 : decode b_CellTransport_aim 0 = .ok (.aload_n 0, 1) := by decide +kernel
theorem d_CellTransport_aim_1 : decode b_CellTransport_aim 1 = .ok (.getfield 47, 3) := by decide +kernel
theorem d_CellTransport_aim_4 : decode b_CellTransport_aim 4 = .ok (.aload_n 0, 1) := by decide +kernel
theorem d_CellTransport_aim_5 : decode b_CellTransport_aim 5 = .ok (.getfield 26, 3) := by decide +kernel
theorem d_CellTransport_aim_8 : decode b_CellTransport_aim 8 = .ok (.invokevirtual 187, 3) := by decide +kernel
theorem d_CellTransport_aim_11 : decode b_CellTransport_aim 11 = .ok (.bipush 8, 2) := by decide +kernel
theorem d_CellTransport_aim_13 : decode b_CellTransport_aim 13 = .ok (.irem, 1) := by decide +kernel
theorem d_CellTransport_aim_14 : decode b_CellTransport_aim 14 = .ok (.putfield 190, 3) := by decide +kernel
theorem d_CellTransport_aim_17 : decode b_CellTransport_aim 17 = .ok (.aload_n 0, 1) := by decide +kernel
theorem d_CellTransport_aim_18 : decode b_CellTransport_aim 18 = .ok (.getfield 47, 3) := by decide +kernel
theorem d_CellTransport_aim_21 : decode b_CellTransport_aim 21 = .ok (.iconst 1, 1) := by decide +kernel
theorem d_CellTransport_aim_22 : decode b_CellTransport_aim 22 = .ok (.aload_n 0, 1) := by decide +kernel
theorem d_CellTransport_aim_23 : decode b_CellTransport_aim 23 = .ok (.getfield 26, 3) := by decide +kernel
theorem d_CellTransport_aim_26 : decode b_CellTransport_aim 26 = .ok (.invokevirtual 187, 3) := by decide +kernel
theorem d_CellTransport_aim_29 : decode b_CellTransport_aim 29 = .ok (.sipush 2000, 3) := by decide +kernel
theorem d_CellTransport_aim_32 : decode b_CellTransport_aim 32 = .ok (.irem, 1) := by decide +kernel
theorem d_CellTransport_aim_33 : decode b_CellTransport_aim 33 = .ok (.iadd, 1) := by decide +kernel
theorem d_CellTransport_aim_34 : decode b_CellTransport_aim 34 = .ok (.putfield 193, 3) := by decide +kernel
theorem d_CellTransport_aim_37 : decode b_CellTransport_aim 37 = .ok (.return_, 1) := by decide +kernel
theorem d_CellTransport_survivesStep_0 : decode b_CellTransport_survivesStep 0 = .ok (.aload_n 0, 1) := by decide +kernel
theorem d_CellTransport_survivesStep_1 : decode b_CellTransport_survivesStep 1 = .ok (.getfield 47, 3) := by decide +kernel
theorem d_CellTransport_survivesStep_4 : decode b_CellTransport_survivesStep 4 = .ok (.getfield 178, 3) := by decide +kernel
theorem d_CellTransport_survivesStep_7 : decode b_CellTransport_survivesStep 7 = .ok (.istore_n 1, 1) := by decide +kernel
theorem d_CellTransport_survivesStep_8 : decode b_CellTransport_survivesStep 8 = .ok (.aload_n 0, 1) := by decide +kernel
theorem d_CellTransport_survivesStep_9 : decode b_CellTransport_survivesStep 9 = .ok (.getfield 47, 3) := by decide +kernel
theorem d_CellTransport_survivesStep_12 : decode b_CellTransport_survivesStep 12 = .ok (.invokevirtual 196, 3) := by decide +kernel
theorem d_CellTransport_survivesStep_15 : decode b_CellTransport_survivesStep 15 = .ok (.aload_n 0, 1) := by decide +kernel
theorem d_CellTransport_survivesStep_16 : decode b_CellTransport_survivesStep 16 = .ok (.getfield 47, 3) := by decide +kernel
theorem d_CellTransport_survivesStep_19 : decode b_CellTransport_survivesStep 19 = .ok (.aload_n 0, 1) := by decide +kernel
theorem d_CellTransport_survivesStep_20 : decode b_CellTransport_survivesStep 20 = .ok (.getfield 10, 3) := by decide +kernel
theorem d_CellTransport_survivesStep_23 : decode b_CellTransport_survivesStep 23 = .ok (.aload_n 0, 1) := by decide +kernel
theorem d_CellTransport_survivesStep_24 : decode b_CellTransport_survivesStep 24 = .ok (.getfield 47, 3) := by decide +kernel
theorem d_CellTransport_survivesStep_27 : decode b_CellTransport_survivesStep 27 = .ok (.getfield 172, 3) := by decide +kernel
theorem d_CellTransport_survivesStep_30 : decode b_CellTransport_survivesStep 30 = .ok (.aload_n 0, 1) := by decide +kernel
theorem d_CellTransport_survivesStep_31 : decode b_CellTransport_survivesStep 31 = .ok (.getfield 47, 3) := by decide +kernel
theorem d_CellTransport_survivesStep_34 : decode b_CellTransport_survivesStep 34 = .ok (.getfield 175, 3) := by decide +kernel
theorem d_CellTransport_survivesStep_37 : decode b_CellTransport_survivesStep 37 = .ok (.invokevirtual 129, 3) := by decide +kernel
theorem d_CellTransport_survivesStep_40 : decode b_CellTransport_survivesStep 40 = .ok (.putfield 178, 3) := by decide +kernel
theorem d_CellTransport_survivesStep_43 : decode b_CellTransport_survivesStep 43 = .ok (.aload_n 0, 1) := by decide +kernel
theorem d_CellTransport_survivesStep_44 : decode b_CellTransport_survivesStep 44 = .ok (.getfield 47, 3) := by decide +kernel
theorem d_CellTransport_survivesStep_47 : decode b_CellTransport_survivesStep 47 = .ok (.getfield 178, 3) := by decide +kernel
theorem d_CellTransport_survivesStep_50 : decode b_CellTransport_survivesStep 50 = .ok (.bipush 6, 2) := by decide +kernel
theorem d_CellTransport_survivesStep_52 : decode b_CellTransport_survivesStep 52 = .ok (.if_icmp .ne 18, 3) := by decide +kernel
theorem d_CellTransport_survivesStep_55 : decode b_CellTransport_survivesStep 55 = .ok (.aload_n 0, 1) := by decide +kernel
theorem d_CellTransport_survivesStep_56 : decode b_CellTransport_survivesStep 56 = .ok (.getfield 33, 3) := by decide +kernel
theorem d_CellTransport_survivesStep_59 : decode b_CellTransport_survivesStep 59 = .ok (.getfield 147, 3) := by decide +kernel
theorem d_CellTransport_survivesStep_62 : decode b_CellTransport_survivesStep 62 = .ok (.iconst 1, 1) := by decide +kernel
theorem d_CellTransport_survivesStep_63 : decode b_CellTransport_survivesStep 63 = .ok (.dup2, 1) := by decide +kernel
theorem d_CellTransport_survivesStep_64 : decode b_CellTransport_survivesStep 64 = .ok (.iaload, 1) := by decide +kernel
theorem d_CellTransport_survivesStep_65 : decode b_CellTransport_survivesStep 65 = .ok (.iconst 1, 1) := by decide +kernel
theorem d_CellTransport_survivesStep_66 : decode b_CellTransport_survivesStep 66 = .ok (.iadd, 1) := by decide +kernel
theorem d_CellTransport_survivesStep_67 : decode b_CellTransport_survivesStep 67 = .ok (.iastore, 1) := by decide +kernel
theorem d_CellTransport_survivesStep_68 : decode b_CellTransport_survivesStep 68 = .ok (.iconst 0, 1) := by decide +kernel
theorem d_CellTransport_survivesStep_69 : decode b_CellTransport_survivesStep 69 = .ok (.ireturn, 1) := by decide +kernel
theorem d_CellTransport_survivesStep_70 : decode b_CellTransport_survivesStep 70 = .ok (.aload_n 0, 1) := by decide +kernel
theorem d_CellTransport_survivesStep_71 : decode b_CellTransport_survivesStep 71 = .ok (.getfield 33, 3) := by decide +kernel
theorem d_CellTransport_survivesStep_74 : decode b_CellTransport_survivesStep 74 = .ok (.iload_n 1, 1) := by decide +kernel
theorem d_CellTransport_survivesStep_75 : decode b_CellTransport_survivesStep 75 = .ok (.aload_n 0, 1) := by decide +kernel
theorem d_CellTransport_survivesStep_76 : decode b_CellTransport_survivesStep 76 = .ok (.getfield 47, 3) := by decide +kernel
theorem d_CellTransport_survivesStep_79 : decode b_CellTransport_survivesStep 79 = .ok (.getfield 178, 3) := by decide +kernel
theorem d_CellTransport_survivesStep_82 : decode b_CellTransport_survivesStep 82 = .ok (.invokevirtual 199, 3) := by decide +kernel
theorem d_CellTransport_survivesStep_85 : decode b_CellTransport_survivesStep 85 = .ok (.aload_n 0, 1) := by decide +kernel
theorem d_CellTransport_survivesStep_86 : decode b_CellTransport_survivesStep 86 = .ok (.getfield 10, 3) := by decide +kernel
theorem d_CellTransport_survivesStep_89 : decode b_CellTransport_survivesStep 89 = .ok (.getfield 93, 3) := by decide +kernel
theorem d_CellTransport_survivesStep_92 : decode b_CellTransport_survivesStep 92 = .ok (.aload_n 0, 1) := by decide +kernel
theorem d_CellTransport_survivesStep_93 : decode b_CellTransport_survivesStep 93 = .ok (.getfield 47, 3) := by decide +kernel
theorem d_CellTransport_survivesStep_96 : decode b_CellTransport_survivesStep 96 = .ok (.getfield 178, 3) := by decide +kernel
theorem d_CellTransport_survivesStep_99 : decode b_CellTransport_survivesStep 99 = .ok (.aaload, 1) := by decide +kernel
theorem d_CellTransport_survivesStep_100 : decode b_CellTransport_survivesStep 100 = .ok (.astore_n 2, 1) := by decide +kernel
theorem d_CellTransport_survivesStep_101 : decode b_CellTransport_survivesStep 101 = .ok (.aload_n 0, 1) := by decide +kernel
theorem d_CellTransport_survivesStep_102 : decode b_CellTransport_survivesStep 102 = .ok (.getfield 47, 3) := by decide +kernel
theorem d_CellTransport_survivesStep_105 : decode b_CellTransport_survivesStep 105 = .ok (.dup, 1) := by decide +kernel
theorem d_CellTransport_survivesStep_106 : decode b_CellTransport_survivesStep 106 = .ok (.getfield 193, 3) := by decide +kernel
theorem d_CellTransport_survivesStep_109 : decode b_CellTransport_survivesStep 109 = .ok (.aload_n 2, 1) := by decide +kernel
theorem d_CellTransport_survivesStep_110 : decode b_CellTransport_survivesStep 110 = .ok (.getfield 203, 3) := by decide +kernel
theorem d_CellTransport_survivesStep_113 : decode b_CellTransport_survivesStep 113 = .ok (.isub, 1) := by decide +kernel
theorem d_CellTransport_survivesStep_114 : decode b_CellTransport_survivesStep 114 = .ok (.putfield 193, 3) := by decide +kernel
theorem d_CellTransport_survivesStep_117 : decode b_CellTransport_survivesStep 117 = .ok (.aload_n 0, 1) := by decide +kernel
theorem d_CellTransport_survivesStep_118 : decode b_CellTransport_survivesStep 118 = .ok (.getfield 47, 3) := by decide +kernel
theorem d_CellTransport_survivesStep_121 : decode b_CellTransport_survivesStep 121 = .ok (.getfield 193, 3) := by decide +kernel
theorem d_CellTransport_survivesStep_124 : decode b_CellTransport_survivesStep 124 = .ok (.ifCond .gt 11, 3) := by decide +kernel
theorem d_CellTransport_survivesStep_127 : decode b_CellTransport_survivesStep 127 = .ok (.aload_n 0, 1) := by decide +kernel
theorem d_CellTransport_survivesStep_128 : decode b_CellTransport_survivesStep 128 = .ok (.aload_n 2, 1) := by decide +kernel
theorem d_CellTransport_survivesStep_129 : decode b_CellTransport_survivesStep 129 = .ok (.invokevirtual 206, 3) := by decide +kernel
theorem d_CellTransport_survivesStep_132 : decode b_CellTransport_survivesStep 132 = .ok (.ifCond .eq 7, 3) := by decide +kernel
theorem d_CellTransport_survivesStep_135 : decode b_CellTransport_survivesStep 135 = .ok (.iconst 1, 1) := by decide +kernel
theorem d_CellTransport_survivesStep_136 : decode b_CellTransport_survivesStep 136 = .ok (.goto 4, 3) := by decide +kernel
theorem d_CellTransport_survivesStep_139 : decode b_CellTransport_survivesStep 139 = .ok (.iconst 0, 1) := by decide +kernel
theorem d_CellTransport_survivesStep_140 : decode b_CellTransport_survivesStep 140 = .ok (.ireturn, 1) := by decide +kernel
theorem d_CellTransport_survivesCollision_0 : decode b_CellTransport_survivesCollision 0 = .ok (.aload_n 0, 1) := by decide +kernel
theorem d_CellTransport_survivesCollision_1 : decode b_CellTransport_survivesCollision 1 = .ok (.getfield 33, 3) := by decide +kernel
theorem d_CellTransport_survivesCollision_4 : decode b_CellTransport_survivesCollision 4 = .ok (.getfield 140, 3) := by decide +kernel
theorem d_CellTransport_survivesCollision_7 : decode b_CellTransport_survivesCollision 7 = .ok (.aload_n 0, 1) := by decide +kernel
theorem d_CellTransport_survivesCollision_8 : decode b_CellTransport_survivesCollision 8 = .ok (.getfield 47, 3) := by decide +kernel
theorem d_CellTransport_survivesCollision_11 : decode b_CellTransport_survivesCollision 11 = .ok (.getfield 178, 3) := by decide +kernel
theorem d_CellTransport_survivesCollision_14 : decode b_CellTransport_survivesCollision 14 = .ok (.aaload, 1) := by decide +kernel
theorem d_CellTransport_survivesCollision_15 : decode b_CellTransport_survivesCollision 15 = .ok (.astore_n 2, 1) := by decide +kernel
theorem d_CellTransport_survivesCollision_16 : decode b_CellTransport_survivesCollision 16 = .ok (.aload_n 2, 1) := by decide +kernel
theorem d_CellTransport_survivesCollision_17 : decode b_CellTransport_survivesCollision 17 = .ok (.iconst 1, 1) := by decide +kernel
theorem d_CellTransport_survivesCollision_18 : decode b_CellTransport_survivesCollision 18 = .ok (.dup2, 1) := by decide +kernel
theorem d_CellTransport_survivesCollision_19 : decode b_CellTransport_survivesCollision 19 = .ok (.iaload, 1) := by decide +kernel
theorem d_CellTransport_survivesCollision_20 : decode b_CellTransport_survivesCollision 20 = .ok (.iconst 1, 1) := by decide +kernel
theorem d_CellTransport_survivesCollision_21 : decode b_CellTransport_survivesCollision 21 = .ok (.iadd, 1) := by decide +kernel
theorem d_CellTransport_survivesCollision_22 : decode b_CellTransport_survivesCollision 22 = .ok (.iastore, 1) := by decide +kernel
theorem d_CellTransport_survivesCollision_23 : decode b_CellTransport_survivesCollision 23 = .ok (.aload_n 0, 1) := by decide +kernel
theorem d_CellTransport_survivesCollision_24 : decode b_CellTransport_survivesCollision 24 = .ok (.getfield 26, 3) := by decide +kernel
theorem d_CellTransport_survivesCollision_27 : decode b_CellTransport_survivesCollision 27 = .ok (.invokevirtual 187, 3) := by decide +kernel
theorem d_CellTransport_survivesCollision_30 : decode b_CellTransport_survivesCollision 30 = .ok (.sipush 1000, 3) := by decide +kernel
theorem d_CellTransport_survivesCollision_33 : decode b_CellTransport_survivesCollision 33 = .ok (.irem, 1) := by decide +kernel
theorem d_CellTransport_survivesCollision_34 : decode b_CellTransport_survivesCollision 34 = .ok (.istore_n 3, 1) := by decide +kernel
theorem d_CellTransport_survivesCollision_35 : decode b_CellTransport_survivesCollision 35 = .ok (.iload_n 3, 1) := by decide +kernel
theorem d_CellTransport_survivesCollision_36 : decode b_CellTransport_survivesCollision 36 = .ok (.aload_n 1, 1) := by decide +kernel
theorem d_CellTransport_survivesCollision_37 : decode b_CellTransport_survivesCollision 37 = .ok (.getfield 210, 3) := by decide +kernel
theorem d_CellTransport_survivesCollision_40 : decode b_CellTransport_survivesCollision 40 = .ok (.if_icmp .ge 12, 3) := by decide +kernel
theorem d_CellTransport_survivesCollision_43 : decode b_CellTransport_survivesCollision 43 = .ok (.aload_n 2, 1) := by decide +kernel
theorem d_CellTransport_survivesCollision_44 : decode b_CellTransport_survivesCollision 44 = .ok (.iconst 2, 1) := by decide +kernel
theorem d_CellTransport_survivesCollision_45 : decode b_CellTransport_survivesCollision 45 = .ok (.dup2, 1) := by decide +kernel
theorem d_CellTransport_survivesCollision_46 : decode b_CellTransport_survivesCollision 46 = .ok (.iaload, 1) := by decide +kernel
theorem d_CellTransport_survivesCollision_47 : decode b_CellTransport_survivesCollision 47 = .ok (.iconst 1, 1) := by decide +kernel
theorem d_CellTransport_survivesCollision_48 : decode b_CellTransport_survivesCollision 48 = .ok (.iadd, 1) := by decide +kernel
theorem d_CellTransport_survivesCollision_49 : decode b_CellTransport_survivesCollision 49 = .ok (.iastore, 1) := by decide +kernel
theorem d_CellTransport_survivesCollision_50 : decode b_CellTransport_survivesCollision 50 = .ok (.iconst 0, 1) := by decide +kernel
theorem d_CellTransport_survivesCollision_51 : decode b_CellTransport_survivesCollision 51 = .ok (.ireturn, 1) := by decide +kernel
theorem d_CellTransport_survivesCollision_52 : decode b_CellTransport_survivesCollision 52 = .ok (.iload_n 3, 1) := by decide +kernel
theorem d_CellTransport_survivesCollision_53 : decode b_CellTransport_survivesCollision 53 = .ok (.aload_n 1, 1) := by decide +kernel
theorem d_CellTransport_survivesCollision_54 : decode b_CellTransport_survivesCollision 54 = .ok (.getfield 210, 3) := by decide +kernel
theorem d_CellTransport_survivesCollision_57 : decode b_CellTransport_survivesCollision 57 = .ok (.aload_n 1, 1) := by decide +kernel
theorem d_CellTransport_survivesCollision_58 : decode b_CellTransport_survivesCollision 58 = .ok (.getfield 213, 3) := by decide +kernel
theorem d_CellTransport_survivesCollision_61 : decode b_CellTransport_survivesCollision 61 = .ok (.iadd, 1) := by decide +kernel
theorem d_CellTransport_survivesCollision_62 : decode b_CellTransport_survivesCollision 62 = .ok (.if_icmp .ge 16, 3) := by decide +kernel
theorem d_CellTransport_survivesCollision_65 : decode b_CellTransport_survivesCollision 65 = .ok (.aload_n 2, 1) := by decide +kernel
theorem d_CellTransport_survivesCollision_66 : decode b_CellTransport_survivesCollision 66 = .ok (.iconst 3, 1) := by decide +kernel
theorem d_CellTransport_survivesCollision_67 : decode b_CellTransport_survivesCollision 67 = .ok (.dup2, 1) := by decide +kernel
theorem d_CellTransport_survivesCollision_68 : decode b_CellTransport_survivesCollision 68 = .ok (.iaload, 1) := by decide +kernel
theorem d_CellTransport_survivesCollision_69 : decode b_CellTransport_survivesCollision 69 = .ok (.iconst 1, 1) := by decide +kernel
theorem d_CellTransport_survivesCollision_70 : decode b_CellTransport_survivesCollision 70 = .ok (.iadd, 1) := by decide +kernel
theorem d_CellTransport_survivesCollision_71 : decode b_CellTransport_survivesCollision 71 = .ok (.iastore, 1) := by decide +kernel
theorem d_CellTransport_survivesCollision_72 : decode b_CellTransport_survivesCollision 72 = .ok (.aload_n 0, 1) := by decide +kernel
theorem d_CellTransport_survivesCollision_73 : decode b_CellTransport_survivesCollision 73 = .ok (.invokevirtual 216, 3) := by decide +kernel
theorem d_CellTransport_survivesCollision_76 : decode b_CellTransport_survivesCollision 76 = .ok (.iconst 0, 1) := by decide +kernel
theorem d_CellTransport_survivesCollision_77 : decode b_CellTransport_survivesCollision 77 = .ok (.ireturn, 1) := by decide +kernel
theorem d_CellTransport_survivesCollision_78 : decode b_CellTransport_survivesCollision 78 = .ok (.aload_n 0, 1) := by decide +kernel
theorem d_CellTransport_survivesCollision_79 : decode b_CellTransport_survivesCollision 79 = .ok (.invokevirtual 181, 3) := by decide +kernel
theorem d_CellTransport_survivesCollision_82 : decode b_CellTransport_survivesCollision 82 = .ok (.iconst 1, 1) := by decide +kernel
theorem d_CellTransport_survivesCollision_83 : decode b_CellTransport_survivesCollision 83 = .ok (.ireturn, 1) := by decide +kernel
theorem d_CellTransport_split_0 : decode b_CellTransport_split 0 = .ok (.iconst 0, 1) := by decide +kernel
theorem d_CellTransport_split_1 : decode b_CellTransport_split 1 = .ok (.istore_n 1, 1) := by decide +kernel
theorem d_CellTransport_split_2 : decode b_CellTransport_split 2 = .ok (.iload_n 1, 1) := by decide +kernel
theorem d_CellTransport_split_3 : decode b_CellTransport_split 3 = .ok (.iconst 2, 1) := by decide +kernel
theorem d_CellTransport_split_4 : decode b_CellTransport_split 4 = .ok (.if_icmp .ge 46, 3) := by decide +kernel
theorem d_CellTransport_split_7 : decode b_CellTransport_split 7 = .ok (.aload_n 0, 1) := by decide +kernel
theorem d_CellTransport_split_8 : decode b_CellTransport_split 8 = .ok (.getfield 40, 3) := by decide +kernel
theorem d_CellTransport_split_11 : decode b_CellTransport_split 11 = .ok (.aload_n 0, 1) := by decide +kernel
theorem d_CellTransport_split_12 : decode b_CellTransport_split 12 = .ok (.getfield 47, 3) := by decide +kernel
theorem d_CellTransport_split_15 : decode b_CellTransport_split 15 = .ok (.getfield 172, 3) := by decide +kernel
theorem d_CellTransport_split_18 : decode b_CellTransport_split 18 = .ok (.aload_n 0, 1) := by decide +kernel
theorem d_CellTransport_split_19 : decode b_CellTransport_split 19 = .ok (.getfield 47, 3) := by decide +kernel
theorem d_CellTransport_split_22 : decode b_CellTransport_split 22 = .ok (.getfield 175, 3) := by decide +kernel
theorem d_CellTransport_split_25 : decode b_CellTransport_split 25 = .ok (.invokevirtual 159, 3) := by decide +kernel
theorem d_CellTransport_split_28 : decode b_CellTransport_split 28 = .ok (.ifCond .ne 16, 3) := by decide +kernel
theorem d_CellTransport_split_31 : decode b_CellTransport_split 31 = .ok (.aload_n 0, 1) := by decide +kernel
theorem d_CellTransport_split_32 : decode b_CellTransport_split 32 = .ok (.getfield 33, 3) := by decide +kernel
theorem d_CellTransport_split_35 : decode b_CellTransport_split 35 = .ok (.getfield 147, 3) := by decide +kernel
theorem d_CellTransport_split_38 : decode b_CellTransport_split 38 = .ok (.iconst 3, 1) := by decide +kernel
theorem d_CellTransport_split_39 : decode b_CellTransport_split 39 = .ok (.dup2, 1) := by decide +kernel
theorem d_CellTransport_split_40 : decode b_CellTransport_split 40 = .ok (.iaload, 1) := by decide +kernel
theorem d_CellTransport_split_41 : decode b_CellTransport_split 41 = .ok (.iconst 1, 1) := by decide +kernel
theorem d_CellTransport_split_42 : decode b_CellTransport_split 42 = .ok (.iadd, 1) := by decide +kernel
theorem d_CellTransport_split_43 : decode b_CellTransport_split 43 = .ok (.iastore, 1) := by decide +kernel
theorem d_CellTransport_split_44 : decode b_CellTransport_split 44 = .ok (.iinc 1 1, 3) := by decide +kernel
theorem d_CellTransport_split_47 : decode b_CellTransport_split 47 = .ok (.goto (-45), 3) := by decide +kernel
theorem d_CellTransport_split_50 : decode b_CellTransport_split 50 = .ok (.return_, 1) := by decide +kernel
theorem d_Cell_init_0 : decode b_Cell_init 0 = .ok (.aload_n 0, 1) := by decide +kernel
theorem d_Cell_init_1 : decode b_Cell_init 1 = .ok (.invokespecial 1, 3) := by decide +kernel
theorem d_Cell_init_4 : decode b_Cell_init 4 = .ok (.aload_n 0, 1) := by decide +kernel
theorem d_Cell_init_5 : decode b_Cell_init 5 = .ok (.new 7, 3) := by decide +kernel
theorem d_Cell_init_8 : decode b_Cell_init 8 = .ok (.dup, 1) := by decide +kernel
theorem d_Cell_init_9 : decode b_Cell_init 9 = .ok (.invokespecial 9, 3) := by decide +kernel
theorem d_Cell_init_12 : decode b_Cell_init 12 = .ok (.putfield 10, 3) := by decide +kernel
theorem d_Cell_init_15 : decode b_Cell_init 15 = .ok (.return_, 1) := by decide +kernel
theorem d_Cell_define_0 : decode b_Cell_define 0 = .ok (.aload_n 0, 1) := by decide +kernel
theorem d_Cell_define_1 : decode b_Cell_define 1 = .ok (.iconst 1, 1) := by decide +kernel
theorem d_Cell_define_2 : decode b_Cell_define 2 = .ok (.putfield 16, 3) := by decide +kernel
theorem d_Cell_define_5 : decode b_Cell_define 5 = .ok (.aload_n 0, 1) := by decide +kernel
theorem d_Cell_define_6 : decode b_Cell_define 6 = .ok (.getfield 10, 3) := by decide +kernel
theorem d_Cell_define_9 : decode b_Cell_define 9 = .ok (.aload_n 1, 1) := by decide +kernel
theorem d_Cell_define_10 : decode b_Cell_define 10 = .ok (.invokevirtual 20, 3) := by decide +kernel
theorem d_Cell_define_13 : decode b_Cell_define 13 = .ok (.aload_n 0, 1) := by decide +kernel
theorem d_Cell_define_14 : decode b_Cell_define 14 = .ok (.iload_n 2, 1) := by decide +kernel
theorem d_Cell_define_15 : decode b_Cell_define 15 = .ok (.putfield 24, 3) := by decide +kernel
theorem d_Cell_define_18 : decode b_Cell_define 18 = .ok (.aload_n 0, 1) := by decide +kernel
theorem d_Cell_define_19 : decode b_Cell_define 19 = .ok (.iload_n 3, 1) := by decide +kernel
theorem d_Cell_define_20 : decode b_Cell_define 20 = .ok (.putfield 28, 3) := by decide +kernel
theorem d_Cell_define_23 : decode b_Cell_define 23 = .ok (.aload_n 0, 1) := by decide +kernel
theorem d_Cell_define_24 : decode b_Cell_define 24 = .ok (.iload 4, 2) := by decide +kernel
theorem d_Cell_define_26 : decode b_Cell_define 26 = .ok (.putfield 31, 3) := by decide +kernel
theorem d_Cell_define_29 : decode b_Cell_define 29 = .ok (.return_, 1) := by decide +kernel
theorem d_Counts_init_0 : decode b_Counts_init 0 = .ok (.aload_n 0, 1) := by decide +kernel
theorem d_Counts_init_1 : decode b_Counts_init 1 = .ok (.invokespecial 3, 3) := by decide +kernel
theorem d_Counts_init_4 : decode b_Counts_init 4 = .ok (.aload_n 0, 1) := by decide +kernel
theorem d_Counts_init_5 : decode b_Counts_init 5 = .ok (.iconst 5, 1) := by decide +kernel
theorem d_Counts_init_6 : decode b_Counts_init 6 = .ok (.newarray .int, 2) := by decide +kernel
theorem d_Counts_init_8 : decode b_Counts_init 8 = .ok (.putfield 9, 3) := by decide +kernel
theorem d_Counts_init_11 : decode b_Counts_init 11 = .ok (.aload_n 0, 1) := by decide +kernel
theorem d_Counts_init_12 : decode b_Counts_init 12 = .ok (.bipush 6, 2) := by decide +kernel
theorem d_Counts_init_14 : decode b_Counts_init 14 = .ok (.iconst 4, 1) := by decide +kernel
theorem d_Counts_init_15 : decode b_Counts_init 15 = .ok (.multianewarray 15 2, 4) := by decide +kernel
theorem d_Counts_init_19 : decode b_Counts_init 19 = .ok (.putfield 17, 3) := by decide +kernel
theorem d_Counts_init_22 : decode b_Counts_init 22 = .ok (.aload_n 0, 1) := by decide +kernel
theorem d_Counts_init_23 : decode b_Counts_init 23 = .ok (.bipush 6, 2) := by decide +kernel
theorem d_Counts_init_25 : decode b_Counts_init 25 = .ok (.bipush 6, 2) := by decide +kernel
theorem d_Counts_init_27 : decode b_Counts_init 27 = .ok (.multianewarray 15 2, 4) := by decide +kernel
theorem d_Counts_init_31 : decode b_Counts_init 31 = .ok (.putfield 20, 3) := by decide +kernel
theorem d_Counts_init_34 : decode b_Counts_init 34 = .ok (.return_, 1) := by decide +kernel
theorem d_Counts_addTrack_0 : decode b_Counts_addTrack 0 = .ok (.aload_n 0, 1) := by decide +kernel
theorem d_Counts_addTrack_1 : decode b_Counts_addTrack 1 = .ok (.getfield 17, 3) := by decide +kernel
theorem d_Counts_addTrack_4 : decode b_Counts_addTrack 4 = .ok (.iload_n 2, 1) := by decide +kernel
theorem d_Counts_addTrack_5 : decode b_Counts_addTrack 5 = .ok (.aaload, 1) := by decide +kernel
theorem d_Counts_addTrack_6 : decode b_Counts_addTrack 6 = .ok (.iconst 0, 1) := by decide +kernel
theorem d_Counts_addTrack_7 : decode b_Counts_addTrack 7 = .ok (.dup2, 1) := by decide +kernel
theorem d_Counts_addTrack_8 : decode b_Counts_addTrack 8 = .ok (.iaload, 1) := by decide +kernel
theorem d_Counts_addTrack_9 : decode b_Counts_addTrack 9 = .ok (.iconst 1, 1) := by decide +kernel
theorem d_Counts_addTrack_10 : decode b_Counts_addTrack 10 = .ok (.iadd, 1) := by decide +kernel
theorem d_Counts_addTrack_11 : decode b_Counts_addTrack 11 = .ok (.iastore, 1) := by decide +kernel
theorem d_Counts_addTrack_12 : decode b_Counts_addTrack 12 = .ok (.iload_n 1, 1) := by decide +kernel
theorem d_Counts_addTrack_13 : decode b_Counts_addTrack 13 = .ok (.iload_n 2, 1) := by decide +kernel
theorem d_Counts_addTrack_14 : decode b_Counts_addTrack 14 = .ok (.if_icmp .eq 21, 3) := by decide +kernel
theorem d_Counts_addTrack_17 : decode b_Counts_addTrack 17 = .ok (.iload_n 1, 1) := by decide +kernel
theorem d_Counts_addTrack_18 : decode b_Counts_addTrack 18 = .ok (.bipush 6, 2) := by decide +kernel
theorem d_Counts_addTrack_20 : decode b_Counts_addTrack 20 = .ok (.if_icmp .eq 15, 3) := by decide +kernel
theorem d_Counts_addTrack_23 : decode b_Counts_addTrack 23 = .ok (.aload_n 0, 1) := by decide +kernel
theorem d_Counts_addTrack_24 : decode b_Counts_addTrack 24 = .ok (.getfield 20, 3) := by decide +kernel
theorem d_Counts_addTrack_27 : decode b_Counts_addTrack 27 = .ok (.iload_n 1, 1) := by decide +kernel
theorem d_Counts_addTrack_28 : decode b_Counts_addTrack 28 = .ok (.aaload, 1) := by decide +kernel
theorem d_Counts_addTrack_29 : decode b_Counts_addTrack 29 = .ok (.iload_n 2, 1) := by decide +kernel
theorem d_Counts_addTrack_30 : decode b_Counts_addTrack 30 = .ok (.dup2, 1) := by decide +kernel
theorem d_Counts_addTrack_31 : decode b_Counts_addTrack 31 = .ok (.iaload, 1) := by decide +kernel
theorem d_Counts_addTrack_32 : decode b_Counts_addTrack 32 = .ok (.iconst 1, 1) := by decide +kernel
theorem d_Counts_addTrack_33 : decode b_Counts_addTrack 33 = .ok (.iadd, 1) := by decide +kernel
theorem d_Counts_addTrack_34 : decode b_Counts_addTrack 34 = .ok (.iastore, 1) := by decide +kernel
theorem d_Counts_addTrack_35 : decode b_Counts_addTrack 35 = .ok (.return_, 1) := by decide +kernel
theorem d_Counts_reset_0 : decode b_Counts_reset 0 = .ok (.aload_n 0, 1) := by decide +kernel
theorem d_Counts_reset_1 : decode b_Counts_reset 1 = .ok (.getfield 9, 3) := by decide +kernel
theorem d_Counts_reset_4 : decode b_Counts_reset 4 = .ok (.iconst 0, 1) := by decide +kernel
theorem d_Counts_reset_5 : decode b_Counts_reset 5 = .ok (.invokestatic 23, 3) := by decide +kernel
theorem d_Counts_reset_8 : decode b_Counts_reset 8 = .ok (.iconst 0, 1) := by decide +kernel
theorem d_Counts_reset_9 : decode b_Counts_reset 9 = .ok (.istore_n 1, 1) := by decide +kernel
theorem d_Counts_reset_10 : decode b_Counts_reset 10 = .ok (.iload_n 1, 1) := by decide +kernel
theorem d_Counts_reset_11 : decode b_Counts_reset 11 = .ok (.bipush 6, 2) := by decide +kernel
theorem d_Counts_reset_13 : decode b_Counts_reset 13 = .ok (.if_icmp .ge 29, 3) := by decide +kernel
theorem d_Counts_reset_16 : decode b_Counts_reset 16 = .ok (.aload_n 0, 1) := by decide +kernel
theorem d_Counts_reset_17 : decode b_Counts_reset 17 = .ok (.getfield 17, 3) := by decide +kernel
theorem d_Counts_reset_20 : decode b_Counts_reset 20 = .ok (.iload_n 1, 1) := by decide +kernel
theorem d_Counts_reset_21 : decode b_Counts_reset 21 = .ok (.aaload, 1) := by decide +kernel
theorem d_Counts_reset_22 : decode b_Counts_reset 22 = .ok (.iconst 0, 1) := by decide +kernel
theorem d_Counts_reset_23 : decode b_Counts_reset 23 = .ok (.invokestatic 23, 3) := by decide +kernel
theorem d_Counts_reset_26 : decode b_Counts_reset 26 = .ok (.aload_n 0, 1) := by decide +kernel
theorem d_Counts_reset_27 : decode b_Counts_reset 27 = .ok (.getfield 20, 3) := by decide +kernel
theorem d_Counts_reset_30 : decode b_Counts_reset 30 = .ok (.iload_n 1, 1) := by decide +kernel
theorem d_Counts_reset_31 : decode b_Counts_reset 31 = .ok (.aaload, 1) := by decide +kernel
theorem d_Counts_reset_32 : decode b_Counts_reset 32 = .ok (.iconst 0, 1) := by decide +kernel
theorem d_Counts_reset_33 : decode b_Counts_reset 33 = .ok (.invokestatic 23, 3) := by decide +kernel
theorem d_Counts_reset_36 : decode b_Counts_reset 36 = .ok (.iinc 1 1, 3) := by decide +kernel
theorem d_Counts_reset_39 : decode b_Counts_reset 39 = .ok (.goto (-29), 3) := by decide +kernel
theorem d_Counts_reset_42 : decode b_Counts_reset 42 = .ok (.return_, 1) := by decide +kernel
theorem d_Generator_init_0 : decode b_Generator_init 0 = .ok (.aload_n 0, 1) := by decide +kernel
theorem d_Generator_init_1 : decode b_Generator_init 1 = .ok (.invokespecial 3, 3) := by decide +kernel
theorem d_Generator_init_4 : decode b_Generator_init 4 = .ok (.aload_n 0, 1) := by decide +kernel
theorem d_Generator_init_5 : decode b_Generator_init 5 = .ok (.iconst 1, 1) := by decide +kernel
theorem d_Generator_init_6 : decode b_Generator_init 6 = .ok (.putfield 9, 3) := by decide +kernel
theorem d_Generator_init_9 : decode b_Generator_init 9 = .ok (.return_, 1) := by decide +kernel
theorem d_Generator_start_0 : decode b_Generator_start 0 = .ok (.aload_n 0, 1) := by decide +kernel
theorem d_Generator_start_1 : decode b_Generator_start 1 = .ok (.iload_n 1, 1) := by decide +kernel
theorem d_Generator_start_2 : decode b_Generator_start 2 = .ok (.ldc 15, 2) := by decide +kernel
theorem d_Generator_start_4 : decode b_Generator_start 4 = .ok (.iand, 1) := by decide +kernel
theorem d_Generator_start_5 : decode b_Generator_start 5 = .ok (.putfield 9, 3) := by decide +kernel
theorem d_Generator_start_8 : decode b_Generator_start 8 = .ok (.return_, 1) := by decide +kernel
theorem d_Generator_draw_0 : decode b_Generator_draw 0 = .ok (.aload_n 0, 1) := by decide +kernel
theorem d_Generator_draw_1 : decode b_Generator_draw 1 = .ok (.aload_n 0, 1) := by decide +kernel
theorem d_Generator_draw_2 : decode b_Generator_draw 2 = .ok (.getfield 9, 3) := by decide +kernel
theorem d_Generator_draw_5 : decode b_Generator_draw 5 = .ok (.ldc 16, 2) := by decide +kernel
theorem d_Generator_draw_7 : decode b_Generator_draw 7 = .ok (.imul, 1) := by decide +kernel
theorem d_Generator_draw_8 : decode b_Generator_draw 8 = .ok (.sipush 12345, 3) := by decide +kernel
theorem d_Generator_draw_11 : decode b_Generator_draw 11 = .ok (.iadd, 1) := by decide +kernel
theorem d_Generator_draw_12 : decode b_Generator_draw 12 = .ok (.ldc 15, 2) := by decide +kernel
theorem d_Generator_draw_14 : decode b_Generator_draw 14 = .ok (.iand, 1) := by decide +kernel
theorem d_Generator_draw_15 : decode b_Generator_draw 15 = .ok (.putfield 9, 3) := by decide +kernel
theorem d_Generator_draw_18 : decode b_Generator_draw 18 = .ok (.aload_n 0, 1) := by decide +kernel
theorem d_Generator_draw_19 : decode b_Generator_draw 19 = .ok (.getfield 9, 3) := by decide +kernel
theorem d_Generator_draw_22 : decode b_Generator_draw 22 = .ok (.sipush 256, 3) := by decide +kernel
theorem d_Generator_draw_25 : decode b_Generator_draw 25 = .ok (.idiv, 1) := by decide +kernel
theorem d_Generator_draw_26 : decode b_Generator_draw 26 = .ok (.ireturn, 1) := by decide +kernel
theorem d_Generator_leap_0 : decode b_Generator_leap 0 = .ok (.ldc 16, 2) := by decide +kernel
theorem d_Generator_leap_2 : decode b_Generator_leap 2 = .ok (.istore_n 2, 1) := by decide +kernel
theorem d_Generator_leap_3 : decode b_Generator_leap 3 = .ok (.sipush 12345, 3) := by decide +kernel
theorem d_Generator_leap_6 : decode b_Generator_leap 6 = .ok (.istore_n 3, 1) := by decide +kernel
theorem d_Generator_leap_7 : decode b_Generator_leap 7 = .ok (.iconst 0, 1) := by decide +kernel
theorem d_Generator_leap_8 : decode b_Generator_leap 8 = .ok (.istore 4, 2) := by decide +kernel
theorem d_Generator_leap_10 : decode b_Generator_leap 10 = .ok (.iload 4, 2) := by decide +kernel
theorem d_Generator_leap_12 : decode b_Generator_leap 12 = .ok (.bipush 17, 2) := by decide +kernel
theorem d_Generator_leap_14 : decode b_Generator_leap 14 = .ok (.if_icmp .ge 44, 3) := by decide +kernel
theorem d_Generator_leap_17 : decode b_Generator_leap 17 = .ok (.iload_n 1, 1) := by decide +kernel
theorem d_Generator_leap_18 : decode b_Generator_leap 18 = .ok (.iload 4, 2) := by decide +kernel
theorem d_Generator_leap_20 : decode b_Generator_leap 20 = .ok (.ishr, 1) := by decide +kernel
theorem d_Generator_leap_21 : decode b_Generator_leap 21 = .ok (.iconst 1, 1) := by decide +kernel
theorem d_Generator_leap_22 : decode b_Generator_leap 22 = .ok (.iand, 1) := by decide +kernel
theorem d_Generator_leap_23 : decode b_Generator_leap 23 = .ok (.iconst 1, 1) := by decide +kernel
theorem d_Generator_leap_24 : decode b_Generator_leap 24 = .ok (.if_icmp .ne 18, 3) := by decide +kernel
theorem d_Generator_leap_27 : decode b_Generator_leap 27 = .ok (.aload_n 0, 1) := by decide +kernel
theorem d_Generator_leap_28 : decode b_Generator_leap 28 = .ok (.aload_n 0, 1) := by decide +kernel
theorem d_Generator_leap_29 : decode b_Generator_leap 29 = .ok (.getfield 9, 3) := by decide +kernel
theorem d_Generator_leap_32 : decode b_Generator_leap 32 = .ok (.iload_n 2, 1) := by decide +kernel
theorem d_Generator_leap_33 : decode b_Generator_leap 33 = .ok (.imul, 1) := by decide +kernel
theorem d_Generator_leap_34 : decode b_Generator_leap 34 = .ok (.iload_n 3, 1) := by decide +kernel
theorem d_Generator_leap_35 : decode b_Generator_leap 35 = .ok (.iadd, 1) := by decide +kernel
theorem d_Generator_leap_36 : decode b_Generator_leap 36 = .ok (.ldc 15, 2) := by decide +kernel
theorem d_Generator_leap_38 : decode b_Generator_leap 38 = .ok (.iand, 1) := by decide +kernel
theorem d_Generator_leap_39 : decode b_Generator_leap 39 = .ok (.putfield 9, 3) := by decide +kernel
theorem d_Generator_leap_42 : decode b_Generator_leap 42 = .ok (.iload_n 3, 1) := by decide +kernel
theorem d_Generator_leap_43 : decode b_Generator_leap 43 = .ok (.iload_n 2, 1) := by decide +kernel
theorem d_Generator_leap_44 : decode b_Generator_leap 44 = .ok (.imul, 1) := by decide +kernel
theorem d_Generator_leap_45 : decode b_Generator_leap 45 = .ok (.iload_n 3, 1) := by decide +kernel
theorem d_Generator_leap_46 : decode b_Generator_leap 46 = .ok (.iadd, 1) := by decide +kernel
theorem d_Generator_leap_47 : decode b_Generator_leap 47 = .ok (.istore_n 3, 1) := by decide +kernel
theorem d_Generator_leap_48 : decode b_Generator_leap 48 = .ok (.iload_n 2, 1) := by decide +kernel
theorem d_Generator_leap_49 : decode b_Generator_leap 49 = .ok (.iload_n 2, 1) := by decide +kernel
theorem d_Generator_leap_50 : decode b_Generator_leap 50 = .ok (.imul, 1) := by decide +kernel
theorem d_Generator_leap_51 : decode b_Generator_leap 51 = .ok (.istore_n 2, 1) := by decide +kernel
theorem d_Generator_leap_52 : decode b_Generator_leap 52 = .ok (.iinc 4 1, 3) := by decide +kernel
theorem d_Generator_leap_55 : decode b_Generator_leap 55 = .ok (.goto (-45), 3) := by decide +kernel
theorem d_Generator_leap_58 : decode b_Generator_leap 58 = .ok (.return_, 1) := by decide +kernel
theorem d_Geometry_init_0 : decode b_Geometry_init 0 = .ok (.aload_n 0, 1) := by decide +kernel
theorem d_Geometry_init_1 : decode b_Geometry_init 1 = .ok (.invokespecial 3, 3) := by decide +kernel
theorem d_Geometry_init_4 : decode b_Geometry_init 4 = .ok (.aload_n 0, 1) := by decide +kernel
theorem d_Geometry_init_5 : decode b_Geometry_init 5 = .ok (.bipush 8, 2) := by decide +kernel
theorem d_Geometry_init_7 : decode b_Geometry_init 7 = .ok (.anewarray 9, 3) := by decide +kernel
theorem d_Geometry_init_10 : decode b_Geometry_init 10 = .ok (.putfield 11, 3) := by decide +kernel
theorem d_Geometry_init_13 : decode b_Geometry_init 13 = .ok (.aload_n 0, 1) := by decide +kernel
theorem d_Geometry_init_14 : decode b_Geometry_init 14 = .ok (.bipush 6, 2) := by decide +kernel
theorem d_Geometry_init_16 : decode b_Geometry_init 16 = .ok (.anewarray 17, 3) := by decide +kernel
theorem d_Geometry_init_19 : decode b_Geometry_init 19 = .ok (.putfield 19, 3) := by decide +kernel
theorem d_Geometry_init_22 : decode b_Geometry_init 22 = .ok (.iconst 0, 1) := by decide +kernel
theorem d_Geometry_init_23 : decode b_Geometry_init 23 = .ok (.istore_n 1, 1) := by decide +kernel
theorem d_Geometry_init_24 : decode b_Geometry_init 24 = .ok (.iload_n 1, 1) := by decide +kernel
theorem d_Geometry_init_25 : decode b_Geometry_init 25 = .ok (.bipush 8, 2) := by decide +kernel
theorem d_Geometry_init_27 : decode b_Geometry_init 27 = .ok (.if_icmp .ge 22, 3) := by decide +kernel
theorem d_Geometry_init_30 : decode b_Geometry_init 30 = .ok (.aload_n 0, 1) := by decide +kernel
theorem d_Geometry_init_31 : decode b_Geometry_init 31 = .ok (.getfield 11, 3) := by decide +kernel
theorem d_Geometry_init_34 : decode b_Geometry_init 34 = .ok (.iload_n 1, 1) := by decide +kernel
theorem d_Geometry_init_35 : decode b_Geometry_init 35 = .ok (.new 9, 3) := by decide +kernel
theorem d_Geometry_init_38 : decode b_Geometry_init 38 = .ok (.dup, 1) := by decide +kernel
theorem d_Geometry_init_39 : decode b_Geometry_init 39 = .ok (.invokespecial 23, 3) := by decide +kernel
theorem d_Geometry_init_42 : decode b_Geometry_init 42 = .ok (.aastore, 1) := by decide +kernel
theorem d_Geometry_init_43 : decode b_Geometry_init 43 = .ok (.iinc 1 1, 3) := by decide +kernel
theorem d_Geometry_init_46 : decode b_Geometry_init 46 = .ok (.goto (-22), 3) := by decide +kernel
theorem d_Geometry_init_49 : decode b_Geometry_init 49 = .ok (.iconst 0, 1) := by decide +kernel
theorem d_Geometry_init_50 : decode b_Geometry_init 50 = .ok (.istore_n 1, 1) := by decide +kernel
theorem d_Geometry_init_51 : decode b_Geometry_init 51 = .ok (.iload_n 1, 1) := by decide +kernel
theorem d_Geometry_init_52 : decode b_Geometry_init 52 = .ok (.bipush 6, 2) := by decide +kernel
theorem d_Geometry_init_54 : decode b_Geometry_init 54 = .ok (.if_icmp .ge 22, 3) := by decide +kernel
theorem d_Geometry_init_57 : decode b_Geometry_init 57 = .ok (.aload_n 0, 1) := by decide +kernel
theorem d_Geometry_init_58 : decode b_Geometry_init 58 = .ok (.getfield 19, 3) := by decide +kernel
theorem d_Geometry_init_61 : decode b_Geometry_init 61 = .ok (.iload_n 1, 1) := by decide +kernel
theorem d_Geometry_init_62 : decode b_Geometry_init 62 = .ok (.new 17, 3) := by decide +kernel
theorem d_Geometry_init_65 : decode b_Geometry_init 65 = .ok (.dup, 1) := by decide +kernel
theorem d_Geometry_init_66 : decode b_Geometry_init 66 = .ok (.invokespecial 24, 3) := by decide +kernel
theorem d_Geometry_init_69 : decode b_Geometry_init 69 = .ok (.aastore, 1) := by decide +kernel
theorem d_Geometry_init_70 : decode b_Geometry_init 70 = .ok (.iinc 1 1, 3) := by decide +kernel
theorem d_Geometry_init_73 : decode b_Geometry_init 73 = .ok (.goto (-22), 3) := by decide +kernel
theorem d_Geometry_init_76 : decode b_Geometry_init 76 = .ok (.return_, 1) := by decide +kernel
theorem d_Geometry_cellAt_0 : decode b_Geometry_cellAt 0 = .ok (.iconst 0, 1) := by decide +kernel
theorem d_Geometry_cellAt_1 : decode b_Geometry_cellAt 1 = .ok (.istore_n 3, 1) := by decide +kernel
theorem d_Geometry_cellAt_2 : decode b_Geometry_cellAt 2 = .ok (.iload_n 3, 1) := by decide +kernel
theorem d_Geometry_cellAt_3 : decode b_Geometry_cellAt 3 = .ok (.bipush 6, 2) := by decide +kernel
theorem d_Geometry_cellAt_5 : decode b_Geometry_cellAt 5 = .ok (.if_icmp .ge 44, 3) := by decide +kernel
theorem d_Geometry_cellAt_8 : decode b_Geometry_cellAt 8 = .ok (.aload_n 0, 1) := by decide +kernel
theorem d_Geometry_cellAt_9 : decode b_Geometry_cellAt 9 = .ok (.getfield 19, 3) := by decide +kernel
theorem d_Geometry_cellAt_12 : decode b_Geometry_cellAt 12 = .ok (.iload_n 3, 1) := by decide +kernel
theorem d_Geometry_cellAt_13 : decode b_Geometry_cellAt 13 = .ok (.aaload, 1) := by decide +kernel
theorem d_Geometry_cellAt_14 : decode b_Geometry_cellAt 14 = .ok (.getfield 25, 3) := by decide +kernel
theorem d_Geometry_cellAt_17 : decode b_Geometry_cellAt 17 = .ok (.ifCond .eq 26, 3) := by decide +kernel
theorem d_Geometry_cellAt_20 : decode b_Geometry_cellAt 20 = .ok (.aload_n 0, 1) := by decide +kernel
theorem d_Geometry_cellAt_21 : decode b_Geometry_cellAt 21 = .ok (.getfield 19, 3) := by decide +kernel
theorem d_Geometry_cellAt_24 : decode b_Geometry_cellAt 24 = .ok (.iload_n 3, 1) := by decide +kernel
theorem d_Geometry_cellAt_25 : decode b_Geometry_cellAt 25 = .ok (.aaload, 1) := by decide +kernel
theorem d_Geometry_cellAt_26 : decode b_Geometry_cellAt 26 = .ok (.getfield 29, 3) := by decide +kernel
theorem d_Geometry_cellAt_29 : decode b_Geometry_cellAt 29 = .ok (.aload_n 0, 1) := by decide +kernel
theorem d_Geometry_cellAt_30 : decode b_Geometry_cellAt 30 = .ok (.getfield 11, 3) := by decide +kernel
theorem d_Geometry_cellAt_33 : decode b_Geometry_cellAt 33 = .ok (.iload_n 1, 1) := by decide +kernel
theorem d_Geometry_cellAt_34 : decode b_Geometry_cellAt 34 = .ok (.iload_n 2, 1) := by decide +kernel
theorem d_Geometry_cellAt_35 : decode b_Geometry_cellAt 35 = .ok (.invokevirtual 33, 3) := by decide +kernel
theorem d_Geometry_cellAt_38 : decode b_Geometry_cellAt 38 = .ok (.ifCond .eq 5, 3) := by decide +kernel
theorem d_Geometry_cellAt_41 : decode b_Geometry_cellAt 41 = .ok (.iload_n 3, 1) := by decide +kernel
theorem d_Geometry_cellAt_42 : decode b_Geometry_cellAt 42 = .ok (.ireturn, 1) := by decide +kernel
theorem d_Geometry_cellAt_43 : decode b_Geometry_cellAt 43 = .ok (.iinc 3 1, 3) := by decide +kernel
theorem d_Geometry_cellAt_46 : decode b_Geometry_cellAt 46 = .ok (.goto (-44), 3) := by decide +kernel
theorem d_Geometry_cellAt_49 : decode b_Geometry_cellAt 49 = .ok (.bipush 6, 2) := by decide +kernel
theorem d_Geometry_cellAt_51 : decode b_Geometry_cellAt 51 = .ok (.ireturn, 1) := by decide +kernel
theorem d_Geometry_definedCells_0 : decode b_Geometry_definedCells 0 = .ok (.iconst 0, 1) := by decide +kernel
theorem d_Geometry_definedCells_1 : decode b_Geometry_definedCells 1 = .ok (.istore_n 1, 1) := by decide +kernel
theorem d_Geometry_definedCells_2 : decode b_Geometry_definedCells 2 = .ok (.iconst 0, 1) := by decide +kernel
theorem d_Geometry_definedCells_3 : decode b_Geometry_definedCells 3 = .ok (.istore_n 2, 1) := by decide +kernel
theorem d_Geometry_definedCells_4 : decode b_Geometry_definedCells 4 = .ok (.iload_n 2, 1) := by decide +kernel
theorem d_Geometry_definedCells_5 : decode b_Geometry_definedCells 5 = .ok (.bipush 6, 2) := by decide +kernel
theorem d_Geometry_definedCells_7 : decode b_Geometry_definedCells 7 = .ok (.if_icmp .ge 24, 3) := by decide +kernel
theorem d_Geometry_definedCells_10 : decode b_Geometry_definedCells 10 = .ok (.iload_n 1, 1) := by decide +kernel
theorem d_Geometry_definedCells_11 : decode b_Geometry_definedCells 11 = .ok (.aload_n 0, 1) := by decide +kernel
theorem d_Geometry_definedCells_12 : decode b_Geometry_definedCells 12 = .ok (.getfield 19, 3) := by decide +kernel
theorem d_Geometry_definedCells_15 : decode b_Geometry_definedCells 15 = .ok (.iload_n 2, 1) := by decide +kernel
theorem d_Geometry_definedCells_16 : decode b_Geometry_definedCells 16 = .ok (.aaload, 1) := by decide +kernel
theorem d_Geometry_definedCells_17 : decode b_Geometry_definedCells 17 = .ok (.getfield 25, 3) := by decide +kernel
theorem d_Geometry_definedCells_20 : decode b_Geometry_definedCells 20 = .ok (.invokestatic 39, 3) := by decide +kernel
theorem d_Geometry_definedCells_23 : decode b_Geometry_definedCells 23 = .ok (.iadd, 1) := by decide +kernel
theorem d_Geometry_definedCells_24 : decode b_Geometry_definedCells 24 = .ok (.istore_n 1, 1) := by decide +kernel
theorem d_Geometry_definedCells_25 : decode b_Geometry_definedCells 25 = .ok (.iinc 2 1, 3) := by decide +kernel
theorem d_Geometry_definedCells_28 : decode b_Geometry_definedCells 28 = .ok (.goto (-24), 3) := by decide +kernel
theorem d_Geometry_definedCells_31 : decode b_Geometry_definedCells 31 = .ok (.iload_n 1, 1) := by decide +kernel
theorem d_Geometry_definedCells_32 : decode b_Geometry_definedCells 32 = .ok (.ireturn, 1) := by decide +kernel
theorem d_Line_init_0 : decode b_Line_init 0 = .ok (.aload_n 0, 1) := by decide +kernel
theorem d_Line_init_1 : decode b_Line_init 1 = .ok (.invokespecial 3, 3) := by decide +kernel
theorem d_Line_init_4 : decode b_Line_init 4 = .ok (.aload_n 0, 1) := by decide +kernel
theorem d_Line_init_5 : decode b_Line_init 5 = .ok (.bipush 12, 2) := by decide +kernel
theorem d_Line_init_7 : decode b_Line_init 7 = .ok (.newarray .int, 2) := by decide +kernel
theorem d_Line_init_9 : decode b_Line_init 9 = .ok (.putfield 9, 3) := by decide +kernel
theorem d_Line_init_12 : decode b_Line_init 12 = .ok (.aload_n 0, 1) := by decide +kernel
theorem d_Line_init_13 : decode b_Line_init 13 = .ok (.bipush 12, 2) := by decide +kernel
theorem d_Line_init_15 : decode b_Line_init 15 = .ok (.newarray .int, 2) := by decide +kernel
theorem d_Line_init_17 : decode b_Line_init 17 = .ok (.putfield 15, 3) := by decide +kernel
theorem d_Line_init_20 : decode b_Line_init 20 = .ok (.return_, 1) := by decide +kernel
theorem d_Line_empty_0 : decode b_Line_empty 0 = .ok (.aload_n 0, 1) := by decide +kernel
theorem d_Line_empty_1 : decode b_Line_empty 1 = .ok (.iconst 0, 1) := by decide +kernel
theorem d_Line_empty_2 : decode b_Line_empty 2 = .ok (.putfield 18, 3) := by decide +kernel
theorem d_Line_empty_5 : decode b_Line_empty 5 = .ok (.aload_n 0, 1) := by decide +kernel
theorem d_Line_empty_6 : decode b_Line_empty 6 = .ok (.iconst 0, 1) := by decide +kernel
theorem d_Line_empty_7 : decode b_Line_empty 7 = .ok (.putfield 22, 3) := by decide +kernel
theorem d_Line_empty_10 : decode b_Line_empty 10 = .ok (.return_, 1) := by decide +kernel
theorem d_Line_join_0 : decode b_Line_join 0 = .ok (.aload_n 0, 1) := by decide +kernel
theorem d_Line_join_1 : decode b_Line_join 1 = .ok (.getfield 22, 3) := by decide +kernel
theorem d_Line_join_4 : decode b_Line_join 4 = .ok (.bipush 12, 2) := by decide +kernel
theorem d_Line_join_6 : decode b_Line_join 6 = .ok (.if_icmp .lt 5, 3) := by decide +kernel
theorem d_Line_join_9 : decode b_Line_join 9 = .ok (.iconst 0, 1) := by decide +kernel
theorem d_Line_join_10 : decode b_Line_join 10 = .ok (.ireturn, 1) := by decide +kernel
theorem d_Line_join_11 : decode b_Line_join 11 = .ok (.aload_n 0, 1) := by decide +kernel
theorem d_Line_join_12 : decode b_Line_join 12 = .ok (.getfield 9, 3) := by decide +kernel
theorem d_Line_join_15 : decode b_Line_join 15 = .ok (.aload_n 0, 1) := by decide +kernel
theorem d_Line_join_16 : decode b_Line_join 16 = .ok (.getfield 18, 3) := by decide +kernel
theorem d_Line_join_19 : decode b_Line_join 19 = .ok (.iload_n 1, 1) := by decide +kernel
theorem d_Line_join_20 : decode b_Line_join 20 = .ok (.iastore, 1) := by decide +kernel
theorem d_Line_join_21 : decode b_Line_join 21 = .ok (.aload_n 0, 1) := by decide +kernel
theorem d_Line_join_22 : decode b_Line_join 22 = .ok (.getfield 15, 3) := by decide +kernel
theorem d_Line_join_25 : decode b_Line_join 25 = .ok (.aload_n 0, 1) := by decide +kernel
theorem d_Line_join_26 : decode b_Line_join 26 = .ok (.getfield 18, 3) := by decide +kernel
theorem d_Line_join_29 : decode b_Line_join 29 = .ok (.iload_n 2, 1) := by decide +kernel
theorem d_Line_join_30 : decode b_Line_join 30 = .ok (.iastore, 1) := by decide +kernel
theorem d_Line_join_31 : decode b_Line_join 31 = .ok (.aload_n 0, 1) := by decide +kernel
theorem d_Line_join_32 : decode b_Line_join 32 = .ok (.dup, 1) := by decide +kernel
theorem d_Line_join_33 : decode b_Line_join 33 = .ok (.getfield 18, 3) := by decide +kernel
theorem d_Line_join_36 : decode b_Line_join 36 = .ok (.iconst 1, 1) := by decide +kernel
theorem d_Line_join_37 : decode b_Line_join 37 = .ok (.iadd, 1) := by decide +kernel
theorem d_Line_join_38 : decode b_Line_join 38 = .ok (.putfield 18, 3) := by decide +kernel
theorem d_Line_join_41 : decode b_Line_join 41 = .ok (.aload_n 0, 1) := by decide +kernel
theorem d_Line_join_42 : decode b_Line_join 42 = .ok (.dup, 1) := by decide +kernel
theorem d_Line_join_43 : decode b_Line_join 43 = .ok (.getfield 22, 3) := by decide +kernel
theorem d_Line_join_46 : decode b_Line_join 46 = .ok (.iconst 1, 1) := by decide +kernel
theorem d_Line_join_47 : decode b_Line_join 47 = .ok (.iadd, 1) := by decide +kernel
theorem d_Line_join_48 : decode b_Line_join 48 = .ok (.putfield 22, 3) := by decide +kernel
theorem d_Line_join_51 : decode b_Line_join 51 = .ok (.iconst 1, 1) := by decide +kernel
theorem d_Line_join_52 : decode b_Line_join 52 = .ok (.ireturn, 1) := by decide +kernel
theorem d_Line_sendLast_0 : decode b_Line_sendLast 0 = .ok (.aload_n 0, 1) := by decide +kernel
theorem d_Line_sendLast_1 : decode b_Line_sendLast 1 = .ok (.getfield 18, 3) := by decide +kernel
theorem d_Line_sendLast_4 : decode b_Line_sendLast 4 = .ok (.ifCond .le 39, 3) := by decide +kernel
theorem d_Line_sendLast_7 : decode b_Line_sendLast 7 = .ok (.aload_n 0, 1) := by decide +kernel
theorem d_Line_sendLast_8 : decode b_Line_sendLast 8 = .ok (.dup, 1) := by decide +kernel
theorem d_Line_sendLast_9 : decode b_Line_sendLast 9 = .ok (.getfield 18, 3) := by decide +kernel
theorem d_Line_sendLast_12 : decode b_Line_sendLast 12 = .ok (.iconst 1, 1) := by decide +kernel
theorem d_Line_sendLast_13 : decode b_Line_sendLast 13 = .ok (.isub, 1) := by decide +kernel
theorem d_Line_sendLast_14 : decode b_Line_sendLast 14 = .ok (.putfield 18, 3) := by decide +kernel
theorem d_Line_sendLast_17 : decode b_Line_sendLast 17 = .ok (.aload_n 1, 1) := by decide +kernel
theorem d_Line_sendLast_18 : decode b_Line_sendLast 18 = .ok (.aload_n 0, 1) := by decide +kernel
theorem d_Line_sendLast_19 : decode b_Line_sendLast 19 = .ok (.getfield 9, 3) := by decide +kernel
theorem d_Line_sendLast_22 : decode b_Line_sendLast 22 = .ok (.aload_n 0, 1) := by decide +kernel
theorem d_Line_sendLast_23 : decode b_Line_sendLast 23 = .ok (.getfield 18, 3) := by decide +kernel
theorem d_Line_sendLast_26 : decode b_Line_sendLast 26 = .ok (.iaload, 1) := by decide +kernel
theorem d_Line_sendLast_27 : decode b_Line_sendLast 27 = .ok (.putfield 25, 3) := by decide +kernel
theorem d_Line_sendLast_30 : decode b_Line_sendLast 30 = .ok (.aload_n 1, 1) := by decide +kernel
theorem d_Line_sendLast_31 : decode b_Line_sendLast 31 = .ok (.aload_n 0, 1) := by decide +kernel
theorem d_Line_sendLast_32 : decode b_Line_sendLast 32 = .ok (.getfield 15, 3) := by decide +kernel
theorem d_Line_sendLast_35 : decode b_Line_sendLast 35 = .ok (.aload_n 0, 1) := by decide +kernel
theorem d_Line_sendLast_36 : decode b_Line_sendLast 36 = .ok (.getfield 18, 3) := by decide +kernel
theorem d_Line_sendLast_39 : decode b_Line_sendLast 39 = .ok (.iaload, 1) := by decide +kernel
theorem d_Line_sendLast_40 : decode b_Line_sendLast 40 = .ok (.putfield 30, 3) := by decide +kernel
theorem d_Line_sendLast_43 : decode b_Line_sendLast 43 = .ok (.return_, 1) := by decide +kernel
theorem d_Particle_init_0 : decode b_Particle_init 0 = .ok (.aload_n 0, 1) := by decide +kernel
theorem d_Particle_init_1 : decode b_Particle_init 1 = .ok (.invokespecial 1, 3) := by decide +kernel
theorem d_Particle_init_4 : decode b_Particle_init 4 = .ok (.return_, 1) := by decide +kernel
theorem d_Particle_move_0 : decode b_Particle_move 0 = .ok (.aload_n 0, 1) := by decide +kernel
theorem d_Particle_move_1 : decode b_Particle_move 1 = .ok (.dup, 1) := by decide +kernel
theorem d_Particle_move_2 : decode b_Particle_move 2 = .ok (.getfield 7, 3) := by decide +kernel
theorem d_Particle_move_5 : decode b_Particle_move 5 = .ok (.getstatic 13, 3) := by decide +kernel
theorem d_Particle_move_8 : decode b_Particle_move 8 = .ok (.aload_n 0, 1) := by decide +kernel
theorem d_Particle_move_9 : decode b_Particle_move 9 = .ok (.getfield 19, 3) := by decide +kernel
theorem d_Particle_move_12 : decode b_Particle_move 12 = .ok (.iaload, 1) := by decide +kernel
theorem d_Particle_move_13 : decode b_Particle_move 13 = .ok (.iadd, 1) := by decide +kernel
theorem d_Particle_move_14 : decode b_Particle_move 14 = .ok (.putfield 7, 3) := by decide +kernel
theorem d_Particle_move_17 : decode b_Particle_move 17 = .ok (.aload_n 0, 1) := by decide +kernel
theorem d_Particle_move_18 : decode b_Particle_move 18 = .ok (.dup, 1) := by decide +kernel
theorem d_Particle_move_19 : decode b_Particle_move 19 = .ok (.getfield 22, 3) := by decide +kernel
theorem d_Particle_move_22 : decode b_Particle_move 22 = .ok (.getstatic 25, 3) := by decide +kernel
theorem d_Particle_move_25 : decode b_Particle_move 25 = .ok (.aload_n 0, 1) := by decide +kernel
theorem d_Particle_move_26 : decode b_Particle_move 26 = .ok (.getfield 19, 3) := by decide +kernel
theorem d_Particle_move_29 : decode b_Particle_move 29 = .ok (.iaload, 1) := by decide +kernel
theorem d_Particle_move_30 : decode b_Particle_move 30 = .ok (.iadd, 1) := by decide +kernel
theorem d_Particle_move_31 : decode b_Particle_move 31 = .ok (.putfield 22, 3) := by decide +kernel
theorem d_Particle_move_34 : decode b_Particle_move 34 = .ok (.return_, 1) := by decide +kernel
theorem d_Region_init_0 : decode b_Region_init 0 = .ok (.aload_n 0, 1) := by decide +kernel
theorem d_Region_init_1 : decode b_Region_init 1 = .ok (.invokespecial 3, 3) := by decide +kernel
theorem d_Region_init_4 : decode b_Region_init 4 = .ok (.aload_n 0, 1) := by decide +kernel
theorem d_Region_init_5 : decode b_Region_init 5 = .ok (.bipush 8, 2) := by decide +kernel
theorem d_Region_init_7 : decode b_Region_init 7 = .ok (.newarray .int, 2) := by decide +kernel
theorem d_Region_init_9 : decode b_Region_init 9 = .ok (.putfield 9, 3) := by decide +kernel
theorem d_Region_init_12 : decode b_Region_init 12 = .ok (.return_, 1) := by decide +kernel
theorem d_Region_add_0 : decode b_Region_add 0 = .ok (.aload_n 0, 1) := by decide +kernel
theorem d_Region_add_1 : decode b_Region_add 1 = .ok (.getfield 15, 3) := by decide +kernel
theorem d_Region_add_4 : decode b_Region_add 4 = .ok (.bipush 8, 2) := by decide +kernel
theorem d_Region_add_6 : decode b_Region_add 6 = .ok (.if_icmp .ge 23, 3) := by decide +kernel
theorem d_Region_add_9 : decode b_Region_add 9 = .ok (.aload_n 0, 1) := by decide +kernel
theorem d_Region_add_10 : decode b_Region_add 10 = .ok (.getfield 9, 3) := by decide +kernel
theorem d_Region_add_13 : decode b_Region_add 13 = .ok (.aload_n 0, 1) := by decide +kernel
theorem d_Region_add_14 : decode b_Region_add 14 = .ok (.getfield 15, 3) := by decide +kernel
theorem d_Region_add_17 : decode b_Region_add 17 = .ok (.iload_n 1, 1) := by decide +kernel
theorem d_Region_add_18 : decode b_Region_add 18 = .ok (.iastore, 1) := by decide +kernel
theorem d_Region_add_19 : decode b_Region_add 19 = .ok (.aload_n 0, 1) := by decide +kernel
theorem d_Region_add_20 : decode b_Region_add 20 = .ok (.dup, 1) := by decide +kernel
theorem d_Region_add_21 : decode b_Region_add 21 = .ok (.getfield 15, 3) := by decide +kernel
theorem d_Region_add_24 : decode b_Region_add 24 = .ok (.iconst 1, 1) := by decide +kernel
theorem d_Region_add_25 : decode b_Region_add 25 = .ok (.iadd, 1) := by decide +kernel
theorem d_Region_add_26 : decode b_Region_add 26 = .ok (.putfield 15, 3) := by decide +kernel
theorem d_Region_add_29 : decode b_Region_add 29 = .ok (.return_, 1) := by decide +kernel
theorem d_Region_copyFrom_0 : decode b_Region_copyFrom 0 = .ok (.aload_n 1, 1) := by decide +kernel
theorem d_Region_copyFrom_1 : decode b_Region_copyFrom 1 = .ok (.getfield 9, 3) := by decide +kernel
theorem d_Region_copyFrom_4 : decode b_Region_copyFrom 4 = .ok (.iconst 0, 1) := by decide +kernel
theorem d_Region_copyFrom_5 : decode b_Region_copyFrom 5 = .ok (.aload_n 0, 1) := by decide +kernel
theorem d_Region_copyFrom_6 : decode b_Region_copyFrom 6 = .ok (.getfield 9, 3) := by decide +kernel
theorem d_Region_copyFrom_9 : decode b_Region_copyFrom 9 = .ok (.iconst 0, 1) := by decide +kernel
theorem d_Region_copyFrom_10 : decode b_Region_copyFrom 10 = .ok (.bipush 8, 2) := by decide +kernel
theorem d_Region_copyFrom_12 : decode b_Region_copyFrom 12 = .ok (.invokestatic 19, 3) := by decide +kernel
theorem d_Region_copyFrom_15 : decode b_Region_copyFrom 15 = .ok (.aload_n 0, 1) := by decide +kernel
theorem d_Region_copyFrom_16 : decode b_Region_copyFrom 16 = .ok (.aload_n 1, 1) := by decide +kernel
theorem d_Region_copyFrom_17 : decode b_Region_copyFrom 17 = .ok (.getfield 15, 3) := by decide +kernel
theorem d_Region_copyFrom_20 : decode b_Region_copyFrom 20 = .ok (.putfield 15, 3) := by decide +kernel
theorem d_Region_copyFrom_23 : decode b_Region_copyFrom 23 = .ok (.return_, 1) := by decide +kernel
theorem d_Region_isWhole_0 : decode b_Region_isWhole 0 = .ok (.iconst 0, 1) := by decide +kernel
theorem d_Region_isWhole_1 : decode b_Region_isWhole 1 = .ok (.istore_n 1, 1) := by decide +kernel
theorem d_Region_isWhole_2 : decode b_Region_isWhole 2 = .ok (.iconst 0, 1) := by decide +kernel
theorem d_Region_isWhole_3 : decode b_Region_isWhole 3 = .ok (.istore_n 2, 1) := by decide +kernel
theorem d_Region_isWhole_4 : decode b_Region_isWhole 4 = .ok (.iload_n 2, 1) := by decide +kernel
theorem d_Region_isWhole_5 : decode b_Region_isWhole 5 = .ok (.aload_n 0, 1) := by decide +kernel
theorem d_Region_isWhole_6 : decode b_Region_isWhole 6 = .ok (.getfield 15, 3) := by decide +kernel
theorem d_Region_isWhole_9 : decode b_Region_isWhole 9 = .ok (.if_icmp .ge 38, 3) := by decide +kernel
theorem d_Region_isWhole_12 : decode b_Region_isWhole 12 = .ok (.iload_n 1, 1) := by decide +kernel
theorem d_Region_isWhole_13 : decode b_Region_isWhole 13 = .ok (.aload_n 0, 1) := by decide +kernel
theorem d_Region_isWhole_14 : decode b_Region_isWhole 14 = .ok (.getfield 9, 3) := by decide +kernel
theorem d_Region_isWhole_17 : decode b_Region_isWhole 17 = .ok (.iload_n 2, 1) := by decide +kernel
theorem d_Region_isWhole_18 : decode b_Region_isWhole 18 = .ok (.iaload, 1) := by decide +kernel
theorem d_Region_isWhole_19 : decode b_Region_isWhole 19 = .ok (.invokestatic 25, 3) := by decide +kernel
theorem d_Region_isWhole_22 : decode b_Region_isWhole 22 = .ok (.if_icmp .ge 5, 3) := by decide +kernel
theorem d_Region_isWhole_25 : decode b_Region_isWhole 25 = .ok (.iconst 0, 1) := by decide +kernel
theorem d_Region_isWhole_26 : decode b_Region_isWhole 26 = .ok (.ireturn, 1) := by decide +kernel
theorem d_Region_isWhole_27 : decode b_Region_isWhole 27 = .ok (.iload_n 1, 1) := by decide +kernel
theorem d_Region_isWhole_28 : decode b_Region_isWhole 28 = .ok (.iconst 1, 1) := by decide +kernel
theorem d_Region_isWhole_29 : decode b_Region_isWhole 29 = .ok (.aload_n 0, 1) := by decide +kernel
theorem d_Region_isWhole_30 : decode b_Region_isWhole 30 = .ok (.getfield 9, 3) := by decide +kernel
theorem d_Region_isWhole_33 : decode b_Region_isWhole 33 = .ok (.iload_n 2, 1) := by decide +kernel
theorem d_Region_isWhole_34 : decode b_Region_isWhole 34 = .ok (.iaload, 1) := by decide +kernel
theorem d_Region_isWhole_35 : decode b_Region_isWhole 35 = .ok (.invokestatic 25, 3) := by decide +kernel
theorem d_Region_isWhole_38 : decode b_Region_isWhole 38 = .ok (.isub, 1) := by decide +kernel
theorem d_Region_isWhole_39 : decode b_Region_isWhole 39 = .ok (.iadd, 1) := by decide +kernel
theorem d_Region_isWhole_40 : decode b_Region_isWhole 40 = .ok (.istore_n 1, 1) := by decide +kernel
theorem d_Region_isWhole_41 : decode b_Region_isWhole 41 = .ok (.iinc 2 1, 3) := by decide +kernel
theorem d_Region_isWhole_44 : decode b_Region_isWhole 44 = .ok (.goto (-40), 3) := by decide +kernel
theorem d_Region_isWhole_47 : decode b_Region_isWhole 47 = .ok (.iload_n 1, 1) := by decide +kernel
theorem d_Region_isWhole_48 : decode b_Region_isWhole 48 = .ok (.iconst 1, 1) := by decide +kernel
theorem d_Region_isWhole_49 : decode b_Region_isWhole 49 = .ok (.if_icmp .ne 7, 3) := by decide +kernel
theorem d_Region_isWhole_52 : decode b_Region_isWhole 52 = .ok (.iconst 1, 1) := by decide +kernel
theorem d_Region_isWhole_53 : decode b_Region_isWhole 53 = .ok (.goto 4, 3) := by decide +kernel
theorem d_Region_isWhole_56 : decode b_Region_isWhole 56 = .ok (.iconst 0, 1) := by decide +kernel
theorem d_Region_isWhole_57 : decode b_Region_isWhole 57 = .ok (.ireturn, 1) := by decide +kernel
theorem d_Region_operandsOf_0 : decode b_Region_operandsOf 0 = .ok (.iload_n 0, 1) := by decide +kernel
theorem d_Region_operandsOf_1 : decode b_Region_operandsOf 1 = .ok (.tableswitch 31 8 10 #[27, 27, 29], 27) := by decide +kernel
theorem d_Region_operandsOf_28 : decode b_Region_operandsOf 28 = .ok (.iconst 2, 1) := by decide +kernel
theorem d_Region_operandsOf_29 : decode b_Region_operandsOf 29 = .ok (.ireturn, 1) := by decide +kernel
theorem d_Region_operandsOf_30 : decode b_Region_operandsOf 30 = .ok (.iconst 1, 1) := by decide +kernel
theorem d_Region_operandsOf_31 : decode b_Region_operandsOf 31 = .ok (.ireturn, 1) := by decide +kernel
theorem d_Region_operandsOf_32 : decode b_Region_operandsOf 32 = .ok (.iconst 0, 1) := by decide +kernel
theorem d_Region_operandsOf_33 : decode b_Region_operandsOf 33 = .ok (.ireturn, 1) := by decide +kernel
theorem d_Region_holds_0 : decode b_Region_holds 0 = .ok (.iconst 0, 1) := by decide +kernel
theorem d_Region_holds_1 : decode b_Region_holds 1 = .ok (.istore 4, 2) := by decide +kernel
theorem d_Region_holds_3 : decode b_Region_holds 3 = .ok (.iconst 0, 1) := by decide +kernel
theorem d_Region_holds_4 : decode b_Region_holds 4 = .ok (.istore 5, 2) := by decide +kernel
theorem d_Region_holds_6 : decode b_Region_holds 6 = .ok (.iload 5, 2) := by decide +kernel
theorem d_Region_holds_8 : decode b_Region_holds 8 = .ok (.aload_n 0, 1) := by decide +kernel
theorem d_Region_holds_9 : decode b_Region_holds 9 = .ok (.getfield 15, 3) := by decide +kernel
theorem d_Region_holds_12 : decode b_Region_holds 12 = .ok (.if_icmp .ge 118, 3) := by decide +kernel
theorem d_Region_holds_15 : decode b_Region_holds 15 = .ok (.iload 4, 2) := by decide +kernel
theorem d_Region_holds_17 : decode b_Region_holds 17 = .ok (.iconst 1, 1) := by decide +kernel
theorem d_Region_holds_18 : decode b_Region_holds 18 = .ok (.iand, 1) := by decide +kernel
theorem d_Region_holds_19 : decode b_Region_holds 19 = .ok (.istore 6, 2) := by decide +kernel
theorem d_Region_holds_21 : decode b_Region_holds 21 = .ok (.iload 4, 2) := by decide +kernel
theorem d_Region_holds_23 : decode b_Region_holds 23 = .ok (.iconst 1, 1) := by decide +kernel
theorem d_Region_holds_24 : decode b_Region_holds 24 = .ok (.ishr, 1) := by decide +kernel
theorem d_Region_holds_25 : decode b_Region_holds 25 = .ok (.istore 7, 2) := by decide +kernel
theorem d_Region_holds_27 : decode b_Region_holds 27 = .ok (.aload_n 0, 1) := by decide +kernel
theorem d_Region_holds_28 : decode b_Region_holds 28 = .ok (.getfield 9, 3) := by decide +kernel
theorem d_Region_holds_31 : decode b_Region_holds 31 = .ok (.iload 5, 2) := by decide +kernel
theorem d_Region_holds_33 : decode b_Region_holds 33 = .ok (.iaload, 1) := by decide +kernel
theorem d_Region_holds_34 : decode b_Region_holds 34 = .ok (.tableswitch 66 8 10 #[26, 47, 57], 26) := by decide +kernel
theorem d_Region_holds_60 : decode b_Region_holds 60 = .ok (.iload 6, 2) := by decide +kernel
theorem d_Region_holds_62 : decode b_Region_holds 62 = .ok (.iconst 1, 1) := by decide +kernel
theorem d_Region_holds_63 : decode b_Region_holds 63 = .ok (.if_icmp .ne 8, 3) := by decide +kernel
theorem d_Region_holds_66 : decode b_Region_holds 66 = .ok (.iload 7, 2) := by decide +kernel
theorem d_Region_holds_68 : decode b_Region_holds 68 = .ok (.goto 8, 3) := by decide +kernel
theorem d_Region_holds_71 : decode b_Region_holds 71 = .ok (.iload 7, 2) := by decide +kernel
theorem d_Region_holds_73 : decode b_Region_holds 73 = .ok (.bipush (-2), 2) := by decide +kernel
theorem d_Region_holds_75 : decode b_Region_holds 75 = .ok (.iand, 1) := by decide +kernel
theorem d_Region_holds_76 : decode b_Region_holds 76 = .ok (.istore 4, 2) := by decide +kernel
theorem d_Region_holds_78 : decode b_Region_holds 78 = .ok (.goto 46, 3) := by decide +kernel
theorem d_Region_holds_81 : decode b_Region_holds 81 = .ok (.iload 7, 2) := by decide +kernel
theorem d_Region_holds_83 : decode b_Region_holds 83 = .ok (.iload 6, 2) := by decide +kernel
theorem d_Region_holds_85 : decode b_Region_holds 85 = .ok (.ior, 1) := by decide +kernel
theorem d_Region_holds_86 : decode b_Region_holds 86 = .ok (.istore 4, 2) := by decide +kernel
theorem d_Region_holds_88 : decode b_Region_holds 88 = .ok (.goto 36, 3) := by decide +kernel
theorem d_Region_holds_91 : decode b_Region_holds 91 = .ok (.iload 4, 2) := by decide +kernel
theorem d_Region_holds_93 : decode b_Region_holds 93 = .ok (.iconst 1, 1) := by decide +kernel
theorem d_Region_holds_94 : decode b_Region_holds 94 = .ok (.ixor, 1) := by decide +kernel
theorem d_Region_holds_95 : decode b_Region_holds 95 = .ok (.istore 4, 2) := by decide +kernel
theorem d_Region_holds_97 : decode b_Region_holds 97 = .ok (.goto 27, 3) := by decide +kernel
theorem d_Region_holds_100 : decode b_Region_holds 100 = .ok (.iload 4, 2) := by decide +kernel
theorem d_Region_holds_102 : decode b_Region_holds 102 = .ok (.iconst 1, 1) := by decide +kernel
theorem d_Region_holds_103 : decode b_Region_holds 103 = .ok (.ishl, 1) := by decide +kernel
theorem d_Region_holds_104 : decode b_Region_holds 104 = .ok (.aload_n 1, 1) := by decide +kernel
theorem d_Region_holds_105 : decode b_Region_holds 105 = .ok (.aload_n 0, 1) := by decide +kernel
theorem d_Region_holds_106 : decode b_Region_holds 106 = .ok (.getfield 9, 3) := by decide +kernel
theorem d_Region_holds_109 : decode b_Region_holds 109 = .ok (.iload 5, 2) := by decide +kernel
theorem d_Region_holds_111 : decode b_Region_holds 111 = .ok (.iaload, 1) := by decide +kernel
theorem d_Region_holds_112 : decode b_Region_holds 112 = .ok (.aaload, 1) := by decide +kernel
theorem d_Region_holds_113 : decode b_Region_holds 113 = .ok (.iload_n 2, 1) := by decide +kernel
theorem d_Region_holds_114 : decode b_Region_holds 114 = .ok (.iload_n 3, 1) := by decide +kernel
theorem d_Region_holds_115 : decode b_Region_holds 115 = .ok (.invokevirtual 29, 3) := by decide +kernel
theorem d_Region_holds_118 : decode b_Region_holds 118 = .ok (.invokestatic 35, 3) := by decide +kernel
theorem d_Region_holds_121 : decode b_Region_holds 121 = .ok (.ior, 1) := by decide +kernel
theorem d_Region_holds_122 : decode b_Region_holds 122 = .ok (.istore 4, 2) := by decide +kernel
theorem d_Region_holds_124 : decode b_Region_holds 124 = .ok (.iinc 5 1, 3) := by decide +kernel
theorem d_Region_holds_127 : decode b_Region_holds 127 = .ok (.goto (-121), 3) := by decide +kernel
theorem d_Region_holds_130 : decode b_Region_holds 130 = .ok (.iload 4, 2) := by decide +kernel
theorem d_Region_holds_132 : decode b_Region_holds 132 = .ok (.iconst 1, 1) := by decide +kernel
theorem d_Region_holds_133 : decode b_Region_holds 133 = .ok (.if_icmp .ne 7, 3) := by decide +kernel
theorem d_Region_holds_136 : decode b_Region_holds 136 = .ok (.iconst 1, 1) := by decide +kernel
theorem d_Region_holds_137 : decode b_Region_holds 137 = .ok (.goto 4, 3) := by decide +kernel
theorem d_Region_holds_140 : decode b_Region_holds 140 = .ok (.iconst 0, 1) := by decide +kernel
theorem d_Region_holds_141 : decode b_Region_holds 141 = .ok (.ireturn, 1) := by decide +kernel
theorem d_Surface_init_0 : decode b_Surface_init 0 = .ok (.aload_n 0, 1) := by decide +kernel
theorem d_Surface_init_1 : decode b_Surface_init 1 = .ok (.invokespecial 3, 3) := by decide +kernel
theorem d_Surface_init_4 : decode b_Surface_init 4 = .ok (.return_, 1) := by decide +kernel
theorem d_Surface_become_0 : decode b_Surface_become 0 = .ok (.aload_n 0, 1) := by decide +kernel
theorem d_Surface_become_1 : decode b_Surface_become 1 = .ok (.iconst 1, 1) := by decide +kernel
theorem d_Surface_become_2 : decode b_Surface_become 2 = .ok (.putfield 9, 3) := by decide +kernel
theorem d_Surface_become_5 : decode b_Surface_become 5 = .ok (.aload_n 0, 1) := by decide +kernel
theorem d_Surface_become_6 : decode b_Surface_become 6 = .ok (.iload_n 1, 1) := by decide +kernel
theorem d_Surface_become_7 : decode b_Surface_become 7 = .ok (.putfield 15, 3) := by decide +kernel
theorem d_Surface_become_10 : decode b_Surface_become 10 = .ok (.aload_n 0, 1) := by decide +kernel
theorem d_Surface_become_11 : decode b_Surface_become 11 = .ok (.iload_n 2, 1) := by decide +kernel
theorem d_Surface_become_12 : decode b_Surface_become 12 = .ok (.putfield 19, 3) := by decide +kernel
theorem d_Surface_become_15 : decode b_Surface_become 15 = .ok (.aload_n 0, 1) := by decide +kernel
theorem d_Surface_become_16 : decode b_Surface_become 16 = .ok (.iload_n 3, 1) := by decide +kernel
theorem d_Surface_become_17 : decode b_Surface_become 17 = .ok (.putfield 22, 3) := by decide +kernel
theorem d_Surface_become_20 : decode b_Surface_become 20 = .ok (.aload_n 0, 1) := by decide +kernel
theorem d_Surface_become_21 : decode b_Surface_become 21 = .ok (.iload 4, 2) := by decide +kernel
theorem d_Surface_become_23 : decode b_Surface_become 23 = .ok (.putfield 25, 3) := by decide +kernel
theorem d_Surface_become_26 : decode b_Surface_become 26 = .ok (.return_, 1) := by decide +kernel
theorem d_Surface_holds_0 : decode b_Surface_holds 0 = .ok (.aload_n 0, 1) := by decide +kernel
theorem d_Surface_holds_1 : decode b_Surface_holds 1 = .ok (.getfield 9, 3) := by decide +kernel
theorem d_Surface_holds_4 : decode b_Surface_holds 4 = .ok (.ifCond .ne 5, 3) := by decide +kernel
theorem d_Surface_holds_7 : decode b_Surface_holds 7 = .ok (.iconst 0, 1) := by decide +kernel
theorem d_Surface_holds_8 : decode b_Surface_holds 8 = .ok (.ireturn, 1) := by decide +kernel
theorem d_Surface_holds_9 : decode b_Surface_holds 9 = .ok (.aload_n 0, 1) := by decide +kernel
theorem d_Surface_holds_10 : decode b_Surface_holds 10 = .ok (.getfield 15, 3) := by decide +kernel
theorem d_Surface_holds_13 : decode b_Surface_holds 13 = .ok (.ifCond .ne 29, 3) := by decide +kernel
theorem d_Surface_holds_16 : decode b_Surface_holds 16 = .ok (.aload_n 0, 1) := by decide +kernel
theorem d_Surface_holds_17 : decode b_Surface_holds 17 = .ok (.getfield 19, 3) := by decide +kernel
theorem d_Surface_holds_20 : decode b_Surface_holds 20 = .ok (.iload_n 1, 1) := by decide +kernel
theorem d_Surface_holds_21 : decode b_Surface_holds 21 = .ok (.imul, 1) := by decide +kernel
theorem d_Surface_holds_22 : decode b_Surface_holds 22 = .ok (.aload_n 0, 1) := by decide +kernel
theorem d_Surface_holds_23 : decode b_Surface_holds 23 = .ok (.getfield 22, 3) := by decide +kernel
theorem d_Surface_holds_26 : decode b_Surface_holds 26 = .ok (.iload_n 2, 1) := by decide +kernel
theorem d_Surface_holds_27 : decode b_Surface_holds 27 = .ok (.imul, 1) := by decide +kernel
theorem d_Surface_holds_28 : decode b_Surface_holds 28 = .ok (.iadd, 1) := by decide +kernel
theorem d_Surface_holds_29 : decode b_Surface_holds 29 = .ok (.aload_n 0, 1) := by decide +kernel
theorem d_Surface_holds_30 : decode b_Surface_holds 30 = .ok (.getfield 25, 3) := by decide +kernel
theorem d_Surface_holds_33 : decode b_Surface_holds 33 = .ok (.if_icmp .gt 7, 3) := by decide +kernel
theorem d_Surface_holds_36 : decode b_Surface_holds 36 = .ok (.iconst 1, 1) := by decide +kernel
theorem d_Surface_holds_37 : decode b_Surface_holds 37 = .ok (.goto 4, 3) := by decide +kernel
theorem d_Surface_holds_40 : decode b_Surface_holds 40 = .ok (.iconst 0, 1) := by decide +kernel
theorem d_Surface_holds_41 : decode b_Surface_holds 41 = .ok (.ireturn, 1) := by decide +kernel
theorem d_Surface_holds_42 : decode b_Surface_holds 42 = .ok (.iload_n 1, 1) := by decide +kernel
theorem d_Surface_holds_43 : decode b_Surface_holds 43 = .ok (.aload_n 0, 1) := by decide +kernel
theorem d_Surface_holds_44 : decode b_Surface_holds 44 = .ok (.getfield 19, 3) := by decide +kernel
theorem d_Surface_holds_47 : decode b_Surface_holds 47 = .ok (.isub, 1) := by decide +kernel
theorem d_Surface_holds_48 : decode b_Surface_holds 48 = .ok (.iload_n 1, 1) := by decide +kernel
theorem d_Surface_holds_49 : decode b_Surface_holds 49 = .ok (.aload_n 0, 1) := by decide +kernel
theorem d_Surface_holds_50 : decode b_Surface_holds 50 = .ok (.getfield 19, 3) := by decide +kernel
theorem d_Surface_holds_53 : decode b_Surface_holds 53 = .ok (.isub, 1) := by decide +kernel
theorem d_Surface_holds_54 : decode b_Surface_holds 54 = .ok (.imul, 1) := by decide +kernel
theorem d_Surface_holds_55 : decode b_Surface_holds 55 = .ok (.iload_n 2, 1) := by decide +kernel
theorem d_Surface_holds_56 : decode b_Surface_holds 56 = .ok (.aload_n 0, 1) := by decide +kernel
theorem d_Surface_holds_57 : decode b_Surface_holds 57 = .ok (.getfield 22, 3) := by decide +kernel
theorem d_Surface_holds_60 : decode b_Surface_holds 60 = .ok (.isub, 1) := by decide +kernel
theorem d_Surface_holds_61 : decode b_Surface_holds 61 = .ok (.iload_n 2, 1) := by decide +kernel
theorem d_Surface_holds_62 : decode b_Surface_holds 62 = .ok (.aload_n 0, 1) := by decide +kernel
theorem d_Surface_holds_63 : decode b_Surface_holds 63 = .ok (.getfield 22, 3) := by decide +kernel
theorem d_Surface_holds_66 : decode b_Surface_holds 66 = .ok (.isub, 1) := by decide +kernel
theorem d_Surface_holds_67 : decode b_Surface_holds 67 = .ok (.imul, 1) := by decide +kernel
theorem d_Surface_holds_68 : decode b_Surface_holds 68 = .ok (.iadd, 1) := by decide +kernel
theorem d_Surface_holds_69 : decode b_Surface_holds 69 = .ok (.aload_n 0, 1) := by decide +kernel
theorem d_Surface_holds_70 : decode b_Surface_holds 70 = .ok (.getfield 25, 3) := by decide +kernel
theorem d_Surface_holds_73 : decode b_Surface_holds 73 = .ok (.aload_n 0, 1) := by decide +kernel
theorem d_Surface_holds_74 : decode b_Surface_holds 74 = .ok (.getfield 25, 3) := by decide +kernel
theorem d_Surface_holds_77 : decode b_Surface_holds 77 = .ok (.imul, 1) := by decide +kernel
theorem d_Surface_holds_78 : decode b_Surface_holds 78 = .ok (.if_icmp .gt 7, 3) := by decide +kernel
theorem d_Surface_holds_81 : decode b_Surface_holds 81 = .ok (.iconst 1, 1) := by decide +kernel
theorem d_Surface_holds_82 : decode b_Surface_holds 82 = .ok (.goto 4, 3) := by decide +kernel
theorem d_Surface_holds_85 : decode b_Surface_holds 85 = .ok (.iconst 0, 1) := by decide +kernel
theorem d_Surface_holds_86 : decode b_Surface_holds 86 = .ok (.ireturn, 1) := by decide +kernel
theorem d_Arrays_fill_0 : decode b_Arrays_fill 0 = .ok (.iconst 0, 1) := by decide +kernel
theorem d_Arrays_fill_1 : decode b_Arrays_fill 1 = .ok (.istore_n 2, 1) := by decide +kernel
theorem d_Arrays_fill_2 : decode b_Arrays_fill 2 = .ok (.aload_n 0, 1) := by decide +kernel
theorem d_Arrays_fill_3 : decode b_Arrays_fill 3 = .ok (.arraylength, 1) := by decide +kernel
theorem d_Arrays_fill_4 : decode b_Arrays_fill 4 = .ok (.istore_n 3, 1) := by decide +kernel
theorem d_Arrays_fill_5 : decode b_Arrays_fill 5 = .ok (.iload_n 2, 1) := by decide +kernel
theorem d_Arrays_fill_6 : decode b_Arrays_fill 6 = .ok (.iload_n 3, 1) := by decide +kernel
theorem d_Arrays_fill_7 : decode b_Arrays_fill 7 = .ok (.if_icmp .ge 13, 3) := by decide +kernel
theorem d_Arrays_fill_10 : decode b_Arrays_fill 10 = .ok (.aload_n 0, 1) := by decide +kernel
theorem d_Arrays_fill_11 : decode b_Arrays_fill 11 = .ok (.iload_n 2, 1) := by decide +kernel
theorem d_Arrays_fill_12 : decode b_Arrays_fill 12 = .ok (.iload_n 1, 1) := by decide +kernel
theorem d_Arrays_fill_13 : decode b_Arrays_fill 13 = .ok (.iastore, 1) := by decide +kernel
theorem d_Arrays_fill_14 : decode b_Arrays_fill 14 = .ok (.iinc 2 1, 3) := by decide +kernel
theorem d_Arrays_fill_17 : decode b_Arrays_fill 17 = .ok (.goto (-12), 3) := by decide +kernel
theorem d_Arrays_fill_20 : decode b_Arrays_fill 20 = .ok (.return_, 1) := by decide +kernel
