theorem d_Model_init_0 : decode b_Model_init 0 = .ok (.aload_n 0, 1) := by decide +kernel
theorem d_Model_init_1 : decode b_Model_init 1 = .ok (.invokespecial 1, 3) := by decide +kernel
theorem d_Model_init_4 : decode b_Model_init 4 = .ok (.aload_n 0, 1) := by decide +kernel
theorem d_Model_init_5 : decode b_Model_init 5 = .ok (.bipush 8, 2) := by decide +kernel
theorem d_Model_init_7 : decode b_Model_init 7 = .ok (.newarray .int, 2) := by decide +kernel
theorem d_Model_init_9 : decode b_Model_init 9 = .ok (.putfield 7, 3) := by decide +kernel
theorem d_Model_init_12 : decode b_Model_init 12 = .ok (.aload_n 0, 1) := by decide +kernel
theorem d_Model_init_13 : decode b_Model_init 13 = .ok (.bipush 8, 2) := by decide +kernel
theorem d_Model_init_15 : decode b_Model_init 15 = .ok (.newarray .int, 2) := by decide +kernel
theorem d_Model_init_17 : decode b_Model_init 17 = .ok (.putfield 13, 3) := by decide +kernel
theorem d_Model_init_20 : decode b_Model_init 20 = .ok (.aload_n 0, 1) := by decide +kernel
theorem d_Model_init_21 : decode b_Model_init 21 = .ok (.bipush 8, 2) := by decide +kernel
theorem d_Model_init_23 : decode b_Model_init 23 = .ok (.newarray .int, 2) := by decide +kernel
theorem d_Model_init_25 : decode b_Model_init 25 = .ok (.putfield 16, 3) := by decide +kernel
theorem d_Model_init_28 : decode b_Model_init 28 = .ok (.aload_n 0, 1) := by decide +kernel
theorem d_Model_init_29 : decode b_Model_init 29 = .ok (.bipush 8, 2) := by decide +kernel
theorem d_Model_init_31 : decode b_Model_init 31 = .ok (.newarray .int, 2) := by decide +kernel
theorem d_Model_init_33 : decode b_Model_init 33 = .ok (.putfield 19, 3) := by decide +kernel
theorem d_Model_init_36 : decode b_Model_init 36 = .ok (.aload_n 0, 1) := by decide +kernel
theorem d_Model_init_37 : decode b_Model_init 37 = .ok (.bipush 8, 2) := by decide +kernel
theorem d_Model_init_39 : decode b_Model_init 39 = .ok (.newarray .boolean, 2) := by decide +kernel
theorem d_Model_init_41 : decode b_Model_init 41 = .ok (.putfield 22, 3) := by decide +kernel
theorem d_Model_init_44 : decode b_Model_init 44 = .ok (.aload_n 0, 1) := by decide +kernel
theorem d_Model_init_45 : decode b_Model_init 45 = .ok (.bipush 8, 2) := by decide +kernel
theorem d_Model_init_47 : decode b_Model_init 47 = .ok (.newarray .int, 2) := by decide +kernel
theorem d_Model_init_49 : decode b_Model_init 49 = .ok (.putfield 26, 3) := by decide +kernel
theorem d_Model_init_52 : decode b_Model_init 52 = .ok (.aload_n 0, 1) := by decide +kernel
theorem d_Model_init_53 : decode b_Model_init 53 = .ok (.bipush 48, 2) := by decide +kernel
theorem d_Model_init_55 : decode b_Model_init 55 = .ok (.newarray .int, 2) := by decide +kernel
theorem d_Model_init_57 : decode b_Model_init 57 = .ok (.putfield 29, 3) := by decide +kernel
theorem d_Model_init_60 : decode b_Model_init 60 = .ok (.aload_n 0, 1) := by decide +kernel
theorem d_Model_init_61 : decode b_Model_init 61 = .ok (.bipush 6, 2) := by decide +kernel
theorem d_Model_init_63 : decode b_Model_init 63 = .ok (.newarray .int, 2) := by decide +kernel
theorem d_Model_init_65 : decode b_Model_init 65 = .ok (.putfield 32, 3) := by decide +kernel
theorem d_Model_init_68 : decode b_Model_init 68 = .ok (.aload_n 0, 1) := by decide +kernel
theorem d_Model_init_69 : decode b_Model_init 69 = .ok (.bipush 6, 2) := by decide +kernel
theorem d_Model_init_71 : decode b_Model_init 71 = .ok (.newarray .boolean, 2) := by decide +kernel
theorem d_Model_init_73 : decode b_Model_init 73 = .ok (.putfield 35, 3) := by decide +kernel
theorem d_Model_init_76 : decode b_Model_init 76 = .ok (.aload_n 0, 1) := by decide +kernel
theorem d_Model_init_77 : decode b_Model_init 77 = .ok (.bipush 6, 2) := by decide +kernel
theorem d_Model_init_79 : decode b_Model_init 79 = .ok (.newarray .int, 2) := by decide +kernel
theorem d_Model_init_81 : decode b_Model_init 81 = .ok (.putfield 38, 3) := by decide +kernel
theorem d_Model_init_84 : decode b_Model_init 84 = .ok (.aload_n 0, 1) := by decide +kernel
theorem d_Model_init_85 : decode b_Model_init 85 = .ok (.bipush 6, 2) := by decide +kernel
theorem d_Model_init_87 : decode b_Model_init 87 = .ok (.newarray .int, 2) := by decide +kernel
theorem d_Model_init_89 : decode b_Model_init 89 = .ok (.putfield 41, 3) := by decide +kernel
theorem d_Model_init_92 : decode b_Model_init 92 = .ok (.aload_n 0, 1) := by decide +kernel
theorem d_Model_init_93 : decode b_Model_init 93 = .ok (.bipush 6, 2) := by decide +kernel
theorem d_Model_init_95 : decode b_Model_init 95 = .ok (.newarray .int, 2) := by decide +kernel
theorem d_Model_init_97 : decode b_Model_init 97 = .ok (.putfield 44, 3) := by decide +kernel
theorem d_Model_init_100 : decode b_Model_init 100 = .ok (.aload_n 0, 1) := by decide +kernel
theorem d_Model_init_101 : decode b_Model_init 101 = .ok (.lconst 1, 1) := by decide +kernel
theorem d_Model_init_102 : decode b_Model_init 102 = .ok (.putfield 47, 3) := by decide +kernel
theorem d_Model_init_105 : decode b_Model_init 105 = .ok (.aload_n 0, 1) := by decide +kernel
theorem d_Model_init_106 : decode b_Model_init 106 = .ok (.bipush 24, 2) := by decide +kernel
theorem d_Model_init_108 : decode b_Model_init 108 = .ok (.newarray .int, 2) := by decide +kernel
theorem d_Model_init_110 : decode b_Model_init 110 = .ok (.putfield 51, 3) := by decide +kernel
theorem d_Model_init_113 : decode b_Model_init 113 = .ok (.aload_n 0, 1) := by decide +kernel
theorem d_Model_init_114 : decode b_Model_init 114 = .ok (.bipush 36, 2) := by decide +kernel
theorem d_Model_init_116 : decode b_Model_init 116 = .ok (.newarray .int, 2) := by decide +kernel
theorem d_Model_init_118 : decode b_Model_init 118 = .ok (.putfield 54, 3) := by decide +kernel
theorem d_Model_init_121 : decode b_Model_init 121 = .ok (.aload_n 0, 1) := by decide +kernel
theorem d_Model_init_122 : decode b_Model_init 122 = .ok (.iconst 5, 1) := by decide +kernel
theorem d_Model_init_123 : decode b_Model_init 123 = .ok (.newarray .int, 2) := by decide +kernel
theorem d_Model_init_125 : decode b_Model_init 125 = .ok (.putfield 57, 3) := by decide +kernel
theorem d_Model_init_128 : decode b_Model_init 128 = .ok (.aload_n 0, 1) := by decide +kernel
theorem d_Model_init_129 : decode b_Model_init 129 = .ok (.bipush 12, 2) := by decide +kernel
theorem d_Model_init_131 : decode b_Model_init 131 = .ok (.newarray .int, 2) := by decide +kernel
theorem d_Model_init_133 : decode b_Model_init 133 = .ok (.putfield 60, 3) := by decide +kernel
theorem d_Model_init_136 : decode b_Model_init 136 = .ok (.aload_n 0, 1) := by decide +kernel
theorem d_Model_init_137 : decode b_Model_init 137 = .ok (.bipush 12, 2) := by decide +kernel
theorem d_Model_init_139 : decode b_Model_init 139 = .ok (.newarray .int, 2) := by decide +kernel
theorem d_Model_init_141 : decode b_Model_init 141 = .ok (.putfield 63, 3) := by decide +kernel
theorem d_Model_init_144 : decode b_Model_init 144 = .ok (.return_, 1) := by decide +kernel
theorem d_Model_out_0 : decode b_Model_out 0 = .ok (.iload_n 0, 1) := by decide +kernel
theorem d_Model_out_1 : decode b_Model_out 1 = .ok (.iload_n 1, 1) := by decide +kernel
theorem d_Model_out_2 : decode b_Model_out 2 = .ok (.if_icmp .lt 8, 3) := by decide +kernel
theorem d_Model_out_5 : decode b_Model_out 5 = .ok (.iload_n 0, 1) := by decide +kernel
theorem d_Model_out_6 : decode b_Model_out 6 = .ok (.iload_n 2, 1) := by decide +kernel
theorem d_Model_out_7 : decode b_Model_out 7 = .ok (.if_icmp .le 7, 3) := by decide +kernel
theorem d_Model_out_10 : decode b_Model_out 10 = .ok (.iconst 1, 1) := by decide +kernel
theorem d_Model_out_11 : decode b_Model_out 11 = .ok (.goto 4, 3) := by decide +kernel
theorem d_Model_out_14 : decode b_Model_out 14 = .ok (.iconst 0, 1) := by decide +kernel
theorem d_Model_out_15 : decode b_Model_out 15 = .ok (.ireturn, 1) := by decide +kernel
theorem d_Model_surface_0 : decode b_Model_surface 0 = .ok (.iload_n 1, 1) := by decide +kernel
theorem d_Model_surface_1 : decode b_Model_surface 1 = .ok (.iconst 0, 1) := by decide +kernel
theorem d_Model_surface_2 : decode b_Model_surface 2 = .ok (.bipush 7, 2) := by decide +kernel
theorem d_Model_surface_4 : decode b_Model_surface 4 = .ok (.invokestatic 66, 3) := by decide +kernel
theorem d_Model_surface_7 : decode b_Model_surface 7 = .ok (.ifCond .ne 12, 3) := by decide +kernel
theorem d_Model_surface_10 : decode b_Model_surface 10 = .ok (.iload_n 2, 1) := by decide +kernel
theorem d_Model_surface_11 : decode b_Model_surface 11 = .ok (.iconst 0, 1) := by decide +kernel
theorem d_Model_surface_12 : decode b_Model_surface 12 = .ok (.iconst 1, 1) := by decide +kernel
theorem d_Model_surface_13 : decode b_Model_surface 13 = .ok (.invokestatic 66, 3) := by decide +kernel
theorem d_Model_surface_16 : decode b_Model_surface 16 = .ok (.ifCond .eq 5, 3) := by decide +kernel
theorem d_Model_surface_19 : decode b_Model_surface 19 = .ok (.iconst (-1), 1) := by decide +kernel
theorem d_Model_surface_20 : decode b_Model_surface 20 = .ok (.ireturn, 1) := by decide +kernel
theorem d_Model_surface_21 : decode b_Model_surface 21 = .ok (.iload_n 2, 1) := by decide +kernel
theorem d_Model_surface_22 : decode b_Model_surface 22 = .ok (.ifCond .ne 8, 3) := by decide +kernel
theorem d_Model_surface_25 : decode b_Model_surface 25 = .ok (.bipush 9, 2) := by decide +kernel
theorem d_Model_surface_27 : decode b_Model_surface 27 = .ok (.goto 6, 3) := by decide +kernel
theorem d_Model_surface_30 : decode b_Model_surface 30 = .ok (.sipush 300, 3) := by decide +kernel
theorem d_Model_surface_33 : decode b_Model_surface 33 = .ok (.istore 6, 2) := by decide +kernel
theorem d_Model_surface_35 : decode b_Model_surface 35 = .ok (.iload_n 3, 1) := by decide +kernel
theorem d_Model_surface_36 : decode b_Model_surface 36 = .ok (.iload 6, 2) := by decide +kernel
theorem d_Model_surface_38 : decode b_Model_surface 38 = .ok (.ineg, 1) := by decide +kernel
theorem d_Model_surface_39 : decode b_Model_surface 39 = .ok (.iload 6, 2) := by decide +kernel
theorem d_Model_surface_41 : decode b_Model_surface 41 = .ok (.invokestatic 66, 3) := by decide +kernel
theorem d_Model_surface_44 : decode b_Model_surface 44 = .ok (.ifCond .ne 48, 3) := by decide +kernel
theorem d_Model_surface_47 : decode b_Model_surface 47 = .ok (.iload 4, 2) := by decide +kernel
theorem d_Model_surface_49 : decode b_Model_surface 49 = .ok (.iload 6, 2) := by decide +kernel
theorem d_Model_surface_51 : decode b_Model_surface 51 = .ok (.ineg, 1) := by decide +kernel
theorem d_Model_surface_52 : decode b_Model_surface 52 = .ok (.iload 6, 2) := by decide +kernel
theorem d_Model_surface_54 : decode b_Model_surface 54 = .ok (.invokestatic 66, 3) := by decide +kernel
theorem d_Model_surface_57 : decode b_Model_surface 57 = .ok (.ifCond .ne 35, 3) := by decide +kernel
theorem d_Model_surface_60 : decode b_Model_surface 60 = .ok (.iload 5, 2) := by decide +kernel
theorem d_Model_surface_62 : decode b_Model_surface 62 = .ok (.iload_n 2, 1) := by decide +kernel
theorem d_Model_surface_63 : decode b_Model_surface 63 = .ok (.ifCond .ne 9, 3) := by decide +kernel
theorem d_Model_surface_66 : decode b_Model_surface 66 = .ok (.sipush (-9999), 3) := by decide +kernel
theorem d_Model_surface_69 : decode b_Model_surface 69 = .ok (.goto 4, 3) := by decide +kernel
theorem d_Model_surface_72 : decode b_Model_surface 72 = .ok (.iconst 0, 1) := by decide +kernel
theorem d_Model_surface_73 : decode b_Model_surface 73 = .ok (.iload_n 2, 1) := by decide +kernel
theorem d_Model_surface_74 : decode b_Model_surface 74 = .ok (.ifCond .ne 9, 3) := by decide +kernel
theorem d_Model_surface_77 : decode b_Model_surface 77 = .ok (.sipush 9999, 3) := by decide +kernel
theorem d_Model_surface_80 : decode b_Model_surface 80 = .ok (.goto 6, 3) := by decide +kernel
theorem d_Model_surface_83 : decode b_Model_surface 83 = .ok (.sipush 300, 3) := by decide +kernel
theorem d_Model_surface_86 : decode b_Model_surface 86 = .ok (.invokestatic 66, 3) := by decide +kernel
theorem d_Model_surface_89 : decode b_Model_surface 89 = .ok (.ifCond .eq 5, 3) := by decide +kernel
theorem d_Model_surface_92 : decode b_Model_surface 92 = .ok (.iconst (-1), 1) := by decide +kernel
theorem d_Model_surface_93 : decode b_Model_surface 93 = .ok (.ireturn, 1) := by decide +kernel
theorem d_Model_surface_94 : decode b_Model_surface 94 = .ok (.aload_n 0, 1) := by decide +kernel
theorem d_Model_surface_95 : decode b_Model_surface 95 = .ok (.getfield 22, 3) := by decide +kernel
theorem d_Model_surface_98 : decode b_Model_surface 98 = .ok (.iload_n 1, 1) := by decide +kernel
theorem d_Model_surface_99 : decode b_Model_surface 99 = .ok (.baload, 1) := by decide +kernel
theorem d_Model_surface_100 : decode b_Model_surface 100 = .ok (.ifCond .eq 7, 3) := by decide +kernel
theorem d_Model_surface_103 : decode b_Model_surface 103 = .ok (.iconst 1, 1) := by decide +kernel
theorem d_Model_surface_104 : decode b_Model_surface 104 = .ok (.goto 4, 3) := by decide +kernel
theorem d_Model_surface_107 : decode b_Model_surface 107 = .ok (.iconst 0, 1) := by decide +kernel
theorem d_Model_surface_108 : decode b_Model_surface 108 = .ok (.istore 7, 2) := by decide +kernel
theorem d_Model_surface_110 : decode b_Model_surface 110 = .ok (.aload_n 0, 1) := by decide +kernel
theorem d_Model_surface_111 : decode b_Model_surface 111 = .ok (.getfield 22, 3) := by decide +kernel
theorem d_Model_surface_114 : decode b_Model_surface 114 = .ok (.iload_n 1, 1) := by decide +kernel
theorem d_Model_surface_115 : decode b_Model_surface 115 = .ok (.iconst 1, 1) := by decide +kernel
theorem d_Model_surface_116 : decode b_Model_surface 116 = .ok (.bastore, 1) := by decide +kernel
theorem d_Model_surface_117 : decode b_Model_surface 117 = .ok (.aload_n 0, 1) := by decide +kernel
theorem d_Model_surface_118 : decode b_Model_surface 118 = .ok (.getfield 7, 3) := by decide +kernel
theorem d_Model_surface_121 : decode b_Model_surface 121 = .ok (.iload_n 1, 1) := by decide +kernel
theorem d_Model_surface_122 : decode b_Model_surface 122 = .ok (.iload_n 2, 1) := by decide +kernel
theorem d_Model_surface_123 : decode b_Model_surface 123 = .ok (.iastore, 1) := by decide +kernel
theorem d_Model_surface_124 : decode b_Model_surface 124 = .ok (.aload_n 0, 1) := by decide +kernel
theorem d_Model_surface_125 : decode b_Model_surface 125 = .ok (.getfield 13, 3) := by decide +kernel
theorem d_Model_surface_128 : decode b_Model_surface 128 = .ok (.iload_n 1, 1) := by decide +kernel
theorem d_Model_surface_129 : decode b_Model_surface 129 = .ok (.iload_n 3, 1) := by decide +kernel
theorem d_Model_surface_130 : decode b_Model_surface 130 = .ok (.iastore, 1) := by decide +kernel
theorem d_Model_surface_131 : decode b_Model_surface 131 = .ok (.aload_n 0, 1) := by decide +kernel
theorem d_Model_surface_132 : decode b_Model_surface 132 = .ok (.getfield 16, 3) := by decide +kernel
theorem d_Model_surface_135 : decode b_Model_surface 135 = .ok (.iload_n 1, 1) := by decide +kernel
theorem d_Model_surface_136 : decode b_Model_surface 136 = .ok (.iload 4, 2) := by decide +kernel
theorem d_Model_surface_138 : decode b_Model_surface 138 = .ok (.iastore, 1) := by decide +kernel
theorem d_Model_surface_139 : decode b_Model_surface 139 = .ok (.aload_n 0, 1) := by decide +kernel
theorem d_Model_surface_140 : decode b_Model_surface 140 = .ok (.getfield 19, 3) := by decide +kernel
theorem d_Model_surface_143 : decode b_Model_surface 143 = .ok (.iload_n 1, 1) := by decide +kernel
theorem d_Model_surface_144 : decode b_Model_surface 144 = .ok (.iload 5, 2) := by decide +kernel
theorem d_Model_surface_146 : decode b_Model_surface 146 = .ok (.iastore, 1) := by decide +kernel
theorem d_Model_surface_147 : decode b_Model_surface 147 = .ok (.iload 7, 2) := by decide +kernel
theorem d_Model_surface_149 : decode b_Model_surface 149 = .ok (.ireturn, 1) := by decide +kernel
theorem d_Model_token_0 : decode b_Model_token 0 = .ok (.iload_n 1, 1) := by decide +kernel
theorem d_Model_token_1 : decode b_Model_token 1 = .ok (.iconst 0, 1) := by decide +kernel
theorem d_Model_token_2 : decode b_Model_token 2 = .ok (.bipush 10, 2) := by decide +kernel
theorem d_Model_token_4 : decode b_Model_token 4 = .ok (.invokestatic 66, 3) := by decide +kernel
theorem d_Model_token_7 : decode b_Model_token 7 = .ok (.ifCond .ne 12, 3) := by decide +kernel
theorem d_Model_token_10 : decode b_Model_token 10 = .ok (.aload_n 0, 1) := by decide +kernel
theorem d_Model_token_11 : decode b_Model_token 11 = .ok (.getfield 70, 3) := by decide +kernel
theorem d_Model_token_14 : decode b_Model_token 14 = .ok (.bipush 8, 2) := by decide +kernel
theorem d_Model_token_16 : decode b_Model_token 16 = .ok (.if_icmp .ne 5, 3) := by decide +kernel
theorem d_Model_token_19 : decode b_Model_token 19 = .ok (.iconst (-1), 1) := by decide +kernel
theorem d_Model_token_20 : decode b_Model_token 20 = .ok (.ireturn, 1) := by decide +kernel
theorem d_Model_token_21 : decode b_Model_token 21 = .ok (.aload_n 0, 1) := by decide +kernel
theorem d_Model_token_22 : decode b_Model_token 22 = .ok (.getfield 26, 3) := by decide +kernel
theorem d_Model_token_25 : decode b_Model_token 25 = .ok (.aload_n 0, 1) := by decide +kernel
theorem d_Model_token_26 : decode b_Model_token 26 = .ok (.getfield 70, 3) := by decide +kernel
theorem d_Model_token_29 : decode b_Model_token 29 = .ok (.iload_n 1, 1) := by decide +kernel
theorem d_Model_token_30 : decode b_Model_token 30 = .ok (.iastore, 1) := by decide +kernel
theorem d_Model_token_31 : decode b_Model_token 31 = .ok (.aload_n 0, 1) := by decide +kernel
theorem d_Model_token_32 : decode b_Model_token 32 = .ok (.dup, 1) := by decide +kernel
theorem d_Model_token_33 : decode b_Model_token 33 = .ok (.getfield 70, 3) := by decide +kernel
theorem d_Model_token_36 : decode b_Model_token 36 = .ok (.iconst 1, 1) := by decide +kernel
theorem d_Model_token_37 : decode b_Model_token 37 = .ok (.iadd, 1) := by decide +kernel
theorem d_Model_token_38 : decode b_Model_token 38 = .ok (.putfield 70, 3) := by decide +kernel
theorem d_Model_token_41 : decode b_Model_token 41 = .ok (.aload_n 0, 1) := by decide +kernel
theorem d_Model_token_42 : decode b_Model_token 42 = .ok (.getfield 70, 3) := by decide +kernel
theorem d_Model_token_45 : decode b_Model_token 45 = .ok (.ireturn, 1) := by decide +kernel
theorem d_Model_told_0 : decode b_Model_told 0 = .ok (.iconst 0, 1) := by decide +kernel
theorem d_Model_told_1 : decode b_Model_told 1 = .ok (.istore_n 1, 1) := by decide +kernel
theorem d_Model_told_2 : decode b_Model_told 2 = .ok (.iconst 0, 1) := by decide +kernel
theorem d_Model_told_3 : decode b_Model_told 3 = .ok (.istore_n 2, 1) := by decide +kernel
theorem d_Model_told_4 : decode b_Model_told 4 = .ok (.iload_n 2, 1) := by decide +kernel
theorem d_Model_told_5 : decode b_Model_told 5 = .ok (.aload_n 0, 1) := by decide +kernel
theorem d_Model_told_6 : decode b_Model_told 6 = .ok (.getfield 70, 3) := by decide +kernel
theorem d_Model_told_9 : decode b_Model_told 9 = .ok (.if_icmp .ge 54, 3) := by decide +kernel
theorem d_Model_told_12 : decode b_Model_told 12 = .ok (.aload_n 0, 1) := by decide +kernel
theorem d_Model_told_13 : decode b_Model_told 13 = .ok (.getfield 26, 3) := by decide +kernel
theorem d_Model_told_16 : decode b_Model_told 16 = .ok (.iload_n 2, 1) := by decide +kernel
theorem d_Model_told_17 : decode b_Model_told 17 = .ok (.iaload, 1) := by decide +kernel
theorem d_Model_told_18 : decode b_Model_told 18 = .ok (.bipush 8, 2) := by decide +kernel
theorem d_Model_told_20 : decode b_Model_told 20 = .ok (.if_icmp .ge 7, 3) := by decide +kernel
theorem d_Model_told_23 : decode b_Model_told 23 = .ok (.iconst 0, 1) := by decide +kernel
theorem d_Model_told_24 : decode b_Model_told 24 = .ok (.goto 19, 3) := by decide +kernel
theorem d_Model_told_27 : decode b_Model_told 27 = .ok (.aload_n 0, 1) := by decide +kernel
theorem d_Model_told_28 : decode b_Model_told 28 = .ok (.getfield 26, 3) := by decide +kernel
theorem d_Model_told_31 : decode b_Model_told 31 = .ok (.iload_n 2, 1) := by decide +kernel
theorem d_Model_told_32 : decode b_Model_told 32 = .ok (.iaload, 1) := by decide +kernel
theorem d_Model_told_33 : decode b_Model_told 33 = .ok (.bipush 10, 2) := by decide +kernel
theorem d_Model_told_35 : decode b_Model_told 35 = .ok (.if_icmp .ne 7, 3) := by decide +kernel
theorem d_Model_told_38 : decode b_Model_told 38 = .ok (.iconst 1, 1) := by decide +kernel
theorem d_Model_told_39 : decode b_Model_told 39 = .ok (.goto 4, 3) := by decide +kernel
theorem d_Model_told_42 : decode b_Model_told 42 = .ok (.iconst 2, 1) := by decide +kernel
theorem d_Model_told_43 : decode b_Model_told 43 = .ok (.istore_n 3, 1) := by decide +kernel
theorem d_Model_told_44 : decode b_Model_told 44 = .ok (.iload_n 1, 1) := by decide +kernel
theorem d_Model_told_45 : decode b_Model_told 45 = .ok (.iload_n 3, 1) := by decide +kernel
theorem d_Model_told_46 : decode b_Model_told 46 = .ok (.if_icmp .ge 5, 3) := by decide +kernel
theorem d_Model_told_49 : decode b_Model_told 49 = .ok (.iconst 0, 1) := by decide +kernel
theorem d_Model_told_50 : decode b_Model_told 50 = .ok (.ireturn, 1) := by decide +kernel
theorem d_Model_told_51 : decode b_Model_told 51 = .ok (.iload_n 1, 1) := by decide +kernel
theorem d_Model_told_52 : decode b_Model_told 52 = .ok (.iconst 1, 1) := by decide +kernel
theorem d_Model_told_53 : decode b_Model_told 53 = .ok (.iload_n 3, 1) := by decide +kernel
theorem d_Model_told_54 : decode b_Model_told 54 = .ok (.isub, 1) := by decide +kernel
theorem d_Model_told_55 : decode b_Model_told 55 = .ok (.iadd, 1) := by decide +kernel
theorem d_Model_told_56 : decode b_Model_told 56 = .ok (.istore_n 1, 1) := by decide +kernel
theorem d_Model_told_57 : decode b_Model_told 57 = .ok (.iinc 2 1, 3) := by decide +kernel
theorem d_Model_told_60 : decode b_Model_told 60 = .ok (.goto (-56), 3) := by decide +kernel
theorem d_Model_told_63 : decode b_Model_told 63 = .ok (.iload_n 1, 1) := by decide +kernel
theorem d_Model_told_64 : decode b_Model_told 64 = .ok (.iconst 1, 1) := by decide +kernel
theorem d_Model_told_65 : decode b_Model_told 65 = .ok (.if_icmp .ne 7, 3) := by decide +kernel
theorem d_Model_told_68 : decode b_Model_told 68 = .ok (.iconst 1, 1) := by decide +kernel
theorem d_Model_told_69 : decode b_Model_told 69 = .ok (.goto 4, 3) := by decide +kernel
theorem d_Model_told_72 : decode b_Model_told 72 = .ok (.iconst 0, 1) := by decide +kernel
theorem d_Model_told_73 : decode b_Model_told 73 = .ok (.ireturn, 1) := by decide +kernel
theorem d_Model_cell_0 : decode b_Model_cell 0 = .ok (.iload_n 1, 1) := by decide +kernel
theorem d_Model_cell_1 : decode b_Model_cell 1 = .ok (.iconst 0, 1) := by decide +kernel
theorem d_Model_cell_2 : decode b_Model_cell 2 = .ok (.iconst 5, 1) := by decide +kernel
theorem d_Model_cell_3 : decode b_Model_cell 3 = .ok (.invokestatic 66, 3) := by decide +kernel
theorem d_Model_cell_6 : decode b_Model_cell 6 = .ok (.ifCond .ne 39, 3) := by decide +kernel
theorem d_Model_cell_9 : decode b_Model_cell 9 = .ok (.iload_n 2, 1) := by decide +kernel
theorem d_Model_cell_10 : decode b_Model_cell 10 = .ok (.iconst 0, 1) := by decide +kernel
theorem d_Model_cell_11 : decode b_Model_cell 11 = .ok (.sipush 1000, 3) := by decide +kernel
theorem d_Model_cell_14 : decode b_Model_cell 14 = .ok (.invokestatic 66, 3) := by decide +kernel
theorem d_Model_cell_17 : decode b_Model_cell 17 = .ok (.ifCond .ne 28, 3) := by decide +kernel
theorem d_Model_cell_20 : decode b_Model_cell 20 = .ok (.iload_n 3, 1) := by decide +kernel
theorem d_Model_cell_21 : decode b_Model_cell 21 = .ok (.iconst 0, 1) := by decide +kernel
theorem d_Model_cell_22 : decode b_Model_cell 22 = .ok (.sipush 1000, 3) := by decide +kernel
theorem d_Model_cell_25 : decode b_Model_cell 25 = .ok (.invokestatic 66, 3) := by decide +kernel
theorem d_Model_cell_28 : decode b_Model_cell 28 = .ok (.ifCond .ne 17, 3) := by decide +kernel
theorem d_Model_cell_31 : decode b_Model_cell 31 = .ok (.iload 4, 2) := by decide +kernel
theorem d_Model_cell_33 : decode b_Model_cell 33 = .ok (.iconst 0, 1) := by decide +kernel
theorem d_Model_cell_34 : decode b_Model_cell 34 = .ok (.sipush 1000, 3) := by decide +kernel
theorem d_Model_cell_37 : decode b_Model_cell 37 = .ok (.iload_n 3, 1) := by decide +kernel
theorem d_Model_cell_38 : decode b_Model_cell 38 = .ok (.isub, 1) := by decide +kernel
theorem d_Model_cell_39 : decode b_Model_cell 39 = .ok (.invokestatic 66, 3) := by decide +kernel
theorem d_Model_cell_42 : decode b_Model_cell 42 = .ok (.ifCond .eq 5, 3) := by decide +kernel
theorem d_Model_cell_45 : decode b_Model_cell 45 = .ok (.iconst (-1), 1) := by decide +kernel
theorem d_Model_cell_46 : decode b_Model_cell 46 = .ok (.ireturn, 1) := by decide +kernel
theorem d_Model_cell_47 : decode b_Model_cell 47 = .ok (.aload_n 0, 1) := by decide +kernel
theorem d_Model_cell_48 : decode b_Model_cell 48 = .ok (.invokevirtual 74, 3) := by decide +kernel
theorem d_Model_cell_51 : decode b_Model_cell 51 = .ok (.istore 5, 2) := by decide +kernel
theorem d_Model_cell_53 : decode b_Model_cell 53 = .ok (.aload_n 0, 1) := by decide +kernel
theorem d_Model_cell_54 : decode b_Model_cell 54 = .ok (.getfield 70, 3) := by decide +kernel
theorem d_Model_cell_57 : decode b_Model_cell 57 = .ok (.istore 6, 2) := by decide +kernel
theorem d_Model_cell_59 : decode b_Model_cell 59 = .ok (.aload_n 0, 1) := by decide +kernel
theorem d_Model_cell_60 : decode b_Model_cell 60 = .ok (.iconst 0, 1) := by decide +kernel
theorem d_Model_cell_61 : decode b_Model_cell 61 = .ok (.putfield 70, 3) := by decide +kernel
theorem d_Model_cell_64 : decode b_Model_cell 64 = .ok (.iload 5, 2) := by decide +kernel
theorem d_Model_cell_66 : decode b_Model_cell 66 = .ok (.ifCond .ne 5, 3) := by decide +kernel
theorem d_Model_cell_69 : decode b_Model_cell 69 = .ok (.iconst (-1), 1) := by decide +kernel
theorem d_Model_cell_70 : decode b_Model_cell 70 = .ok (.ireturn, 1) := by decide +kernel
theorem d_Model_cell_71 : decode b_Model_cell 71 = .ok (.iconst 0, 1) := by decide +kernel
theorem d_Model_cell_72 : decode b_Model_cell 72 = .ok (.istore 7, 2) := by decide +kernel
theorem d_Model_cell_74 : decode b_Model_cell 74 = .ok (.iload 7, 2) := by decide +kernel
theorem d_Model_cell_76 : decode b_Model_cell 76 = .ok (.iload 6, 2) := by decide +kernel
theorem d_Model_cell_78 : decode b_Model_cell 78 = .ok (.if_icmp .ge 28, 3) := by decide +kernel
theorem d_Model_cell_81 : decode b_Model_cell 81 = .ok (.aload_n 0, 1) := by decide +kernel
theorem d_Model_cell_82 : decode b_Model_cell 82 = .ok (.getfield 29, 3) := by decide +kernel
theorem d_Model_cell_85 : decode b_Model_cell 85 = .ok (.bipush 8, 2) := by decide +kernel
theorem d_Model_cell_87 : decode b_Model_cell 87 = .ok (.iload_n 1, 1) := by decide +kernel
theorem d_Model_cell_88 : decode b_Model_cell 88 = .ok (.imul, 1) := by decide +kernel
theorem d_Model_cell_89 : decode b_Model_cell 89 = .ok (.iload 7, 2) := by decide +kernel
theorem d_Model_cell_91 : decode b_Model_cell 91 = .ok (.iadd, 1) := by decide +kernel
theorem d_Model_cell_92 : decode b_Model_cell 92 = .ok (.aload_n 0, 1) := by decide +kernel
theorem d_Model_cell_93 : decode b_Model_cell 93 = .ok (.getfield 26, 3) := by decide +kernel
theorem d_Model_cell_96 : decode b_Model_cell 96 = .ok (.iload 7, 2) := by decide +kernel
theorem d_Model_cell_98 : decode b_Model_cell 98 = .ok (.iaload, 1) := by decide +kernel
theorem d_Model_cell_99 : decode b_Model_cell 99 = .ok (.iastore, 1) := by decide +kernel
theorem d_Model_cell_100 : decode b_Model_cell 100 = .ok (.iinc 7 1, 3) := by decide +kernel
theorem d_Model_cell_103 : decode b_Model_cell 103 = .ok (.goto (-29), 3) := by decide +kernel
theorem d_Model_cell_106 : decode b_Model_cell 106 = .ok (.aload_n 0, 1) := by decide +kernel
theorem d_Model_cell_107 : decode b_Model_cell 107 = .ok (.getfield 32, 3) := by decide +kernel
theorem d_Model_cell_110 : decode b_Model_cell 110 = .ok (.iload_n 1, 1) := by decide +kernel
theorem d_Model_cell_111 : decode b_Model_cell 111 = .ok (.iload 6, 2) := by decide +kernel
theorem d_Model_cell_113 : decode b_Model_cell 113 = .ok (.iastore, 1) := by decide +kernel
theorem d_Model_cell_114 : decode b_Model_cell 114 = .ok (.aload_n 0, 1) := by decide +kernel
theorem d_Model_cell_115 : decode b_Model_cell 115 = .ok (.getfield 38, 3) := by decide +kernel
theorem d_Model_cell_118 : decode b_Model_cell 118 = .ok (.iload_n 1, 1) := by decide +kernel
theorem d_Model_cell_119 : decode b_Model_cell 119 = .ok (.iload_n 2, 1) := by decide +kernel
theorem d_Model_cell_120 : decode b_Model_cell 120 = .ok (.iastore, 1) := by decide +kernel
theorem d_Model_cell_121 : decode b_Model_cell 121 = .ok (.aload_n 0, 1) := by decide +kernel
theorem d_Model_cell_122 : decode b_Model_cell 122 = .ok (.getfield 41, 3) := by decide +kernel
theorem d_Model_cell_125 : decode b_Model_cell 125 = .ok (.iload_n 1, 1) := by decide +kernel
theorem d_Model_cell_126 : decode b_Model_cell 126 = .ok (.iload_n 3, 1) := by decide +kernel
theorem d_Model_cell_127 : decode b_Model_cell 127 = .ok (.iastore, 1) := by decide +kernel
theorem d_Model_cell_128 : decode b_Model_cell 128 = .ok (.aload_n 0, 1) := by decide +kernel
theorem d_Model_cell_129 : decode b_Model_cell 129 = .ok (.getfield 44, 3) := by decide +kernel
theorem d_Model_cell_132 : decode b_Model_cell 132 = .ok (.iload_n 1, 1) := by decide +kernel
theorem d_Model_cell_133 : decode b_Model_cell 133 = .ok (.iload 4, 2) := by decide +kernel
theorem d_Model_cell_135 : decode b_Model_cell 135 = .ok (.iastore, 1) := by decide +kernel
theorem d_Model_cell_136 : decode b_Model_cell 136 = .ok (.aload_n 0, 1) := by decide +kernel
theorem d_Model_cell_137 : decode b_Model_cell 137 = .ok (.getfield 35, 3) := by decide +kernel
theorem d_Model_cell_140 : decode b_Model_cell 140 = .ok (.iload_n 1, 1) := by decide +kernel
theorem d_Model_cell_141 : decode b_Model_cell 141 = .ok (.baload, 1) := by decide +kernel
theorem d_Model_cell_142 : decode b_Model_cell 142 = .ok (.ifCond .eq 7, 3) := by decide +kernel
theorem d_Model_cell_145 : decode b_Model_cell 145 = .ok (.iconst 1, 1) := by decide +kernel
theorem d_Model_cell_146 : decode b_Model_cell 146 = .ok (.goto 4, 3) := by decide +kernel
theorem d_Model_cell_149 : decode b_Model_cell 149 = .ok (.iconst 0, 1) := by decide +kernel
theorem d_Model_cell_150 : decode b_Model_cell 150 = .ok (.istore 7, 2) := by decide +kernel
theorem d_Model_cell_152 : decode b_Model_cell 152 = .ok (.aload_n 0, 1) := by decide +kernel
theorem d_Model_cell_153 : decode b_Model_cell 153 = .ok (.getfield 35, 3) := by decide +kernel
theorem d_Model_cell_156 : decode b_Model_cell 156 = .ok (.iload_n 1, 1) := by decide +kernel
theorem d_Model_cell_157 : decode b_Model_cell 157 = .ok (.iconst 1, 1) := by decide +kernel
theorem d_Model_cell_158 : decode b_Model_cell 158 = .ok (.bastore, 1) := by decide +kernel
theorem d_Model_cell_159 : decode b_Model_cell 159 = .ok (.iload 7, 2) := by decide +kernel
theorem d_Model_cell_161 : decode b_Model_cell 161 = .ok (.ireturn, 1) := by decide +kernel
theorem d_Model_undefine_0 : decode b_Model_undefine 0 = .ok (.iload_n 1, 1) := by decide +kernel
theorem d_Model_undefine_1 : decode b_Model_undefine 1 = .ok (.iconst 0, 1) := by decide +kernel
theorem d_Model_undefine_2 : decode b_Model_undefine 2 = .ok (.iconst 5, 1) := by decide +kernel
theorem d_Model_undefine_3 : decode b_Model_undefine 3 = .ok (.invokestatic 66, 3) := by decide +kernel
theorem d_Model_undefine_6 : decode b_Model_undefine 6 = .ok (.ifCond .eq 5, 3) := by decide +kernel
theorem d_Model_undefine_9 : decode b_Model_undefine 9 = .ok (.iconst (-1), 1) := by decide +kernel
theorem d_Model_undefine_10 : decode b_Model_undefine 10 = .ok (.ireturn, 1) := by decide +kernel
theorem d_Model_undefine_11 : decode b_Model_undefine 11 = .ok (.aload_n 0, 1) := by decide +kernel
theorem d_Model_undefine_12 : decode b_Model_undefine 12 = .ok (.getfield 35, 3) := by decide +kernel
theorem d_Model_undefine_15 : decode b_Model_undefine 15 = .ok (.iload_n 1, 1) := by decide +kernel
theorem d_Model_undefine_16 : decode b_Model_undefine 16 = .ok (.baload, 1) := by decide +kernel
theorem d_Model_undefine_17 : decode b_Model_undefine 17 = .ok (.ifCond .eq 7, 3) := by decide +kernel
theorem d_Model_undefine_20 : decode b_Model_undefine 20 = .ok (.iconst 1, 1) := by decide +kernel
theorem d_Model_undefine_21 : decode b_Model_undefine 21 = .ok (.goto 4, 3) := by decide +kernel
theorem d_Model_undefine_24 : decode b_Model_undefine 24 = .ok (.iconst 0, 1) := by decide +kernel
theorem d_Model_undefine_25 : decode b_Model_undefine 25 = .ok (.istore_n 2, 1) := by decide +kernel
theorem d_Model_undefine_26 : decode b_Model_undefine 26 = .ok (.aload_n 0, 1) := by decide +kernel
theorem d_Model_undefine_27 : decode b_Model_undefine 27 = .ok (.getfield 35, 3) := by decide +kernel
theorem d_Model_undefine_30 : decode b_Model_undefine 30 = .ok (.iload_n 1, 1) := by decide +kernel
theorem d_Model_undefine_31 : decode b_Model_undefine 31 = .ok (.iconst 0, 1) := by decide +kernel
theorem d_Model_undefine_32 : decode b_Model_undefine 32 = .ok (.bastore, 1) := by decide +kernel
theorem d_Model_undefine_33 : decode b_Model_undefine 33 = .ok (.iload_n 2, 1) := by decide +kernel
theorem d_Model_undefine_34 : decode b_Model_undefine 34 = .ok (.ireturn, 1) := by decide +kernel
theorem d_Model_source_0 : decode b_Model_source 0 = .ok (.iload_n 1, 1) := by decide +kernel
theorem d_Model_source_1 : decode b_Model_source 1 = .ok (.sipush (-300), 3) := by decide +kernel
theorem d_Model_source_4 : decode b_Model_source 4 = .ok (.sipush 300, 3) := by decide +kernel
theorem d_Model_source_7 : decode b_Model_source 7 = .ok (.invokestatic 66, 3) := by decide +kernel
theorem d_Model_source_10 : decode b_Model_source 10 = .ok (.ifCond .ne 16, 3) := by decide +kernel
theorem d_Model_source_13 : decode b_Model_source 13 = .ok (.iload_n 2, 1) := by decide +kernel
theorem d_Model_source_14 : decode b_Model_source 14 = .ok (.sipush (-300), 3) := by decide +kernel
theorem d_Model_source_17 : decode b_Model_source 17 = .ok (.sipush 300, 3) := by decide +kernel
theorem d_Model_source_20 : decode b_Model_source 20 = .ok (.invokestatic 66, 3) := by decide +kernel
theorem d_Model_source_23 : decode b_Model_source 23 = .ok (.ifCond .eq 5, 3) := by decide +kernel
theorem d_Model_source_26 : decode b_Model_source 26 = .ok (.iconst (-1), 1) := by decide +kernel
theorem d_Model_source_27 : decode b_Model_source 27 = .ok (.ireturn, 1) := by decide +kernel
theorem d_Model_source_28 : decode b_Model_source 28 = .ok (.aload_n 0, 1) := by decide +kernel
theorem d_Model_source_29 : decode b_Model_source 29 = .ok (.iload_n 1, 1) := by decide +kernel
theorem d_Model_source_30 : decode b_Model_source 30 = .ok (.putfield 78, 3) := by decide +kernel
theorem d_Model_source_33 : decode b_Model_source 33 = .ok (.aload_n 0, 1) := by decide +kernel
theorem d_Model_source_34 : decode b_Model_source 34 = .ok (.iload_n 2, 1) := by decide +kernel
theorem d_Model_source_35 : decode b_Model_source 35 = .ok (.putfield 81, 3) := by decide +kernel
theorem d_Model_source_38 : decode b_Model_source 38 = .ok (.iconst 0, 1) := by decide +kernel
theorem d_Model_source_39 : decode b_Model_source 39 = .ok (.ireturn, 1) := by decide +kernel
theorem d_Model_seed_0 : decode b_Model_seed 0 = .ok (.aload_n 0, 1) := by decide +kernel
theorem d_Model_seed_1 : decode b_Model_seed 1 = .ok (.iload_n 1, 1) := by decide +kernel
theorem d_Model_seed_2 : decode b_Model_seed 2 = .ok (.ifCond .ge 12, 3) := by decide +kernel
theorem d_Model_seed_5 : decode b_Model_seed 5 = .ok (.iload_n 1, 1) := by decide +kernel
theorem d_Model_seed_6 : decode b_Model_seed 6 = .ok (.i2l, 1) := by decide +kernel
theorem d_Model_seed_7 : decode b_Model_seed 7 = .ok (.ldc2_w 84, 3) := by decide +kernel
theorem d_Model_seed_10 : decode b_Model_seed 10 = .ok (.ladd, 1) := by decide +kernel
theorem d_Model_seed_11 : decode b_Model_seed 11 = .ok (.goto 5, 3) := by decide +kernel
theorem d_Model_seed_14 : decode b_Model_seed 14 = .ok (.iload_n 1, 1) := by decide +kernel
theorem d_Model_seed_15 : decode b_Model_seed 15 = .ok (.i2l, 1) := by decide +kernel
theorem d_Model_seed_16 : decode b_Model_seed 16 = .ok (.putfield 47, 3) := by decide +kernel
theorem d_Model_seed_19 : decode b_Model_seed 19 = .ok (.return_, 1) := by decide +kernel
theorem d_Model_draw_0 : decode b_Model_draw 0 = .ok (.aload_n 0, 1) := by decide +kernel
theorem d_Model_draw_1 : decode b_Model_draw 1 = .ok (.aload_n 0, 1) := by decide +kernel
theorem d_Model_draw_2 : decode b_Model_draw 2 = .ok (.getfield 47, 3) := by decide +kernel
theorem d_Model_draw_5 : decode b_Model_draw 5 = .ok (.ldc2_w 86, 3) := by decide +kernel
theorem d_Model_draw_8 : decode b_Model_draw 8 = .ok (.lmul, 1) := by decide +kernel
theorem d_Model_draw_9 : decode b_Model_draw 9 = .ok (.ldc2_w 88, 3) := by decide +kernel
theorem d_Model_draw_12 : decode b_Model_draw 12 = .ok (.ladd, 1) := by decide +kernel
theorem d_Model_draw_13 : decode b_Model_draw 13 = .ok (.ldc2_w 84, 3) := by decide +kernel
theorem d_Model_draw_16 : decode b_Model_draw 16 = .ok (.lrem, 1) := by decide +kernel
theorem d_Model_draw_17 : decode b_Model_draw 17 = .ok (.putfield 47, 3) := by decide +kernel
theorem d_Model_draw_20 : decode b_Model_draw 20 = .ok (.aload_n 0, 1) := by decide +kernel
theorem d_Model_draw_21 : decode b_Model_draw 21 = .ok (.getfield 47, 3) := by decide +kernel
theorem d_Model_draw_24 : decode b_Model_draw 24 = .ok (.ldc2_w 90, 3) := by decide +kernel
theorem d_Model_draw_27 : decode b_Model_draw 27 = .ok (.ldiv, 1) := by decide +kernel
theorem d_Model_draw_28 : decode b_Model_draw 28 = .ok (.iload_n 1, 1) := by decide +kernel
theorem d_Model_draw_29 : decode b_Model_draw 29 = .ok (.i2l, 1) := by decide +kernel
theorem d_Model_draw_30 : decode b_Model_draw 30 = .ok (.lrem, 1) := by decide +kernel
theorem d_Model_draw_31 : decode b_Model_draw 31 = .ok (.l2i, 1) := by decide +kernel
theorem d_Model_draw_32 : decode b_Model_draw 32 = .ok (.ireturn, 1) := by decide +kernel
theorem d_Model_skip_0 : decode b_Model_skip 0 = .ok (.iload_n 1, 1) := by decide +kernel
theorem d_Model_skip_1 : decode b_Model_skip 1 = .ok (.iconst 0, 1) := by decide +kernel
theorem d_Model_skip_2 : decode b_Model_skip 2 = .ok (.ldc 92, 2) := by decide +kernel
theorem d_Model_skip_4 : decode b_Model_skip 4 = .ok (.invokestatic 66, 3) := by decide +kernel
theorem d_Model_skip_7 : decode b_Model_skip 7 = .ok (.ifCond .eq 5, 3) := by decide +kernel
theorem d_Model_skip_10 : decode b_Model_skip 10 = .ok (.iconst (-1), 1) := by decide +kernel
theorem d_Model_skip_11 : decode b_Model_skip 11 = .ok (.ireturn, 1) := by decide +kernel
theorem d_Model_skip_12 : decode b_Model_skip 12 = .ok (.iconst 0, 1) := by decide +kernel
theorem d_Model_skip_13 : decode b_Model_skip 13 = .ok (.istore_n 2, 1) := by decide +kernel
theorem d_Model_skip_14 : decode b_Model_skip 14 = .ok (.iconst 0, 1) := by decide +kernel
theorem d_Model_skip_15 : decode b_Model_skip 15 = .ok (.istore_n 3, 1) := by decide +kernel
theorem d_Model_skip_16 : decode b_Model_skip 16 = .ok (.iload_n 3, 1) := by decide +kernel
theorem d_Model_skip_17 : decode b_Model_skip 17 = .ok (.iload_n 1, 1) := by decide +kernel
theorem d_Model_skip_18 : decode b_Model_skip 18 = .ok (.if_icmp .ge 15, 3) := by decide +kernel
theorem d_Model_skip_21 : decode b_Model_skip 21 = .ok (.aload_n 0, 1) := by decide +kernel
theorem d_Model_skip_22 : decode b_Model_skip 22 = .ok (.iconst 2, 1) := by decide +kernel
theorem d_Model_skip_23 : decode b_Model_skip 23 = .ok (.invokevirtual 93, 3) := by decide +kernel
theorem d_Model_skip_26 : decode b_Model_skip 26 = .ok (.istore_n 2, 1) := by decide +kernel
theorem d_Model_skip_27 : decode b_Model_skip 27 = .ok (.iinc 3 1, 3) := by decide +kernel
theorem d_Model_skip_30 : decode b_Model_skip 30 = .ok (.goto (-14), 3) := by decide +kernel
theorem d_Model_skip_33 : decode b_Model_skip 33 = .ok (.iload_n 2, 1) := by decide +kernel
theorem d_Model_skip_34 : decode b_Model_skip 34 = .ok (.ifCond .ge 7, 3) := by decide +kernel
theorem d_Model_skip_37 : decode b_Model_skip 37 = .ok (.iconst (-1), 1) := by decide +kernel
theorem d_Model_skip_38 : decode b_Model_skip 38 = .ok (.goto 8, 3) := by decide +kernel
theorem d_Model_skip_41 : decode b_Model_skip 41 = .ok (.aload_n 0, 1) := by decide +kernel
theorem d_Model_skip_42 : decode b_Model_skip 42 = .ok (.getfield 47, 3) := by decide +kernel
theorem d_Model_skip_45 : decode b_Model_skip 45 = .ok (.l2i, 1) := by decide +kernel
theorem d_Model_skip_46 : decode b_Model_skip 46 = .ok (.ireturn, 1) := by decide +kernel
theorem d_Model_state_0 : decode b_Model_state 0 = .ok (.aload_n 0, 1) := by decide +kernel
theorem d_Model_state_1 : decode b_Model_state 1 = .ok (.getfield 47, 3) := by decide +kernel
theorem d_Model_state_4 : decode b_Model_state 4 = .ok (.l2i, 1) := by decide +kernel
theorem d_Model_state_5 : decode b_Model_state 5 = .ok (.ireturn, 1) := by decide +kernel
theorem d_Model_holds_0 : decode b_Model_holds 0 = .ok (.aload_n 0, 1) := by decide +kernel
theorem d_Model_holds_1 : decode b_Model_holds 1 = .ok (.getfield 22, 3) := by decide +kernel
theorem d_Model_holds_4 : decode b_Model_holds 4 = .ok (.iload_n 1, 1) := by decide +kernel
theorem d_Model_holds_5 : decode b_Model_holds 5 = .ok (.baload, 1) := by decide +kernel
theorem d_Model_holds_6 : decode b_Model_holds 6 = .ok (.ifCond .ne 5, 3) := by decide +kernel
theorem d_Model_holds_9 : decode b_Model_holds 9 = .ok (.iconst 0, 1) := by decide +kernel
theorem d_Model_holds_10 : decode b_Model_holds 10 = .ok (.ireturn, 1) := by decide +kernel
theorem d_Model_holds_11 : decode b_Model_holds 11 = .ok (.aload_n 0, 1) := by decide +kernel
theorem d_Model_holds_12 : decode b_Model_holds 12 = .ok (.getfield 7, 3) := by decide +kernel
theorem d_Model_holds_15 : decode b_Model_holds 15 = .ok (.iload_n 1, 1) := by decide +kernel
theorem d_Model_holds_16 : decode b_Model_holds 16 = .ok (.iaload, 1) := by decide +kernel
theorem d_Model_holds_17 : decode b_Model_holds 17 = .ok (.ifCond .ne 35, 3) := by decide +kernel
theorem d_Model_holds_20 : decode b_Model_holds 20 = .ok (.aload_n 0, 1) := by decide +kernel
theorem d_Model_holds_21 : decode b_Model_holds 21 = .ok (.getfield 13, 3) := by decide +kernel
theorem d_Model_holds_24 : decode b_Model_holds 24 = .ok (.iload_n 1, 1) := by decide +kernel
theorem d_Model_holds_25 : decode b_Model_holds 25 = .ok (.iaload, 1) := by decide +kernel
theorem d_Model_holds_26 : decode b_Model_holds 26 = .ok (.iload_n 2, 1) := by decide +kernel
theorem d_Model_holds_27 : decode b_Model_holds 27 = .ok (.imul, 1) := by decide +kernel
theorem d_Model_holds_28 : decode b_Model_holds 28 = .ok (.aload_n 0, 1) := by decide +kernel
theorem d_Model_holds_29 : decode b_Model_holds 29 = .ok (.getfield 16, 3) := by decide +kernel
theorem d_Model_holds_32 : decode b_Model_holds 32 = .ok (.iload_n 1, 1) := by decide +kernel
theorem d_Model_holds_33 : decode b_Model_holds 33 = .ok (.iaload, 1) := by decide +kernel
theorem d_Model_holds_34 : decode b_Model_holds 34 = .ok (.iload_n 3, 1) := by decide +kernel
theorem d_Model_holds_35 : decode b_Model_holds 35 = .ok (.imul, 1) := by decide +kernel
theorem d_Model_holds_36 : decode b_Model_holds 36 = .ok (.iadd, 1) := by decide +kernel
theorem d_Model_holds_37 : decode b_Model_holds 37 = .ok (.aload_n 0, 1) := by decide +kernel
theorem d_Model_holds_38 : decode b_Model_holds 38 = .ok (.getfield 19, 3) := by decide +kernel
theorem d_Model_holds_41 : decode b_Model_holds 41 = .ok (.iload_n 1, 1) := by decide +kernel
theorem d_Model_holds_42 : decode b_Model_holds 42 = .ok (.iaload, 1) := by decide +kernel
theorem d_Model_holds_43 : decode b_Model_holds 43 = .ok (.if_icmp .gt 7, 3) := by decide +kernel
theorem d_Model_holds_46 : decode b_Model_holds 46 = .ok (.iconst 1, 1) := by decide +kernel
theorem d_Model_holds_47 : decode b_Model_holds 47 = .ok (.goto 4, 3) := by decide +kernel
theorem d_Model_holds_50 : decode b_Model_holds 50 = .ok (.iconst 0, 1) := by decide +kernel
theorem d_Model_holds_51 : decode b_Model_holds 51 = .ok (.ireturn, 1) := by decide +kernel
theorem d_Model_holds_52 : decode b_Model_holds 52 = .ok (.iload_n 2, 1) := by decide +kernel
theorem d_Model_holds_53 : decode b_Model_holds 53 = .ok (.aload_n 0, 1) := by decide +kernel
theorem d_Model_holds_54 : decode b_Model_holds 54 = .ok (.getfield 13, 3) := by decide +kernel
theorem d_Model_holds_57 : decode b_Model_holds 57 = .ok (.iload_n 1, 1) := by decide +kernel
theorem d_Model_holds_58 : decode b_Model_holds 58 = .ok (.iaload, 1) := by decide +kernel
theorem d_Model_holds_59 : decode b_Model_holds 59 = .ok (.isub, 1) := by decide +kernel
theorem d_Model_holds_60 : decode b_Model_holds 60 = .ok (.istore 4, 2) := by decide +kernel
theorem d_Model_holds_62 : decode b_Model_holds 62 = .ok (.iload_n 3, 1) := by decide +kernel
theorem d_Model_holds_63 : decode b_Model_holds 63 = .ok (.aload_n 0, 1) := by decide +kernel
theorem d_Model_holds_64 : decode b_Model_holds 64 = .ok (.getfield 16, 3) := by decide +kernel
theorem d_Model_holds_67 : decode b_Model_holds 67 = .ok (.iload_n 1, 1) := by decide +kernel
theorem d_Model_holds_68 : decode b_Model_holds 68 = .ok (.iaload, 1) := by decide +kernel
theorem d_Model_holds_69 : decode b_Model_holds 69 = .ok (.isub, 1) := by decide +kernel
theorem d_Model_holds_70 : decode b_Model_holds 70 = .ok (.istore 5, 2) := by decide +kernel
theorem d_Model_holds_72 : decode b_Model_holds 72 = .ok (.iload 4, 2) := by decide +kernel
theorem d_Model_holds_74 : decode b_Model_holds 74 = .ok (.iload 4, 2) := by decide +kernel
theorem d_Model_holds_76 : decode b_Model_holds 76 = .ok (.imul, 1) := by decide +kernel
theorem d_Model_holds_77 : decode b_Model_holds 77 = .ok (.iload 5, 2) := by decide +kernel
theorem d_Model_holds_79 : decode b_Model_holds 79 = .ok (.iload 5, 2) := by decide +kernel
theorem d_Model_holds_81 : decode b_Model_holds 81 = .ok (.imul, 1) := by decide +kernel
theorem d_Model_holds_82 : decode b_Model_holds 82 = .ok (.iadd, 1) := by decide +kernel
theorem d_Model_holds_83 : decode b_Model_holds 83 = .ok (.aload_n 0, 1) := by decide +kernel
theorem d_Model_holds_84 : decode b_Model_holds 84 = .ok (.getfield 19, 3) := by decide +kernel
theorem d_Model_holds_87 : decode b_Model_holds 87 = .ok (.iload_n 1, 1) := by decide +kernel
theorem d_Model_holds_88 : decode b_Model_holds 88 = .ok (.iaload, 1) := by decide +kernel
theorem d_Model_holds_89 : decode b_Model_holds 89 = .ok (.aload_n 0, 1) := by decide +kernel
theorem d_Model_holds_90 : decode b_Model_holds 90 = .ok (.getfield 19, 3) := by decide +kernel
theorem d_Model_holds_93 : decode b_Model_holds 93 = .ok (.iload_n 1, 1) := by decide +kernel
theorem d_Model_holds_94 : decode b_Model_holds 94 = .ok (.iaload, 1) := by decide +kernel
theorem d_Model_holds_95 : decode b_Model_holds 95 = .ok (.imul, 1) := by decide +kernel
theorem d_Model_holds_96 : decode b_Model_holds 96 = .ok (.if_icmp .gt 7, 3) := by decide +kernel
theorem d_Model_holds_99 : decode b_Model_holds 99 = .ok (.iconst 1, 1) := by decide +kernel
theorem d_Model_holds_100 : decode b_Model_holds 100 = .ok (.goto 4, 3) := by decide +kernel
theorem d_Model_holds_103 : decode b_Model_holds 103 = .ok (.iconst 0, 1) := by decide +kernel
theorem d_Model_holds_104 : decode b_Model_holds 104 = .ok (.ireturn, 1) := by decide +kernel
theorem d_Model_inside_0 : decode b_Model_inside 0 = .ok (.iconst 0, 1) := by decide +kernel
theorem d_Model_inside_1 : decode b_Model_inside 1 = .ok (.istore 4, 2) := by decide +kernel
theorem d_Model_inside_3 : decode b_Model_inside 3 = .ok (.bipush 8, 2) := by decide +kernel
theorem d_Model_inside_5 : decode b_Model_inside 5 = .ok (.iload_n 1, 1) := by decide +kernel
theorem d_Model_inside_6 : decode b_Model_inside 6 = .ok (.imul, 1) := by decide +kernel
theorem d_Model_inside_7 : decode b_Model_inside 7 = .ok (.istore 5, 2) := by decide +kernel
theorem d_Model_inside_9 : decode b_Model_inside 9 = .ok (.iload 5, 2) := by decide +kernel
theorem d_Model_inside_11 : decode b_Model_inside 11 = .ok (.bipush 8, 2) := by decide +kernel
theorem d_Model_inside_13 : decode b_Model_inside 13 = .ok (.iload_n 1, 1) := by decide +kernel
theorem d_Model_inside_14 : decode b_Model_inside 14 = .ok (.imul, 1) := by decide +kernel
theorem d_Model_inside_15 : decode b_Model_inside 15 = .ok (.aload_n 0, 1) := by decide +kernel
theorem d_Model_inside_16 : decode b_Model_inside 16 = .ok (.getfield 32, 3) := by decide +kernel
theorem d_Model_inside_19 : decode b_Model_inside 19 = .ok (.iload_n 1, 1) := by decide +kernel
theorem d_Model_inside_20 : decode b_Model_inside 20 = .ok (.iaload, 1) := by decide +kernel
theorem d_Model_inside_21 : decode b_Model_inside 21 = .ok (.iadd, 1) := by decide +kernel
theorem d_Model_inside_22 : decode b_Model_inside 22 = .ok (.if_icmp .ge 110, 3) := by decide +kernel
theorem d_Model_inside_25 : decode b_Model_inside 25 = .ok (.aload_n 0, 1) := by decide +kernel
theorem d_Model_inside_26 : decode b_Model_inside 26 = .ok (.getfield 29, 3) := by decide +kernel
theorem d_Model_inside_29 : decode b_Model_inside 29 = .ok (.iload 5, 2) := by decide +kernel
theorem d_Model_inside_31 : decode b_Model_inside 31 = .ok (.iaload, 1) := by decide +kernel
theorem d_Model_inside_32 : decode b_Model_inside 32 = .ok (.istore 6, 2) := by decide +kernel
theorem d_Model_inside_34 : decode b_Model_inside 34 = .ok (.iload 6, 2) := by decide +kernel
theorem d_Model_inside_36 : decode b_Model_inside 36 = .ok (.bipush 8, 2) := by decide +kernel
theorem d_Model_inside_38 : decode b_Model_inside 38 = .ok (.if_icmp .ge 29, 3) := by decide +kernel
theorem d_Model_inside_41 : decode b_Model_inside 41 = .ok (.iload 4, 2) := by decide +kernel
theorem d_Model_inside_43 : decode b_Model_inside 43 = .ok (.iconst 2, 1) := by decide +kernel
theorem d_Model_inside_44 : decode b_Model_inside 44 = .ok (.imul, 1) := by decide +kernel
theorem d_Model_inside_45 : decode b_Model_inside 45 = .ok (.aload_n 0, 1) := by decide +kernel
theorem d_Model_inside_46 : decode b_Model_inside 46 = .ok (.iload 6, 2) := by decide +kernel
theorem d_Model_inside_48 : decode b_Model_inside 48 = .ok (.iload_n 2, 1) := by decide +kernel
theorem d_Model_inside_49 : decode b_Model_inside 49 = .ok (.iload_n 3, 1) := by decide +kernel
theorem d_Model_inside_50 : decode b_Model_inside 50 = .ok (.invokevirtual 97, 3) := by decide +kernel
theorem d_Model_inside_53 : decode b_Model_inside 53 = .ok (.ifCond .eq 7, 3) := by decide +kernel
theorem d_Model_inside_56 : decode b_Model_inside 56 = .ok (.iconst 1, 1) := by decide +kernel
theorem d_Model_inside_57 : decode b_Model_inside 57 = .ok (.goto 4, 3) := by decide +kernel
theorem d_Model_inside_60 : decode b_Model_inside 60 = .ok (.iconst 0, 1) := by decide +kernel
theorem d_Model_inside_61 : decode b_Model_inside 61 = .ok (.iadd, 1) := by decide +kernel
theorem d_Model_inside_62 : decode b_Model_inside 62 = .ok (.istore 4, 2) := by decide +kernel
theorem d_Model_inside_64 : decode b_Model_inside 64 = .ok (.goto 62, 3) := by decide +kernel
theorem d_Model_inside_67 : decode b_Model_inside 67 = .ok (.iload 6, 2) := by decide +kernel
theorem d_Model_inside_69 : decode b_Model_inside 69 = .ok (.bipush 10, 2) := by decide +kernel
theorem d_Model_inside_71 : decode b_Model_inside 71 = .ok (.if_icmp .ne 12, 3) := by decide +kernel
theorem d_Model_inside_74 : decode b_Model_inside 74 = .ok (.iload 4, 2) := by decide +kernel
theorem d_Model_inside_76 : decode b_Model_inside 76 = .ok (.iconst 1, 1) := by decide +kernel
theorem d_Model_inside_77 : decode b_Model_inside 77 = .ok (.ixor, 1) := by decide +kernel
theorem d_Model_inside_78 : decode b_Model_inside 78 = .ok (.istore 4, 2) := by decide +kernel
theorem d_Model_inside_80 : decode b_Model_inside 80 = .ok (.goto 46, 3) := by decide +kernel
theorem d_Model_inside_83 : decode b_Model_inside 83 = .ok (.iload 4, 2) := by decide +kernel
theorem d_Model_inside_85 : decode b_Model_inside 85 = .ok (.iconst 1, 1) := by decide +kernel
theorem d_Model_inside_86 : decode b_Model_inside 86 = .ok (.iand, 1) := by decide +kernel
theorem d_Model_inside_87 : decode b_Model_inside 87 = .ok (.istore 7, 2) := by decide +kernel
theorem d_Model_inside_89 : decode b_Model_inside 89 = .ok (.iload 4, 2) := by decide +kernel
theorem d_Model_inside_91 : decode b_Model_inside 91 = .ok (.iconst 1, 1) := by decide +kernel
theorem d_Model_inside_92 : decode b_Model_inside 92 = .ok (.ishr, 1) := by decide +kernel
theorem d_Model_inside_93 : decode b_Model_inside 93 = .ok (.iconst 1, 1) := by decide +kernel
theorem d_Model_inside_94 : decode b_Model_inside 94 = .ok (.iand, 1) := by decide +kernel
theorem d_Model_inside_95 : decode b_Model_inside 95 = .ok (.istore 8, 2) := by decide +kernel
theorem d_Model_inside_97 : decode b_Model_inside 97 = .ok (.iload 4, 2) := by decide +kernel
theorem d_Model_inside_99 : decode b_Model_inside 99 = .ok (.iconst 2, 1) := by decide +kernel
theorem d_Model_inside_100 : decode b_Model_inside 100 = .ok (.ishr, 1) := by decide +kernel
theorem d_Model_inside_101 : decode b_Model_inside 101 = .ok (.iconst 1, 1) := by decide +kernel
theorem d_Model_inside_102 : decode b_Model_inside 102 = .ok (.ishl, 1) := by decide +kernel
theorem d_Model_inside_103 : decode b_Model_inside 103 = .ok (.iload 6, 2) := by decide +kernel
theorem d_Model_inside_105 : decode b_Model_inside 105 = .ok (.bipush 8, 2) := by decide +kernel
theorem d_Model_inside_107 : decode b_Model_inside 107 = .ok (.if_icmp .ne 11, 3) := by decide +kernel
theorem d_Model_inside_110 : decode b_Model_inside 110 = .ok (.iload 7, 2) := by decide +kernel
theorem d_Model_inside_112 : decode b_Model_inside 112 = .ok (.iload 8, 2) := by decide +kernel
theorem d_Model_inside_114 : decode b_Model_inside 114 = .ok (.iand, 1) := by decide +kernel
theorem d_Model_inside_115 : decode b_Model_inside 115 = .ok (.goto 8, 3) := by decide +kernel
theorem d_Model_inside_118 : decode b_Model_inside 118 = .ok (.iload 7, 2) := by decide +kernel
theorem d_Model_inside_120 : decode b_Model_inside 120 = .ok (.iload 8, 2) := by decide +kernel
theorem d_Model_inside_122 : decode b_Model_inside 122 = .ok (.ior, 1) := by decide +kernel
theorem d_Model_inside_123 : decode b_Model_inside 123 = .ok (.ior, 1) := by decide +kernel
theorem d_Model_inside_124 : decode b_Model_inside 124 = .ok (.istore 4, 2) := by decide +kernel
theorem d_Model_inside_126 : decode b_Model_inside 126 = .ok (.iinc 5 1, 3) := by decide +kernel
theorem d_Model_inside_129 : decode b_Model_inside 129 = .ok (.goto (-120), 3) := by decide +kernel
theorem d_Model_inside_132 : decode b_Model_inside 132 = .ok (.iload 4, 2) := by decide +kernel
theorem d_Model_inside_134 : decode b_Model_inside 134 = .ok (.iconst 1, 1) := by decide +kernel
theorem d_Model_inside_135 : decode b_Model_inside 135 = .ok (.if_icmp .ne 7, 3) := by decide +kernel
theorem d_Model_inside_138 : decode b_Model_inside 138 = .ok (.iconst 1, 1) := by decide +kernel
theorem d_Model_inside_139 : decode b_Model_inside 139 = .ok (.goto 4, 3) := by decide +kernel
theorem d_Model_inside_142 : decode b_Model_inside 142 = .ok (.iconst 0, 1) := by decide +kernel
theorem d_Model_inside_143 : decode b_Model_inside 143 = .ok (.ireturn, 1) := by decide +kernel
theorem d_Model_at_0 : decode b_Model_at 0 = .ok (.iconst 0, 1) := by decide +kernel
theorem d_Model_at_1 : decode b_Model_at 1 = .ok (.istore_n 3, 1) := by decide +kernel
theorem d_Model_at_2 : decode b_Model_at 2 = .ok (.iload_n 3, 1) := by decide +kernel
theorem d_Model_at_3 : decode b_Model_at 3 = .ok (.bipush 6, 2) := by decide +kernel
theorem d_Model_at_5 : decode b_Model_at 5 = .ok (.if_icmp .ge 30, 3) := by decide +kernel
theorem d_Model_at_8 : decode b_Model_at 8 = .ok (.aload_n 0, 1) := by decide +kernel
theorem d_Model_at_9 : decode b_Model_at 9 = .ok (.getfield 35, 3) := by decide +kernel
theorem d_Model_at_12 : decode b_Model_at 12 = .ok (.iload_n 3, 1) := by decide +kernel
theorem d_Model_at_13 : decode b_Model_at 13 = .ok (.baload, 1) := by decide +kernel
theorem d_Model_at_14 : decode b_Model_at 14 = .ok (.ifCond .eq 15, 3) := by decide +kernel
theorem d_Model_at_17 : decode b_Model_at 17 = .ok (.aload_n 0, 1) := by decide +kernel
theorem d_Model_at_18 : decode b_Model_at 18 = .ok (.iload_n 3, 1) := by decide +kernel
theorem d_Model_at_19 : decode b_Model_at 19 = .ok (.iload_n 1, 1) := by decide +kernel
theorem d_Model_at_20 : decode b_Model_at 20 = .ok (.iload_n 2, 1) := by decide +kernel
theorem d_Model_at_21 : decode b_Model_at 21 = .ok (.invokevirtual 100, 3) := by decide +kernel
theorem d_Model_at_24 : decode b_Model_at 24 = .ok (.ifCond .eq 5, 3) := by decide +kernel
theorem d_Model_at_27 : decode b_Model_at 27 = .ok (.iload_n 3, 1) := by decide +kernel
theorem d_Model_at_28 : decode b_Model_at 28 = .ok (.ireturn, 1) := by decide +kernel
theorem d_Model_at_29 : decode b_Model_at 29 = .ok (.iinc 3 1, 3) := by decide +kernel
theorem d_Model_at_32 : decode b_Model_at 32 = .ok (.goto (-30), 3) := by decide +kernel
theorem d_Model_at_35 : decode b_Model_at 35 = .ok (.bipush 6, 2) := by decide +kernel
theorem d_Model_at_37 : decode b_Model_at 37 = .ok (.ireturn, 1) := by decide +kernel
theorem d_Model_stepX_0 : decode b_Model_stepX 0 = .ok (.iload_n 0, 1) := by decide +kernel
theorem d_Model_stepX_1 : decode b_Model_stepX 1 = .ok (.ifCond .eq 14, 3) := by decide +kernel
theorem d_Model_stepX_4 : decode b_Model_stepX 4 = .ok (.iload_n 0, 1) := by decide +kernel
theorem d_Model_stepX_5 : decode b_Model_stepX 5 = .ok (.iconst 1, 1) := by decide +kernel
theorem d_Model_stepX_6 : decode b_Model_stepX 6 = .ok (.if_icmp .eq 9, 3) := by decide +kernel
theorem d_Model_stepX_9 : decode b_Model_stepX 9 = .ok (.iload_n 0, 1) := by decide +kernel
theorem d_Model_stepX_10 : decode b_Model_stepX 10 = .ok (.bipush 7, 2) := by decide +kernel
theorem d_Model_stepX_12 : decode b_Model_stepX 12 = .ok (.if_icmp .ne 7, 3) := by decide +kernel
theorem d_Model_stepX_15 : decode b_Model_stepX 15 = .ok (.iconst 1, 1) := by decide +kernel
theorem d_Model_stepX_16 : decode b_Model_stepX 16 = .ok (.goto 19, 3) := by decide +kernel
theorem d_Model_stepX_19 : decode b_Model_stepX 19 = .ok (.iload_n 0, 1) := by decide +kernel
theorem d_Model_stepX_20 : decode b_Model_stepX 20 = .ok (.iconst 2, 1) := by decide +kernel
theorem d_Model_stepX_21 : decode b_Model_stepX 21 = .ok (.if_icmp .eq 9, 3) := by decide +kernel
theorem d_Model_stepX_24 : decode b_Model_stepX 24 = .ok (.iload_n 0, 1) := by decide +kernel
theorem d_Model_stepX_25 : decode b_Model_stepX 25 = .ok (.bipush 6, 2) := by decide +kernel
theorem d_Model_stepX_27 : decode b_Model_stepX 27 = .ok (.if_icmp .ne 7, 3) := by decide +kernel
theorem d_Model_stepX_30 : decode b_Model_stepX 30 = .ok (.iconst 0, 1) := by decide +kernel
theorem d_Model_stepX_31 : decode b_Model_stepX 31 = .ok (.goto 4, 3) := by decide +kernel
theorem d_Model_stepX_34 : decode b_Model_stepX 34 = .ok (.iconst (-1), 1) := by decide +kernel
theorem d_Model_stepX_35 : decode b_Model_stepX 35 = .ok (.ireturn, 1) := by decide +kernel
theorem d_Model_stepY_0 : decode b_Model_stepY 0 = .ok (.iload_n 0, 1) := by decide +kernel
theorem d_Model_stepY_1 : decode b_Model_stepY 1 = .ok (.ifCond .eq 8, 3) := by decide +kernel
theorem d_Model_stepY_4 : decode b_Model_stepY 4 = .ok (.iload_n 0, 1) := by decide +kernel
theorem d_Model_stepY_5 : decode b_Model_stepY 5 = .ok (.iconst 4, 1) := by decide +kernel
theorem d_Model_stepY_6 : decode b_Model_stepY 6 = .ok (.if_icmp .ne 7, 3) := by decide +kernel
theorem d_Model_stepY_9 : decode b_Model_stepY 9 = .ok (.iconst 0, 1) := by decide +kernel
theorem d_Model_stepY_10 : decode b_Model_stepY 10 = .ok (.goto 13, 3) := by decide +kernel
theorem d_Model_stepY_13 : decode b_Model_stepY 13 = .ok (.iload_n 0, 1) := by decide +kernel
theorem d_Model_stepY_14 : decode b_Model_stepY 14 = .ok (.iconst 4, 1) := by decide +kernel
theorem d_Model_stepY_15 : decode b_Model_stepY 15 = .ok (.if_icmp .ge 7, 3) := by decide +kernel
theorem d_Model_stepY_18 : decode b_Model_stepY 18 = .ok (.iconst 1, 1) := by decide +kernel
theorem d_Model_stepY_19 : decode b_Model_stepY 19 = .ok (.goto 4, 3) := by decide +kernel
theorem d_Model_stepY_22 : decode b_Model_stepY 22 = .ok (.iconst (-1), 1) := by decide +kernel
theorem d_Model_stepY_23 : decode b_Model_stepY 23 = .ok (.ireturn, 1) := by decide +kernel
theorem d_Model_where_0 : decode b_Model_where 0 = .ok (.iload_n 1, 1) := by decide +kernel
theorem d_Model_where_1 : decode b_Model_where 1 = .ok (.sipush (-1000), 3) := by decide +kernel
theorem d_Model_where_4 : decode b_Model_where 4 = .ok (.sipush 1000, 3) := by decide +kernel
theorem d_Model_where_7 : decode b_Model_where 7 = .ok (.invokestatic 66, 3) := by decide +kernel
theorem d_Model_where_10 : decode b_Model_where 10 = .ok (.ifCond .ne 16, 3) := by decide +kernel
theorem d_Model_where_13 : decode b_Model_where 13 = .ok (.iload_n 2, 1) := by decide +kernel
theorem d_Model_where_14 : decode b_Model_where 14 = .ok (.sipush (-1000), 3) := by decide +kernel
theorem d_Model_where_17 : decode b_Model_where 17 = .ok (.sipush 1000, 3) := by decide +kernel
theorem d_Model_where_20 : decode b_Model_where 20 = .ok (.invokestatic 66, 3) := by decide +kernel
theorem d_Model_where_23 : decode b_Model_where 23 = .ok (.ifCond .eq 5, 3) := by decide +kernel
theorem d_Model_where_26 : decode b_Model_where 26 = .ok (.iconst (-1), 1) := by decide +kernel
theorem d_Model_where_27 : decode b_Model_where 27 = .ok (.ireturn, 1) := by decide +kernel
theorem d_Model_where_28 : decode b_Model_where 28 = .ok (.aload_n 0, 1) := by decide +kernel
theorem d_Model_where_29 : decode b_Model_where 29 = .ok (.iload_n 1, 1) := by decide +kernel
theorem d_Model_where_30 : decode b_Model_where 30 = .ok (.iload_n 2, 1) := by decide +kernel
theorem d_Model_where_31 : decode b_Model_where 31 = .ok (.invokevirtual 103, 3) := by decide +kernel
theorem d_Model_where_34 : decode b_Model_where 34 = .ok (.ireturn, 1) := by decide +kernel
theorem d_Model_reach_0 : decode b_Model_reach 0 = .ok (.iload_n 1, 1) := by decide +kernel
theorem d_Model_reach_1 : decode b_Model_reach 1 = .ok (.sipush (-1000), 3) := by decide +kernel
theorem d_Model_reach_4 : decode b_Model_reach 4 = .ok (.sipush 1000, 3) := by decide +kernel
theorem d_Model_reach_7 : decode b_Model_reach 7 = .ok (.invokestatic 66, 3) := by decide +kernel
theorem d_Model_reach_10 : decode b_Model_reach 10 = .ok (.ifCond .ne 26, 3) := by decide +kernel
theorem d_Model_reach_13 : decode b_Model_reach 13 = .ok (.iload_n 2, 1) := by decide +kernel
theorem d_Model_reach_14 : decode b_Model_reach 14 = .ok (.sipush (-1000), 3) := by decide +kernel
theorem d_Model_reach_17 : decode b_Model_reach 17 = .ok (.sipush 1000, 3) := by decide +kernel
theorem d_Model_reach_20 : decode b_Model_reach 20 = .ok (.invokestatic 66, 3) := by decide +kernel
theorem d_Model_reach_23 : decode b_Model_reach 23 = .ok (.ifCond .ne 13, 3) := by decide +kernel
theorem d_Model_reach_26 : decode b_Model_reach 26 = .ok (.iload_n 3, 1) := by decide +kernel
theorem d_Model_reach_27 : decode b_Model_reach 27 = .ok (.iconst 0, 1) := by decide +kernel
theorem d_Model_reach_28 : decode b_Model_reach 28 = .ok (.bipush 7, 2) := by decide +kernel
theorem d_Model_reach_30 : decode b_Model_reach 30 = .ok (.invokestatic 66, 3) := by decide +kernel
theorem d_Model_reach_33 : decode b_Model_reach 33 = .ok (.ifCond .eq 5, 3) := by decide +kernel
theorem d_Model_reach_36 : decode b_Model_reach 36 = .ok (.iconst (-1), 1) := by decide +kernel
theorem d_Model_reach_37 : decode b_Model_reach 37 = .ok (.ireturn, 1) := by decide +kernel
theorem d_Model_reach_38 : decode b_Model_reach 38 = .ok (.aload_n 0, 1) := by decide +kernel
theorem d_Model_reach_39 : decode b_Model_reach 39 = .ok (.iload_n 1, 1) := by decide +kernel
theorem d_Model_reach_40 : decode b_Model_reach 40 = .ok (.iload_n 2, 1) := by decide +kernel
theorem d_Model_reach_41 : decode b_Model_reach 41 = .ok (.invokevirtual 103, 3) := by decide +kernel
theorem d_Model_reach_44 : decode b_Model_reach 44 = .ok (.istore 4, 2) := by decide +kernel
theorem d_Model_reach_46 : decode b_Model_reach 46 = .ok (.iconst 0, 1) := by decide +kernel
theorem d_Model_reach_47 : decode b_Model_reach 47 = .ok (.istore 5, 2) := by decide +kernel
theorem d_Model_reach_49 : decode b_Model_reach 49 = .ok (.iload 5, 2) := by decide +kernel
theorem d_Model_reach_51 : decode b_Model_reach 51 = .ok (.sipush 200, 3) := by decide +kernel
theorem d_Model_reach_54 : decode b_Model_reach 54 = .ok (.if_icmp .ge 40, 3) := by decide +kernel
theorem d_Model_reach_57 : decode b_Model_reach 57 = .ok (.aload_n 0, 1) := by decide +kernel
theorem d_Model_reach_58 : decode b_Model_reach 58 = .ok (.iload_n 1, 1) := by decide +kernel
theorem d_Model_reach_59 : decode b_Model_reach 59 = .ok (.iload 5, 2) := by decide +kernel
theorem d_Model_reach_61 : decode b_Model_reach 61 = .ok (.iconst 1, 1) := by decide +kernel
theorem d_Model_reach_62 : decode b_Model_reach 62 = .ok (.iadd, 1) := by decide +kernel
theorem d_Model_reach_63 : decode b_Model_reach 63 = .ok (.iload_n 3, 1) := by decide +kernel
theorem d_Model_reach_64 : decode b_Model_reach 64 = .ok (.invokestatic 107, 3) := by decide +kernel
theorem d_Model_reach_67 : decode b_Model_reach 67 = .ok (.imul, 1) := by decide +kernel
theorem d_Model_reach_68 : decode b_Model_reach 68 = .ok (.iadd, 1) := by decide +kernel
theorem d_Model_reach_69 : decode b_Model_reach 69 = .ok (.iload_n 2, 1) := by decide +kernel
theorem d_Model_reach_70 : decode b_Model_reach 70 = .ok (.iload 5, 2) := by decide +kernel
theorem d_Model_reach_72 : decode b_Model_reach 72 = .ok (.iconst 1, 1) := by decide +kernel
theorem d_Model_reach_73 : decode b_Model_reach 73 = .ok (.iadd, 1) := by decide +kernel
theorem d_Model_reach_74 : decode b_Model_reach 74 = .ok (.iload_n 3, 1) := by decide +kernel
theorem d_Model_reach_75 : decode b_Model_reach 75 = .ok (.invokestatic 110, 3) := by decide +kernel
theorem d_Model_reach_78 : decode b_Model_reach 78 = .ok (.imul, 1) := by decide +kernel
theorem d_Model_reach_79 : decode b_Model_reach 79 = .ok (.iadd, 1) := by decide +kernel
theorem d_Model_reach_80 : decode b_Model_reach 80 = .ok (.invokevirtual 103, 3) := by decide +kernel
theorem d_Model_reach_83 : decode b_Model_reach 83 = .ok (.iload 4, 2) := by decide +kernel
theorem d_Model_reach_85 : decode b_Model_reach 85 = .ok (.if_icmp .ne 9, 3) := by decide +kernel
theorem d_Model_reach_88 : decode b_Model_reach 88 = .ok (.iinc 5 1, 3) := by decide +kernel
theorem d_Model_reach_91 : decode b_Model_reach 91 = .ok (.goto (-42), 3) := by decide +kernel
theorem d_Model_reach_94 : decode b_Model_reach 94 = .ok (.iload 5, 2) := by decide +kernel
theorem d_Model_reach_96 : decode b_Model_reach 96 = .ok (.ireturn, 1) := by decide +kernel
theorem d_Model_turn_0 : decode b_Model_turn 0 = .ok (.aload_n 0, 1) := by decide +kernel
theorem d_Model_turn_1 : decode b_Model_turn 1 = .ok (.aload_n 0, 1) := by decide +kernel
theorem d_Model_turn_2 : decode b_Model_turn 2 = .ok (.bipush 8, 2) := by decide +kernel
theorem d_Model_turn_4 : decode b_Model_turn 4 = .ok (.invokevirtual 93, 3) := by decide +kernel
theorem d_Model_turn_7 : decode b_Model_turn 7 = .ok (.putfield 113, 3) := by decide +kernel
theorem d_Model_turn_10 : decode b_Model_turn 10 = .ok (.aload_n 0, 1) := by decide +kernel
theorem d_Model_turn_11 : decode b_Model_turn 11 = .ok (.iconst 1, 1) := by decide +kernel
theorem d_Model_turn_12 : decode b_Model_turn 12 = .ok (.aload_n 0, 1) := by decide +kernel
theorem d_Model_turn_13 : decode b_Model_turn 13 = .ok (.sipush 2000, 3) := by decide +kernel
theorem d_Model_turn_16 : decode b_Model_turn 16 = .ok (.invokevirtual 93, 3) := by decide +kernel
theorem d_Model_turn_19 : decode b_Model_turn 19 = .ok (.iadd, 1) := by decide +kernel
theorem d_Model_turn_20 : decode b_Model_turn 20 = .ok (.putfield 116, 3) := by decide +kernel
theorem d_Model_turn_23 : decode b_Model_turn 23 = .ok (.return_, 1) := by decide +kernel
theorem d_Model_join_0 : decode b_Model_join 0 = .ok (.aload_n 0, 1) := by decide +kernel
theorem d_Model_join_1 : decode b_Model_join 1 = .ok (.getfield 119, 3) := by decide +kernel
theorem d_Model_join_4 : decode b_Model_join 4 = .ok (.bipush 12, 2) := by decide +kernel
theorem d_Model_join_6 : decode b_Model_join 6 = .ok (.if_icmp .ne 14, 3) := by decide +kernel
theorem d_Model_join_9 : decode b_Model_join 9 = .ok (.aload_n 0, 1) := by decide +kernel
theorem d_Model_join_10 : decode b_Model_join 10 = .ok (.getfield 57, 3) := by decide +kernel
theorem d_Model_join_13 : decode b_Model_join 13 = .ok (.iconst 3, 1) := by decide +kernel
theorem d_Model_join_14 : decode b_Model_join 14 = .ok (.dup2, 1) := by decide +kernel
theorem d_Model_join_15 : decode b_Model_join 15 = .ok (.iaload, 1) := by decide +kernel
theorem d_Model_join_16 : decode b_Model_join 16 = .ok (.iconst 1, 1) := by decide +kernel
theorem d_Model_join_17 : decode b_Model_join 17 = .ok (.iadd, 1) := by decide +kernel
theorem d_Model_join_18 : decode b_Model_join 18 = .ok (.iastore, 1) := by decide +kernel
theorem d_Model_join_19 : decode b_Model_join 19 = .ok (.return_, 1) := by decide +kernel
theorem d_Model_join_20 : decode b_Model_join 20 = .ok (.aload_n 0, 1) := by decide +kernel
theorem d_Model_join_21 : decode b_Model_join 21 = .ok (.getfield 60, 3) := by decide +kernel
theorem d_Model_join_24 : decode b_Model_join 24 = .ok (.aload_n 0, 1) := by decide +kernel
theorem d_Model_join_25 : decode b_Model_join 25 = .ok (.getfield 122, 3) := by decide +kernel
theorem d_Model_join_28 : decode b_Model_join 28 = .ok (.aload_n 0, 1) := by decide +kernel
theorem d_Model_join_29 : decode b_Model_join 29 = .ok (.getfield 125, 3) := by decide +kernel
theorem d_Model_join_32 : decode b_Model_join 32 = .ok (.iastore, 1) := by decide +kernel
theorem d_Model_join_33 : decode b_Model_join 33 = .ok (.aload_n 0, 1) := by decide +kernel
theorem d_Model_join_34 : decode b_Model_join 34 = .ok (.getfield 63, 3) := by decide +kernel
theorem d_Model_join_37 : decode b_Model_join 37 = .ok (.aload_n 0, 1) := by decide +kernel
theorem d_Model_join_38 : decode b_Model_join 38 = .ok (.getfield 122, 3) := by decide +kernel
theorem d_Model_join_41 : decode b_Model_join 41 = .ok (.aload_n 0, 1) := by decide +kernel
theorem d_Model_join_42 : decode b_Model_join 42 = .ok (.getfield 128, 3) := by decide +kernel
theorem d_Model_join_45 : decode b_Model_join 45 = .ok (.iastore, 1) := by decide +kernel
theorem d_Model_join_46 : decode b_Model_join 46 = .ok (.aload_n 0, 1) := by decide +kernel
theorem d_Model_join_47 : decode b_Model_join 47 = .ok (.dup, 1) := by decide +kernel
theorem d_Model_join_48 : decode b_Model_join 48 = .ok (.getfield 122, 3) := by decide +kernel
theorem d_Model_join_51 : decode b_Model_join 51 = .ok (.iconst 1, 1) := by decide +kernel
theorem d_Model_join_52 : decode b_Model_join 52 = .ok (.iadd, 1) := by decide +kernel
theorem d_Model_join_53 : decode b_Model_join 53 = .ok (.putfield 122, 3) := by decide +kernel
theorem d_Model_join_56 : decode b_Model_join 56 = .ok (.aload_n 0, 1) := by decide +kernel
theorem d_Model_join_57 : decode b_Model_join 57 = .ok (.dup, 1) := by decide +kernel
theorem d_Model_join_58 : decode b_Model_join 58 = .ok (.getfield 119, 3) := by decide +kernel
theorem d_Model_join_61 : decode b_Model_join 61 = .ok (.iconst 1, 1) := by decide +kernel
theorem d_Model_join_62 : decode b_Model_join 62 = .ok (.iadd, 1) := by decide +kernel
theorem d_Model_join_63 : decode b_Model_join 63 = .ok (.putfield 119, 3) := by decide +kernel
theorem d_Model_join_66 : decode b_Model_join 66 = .ok (.return_, 1) := by decide +kernel
theorem d_Model_collide_0 : decode b_Model_collide 0 = .ok (.aload_n 0, 1) := by decide +kernel
theorem d_Model_collide_1 : decode b_Model_collide 1 = .ok (.getfield 51, 3) := by decide +kernel
theorem d_Model_collide_4 : decode b_Model_collide 4 = .ok (.iconst 4, 1) := by decide +kernel
theorem d_Model_collide_5 : decode b_Model_collide 5 = .ok (.iload_n 1, 1) := by decide +kernel
theorem d_Model_collide_6 : decode b_Model_collide 6 = .ok (.imul, 1) := by decide +kernel
theorem d_Model_collide_7 : decode b_Model_collide 7 = .ok (.iconst 1, 1) := by decide +kernel
theorem d_Model_collide_8 : decode b_Model_collide 8 = .ok (.iadd, 1) := by decide +kernel
theorem d_Model_collide_9 : decode b_Model_collide 9 = .ok (.dup2, 1) := by decide +kernel
theorem d_Model_collide_10 : decode b_Model_collide 10 = .ok (.iaload, 1) := by decide +kernel
theorem d_Model_collide_11 : decode b_Model_collide 11 = .ok (.iconst 1, 1) := by decide +kernel
theorem d_Model_collide_12 : decode b_Model_collide 12 = .ok (.iadd, 1) := by decide +kernel
theorem d_Model_collide_13 : decode b_Model_collide 13 = .ok (.iastore, 1) := by decide +kernel
theorem d_Model_collide_14 : decode b_Model_collide 14 = .ok (.aload_n 0, 1) := by decide +kernel
theorem d_Model_collide_15 : decode b_Model_collide 15 = .ok (.sipush 1000, 3) := by decide +kernel
theorem d_Model_collide_18 : decode b_Model_collide 18 = .ok (.invokevirtual 93, 3) := by decide +kernel
theorem d_Model_collide_21 : decode b_Model_collide 21 = .ok (.istore_n 2, 1) := by decide +kernel
theorem d_Model_collide_22 : decode b_Model_collide 22 = .ok (.iload_n 2, 1) := by decide +kernel
theorem d_Model_collide_23 : decode b_Model_collide 23 = .ok (.aload_n 0, 1) := by decide +kernel
theorem d_Model_collide_24 : decode b_Model_collide 24 = .ok (.getfield 41, 3) := by decide +kernel
theorem d_Model_collide_27 : decode b_Model_collide 27 = .ok (.iload_n 1, 1) := by decide +kernel
theorem d_Model_collide_28 : decode b_Model_collide 28 = .ok (.iaload, 1) := by decide +kernel
theorem d_Model_collide_29 : decode b_Model_collide 29 = .ok (.if_icmp .ge 19, 3) := by decide +kernel
theorem d_Model_collide_32 : decode b_Model_collide 32 = .ok (.aload_n 0, 1) := by decide +kernel
theorem d_Model_collide_33 : decode b_Model_collide 33 = .ok (.getfield 51, 3) := by decide +kernel
theorem d_Model_collide_36 : decode b_Model_collide 36 = .ok (.iconst 4, 1) := by decide +kernel
theorem d_Model_collide_37 : decode b_Model_collide 37 = .ok (.iload_n 1, 1) := by decide +kernel
theorem d_Model_collide_38 : decode b_Model_collide 38 = .ok (.imul, 1) := by decide +kernel
theorem d_Model_collide_39 : decode b_Model_collide 39 = .ok (.iconst 2, 1) := by decide +kernel
theorem d_Model_collide_40 : decode b_Model_collide 40 = .ok (.iadd, 1) := by decide +kernel
theorem d_Model_collide_41 : decode b_Model_collide 41 = .ok (.dup2, 1) := by decide +kernel
theorem d_Model_collide_42 : decode b_Model_collide 42 = .ok (.iaload, 1) := by decide +kernel
theorem d_Model_collide_43 : decode b_Model_collide 43 = .ok (.iconst 1, 1) := by decide +kernel
theorem d_Model_collide_44 : decode b_Model_collide 44 = .ok (.iadd, 1) := by decide +kernel
theorem d_Model_collide_45 : decode b_Model_collide 45 = .ok (.iastore, 1) := by decide +kernel
theorem d_Model_collide_46 : decode b_Model_collide 46 = .ok (.iconst 1, 1) := by decide +kernel
theorem d_Model_collide_47 : decode b_Model_collide 47 = .ok (.ireturn, 1) := by decide +kernel
theorem d_Model_collide_48 : decode b_Model_collide 48 = .ok (.iload_n 2, 1) := by decide +kernel
theorem d_Model_collide_49 : decode b_Model_collide 49 = .ok (.aload_n 0, 1) := by decide +kernel
theorem d_Model_collide_50 : decode b_Model_collide 50 = .ok (.getfield 41, 3) := by decide +kernel
theorem d_Model_collide_53 : decode b_Model_collide 53 = .ok (.iload_n 1, 1) := by decide +kernel
theorem d_Model_collide_54 : decode b_Model_collide 54 = .ok (.iaload, 1) := by decide +kernel
theorem d_Model_collide_55 : decode b_Model_collide 55 = .ok (.aload_n 0, 1) := by decide +kernel
theorem d_Model_collide_56 : decode b_Model_collide 56 = .ok (.getfield 44, 3) := by decide +kernel
theorem d_Model_collide_59 : decode b_Model_collide 59 = .ok (.iload_n 1, 1) := by decide +kernel
theorem d_Model_collide_60 : decode b_Model_collide 60 = .ok (.iaload, 1) := by decide +kernel
theorem d_Model_collide_61 : decode b_Model_collide 61 = .ok (.iadd, 1) := by decide +kernel
theorem d_Model_collide_62 : decode b_Model_collide 62 = .ok (.if_icmp .ge 27, 3) := by decide +kernel
theorem d_Model_collide_65 : decode b_Model_collide 65 = .ok (.aload_n 0, 1) := by decide +kernel
theorem d_Model_collide_66 : decode b_Model_collide 66 = .ok (.getfield 51, 3) := by decide +kernel
theorem d_Model_collide_69 : decode b_Model_collide 69 = .ok (.iconst 4, 1) := by decide +kernel
theorem d_Model_collide_70 : decode b_Model_collide 70 = .ok (.iload_n 1, 1) := by decide +kernel
theorem d_Model_collide_71 : decode b_Model_collide 71 = .ok (.imul, 1) := by decide +kernel
theorem d_Model_collide_72 : decode b_Model_collide 72 = .ok (.iconst 3, 1) := by decide +kernel
theorem d_Model_collide_73 : decode b_Model_collide 73 = .ok (.iadd, 1) := by decide +kernel
theorem d_Model_collide_74 : decode b_Model_collide 74 = .ok (.dup2, 1) := by decide +kernel
theorem d_Model_collide_75 : decode b_Model_collide 75 = .ok (.iaload, 1) := by decide +kernel
theorem d_Model_collide_76 : decode b_Model_collide 76 = .ok (.iconst 1, 1) := by decide +kernel
theorem d_Model_collide_77 : decode b_Model_collide 77 = .ok (.iadd, 1) := by decide +kernel
theorem d_Model_collide_78 : decode b_Model_collide 78 = .ok (.iastore, 1) := by decide +kernel
theorem d_Model_collide_79 : decode b_Model_collide 79 = .ok (.aload_n 0, 1) := by decide +kernel
theorem d_Model_collide_80 : decode b_Model_collide 80 = .ok (.invokevirtual 131, 3) := by decide +kernel
theorem d_Model_collide_83 : decode b_Model_collide 83 = .ok (.aload_n 0, 1) := by decide +kernel
theorem d_Model_collide_84 : decode b_Model_collide 84 = .ok (.invokevirtual 131, 3) := by decide +kernel
theorem d_Model_collide_87 : decode b_Model_collide 87 = .ok (.iconst 1, 1) := by decide +kernel
theorem d_Model_collide_88 : decode b_Model_collide 88 = .ok (.ireturn, 1) := by decide +kernel
theorem d_Model_collide_89 : decode b_Model_collide 89 = .ok (.aload_n 0, 1) := by decide +kernel
theorem d_Model_collide_90 : decode b_Model_collide 90 = .ok (.invokevirtual 134, 3) := by decide +kernel
theorem d_Model_collide_93 : decode b_Model_collide 93 = .ok (.iconst 0, 1) := by decide +kernel
theorem d_Model_collide_94 : decode b_Model_collide 94 = .ok (.ireturn, 1) := by decide +kernel
theorem d_Model_fly_0 : decode b_Model_fly 0 = .ok (.aload_n 0, 1) := by decide +kernel
theorem d_Model_fly_1 : decode b_Model_fly 1 = .ok (.invokevirtual 134, 3) := by decide +kernel
theorem d_Model_fly_4 : decode b_Model_fly 4 = .ok (.iconst 1, 1) := by decide +kernel
theorem d_Model_fly_5 : decode b_Model_fly 5 = .ok (.istore_n 1, 1) := by decide +kernel
theorem d_Model_fly_6 : decode b_Model_fly 6 = .ok (.iload_n 1, 1) := by decide +kernel
theorem d_Model_fly_7 : decode b_Model_fly 7 = .ok (.sipush 200, 3) := by decide +kernel
theorem d_Model_fly_10 : decode b_Model_fly 10 = .ok (.if_icmp .gt 153, 3) := by decide +kernel
theorem d_Model_fly_13 : decode b_Model_fly 13 = .ok (.aload_n 0, 1) := by decide +kernel
theorem d_Model_fly_14 : decode b_Model_fly 14 = .ok (.aload_n 0, 1) := by decide +kernel
theorem d_Model_fly_15 : decode b_Model_fly 15 = .ok (.getfield 125, 3) := by decide +kernel
theorem d_Model_fly_18 : decode b_Model_fly 18 = .ok (.aload_n 0, 1) := by decide +kernel
theorem d_Model_fly_19 : decode b_Model_fly 19 = .ok (.getfield 128, 3) := by decide +kernel
theorem d_Model_fly_22 : decode b_Model_fly 22 = .ok (.invokevirtual 103, 3) := by decide +kernel
theorem d_Model_fly_25 : decode b_Model_fly 25 = .ok (.istore_n 2, 1) := by decide +kernel
theorem d_Model_fly_26 : decode b_Model_fly 26 = .ok (.aload_n 0, 1) := by decide +kernel
theorem d_Model_fly_27 : decode b_Model_fly 27 = .ok (.dup, 1) := by decide +kernel
theorem d_Model_fly_28 : decode b_Model_fly 28 = .ok (.getfield 125, 3) := by decide +kernel
theorem d_Model_fly_31 : decode b_Model_fly 31 = .ok (.aload_n 0, 1) := by decide +kernel
theorem d_Model_fly_32 : decode b_Model_fly 32 = .ok (.getfield 113, 3) := by decide +kernel
theorem d_Model_fly_35 : decode b_Model_fly 35 = .ok (.invokestatic 107, 3) := by decide +kernel
theorem d_Model_fly_38 : decode b_Model_fly 38 = .ok (.iadd, 1) := by decide +kernel
theorem d_Model_fly_39 : decode b_Model_fly 39 = .ok (.putfield 125, 3) := by decide +kernel
theorem d_Model_fly_42 : decode b_Model_fly 42 = .ok (.aload_n 0, 1) := by decide +kernel
theorem d_Model_fly_43 : decode b_Model_fly 43 = .ok (.dup, 1) := by decide +kernel
theorem d_Model_fly_44 : decode b_Model_fly 44 = .ok (.getfield 128, 3) := by decide +kernel
theorem d_Model_fly_47 : decode b_Model_fly 47 = .ok (.aload_n 0, 1) := by decide +kernel
theorem d_Model_fly_48 : decode b_Model_fly 48 = .ok (.getfield 113, 3) := by decide +kernel
theorem d_Model_fly_51 : decode b_Model_fly 51 = .ok (.invokestatic 110, 3) := by decide +kernel
theorem d_Model_fly_54 : decode b_Model_fly 54 = .ok (.iadd, 1) := by decide +kernel
theorem d_Model_fly_55 : decode b_Model_fly 55 = .ok (.putfield 128, 3) := by decide +kernel
theorem d_Model_fly_58 : decode b_Model_fly 58 = .ok (.aload_n 0, 1) := by decide +kernel
theorem d_Model_fly_59 : decode b_Model_fly 59 = .ok (.aload_n 0, 1) := by decide +kernel
theorem d_Model_fly_60 : decode b_Model_fly 60 = .ok (.getfield 125, 3) := by decide +kernel
theorem d_Model_fly_63 : decode b_Model_fly 63 = .ok (.aload_n 0, 1) := by decide +kernel
theorem d_Model_fly_64 : decode b_Model_fly 64 = .ok (.getfield 128, 3) := by decide +kernel
theorem d_Model_fly_67 : decode b_Model_fly 67 = .ok (.invokevirtual 103, 3) := by decide +kernel
theorem d_Model_fly_70 : decode b_Model_fly 70 = .ok (.istore_n 3, 1) := by decide +kernel
theorem d_Model_fly_71 : decode b_Model_fly 71 = .ok (.iload_n 3, 1) := by decide +kernel
theorem d_Model_fly_72 : decode b_Model_fly 72 = .ok (.bipush 6, 2) := by decide +kernel
theorem d_Model_fly_74 : decode b_Model_fly 74 = .ok (.if_icmp .ne 14, 3) := by decide +kernel
theorem d_Model_fly_77 : decode b_Model_fly 77 = .ok (.aload_n 0, 1) := by decide +kernel
theorem d_Model_fly_78 : decode b_Model_fly 78 = .ok (.getfield 57, 3) := by decide +kernel
theorem d_Model_fly_81 : decode b_Model_fly 81 = .ok (.iconst 1, 1) := by decide +kernel
theorem d_Model_fly_82 : decode b_Model_fly 82 = .ok (.dup2, 1) := by decide +kernel
theorem d_Model_fly_83 : decode b_Model_fly 83 = .ok (.iaload, 1) := by decide +kernel
theorem d_Model_fly_84 : decode b_Model_fly 84 = .ok (.iconst 1, 1) := by decide +kernel
theorem d_Model_fly_85 : decode b_Model_fly 85 = .ok (.iadd, 1) := by decide +kernel
theorem d_Model_fly_86 : decode b_Model_fly 86 = .ok (.iastore, 1) := by decide +kernel
theorem d_Model_fly_87 : decode b_Model_fly 87 = .ok (.return_, 1) := by decide +kernel
theorem d_Model_fly_88 : decode b_Model_fly 88 = .ok (.aload_n 0, 1) := by decide +kernel
theorem d_Model_fly_89 : decode b_Model_fly 89 = .ok (.getfield 51, 3) := by decide +kernel
theorem d_Model_fly_92 : decode b_Model_fly 92 = .ok (.iconst 4, 1) := by decide +kernel
theorem d_Model_fly_93 : decode b_Model_fly 93 = .ok (.iload_n 3, 1) := by decide +kernel
theorem d_Model_fly_94 : decode b_Model_fly 94 = .ok (.imul, 1) := by decide +kernel
theorem d_Model_fly_95 : decode b_Model_fly 95 = .ok (.dup2, 1) := by decide +kernel
theorem d_Model_fly_96 : decode b_Model_fly 96 = .ok (.iaload, 1) := by decide +kernel
theorem d_Model_fly_97 : decode b_Model_fly 97 = .ok (.iconst 1, 1) := by decide +kernel
theorem d_Model_fly_98 : decode b_Model_fly 98 = .ok (.iadd, 1) := by decide +kernel
theorem d_Model_fly_99 : decode b_Model_fly 99 = .ok (.iastore, 1) := by decide +kernel
theorem d_Model_fly_100 : decode b_Model_fly 100 = .ok (.iload_n 2, 1) := by decide +kernel
theorem d_Model_fly_101 : decode b_Model_fly 101 = .ok (.bipush 6, 2) := by decide +kernel
theorem d_Model_fly_103 : decode b_Model_fly 103 = .ok (.if_icmp .eq 23, 3) := by decide +kernel
theorem d_Model_fly_106 : decode b_Model_fly 106 = .ok (.iload_n 2, 1) := by decide +kernel
theorem d_Model_fly_107 : decode b_Model_fly 107 = .ok (.iload_n 3, 1) := by decide +kernel
theorem d_Model_fly_108 : decode b_Model_fly 108 = .ok (.if_icmp .eq 18, 3) := by decide +kernel
theorem d_Model_fly_111 : decode b_Model_fly 111 = .ok (.aload_n 0, 1) := by decide +kernel
theorem d_Model_fly_112 : decode b_Model_fly 112 = .ok (.getfield 54, 3) := by decide +kernel
theorem d_Model_fly_115 : decode b_Model_fly 115 = .ok (.bipush 6, 2) := by decide +kernel
theorem d_Model_fly_117 : decode b_Model_fly 117 = .ok (.iload_n 2, 1) := by decide +kernel
theorem d_Model_fly_118 : decode b_Model_fly 118 = .ok (.imul, 1) := by decide +kernel
theorem d_Model_fly_119 : decode b_Model_fly 119 = .ok (.iload_n 3, 1) := by decide +kernel
theorem d_Model_fly_120 : decode b_Model_fly 120 = .ok (.iadd, 1) := by decide +kernel
theorem d_Model_fly_121 : decode b_Model_fly 121 = .ok (.dup2, 1) := by decide +kernel
theorem d_Model_fly_122 : decode b_Model_fly 122 = .ok (.iaload, 1) := by decide +kernel
theorem d_Model_fly_123 : decode b_Model_fly 123 = .ok (.iconst 1, 1) := by decide +kernel
theorem d_Model_fly_124 : decode b_Model_fly 124 = .ok (.iadd, 1) := by decide +kernel
theorem d_Model_fly_125 : decode b_Model_fly 125 = .ok (.iastore, 1) := by decide +kernel
theorem d_Model_fly_126 : decode b_Model_fly 126 = .ok (.aload_n 0, 1) := by decide +kernel
theorem d_Model_fly_127 : decode b_Model_fly 127 = .ok (.dup, 1) := by decide +kernel
theorem d_Model_fly_128 : decode b_Model_fly 128 = .ok (.getfield 116, 3) := by decide +kernel
theorem d_Model_fly_131 : decode b_Model_fly 131 = .ok (.aload_n 0, 1) := by decide +kernel
theorem d_Model_fly_132 : decode b_Model_fly 132 = .ok (.getfield 38, 3) := by decide +kernel
theorem d_Model_fly_135 : decode b_Model_fly 135 = .ok (.iload_n 3, 1) := by decide +kernel
theorem d_Model_fly_136 : decode b_Model_fly 136 = .ok (.iaload, 1) := by decide +kernel
theorem d_Model_fly_137 : decode b_Model_fly 137 = .ok (.isub, 1) := by decide +kernel
theorem d_Model_fly_138 : decode b_Model_fly 138 = .ok (.putfield 116, 3) := by decide +kernel
theorem d_Model_fly_141 : decode b_Model_fly 141 = .ok (.aload_n 0, 1) := by decide +kernel
theorem d_Model_fly_142 : decode b_Model_fly 142 = .ok (.getfield 116, 3) := by decide +kernel
theorem d_Model_fly_145 : decode b_Model_fly 145 = .ok (.ifCond .gt 12, 3) := by decide +kernel
theorem d_Model_fly_148 : decode b_Model_fly 148 = .ok (.aload_n 0, 1) := by decide +kernel
theorem d_Model_fly_149 : decode b_Model_fly 149 = .ok (.iload_n 3, 1) := by decide +kernel
theorem d_Model_fly_150 : decode b_Model_fly 150 = .ok (.invokevirtual 137, 3) := by decide +kernel
theorem d_Model_fly_153 : decode b_Model_fly 153 = .ok (.ifCond .eq 4, 3) := by decide +kernel
theorem d_Model_fly_156 : decode b_Model_fly 156 = .ok (.return_, 1) := by decide +kernel
theorem d_Model_fly_157 : decode b_Model_fly 157 = .ok (.iinc 1 1, 3) := by decide +kernel
theorem d_Model_fly_160 : decode b_Model_fly 160 = .ok (.goto (-154), 3) := by decide +kernel
theorem d_Model_fly_163 : decode b_Model_fly 163 = .ok (.aload_n 0, 1) := by decide +kernel
theorem d_Model_fly_164 : decode b_Model_fly 164 = .ok (.getfield 57, 3) := by decide +kernel
theorem d_Model_fly_167 : decode b_Model_fly 167 = .ok (.iconst 2, 1) := by decide +kernel
theorem d_Model_fly_168 : decode b_Model_fly 168 = .ok (.dup2, 1) := by decide +kernel
theorem d_Model_fly_169 : decode b_Model_fly 169 = .ok (.iaload, 1) := by decide +kernel
theorem d_Model_fly_170 : decode b_Model_fly 170 = .ok (.iconst 1, 1) := by decide +kernel
theorem d_Model_fly_171 : decode b_Model_fly 171 = .ok (.iadd, 1) := by decide +kernel
theorem d_Model_fly_172 : decode b_Model_fly 172 = .ok (.iastore, 1) := by decide +kernel
theorem d_Model_fly_173 : decode b_Model_fly 173 = .ok (.return_, 1) := by decide +kernel
theorem d_Model_history_0 : decode b_Model_history 0 = .ok (.aload_n 0, 1) := by decide +kernel
theorem d_Model_history_1 : decode b_Model_history 1 = .ok (.getfield 60, 3) := by decide +kernel
theorem d_Model_history_4 : decode b_Model_history 4 = .ok (.iconst 0, 1) := by decide +kernel
theorem d_Model_history_5 : decode b_Model_history 5 = .ok (.aload_n 0, 1) := by decide +kernel
theorem d_Model_history_6 : decode b_Model_history 6 = .ok (.getfield 78, 3) := by decide +kernel
theorem d_Model_history_9 : decode b_Model_history 9 = .ok (.iastore, 1) := by decide +kernel
theorem d_Model_history_10 : decode b_Model_history 10 = .ok (.aload_n 0, 1) := by decide +kernel
theorem d_Model_history_11 : decode b_Model_history 11 = .ok (.getfield 63, 3) := by decide +kernel
theorem d_Model_history_14 : decode b_Model_history 14 = .ok (.iconst 0, 1) := by decide +kernel
theorem d_Model_history_15 : decode b_Model_history 15 = .ok (.aload_n 0, 1) := by decide +kernel
theorem d_Model_history_16 : decode b_Model_history 16 = .ok (.getfield 81, 3) := by decide +kernel
theorem d_Model_history_19 : decode b_Model_history 19 = .ok (.iastore, 1) := by decide +kernel
theorem d_Model_history_20 : decode b_Model_history 20 = .ok (.aload_n 0, 1) := by decide +kernel
theorem d_Model_history_21 : decode b_Model_history 21 = .ok (.iconst 1, 1) := by decide +kernel
theorem d_Model_history_22 : decode b_Model_history 22 = .ok (.putfield 122, 3) := by decide +kernel
theorem d_Model_history_25 : decode b_Model_history 25 = .ok (.aload_n 0, 1) := by decide +kernel
theorem d_Model_history_26 : decode b_Model_history 26 = .ok (.iconst 1, 1) := by decide +kernel
theorem d_Model_history_27 : decode b_Model_history 27 = .ok (.putfield 119, 3) := by decide +kernel
theorem d_Model_history_30 : decode b_Model_history 30 = .ok (.iconst 0, 1) := by decide +kernel
theorem d_Model_history_31 : decode b_Model_history 31 = .ok (.istore_n 1, 1) := by decide +kernel
theorem d_Model_history_32 : decode b_Model_history 32 = .ok (.aload_n 0, 1) := by decide +kernel
theorem d_Model_history_33 : decode b_Model_history 33 = .ok (.getfield 122, 3) := by decide +kernel
theorem d_Model_history_36 : decode b_Model_history 36 = .ok (.ifCond .le 49, 3) := by decide +kernel
theorem d_Model_history_39 : decode b_Model_history 39 = .ok (.aload_n 0, 1) := by decide +kernel
theorem d_Model_history_40 : decode b_Model_history 40 = .ok (.dup, 1) := by decide +kernel
theorem d_Model_history_41 : decode b_Model_history 41 = .ok (.getfield 122, 3) := by decide +kernel
theorem d_Model_history_44 : decode b_Model_history 44 = .ok (.iconst 1, 1) := by decide +kernel
theorem d_Model_history_45 : decode b_Model_history 45 = .ok (.isub, 1) := by decide +kernel
theorem d_Model_history_46 : decode b_Model_history 46 = .ok (.putfield 122, 3) := by decide +kernel
theorem d_Model_history_49 : decode b_Model_history 49 = .ok (.aload_n 0, 1) := by decide +kernel
theorem d_Model_history_50 : decode b_Model_history 50 = .ok (.aload_n 0, 1) := by decide +kernel
theorem d_Model_history_51 : decode b_Model_history 51 = .ok (.getfield 60, 3) := by decide +kernel
theorem d_Model_history_54 : decode b_Model_history 54 = .ok (.aload_n 0, 1) := by decide +kernel
theorem d_Model_history_55 : decode b_Model_history 55 = .ok (.getfield 122, 3) := by decide +kernel
theorem d_Model_history_58 : decode b_Model_history 58 = .ok (.iaload, 1) := by decide +kernel
theorem d_Model_history_59 : decode b_Model_history 59 = .ok (.putfield 125, 3) := by decide +kernel
theorem d_Model_history_62 : decode b_Model_history 62 = .ok (.aload_n 0, 1) := by decide +kernel
theorem d_Model_history_63 : decode b_Model_history 63 = .ok (.aload_n 0, 1) := by decide +kernel
theorem d_Model_history_64 : decode b_Model_history 64 = .ok (.getfield 63, 3) := by decide +kernel
theorem d_Model_history_67 : decode b_Model_history 67 = .ok (.aload_n 0, 1) := by decide +kernel
theorem d_Model_history_68 : decode b_Model_history 68 = .ok (.getfield 122, 3) := by decide +kernel
theorem d_Model_history_71 : decode b_Model_history 71 = .ok (.iaload, 1) := by decide +kernel
theorem d_Model_history_72 : decode b_Model_history 72 = .ok (.putfield 128, 3) := by decide +kernel
theorem d_Model_history_75 : decode b_Model_history 75 = .ok (.iinc 1 1, 3) := by decide +kernel
theorem d_Model_history_78 : decode b_Model_history 78 = .ok (.aload_n 0, 1) := by decide +kernel
theorem d_Model_history_79 : decode b_Model_history 79 = .ok (.invokevirtual 141, 3) := by decide +kernel
theorem d_Model_history_82 : decode b_Model_history 82 = .ok (.goto (-50), 3) := by decide +kernel
theorem d_Model_history_85 : decode b_Model_history 85 = .ok (.aload_n 0, 1) := by decide +kernel
theorem d_Model_history_86 : decode b_Model_history 86 = .ok (.getfield 57, 3) := by decide +kernel
theorem d_Model_history_89 : decode b_Model_history 89 = .ok (.iconst 0, 1) := by decide +kernel
theorem d_Model_history_90 : decode b_Model_history 90 = .ok (.dup2, 1) := by decide +kernel
theorem d_Model_history_91 : decode b_Model_history 91 = .ok (.iaload, 1) := by decide +kernel
theorem d_Model_history_92 : decode b_Model_history 92 = .ok (.iload_n 1, 1) := by decide +kernel
theorem d_Model_history_93 : decode b_Model_history 93 = .ok (.iadd, 1) := by decide +kernel
theorem d_Model_history_94 : decode b_Model_history 94 = .ok (.iastore, 1) := by decide +kernel
theorem d_Model_history_95 : decode b_Model_history 95 = .ok (.aload_n 0, 1) := by decide +kernel
theorem d_Model_history_96 : decode b_Model_history 96 = .ok (.getfield 57, 3) := by decide +kernel
theorem d_Model_history_99 : decode b_Model_history 99 = .ok (.iconst 4, 1) := by decide +kernel
theorem d_Model_history_100 : decode b_Model_history 100 = .ok (.dup2, 1) := by decide +kernel
theorem d_Model_history_101 : decode b_Model_history 101 = .ok (.iaload, 1) := by decide +kernel
theorem d_Model_history_102 : decode b_Model_history 102 = .ok (.iconst 1, 1) := by decide +kernel
theorem d_Model_history_103 : decode b_Model_history 103 = .ok (.iadd, 1) := by decide +kernel
theorem d_Model_history_104 : decode b_Model_history 104 = .ok (.iastore, 1) := by decide +kernel
theorem d_Model_history_105 : decode b_Model_history 105 = .ok (.iload_n 1, 1) := by decide +kernel
theorem d_Model_history_106 : decode b_Model_history 106 = .ok (.ireturn, 1) := by decide +kernel
theorem d_Model_run_0 : decode b_Model_run 0 = .ok (.iload_n 1, 1) := by decide +kernel
theorem d_Model_run_1 : decode b_Model_run 1 = .ok (.iconst 1, 1) := by decide +kernel
theorem d_Model_run_2 : decode b_Model_run 2 = .ok (.iconst 2, 1) := by decide +kernel
theorem d_Model_run_3 : decode b_Model_run 3 = .ok (.invokestatic 66, 3) := by decide +kernel
theorem d_Model_run_6 : decode b_Model_run 6 = .ok (.ifCond .eq 5, 3) := by decide +kernel
theorem d_Model_run_9 : decode b_Model_run 9 = .ok (.iconst (-1), 1) := by decide +kernel
theorem d_Model_run_10 : decode b_Model_run 10 = .ok (.ireturn, 1) := by decide +kernel
theorem d_Model_run_11 : decode b_Model_run 11 = .ok (.iconst 0, 1) := by decide +kernel
theorem d_Model_run_12 : decode b_Model_run 12 = .ok (.istore_n 2, 1) := by decide +kernel
theorem d_Model_run_13 : decode b_Model_run 13 = .ok (.iconst 0, 1) := by decide +kernel
theorem d_Model_run_14 : decode b_Model_run 14 = .ok (.istore_n 3, 1) := by decide +kernel
theorem d_Model_run_15 : decode b_Model_run 15 = .ok (.iload_n 3, 1) := by decide +kernel
theorem d_Model_run_16 : decode b_Model_run 16 = .ok (.iload_n 1, 1) := by decide +kernel
theorem d_Model_run_17 : decode b_Model_run 17 = .ok (.if_icmp .ge 16, 3) := by decide +kernel
theorem d_Model_run_20 : decode b_Model_run 20 = .ok (.iload_n 2, 1) := by decide +kernel
theorem d_Model_run_21 : decode b_Model_run 21 = .ok (.aload_n 0, 1) := by decide +kernel
theorem d_Model_run_22 : decode b_Model_run 22 = .ok (.invokevirtual 144, 3) := by decide +kernel
theorem d_Model_run_25 : decode b_Model_run 25 = .ok (.iadd, 1) := by decide +kernel
theorem d_Model_run_26 : decode b_Model_run 26 = .ok (.istore_n 2, 1) := by decide +kernel
theorem d_Model_run_27 : decode b_Model_run 27 = .ok (.iinc 3 1, 3) := by decide +kernel
theorem d_Model_run_30 : decode b_Model_run 30 = .ok (.goto (-15), 3) := by decide +kernel
theorem d_Model_run_33 : decode b_Model_run 33 = .ok (.iload_n 2, 1) := by decide +kernel
theorem d_Model_run_34 : decode b_Model_run 34 = .ok (.ireturn, 1) := by decide +kernel
theorem d_Model_tally_0 : decode b_Model_tally 0 = .ok (.iload_n 1, 1) := by decide +kernel
theorem d_Model_tally_1 : decode b_Model_tally 1 = .ok (.iconst 0, 1) := by decide +kernel
theorem d_Model_tally_2 : decode b_Model_tally 2 = .ok (.iconst 5, 1) := by decide +kernel
theorem d_Model_tally_3 : decode b_Model_tally 3 = .ok (.invokestatic 66, 3) := by decide +kernel
theorem d_Model_tally_6 : decode b_Model_tally 6 = .ok (.ifCond .ne 12, 3) := by decide +kernel
theorem d_Model_tally_9 : decode b_Model_tally 9 = .ok (.iload_n 2, 1) := by decide +kernel
theorem d_Model_tally_10 : decode b_Model_tally 10 = .ok (.iconst 0, 1) := by decide +kernel
theorem d_Model_tally_11 : decode b_Model_tally 11 = .ok (.iconst 3, 1) := by decide +kernel
theorem d_Model_tally_12 : decode b_Model_tally 12 = .ok (.invokestatic 66, 3) := by decide +kernel
theorem d_Model_tally_15 : decode b_Model_tally 15 = .ok (.ifCond .eq 7, 3) := by decide +kernel
theorem d_Model_tally_18 : decode b_Model_tally 18 = .ok (.iconst (-1), 1) := by decide +kernel
theorem d_Model_tally_19 : decode b_Model_tally 19 = .ok (.goto 13, 3) := by decide +kernel
theorem d_Model_tally_22 : decode b_Model_tally 22 = .ok (.aload_n 0, 1) := by decide +kernel
theorem d_Model_tally_23 : decode b_Model_tally 23 = .ok (.getfield 51, 3) := by decide +kernel
theorem d_Model_tally_26 : decode b_Model_tally 26 = .ok (.iconst 4, 1) := by decide +kernel
theorem d_Model_tally_27 : decode b_Model_tally 27 = .ok (.iload_n 1, 1) := by decide +kernel
theorem d_Model_tally_28 : decode b_Model_tally 28 = .ok (.imul, 1) := by decide +kernel
theorem d_Model_tally_29 : decode b_Model_tally 29 = .ok (.iload_n 2, 1) := by decide +kernel
theorem d_Model_tally_30 : decode b_Model_tally 30 = .ok (.iadd, 1) := by decide +kernel
theorem d_Model_tally_31 : decode b_Model_tally 31 = .ok (.iaload, 1) := by decide +kernel
theorem d_Model_tally_32 : decode b_Model_tally 32 = .ok (.ireturn, 1) := by decide +kernel
theorem d_Model_crossed_0 : decode b_Model_crossed 0 = .ok (.iload_n 1, 1) := by decide +kernel
theorem d_Model_crossed_1 : decode b_Model_crossed 1 = .ok (.iconst 0, 1) := by decide +kernel
theorem d_Model_crossed_2 : decode b_Model_crossed 2 = .ok (.iconst 5, 1) := by decide +kernel
theorem d_Model_crossed_3 : decode b_Model_crossed 3 = .ok (.invokestatic 66, 3) := by decide +kernel
theorem d_Model_crossed_6 : decode b_Model_crossed 6 = .ok (.ifCond .ne 12, 3) := by decide +kernel
theorem d_Model_crossed_9 : decode b_Model_crossed 9 = .ok (.iload_n 2, 1) := by decide +kernel
theorem d_Model_crossed_10 : decode b_Model_crossed 10 = .ok (.iconst 0, 1) := by decide +kernel
theorem d_Model_crossed_11 : decode b_Model_crossed 11 = .ok (.iconst 5, 1) := by decide +kernel
theorem d_Model_crossed_12 : decode b_Model_crossed 12 = .ok (.invokestatic 66, 3) := by decide +kernel
theorem d_Model_crossed_15 : decode b_Model_crossed 15 = .ok (.ifCond .eq 7, 3) := by decide +kernel
theorem d_Model_crossed_18 : decode b_Model_crossed 18 = .ok (.iconst (-1), 1) := by decide +kernel
theorem d_Model_crossed_19 : decode b_Model_crossed 19 = .ok (.goto 14, 3) := by decide +kernel
theorem d_Model_crossed_22 : decode b_Model_crossed 22 = .ok (.aload_n 0, 1) := by decide +kernel
theorem d_Model_crossed_23 : decode b_Model_crossed 23 = .ok (.getfield 54, 3) := by decide +kernel
theorem d_Model_crossed_26 : decode b_Model_crossed 26 = .ok (.bipush 6, 2) := by decide +kernel
theorem d_Model_crossed_28 : decode b_Model_crossed 28 = .ok (.iload_n 1, 1) := by decide +kernel
theorem d_Model_crossed_29 : decode b_Model_crossed 29 = .ok (.imul, 1) := by decide +kernel
theorem d_Model_crossed_30 : decode b_Model_crossed 30 = .ok (.iload_n 2, 1) := by decide +kernel
theorem d_Model_crossed_31 : decode b_Model_crossed 31 = .ok (.iadd, 1) := by decide +kernel
theorem d_Model_crossed_32 : decode b_Model_crossed 32 = .ok (.iaload, 1) := by decide +kernel
theorem d_Model_crossed_33 : decode b_Model_crossed 33 = .ok (.ireturn, 1) := by decide +kernel
theorem d_Model_count_0 : decode b_Model_count 0 = .ok (.iload_n 1, 1) := by decide +kernel
theorem d_Model_count_1 : decode b_Model_count 1 = .ok (.iconst 0, 1) := by decide +kernel
theorem d_Model_count_2 : decode b_Model_count 2 = .ok (.bipush 6, 2) := by decide +kernel
theorem d_Model_count_4 : decode b_Model_count 4 = .ok (.invokestatic 66, 3) := by decide +kernel
theorem d_Model_count_7 : decode b_Model_count 7 = .ok (.ifCond .eq 5, 3) := by decide +kernel
theorem d_Model_count_10 : decode b_Model_count 10 = .ok (.iconst (-1), 1) := by decide +kernel
theorem d_Model_count_11 : decode b_Model_count 11 = .ok (.ireturn, 1) := by decide +kernel
theorem d_Model_count_12 : decode b_Model_count 12 = .ok (.iload_n 1, 1) := by decide +kernel
theorem d_Model_count_13 : decode b_Model_count 13 = .ok (.iconst 5, 1) := by decide +kernel
theorem d_Model_count_14 : decode b_Model_count 14 = .ok (.if_icmp .ge 10, 3) := by decide +kernel
theorem d_Model_count_17 : decode b_Model_count 17 = .ok (.aload_n 0, 1) := by decide +kernel
theorem d_Model_count_18 : decode b_Model_count 18 = .ok (.getfield 57, 3) := by decide +kernel
theorem d_Model_count_21 : decode b_Model_count 21 = .ok (.iload_n 1, 1) := by decide +kernel
theorem d_Model_count_22 : decode b_Model_count 22 = .ok (.iaload, 1) := by decide +kernel
theorem d_Model_count_23 : decode b_Model_count 23 = .ok (.ireturn, 1) := by decide +kernel
theorem d_Model_count_24 : decode b_Model_count 24 = .ok (.iload_n 1, 1) := by decide +kernel
theorem d_Model_count_25 : decode b_Model_count 25 = .ok (.iconst 5, 1) := by decide +kernel
theorem d_Model_count_26 : decode b_Model_count 26 = .ok (.if_icmp .ne 8, 3) := by decide +kernel
theorem d_Model_count_29 : decode b_Model_count 29 = .ok (.aload_n 0, 1) := by decide +kernel
theorem d_Model_count_30 : decode b_Model_count 30 = .ok (.getfield 70, 3) := by decide +kernel
theorem d_Model_count_33 : decode b_Model_count 33 = .ok (.ireturn, 1) := by decide +kernel
theorem d_Model_count_34 : decode b_Model_count 34 = .ok (.iconst 0, 1) := by decide +kernel
theorem d_Model_count_35 : decode b_Model_count 35 = .ok (.istore_n 2, 1) := by decide +kernel
theorem d_Model_count_36 : decode b_Model_count 36 = .ok (.iconst 0, 1) := by decide +kernel
theorem d_Model_count_37 : decode b_Model_count 37 = .ok (.istore_n 3, 1) := by decide +kernel
theorem d_Model_count_38 : decode b_Model_count 38 = .ok (.iload_n 3, 1) := by decide +kernel
theorem d_Model_count_39 : decode b_Model_count 39 = .ok (.bipush 6, 2) := by decide +kernel
theorem d_Model_count_41 : decode b_Model_count 41 = .ok (.if_icmp .ge 21, 3) := by decide +kernel
theorem d_Model_count_44 : decode b_Model_count 44 = .ok (.aload_n 0, 1) := by decide +kernel
theorem d_Model_count_45 : decode b_Model_count 45 = .ok (.getfield 35, 3) := by decide +kernel
theorem d_Model_count_48 : decode b_Model_count 48 = .ok (.iload_n 3, 1) := by decide +kernel
theorem d_Model_count_49 : decode b_Model_count 49 = .ok (.baload, 1) := by decide +kernel
theorem d_Model_count_50 : decode b_Model_count 50 = .ok (.ifCond .eq 6, 3) := by decide +kernel
theorem d_Model_count_53 : decode b_Model_count 53 = .ok (.iinc 2 1, 3) := by decide +kernel
theorem d_Model_count_56 : decode b_Model_count 56 = .ok (.iinc 3 1, 3) := by decide +kernel
theorem d_Model_count_59 : decode b_Model_count 59 = .ok (.goto (-21), 3) := by decide +kernel
theorem d_Model_count_62 : decode b_Model_count 62 = .ok (.iload_n 2, 1) := by decide +kernel
theorem d_Model_count_63 : decode b_Model_count 63 = .ok (.ireturn, 1) := by decide +kernel
theorem d_Model_clear_0 : decode b_Model_clear 0 = .ok (.iconst 0, 1) := by decide +kernel
theorem d_Model_clear_1 : decode b_Model_clear 1 = .ok (.istore_n 1, 1) := by decide +kernel
theorem d_Model_clear_2 : decode b_Model_clear 2 = .ok (.iload_n 1, 1) := by decide +kernel
theorem d_Model_clear_3 : decode b_Model_clear 3 = .ok (.bipush 24, 2) := by decide +kernel
theorem d_Model_clear_5 : decode b_Model_clear 5 = .ok (.if_icmp .ge 16, 3) := by decide +kernel
theorem d_Model_clear_8 : decode b_Model_clear 8 = .ok (.aload_n 0, 1) := by decide +kernel
theorem d_Model_clear_9 : decode b_Model_clear 9 = .ok (.getfield 51, 3) := by decide +kernel
theorem d_Model_clear_12 : decode b_Model_clear 12 = .ok (.iload_n 1, 1) := by decide +kernel
theorem d_Model_clear_13 : decode b_Model_clear 13 = .ok (.iconst 0, 1) := by decide +kernel
theorem d_Model_clear_14 : decode b_Model_clear 14 = .ok (.iastore, 1) := by decide +kernel
theorem d_Model_clear_15 : decode b_Model_clear 15 = .ok (.iinc 1 1, 3) := by decide +kernel
theorem d_Model_clear_18 : decode b_Model_clear 18 = .ok (.goto (-16), 3) := by decide +kernel
theorem d_Model_clear_21 : decode b_Model_clear 21 = .ok (.iconst 0, 1) := by decide +kernel
theorem d_Model_clear_22 : decode b_Model_clear 22 = .ok (.istore_n 1, 1) := by decide +kernel
theorem d_Model_clear_23 : decode b_Model_clear 23 = .ok (.iload_n 1, 1) := by decide +kernel
theorem d_Model_clear_24 : decode b_Model_clear 24 = .ok (.bipush 36, 2) := by decide +kernel
theorem d_Model_clear_26 : decode b_Model_clear 26 = .ok (.if_icmp .ge 16, 3) := by decide +kernel
theorem d_Model_clear_29 : decode b_Model_clear 29 = .ok (.aload_n 0, 1) := by decide +kernel
theorem d_Model_clear_30 : decode b_Model_clear 30 = .ok (.getfield 54, 3) := by decide +kernel
theorem d_Model_clear_33 : decode b_Model_clear 33 = .ok (.iload_n 1, 1) := by decide +kernel
theorem d_Model_clear_34 : decode b_Model_clear 34 = .ok (.iconst 0, 1) := by decide +kernel
theorem d_Model_clear_35 : decode b_Model_clear 35 = .ok (.iastore, 1) := by decide +kernel
theorem d_Model_clear_36 : decode b_Model_clear 36 = .ok (.iinc 1 1, 3) := by decide +kernel
theorem d_Model_clear_39 : decode b_Model_clear 39 = .ok (.goto (-16), 3) := by decide +kernel
theorem d_Model_clear_42 : decode b_Model_clear 42 = .ok (.iconst 0, 1) := by decide +kernel
theorem d_Model_clear_43 : decode b_Model_clear 43 = .ok (.istore_n 1, 1) := by decide +kernel
theorem d_Model_clear_44 : decode b_Model_clear 44 = .ok (.iload_n 1, 1) := by decide +kernel
theorem d_Model_clear_45 : decode b_Model_clear 45 = .ok (.iconst 5, 1) := by decide +kernel
theorem d_Model_clear_46 : decode b_Model_clear 46 = .ok (.if_icmp .ge 16, 3) := by decide +kernel
theorem d_Model_clear_49 : decode b_Model_clear 49 = .ok (.aload_n 0, 1) := by decide +kernel
theorem d_Model_clear_50 : decode b_Model_clear 50 = .ok (.getfield 57, 3) := by decide +kernel
theorem d_Model_clear_53 : decode b_Model_clear 53 = .ok (.iload_n 1, 1) := by decide +kernel
theorem d_Model_clear_54 : decode b_Model_clear 54 = .ok (.iconst 0, 1) := by decide +kernel
theorem d_Model_clear_55 : decode b_Model_clear 55 = .ok (.iastore, 1) := by decide +kernel
theorem d_Model_clear_56 : decode b_Model_clear 56 = .ok (.iinc 1 1, 3) := by decide +kernel
theorem d_Model_clear_59 : decode b_Model_clear 59 = .ok (.goto (-15), 3) := by decide +kernel
theorem d_Model_clear_62 : decode b_Model_clear 62 = .ok (.return_, 1) := by decide +kernel
