theorem d_J_init_0 : decode b_J_init 0 = .ok (.aload_n 0, 1) := by decide +kernel
theorem d_J_init_1 : decode b_J_init 1 = .ok (.invokespecial 1, 3) := by decide +kernel
theorem d_J_init_4 : decode b_J_init 4 = .ok (.aload_n 0, 1) := by decide +kernel
theorem d_J_init_5 : decode b_J_init 5 = .ok (.bipush 32, 2) := by decide +kernel
theorem d_J_init_7 : decode b_J_init 7 = .ok (.anewarray 9, 3) := by decide +kernel
theorem d_J_init_10 : decode b_J_init 10 = .ok (.putfield 11, 3) := by decide +kernel
theorem d_J_init_13 : decode b_J_init 13 = .ok (.aload_n 0, 1) := by decide +kernel
theorem d_J_init_14 : decode b_J_init 14 = .ok (.bipush 40, 2) := by decide +kernel
theorem d_J_init_16 : decode b_J_init 16 = .ok (.anewarray 15, 3) := by decide +kernel
theorem d_J_init_19 : decode b_J_init 19 = .ok (.putfield 17, 3) := by decide +kernel
theorem d_J_init_22 : decode b_J_init 22 = .ok (.aload_n 0, 1) := by decide +kernel
theorem d_J_init_23 : decode b_J_init 23 = .ok (.bipush 40, 2) := by decide +kernel
theorem d_J_init_25 : decode b_J_init 25 = .ok (.anewarray 21, 3) := by decide +kernel
theorem d_J_init_28 : decode b_J_init 28 = .ok (.putfield 23, 3) := by decide +kernel
theorem d_J_init_31 : decode b_J_init 31 = .ok (.aload_n 0, 1) := by decide +kernel
theorem d_J_init_32 : decode b_J_init 32 = .ok (.bipush 40, 2) := by decide +kernel
theorem d_J_init_34 : decode b_J_init 34 = .ok (.anewarray 27, 3) := by decide +kernel
theorem d_J_init_37 : decode b_J_init 37 = .ok (.putfield 29, 3) := by decide +kernel
theorem d_J_init_40 : decode b_J_init 40 = .ok (.aload_n 0, 1) := by decide +kernel
theorem d_J_init_41 : decode b_J_init 41 = .ok (.bipush 40, 2) := by decide +kernel
theorem d_J_init_43 : decode b_J_init 43 = .ok (.newarray .int, 2) := by decide +kernel
theorem d_J_init_45 : decode b_J_init 45 = .ok (.putfield 33, 3) := by decide +kernel
theorem d_J_init_48 : decode b_J_init 48 = .ok (.iconst 0, 1) := by decide +kernel
theorem d_J_init_49 : decode b_J_init 49 = .ok (.istore_n 1, 1) := by decide +kernel
theorem d_J_init_50 : decode b_J_init 50 = .ok (.iload_n 1, 1) := by decide +kernel
theorem d_J_init_51 : decode b_J_init 51 = .ok (.bipush 32, 2) := by decide +kernel
theorem d_J_init_53 : decode b_J_init 53 = .ok (.if_icmp .ge 22, 3) := by decide +kernel
theorem d_J_init_56 : decode b_J_init 56 = .ok (.aload_n 0, 1) := by decide +kernel
theorem d_J_init_57 : decode b_J_init 57 = .ok (.getfield 11, 3) := by decide +kernel
theorem d_J_init_60 : decode b_J_init 60 = .ok (.iload_n 1, 1) := by decide +kernel
theorem d_J_init_61 : decode b_J_init 61 = .ok (.new 9, 3) := by decide +kernel
theorem d_J_init_64 : decode b_J_init 64 = .ok (.dup, 1) := by decide +kernel
theorem d_J_init_65 : decode b_J_init 65 = .ok (.invokespecial 37, 3) := by decide +kernel
theorem d_J_init_68 : decode b_J_init 68 = .ok (.aastore, 1) := by decide +kernel
theorem d_J_init_69 : decode b_J_init 69 = .ok (.iinc 1 1, 3) := by decide +kernel
theorem d_J_init_72 : decode b_J_init 72 = .ok (.goto (-22), 3) := by decide +kernel
theorem d_J_init_75 : decode b_J_init 75 = .ok (.iconst 0, 1) := by decide +kernel
theorem d_J_init_76 : decode b_J_init 76 = .ok (.istore_n 1, 1) := by decide +kernel
theorem d_J_init_77 : decode b_J_init 77 = .ok (.iload_n 1, 1) := by decide +kernel
theorem d_J_init_78 : decode b_J_init 78 = .ok (.bipush 40, 2) := by decide +kernel
theorem d_J_init_80 : decode b_J_init 80 = .ok (.if_icmp .ge 49, 3) := by decide +kernel
theorem d_J_init_83 : decode b_J_init 83 = .ok (.aload_n 0, 1) := by decide +kernel
theorem d_J_init_84 : decode b_J_init 84 = .ok (.getfield 17, 3) := by decide +kernel
theorem d_J_init_87 : decode b_J_init 87 = .ok (.iload_n 1, 1) := by decide +kernel
theorem d_J_init_88 : decode b_J_init 88 = .ok (.new 15, 3) := by decide +kernel
theorem d_J_init_91 : decode b_J_init 91 = .ok (.dup, 1) := by decide +kernel
theorem d_J_init_92 : decode b_J_init 92 = .ok (.iload_n 1, 1) := by decide +kernel
theorem d_J_init_93 : decode b_J_init 93 = .ok (.invokespecial 38, 3) := by decide +kernel
theorem d_J_init_96 : decode b_J_init 96 = .ok (.aastore, 1) := by decide +kernel
theorem d_J_init_97 : decode b_J_init 97 = .ok (.aload_n 0, 1) := by decide +kernel
theorem d_J_init_98 : decode b_J_init 98 = .ok (.getfield 23, 3) := by decide +kernel
theorem d_J_init_101 : decode b_J_init 101 = .ok (.iload_n 1, 1) := by decide +kernel
theorem d_J_init_102 : decode b_J_init 102 = .ok (.new 21, 3) := by decide +kernel
theorem d_J_init_105 : decode b_J_init 105 = .ok (.dup, 1) := by decide +kernel
theorem d_J_init_106 : decode b_J_init 106 = .ok (.invokespecial 41, 3) := by decide +kernel
theorem d_J_init_109 : decode b_J_init 109 = .ok (.aastore, 1) := by decide +kernel
theorem d_J_init_110 : decode b_J_init 110 = .ok (.aload_n 0, 1) := by decide +kernel
theorem d_J_init_111 : decode b_J_init 111 = .ok (.getfield 29, 3) := by decide +kernel
theorem d_J_init_114 : decode b_J_init 114 = .ok (.iload_n 1, 1) := by decide +kernel
theorem d_J_init_115 : decode b_J_init 115 = .ok (.new 27, 3) := by decide +kernel
theorem d_J_init_118 : decode b_J_init 118 = .ok (.dup, 1) := by decide +kernel
theorem d_J_init_119 : decode b_J_init 119 = .ok (.invokespecial 42, 3) := by decide +kernel
theorem d_J_init_122 : decode b_J_init 122 = .ok (.aastore, 1) := by decide +kernel
theorem d_J_init_123 : decode b_J_init 123 = .ok (.iinc 1 1, 3) := by decide +kernel
theorem d_J_init_126 : decode b_J_init 126 = .ok (.goto (-49), 3) := by decide +kernel
theorem d_J_init_129 : decode b_J_init 129 = .ok (.aload_n 0, 1) := by decide +kernel
theorem d_J_init_130 : decode b_J_init 130 = .ok (.getfield 17, 3) := by decide +kernel
theorem d_J_init_133 : decode b_J_init 133 = .ok (.iconst 0, 1) := by decide +kernel
theorem d_J_init_134 : decode b_J_init 134 = .ok (.aaload, 1) := by decide +kernel
theorem d_J_init_135 : decode b_J_init 135 = .ok (.astore_n 1, 1) := by decide +kernel
theorem d_J_init_136 : decode b_J_init 136 = .ok (.aload_n 1, 1) := by decide +kernel
theorem d_J_init_137 : decode b_J_init 137 = .ok (.iconst 1, 1) := by decide +kernel
theorem d_J_init_138 : decode b_J_init 138 = .ok (.putfield 43, 3) := by decide +kernel
theorem d_J_init_141 : decode b_J_init 141 = .ok (.aload_n 0, 1) := by decide +kernel
theorem d_J_init_142 : decode b_J_init 142 = .ok (.aload_n 1, 1) := by decide +kernel
theorem d_J_init_143 : decode b_J_init 143 = .ok (.iconst 0, 1) := by decide +kernel
theorem d_J_init_144 : decode b_J_init 144 = .ok (.iconst (-1), 1) := by decide +kernel
theorem d_J_init_145 : decode b_J_init 145 = .ok (.iconst 0, 1) := by decide +kernel
theorem d_J_init_146 : decode b_J_init 146 = .ok (.aload_n 0, 1) := by decide +kernel
theorem d_J_init_147 : decode b_J_init 147 = .ok (.aload_n 1, 1) := by decide +kernel
theorem d_J_init_148 : decode b_J_init 148 = .ok (.iconst (-1), 1) := by decide +kernel
theorem d_J_init_149 : decode b_J_init 149 = .ok (.iconst 0, 1) := by decide +kernel
theorem d_J_init_150 : decode b_J_init 150 = .ok (.invokevirtual 47, 3) := by decide +kernel
theorem d_J_init_153 : decode b_J_init 153 = .ok (.invokevirtual 51, 3) := by decide +kernel
theorem d_J_init_156 : decode b_J_init 156 = .ok (.return_, 1) := by decide +kernel
theorem d_J_load_0 : decode b_J_load 0 = .ok (.aload_n 1, 1) := by decide +kernel
theorem d_J_load_1 : decode b_J_load 1 = .ok (.getfield 208, 3) := by decide +kernel
theorem d_J_load_4 : decode b_J_load 4 = .ok (.astore 4, 2) := by decide +kernel
theorem d_J_load_6 : decode b_J_load 6 = .ok (.aload 4, 2) := by decide +kernel
theorem d_J_load_8 : decode b_J_load 8 = .ok (.ifnull 15, 3) := by decide +kernel
theorem d_J_load_11 : decode b_J_load 11 = .ok (.aload 4, 2) := by decide +kernel
theorem d_J_load_13 : decode b_J_load 13 = .ok (.getfield 219, 3) := by decide +kernel
theorem d_J_load_16 : decode b_J_load 16 = .ok (.ifCond .eq 7, 3) := by decide +kernel
theorem d_J_load_19 : decode b_J_load 19 = .ok (.iconst 1, 1) := by decide +kernel
theorem d_J_load_20 : decode b_J_load 20 = .ok (.goto 4, 3) := by decide +kernel
theorem d_J_load_23 : decode b_J_load 23 = .ok (.iconst 0, 1) := by decide +kernel
theorem d_J_load_24 : decode b_J_load 24 = .ok (.istore 5, 2) := by decide +kernel
theorem d_J_load_26 : decode b_J_load 26 = .ok (.aload_n 0, 1) := by decide +kernel
theorem d_J_load_27 : decode b_J_load 27 = .ok (.aload_n 1, 1) := by decide +kernel
theorem d_J_load_28 : decode b_J_load 28 = .ok (.invokevirtual 222, 3) := by decide +kernel
theorem d_J_load_31 : decode b_J_load 31 = .ok (.astore 6, 2) := by decide +kernel
theorem d_J_load_33 : decode b_J_load 33 = .ok (.iload_n 2, 1) := by decide +kernel
theorem d_J_load_34 : decode b_J_load 34 = .ok (.iconst (-1), 1) := by decide +kernel
theorem d_J_load_35 : decode b_J_load 35 = .ok (.if_icmp .ne 40, 3) := by decide +kernel
theorem d_J_load_38 : decode b_J_load 38 = .ok (.aload 6, 2) := by decide +kernel
theorem d_J_load_40 : decode b_J_load 40 = .ok (.iload 5, 2) := by decide +kernel
theorem d_J_load_42 : decode b_J_load 42 = .ok (.putfield 219, 3) := by decide +kernel
theorem d_J_load_45 : decode b_J_load 45 = .ok (.aload 6, 2) := by decide +kernel
theorem d_J_load_47 : decode b_J_load 47 = .ok (.aload 4, 2) := by decide +kernel
theorem d_J_load_49 : decode b_J_load 49 = .ok (.ifnull 8, 3) := by decide +kernel
theorem d_J_load_52 : decode b_J_load 52 = .ok (.iload 5, 2) := by decide +kernel
theorem d_J_load_54 : decode b_J_load 54 = .ok (.ifCond .eq 10, 3) := by decide +kernel
theorem d_J_load_57 : decode b_J_load 57 = .ok (.aload_n 0, 1) := by decide +kernel
theorem d_J_load_58 : decode b_J_load 58 = .ok (.invokevirtual 226, 3) := by decide +kernel
theorem d_J_load_61 : decode b_J_load 61 = .ok (.goto 8, 3) := by decide +kernel
theorem d_J_load_64 : decode b_J_load 64 = .ok (.aload 4, 2) := by decide +kernel
theorem d_J_load_66 : decode b_J_load 66 = .ok (.getfield 168, 3) := by decide +kernel
theorem d_J_load_69 : decode b_J_load 69 = .ok (.putfield 168, 3) := by decide +kernel
theorem d_J_load_72 : decode b_J_load 72 = .ok (.aload 6, 2) := by decide +kernel
theorem d_J_load_74 : decode b_J_load 74 = .ok (.areturn, 1) := by decide +kernel
theorem d_J_load_75 : decode b_J_load 75 = .ok (.aload_n 0, 1) := by decide +kernel
theorem d_J_load_76 : decode b_J_load 76 = .ok (.getfield 11, 3) := by decide +kernel
theorem d_J_load_79 : decode b_J_load 79 = .ok (.iload_n 2, 1) := by decide +kernel
theorem d_J_load_80 : decode b_J_load 80 = .ok (.invokestatic 202, 3) := by decide +kernel
theorem d_J_load_83 : decode b_J_load 83 = .ok (.aaload, 1) := by decide +kernel
theorem d_J_load_84 : decode b_J_load 84 = .ok (.astore 7, 2) := by decide +kernel
theorem d_J_load_86 : decode b_J_load 86 = .ok (.aload 7, 2) := by decide +kernel
theorem d_J_load_88 : decode b_J_load 88 = .ok (.getfield 68, 3) := by decide +kernel
theorem d_J_load_91 : decode b_J_load 91 = .ok (.getstatic 62, 3) := by decide +kernel
theorem d_J_load_94 : decode b_J_load 94 = .ok (.if_acmp .eq 21, 3) := by decide +kernel
theorem d_J_load_97 : decode b_J_load 97 = .ok (.aload 6, 2) := by decide +kernel
theorem d_J_load_99 : decode b_J_load 99 = .ok (.iconst 0, 1) := by decide +kernel
theorem d_J_load_100 : decode b_J_load 100 = .ok (.putfield 219, 3) := by decide +kernel
theorem d_J_load_103 : decode b_J_load 103 = .ok (.aload 6, 2) := by decide +kernel
theorem d_J_load_105 : decode b_J_load 105 = .ok (.aload_n 0, 1) := by decide +kernel
theorem d_J_load_106 : decode b_J_load 106 = .ok (.invokevirtual 226, 3) := by decide +kernel
theorem d_J_load_109 : decode b_J_load 109 = .ok (.putfield 168, 3) := by decide +kernel
theorem d_J_load_112 : decode b_J_load 112 = .ok (.aload 6, 2) := by decide +kernel
theorem d_J_load_114 : decode b_J_load 114 = .ok (.areturn, 1) := by decide +kernel
theorem d_J_load_115 : decode b_J_load 115 = .ok (.aload 6, 2) := by decide +kernel
theorem d_J_load_117 : decode b_J_load 117 = .ok (.aload 7, 2) := by decide +kernel
theorem d_J_load_119 : decode b_J_load 119 = .ok (.getfield 78, 3) := by decide +kernel
theorem d_J_load_122 : decode b_J_load 122 = .ok (.ifCond .ne 8, 3) := by decide +kernel
theorem d_J_load_125 : decode b_J_load 125 = .ok (.iload 5, 2) := by decide +kernel
theorem d_J_load_127 : decode b_J_load 127 = .ok (.ifCond .eq 7, 3) := by decide +kernel
theorem d_J_load_130 : decode b_J_load 130 = .ok (.iconst 1, 1) := by decide +kernel
theorem d_J_load_131 : decode b_J_load 131 = .ok (.goto 4, 3) := by decide +kernel
theorem d_J_load_134 : decode b_J_load 134 = .ok (.iconst 0, 1) := by decide +kernel
theorem d_J_load_135 : decode b_J_load 135 = .ok (.putfield 219, 3) := by decide +kernel
theorem d_J_load_138 : decode b_J_load 138 = .ok (.aload 6, 2) := by decide +kernel
theorem d_J_load_140 : decode b_J_load 140 = .ok (.aload 6, 2) := by decide +kernel
theorem d_J_load_142 : decode b_J_load 142 = .ok (.getfield 219, 3) := by decide +kernel
theorem d_J_load_145 : decode b_J_load 145 = .ok (.ifCond .eq 10, 3) := by decide +kernel
theorem d_J_load_148 : decode b_J_load 148 = .ok (.aload_n 0, 1) := by decide +kernel
theorem d_J_load_149 : decode b_J_load 149 = .ok (.invokevirtual 226, 3) := by decide +kernel
theorem d_J_load_152 : decode b_J_load 152 = .ok (.goto 7, 3) := by decide +kernel
theorem d_J_load_155 : decode b_J_load 155 = .ok (.iload_n 2, 1) := by decide +kernel
theorem d_J_load_156 : decode b_J_load 156 = .ok (.invokestatic 205, 3) := by decide +kernel
theorem d_J_load_159 : decode b_J_load 159 = .ok (.putfield 168, 3) := by decide +kernel
theorem d_J_load_162 : decode b_J_load 162 = .ok (.aload_n 0, 1) := by decide +kernel
theorem d_J_load_163 : decode b_J_load 163 = .ok (.aload 6, 2) := by decide +kernel
theorem d_J_load_165 : decode b_J_load 165 = .ok (.aload 7, 2) := by decide +kernel
theorem d_J_load_167 : decode b_J_load 167 = .ok (.iload_n 3, 1) := by decide +kernel
theorem d_J_load_168 : decode b_J_load 168 = .ok (.invokevirtual 229, 3) := by decide +kernel
theorem d_J_load_171 : decode b_J_load 171 = .ok (.aload 6, 2) := by decide +kernel
theorem d_J_load_173 : decode b_J_load 173 = .ok (.areturn, 1) := by decide +kernel
theorem d_J_freeDocument_0 : decode b_J_freeDocument 0 = .ok (.iconst 0, 1) := by decide +kernel
theorem d_J_freeDocument_1 : decode b_J_freeDocument 1 = .ok (.istore_n 2, 1) := by decide +kernel
theorem d_J_freeDocument_2 : decode b_J_freeDocument 2 = .ok (.iload_n 2, 1) := by decide +kernel
theorem d_J_freeDocument_3 : decode b_J_freeDocument 3 = .ok (.bipush 39, 2) := by decide +kernel
theorem d_J_freeDocument_5 : decode b_J_freeDocument 5 = .ok (.if_icmp .ge 21, 3) := by decide +kernel
theorem d_J_freeDocument_8 : decode b_J_freeDocument 8 = .ok (.aload_n 0, 1) := by decide +kernel
theorem d_J_freeDocument_9 : decode b_J_freeDocument 9 = .ok (.getfield 23, 3) := by decide +kernel
theorem d_J_freeDocument_12 : decode b_J_freeDocument 12 = .ok (.iload_n 2, 1) := by decide +kernel
theorem d_J_freeDocument_13 : decode b_J_freeDocument 13 = .ok (.aaload, 1) := by decide +kernel
theorem d_J_freeDocument_14 : decode b_J_freeDocument 14 = .ok (.getfield 244, 3) := by decide +kernel
theorem d_J_freeDocument_17 : decode b_J_freeDocument 17 = .ok (.ifCond .eq 9, 3) := by decide +kernel
theorem d_J_freeDocument_20 : decode b_J_freeDocument 20 = .ok (.iinc 2 1, 3) := by decide +kernel
theorem d_J_freeDocument_23 : decode b_J_freeDocument 23 = .ok (.goto (-21), 3) := by decide +kernel
theorem d_J_freeDocument_26 : decode b_J_freeDocument 26 = .ok (.aload_n 0, 1) := by decide +kernel
theorem d_J_freeDocument_27 : decode b_J_freeDocument 27 = .ok (.getfield 23, 3) := by decide +kernel
theorem d_J_freeDocument_30 : decode b_J_freeDocument 30 = .ok (.iload_n 2, 1) := by decide +kernel
theorem d_J_freeDocument_31 : decode b_J_freeDocument 31 = .ok (.aaload, 1) := by decide +kernel
theorem d_J_freeDocument_32 : decode b_J_freeDocument 32 = .ok (.astore_n 3, 1) := by decide +kernel
theorem d_J_freeDocument_33 : decode b_J_freeDocument 33 = .ok (.aload_n 3, 1) := by decide +kernel
theorem d_J_freeDocument_34 : decode b_J_freeDocument 34 = .ok (.iconst 1, 1) := by decide +kernel
theorem d_J_freeDocument_35 : decode b_J_freeDocument 35 = .ok (.putfield 244, 3) := by decide +kernel
theorem d_J_freeDocument_38 : decode b_J_freeDocument 38 = .ok (.aload_n 3, 1) := by decide +kernel
theorem d_J_freeDocument_39 : decode b_J_freeDocument 39 = .ok (.aload_n 1, 1) := by decide +kernel
theorem d_J_freeDocument_40 : decode b_J_freeDocument 40 = .ok (.putfield 211, 3) := by decide +kernel
theorem d_J_freeDocument_43 : decode b_J_freeDocument 43 = .ok (.aload_n 3, 1) := by decide +kernel
theorem d_J_freeDocument_44 : decode b_J_freeDocument 44 = .ok (.aconst_null, 1) := by decide +kernel
theorem d_J_freeDocument_45 : decode b_J_freeDocument 45 = .ok (.putfield 171, 3) := by decide +kernel
theorem d_J_freeDocument_48 : decode b_J_freeDocument 48 = .ok (.aload_n 3, 1) := by decide +kernel
theorem d_J_freeDocument_49 : decode b_J_freeDocument 49 = .ok (.aconst_null, 1) := by decide +kernel
theorem d_J_freeDocument_50 : decode b_J_freeDocument 50 = .ok (.putfield 177, 3) := by decide +kernel
theorem d_J_freeDocument_53 : decode b_J_freeDocument 53 = .ok (.aload_n 3, 1) := by decide +kernel
theorem d_J_freeDocument_54 : decode b_J_freeDocument 54 = .ok (.areturn, 1) := by decide +kernel
theorem d_J_giveOpaqueOrigin_0 : decode b_J_giveOpaqueOrigin 0 = .ok (.iconst 4, 1) := by decide +kernel
theorem d_J_giveOpaqueOrigin_1 : decode b_J_giveOpaqueOrigin 1 = .ok (.aload_n 0, 1) := by decide +kernel
theorem d_J_giveOpaqueOrigin_2 : decode b_J_giveOpaqueOrigin 2 = .ok (.getfield 193, 3) := by decide +kernel
theorem d_J_giveOpaqueOrigin_5 : decode b_J_giveOpaqueOrigin 5 = .ok (.iadd, 1) := by decide +kernel
theorem d_J_giveOpaqueOrigin_6 : decode b_J_giveOpaqueOrigin 6 = .ok (.istore_n 1, 1) := by decide +kernel
theorem d_J_giveOpaqueOrigin_7 : decode b_J_giveOpaqueOrigin 7 = .ok (.aload_n 0, 1) := by decide +kernel
theorem d_J_giveOpaqueOrigin_8 : decode b_J_giveOpaqueOrigin 8 = .ok (.dup, 1) := by decide +kernel
theorem d_J_giveOpaqueOrigin_9 : decode b_J_giveOpaqueOrigin 9 = .ok (.getfield 193, 3) := by decide +kernel
theorem d_J_giveOpaqueOrigin_12 : decode b_J_giveOpaqueOrigin 12 = .ok (.iconst 1, 1) := by decide +kernel
theorem d_J_giveOpaqueOrigin_13 : decode b_J_giveOpaqueOrigin 13 = .ok (.iadd, 1) := by decide +kernel
theorem d_J_giveOpaqueOrigin_14 : decode b_J_giveOpaqueOrigin 14 = .ok (.putfield 193, 3) := by decide +kernel
theorem d_J_giveOpaqueOrigin_17 : decode b_J_giveOpaqueOrigin 17 = .ok (.iload_n 1, 1) := by decide +kernel
theorem d_J_giveOpaqueOrigin_18 : decode b_J_giveOpaqueOrigin 18 = .ok (.ireturn, 1) := by decide +kernel
theorem d_J_pageOf_0 : decode b_J_pageOf 0 = .ok (.iload_n 0, 1) := by decide +kernel
theorem d_J_pageOf_1 : decode b_J_pageOf 1 = .ok (.bipush 8, 2) := by decide +kernel
theorem d_J_pageOf_3 : decode b_J_pageOf 3 = .ok (.idiv, 1) := by decide +kernel
theorem d_J_pageOf_4 : decode b_J_pageOf 4 = .ok (.ireturn, 1) := by decide +kernel
theorem d_J_hostOf_0 : decode b_J_hostOf 0 = .ok (.iload_n 0, 1) := by decide +kernel
theorem d_J_hostOf_1 : decode b_J_hostOf 1 = .ok (.bipush 64, 2) := by decide +kernel
theorem d_J_hostOf_3 : decode b_J_hostOf 3 = .ok (.idiv, 1) := by decide +kernel
theorem d_J_hostOf_4 : decode b_J_hostOf 4 = .ok (.ireturn, 1) := by decide +kernel
theorem d_J_makeFrames_0 : decode b_J_makeFrames 0 = .ok (.iconst 2, 1) := by decide +kernel
theorem d_J_makeFrames_1 : decode b_J_makeFrames 1 = .ok (.aload_n 1, 1) := by decide +kernel
theorem d_J_makeFrames_2 : decode b_J_makeFrames 2 = .ok (.getfield 211, 3) := by decide +kernel
theorem d_J_makeFrames_5 : decode b_J_makeFrames 5 = .ok (.getfield 233, 3) := by decide +kernel
theorem d_J_makeFrames_8 : decode b_J_makeFrames 8 = .ok (.isub, 1) := by decide +kernel
theorem d_J_makeFrames_9 : decode b_J_makeFrames 9 = .ok (.istore 4, 2) := by decide +kernel
theorem d_J_makeFrames_11 : decode b_J_makeFrames 11 = .ok (.iload 4, 2) := by decide +kernel
theorem d_J_makeFrames_13 : decode b_J_makeFrames 13 = .ok (.ifCond .le 29, 3) := by decide +kernel
theorem d_J_makeFrames_16 : decode b_J_makeFrames 16 = .ok (.aload_n 2, 1) := by decide +kernel
theorem d_J_makeFrames_17 : decode b_J_makeFrames 17 = .ok (.getfield 71, 3) := by decide +kernel
theorem d_J_makeFrames_20 : decode b_J_makeFrames 20 = .ok (.bipush (-2), 2) := by decide +kernel
theorem d_J_makeFrames_22 : decode b_J_makeFrames 22 = .ok (.if_icmp .eq 20, 3) := by decide +kernel
theorem d_J_makeFrames_25 : decode b_J_makeFrames 25 = .ok (.aload_n 1, 1) := by decide +kernel
theorem d_J_makeFrames_26 : decode b_J_makeFrames 26 = .ok (.aload_n 0, 1) := by decide +kernel
theorem d_J_makeFrames_27 : decode b_J_makeFrames 27 = .ok (.aload_n 1, 1) := by decide +kernel
theorem d_J_makeFrames_28 : decode b_J_makeFrames 28 = .ok (.aload_n 2, 1) := by decide +kernel
theorem d_J_makeFrames_29 : decode b_J_makeFrames 29 = .ok (.getfield 71, 3) := by decide +kernel
theorem d_J_makeFrames_32 : decode b_J_makeFrames 32 = .ok (.iload_n 3, 1) := by decide +kernel
theorem d_J_makeFrames_33 : decode b_J_makeFrames 33 = .ok (.invokevirtual 236, 3) := by decide +kernel
theorem d_J_makeFrames_36 : decode b_J_makeFrames 36 = .ok (.putfield 171, 3) := by decide +kernel
theorem d_J_makeFrames_39 : decode b_J_makeFrames 39 = .ok (.iinc 4 (-1), 3) := by decide +kernel
theorem d_J_makeFrames_42 : decode b_J_makeFrames 42 = .ok (.iload 4, 2) := by decide +kernel
theorem d_J_makeFrames_44 : decode b_J_makeFrames 44 = .ok (.ifCond .le 46, 3) := by decide +kernel
theorem d_J_makeFrames_47 : decode b_J_makeFrames 47 = .ok (.aload_n 2, 1) := by decide +kernel
theorem d_J_makeFrames_48 : decode b_J_makeFrames 48 = .ok (.getfield 75, 3) := by decide +kernel
theorem d_J_makeFrames_51 : decode b_J_makeFrames 51 = .ok (.bipush (-2), 2) := by decide +kernel
theorem d_J_makeFrames_53 : decode b_J_makeFrames 53 = .ok (.if_icmp .eq 37, 3) := by decide +kernel
theorem d_J_makeFrames_56 : decode b_J_makeFrames 56 = .ok (.aload_n 0, 1) := by decide +kernel
theorem d_J_makeFrames_57 : decode b_J_makeFrames 57 = .ok (.aload_n 1, 1) := by decide +kernel
theorem d_J_makeFrames_58 : decode b_J_makeFrames 58 = .ok (.aload_n 2, 1) := by decide +kernel
theorem d_J_makeFrames_59 : decode b_J_makeFrames 59 = .ok (.getfield 75, 3) := by decide +kernel
theorem d_J_makeFrames_62 : decode b_J_makeFrames 62 = .ok (.iload_n 3, 1) := by decide +kernel
theorem d_J_makeFrames_63 : decode b_J_makeFrames 63 = .ok (.invokevirtual 236, 3) := by decide +kernel
theorem d_J_makeFrames_66 : decode b_J_makeFrames 66 = .ok (.astore 5, 2) := by decide +kernel
theorem d_J_makeFrames_68 : decode b_J_makeFrames 68 = .ok (.aload_n 1, 1) := by decide +kernel
theorem d_J_makeFrames_69 : decode b_J_makeFrames 69 = .ok (.getfield 171, 3) := by decide +kernel
theorem d_J_makeFrames_72 : decode b_J_makeFrames 72 = .ok (.ifnonnull 12, 3) := by decide +kernel
theorem d_J_makeFrames_75 : decode b_J_makeFrames 75 = .ok (.aload_n 1, 1) := by decide +kernel
theorem d_J_makeFrames_76 : decode b_J_makeFrames 76 = .ok (.aload 5, 2) := by decide +kernel
theorem d_J_makeFrames_78 : decode b_J_makeFrames 78 = .ok (.putfield 171, 3) := by decide +kernel
theorem d_J_makeFrames_81 : decode b_J_makeFrames 81 = .ok (.goto 9, 3) := by decide +kernel
theorem d_J_makeFrames_84 : decode b_J_makeFrames 84 = .ok (.aload_n 1, 1) := by decide +kernel
theorem d_J_makeFrames_85 : decode b_J_makeFrames 85 = .ok (.aload 5, 2) := by decide +kernel
theorem d_J_makeFrames_87 : decode b_J_makeFrames 87 = .ok (.putfield 177, 3) := by decide +kernel
theorem d_J_makeFrames_90 : decode b_J_makeFrames 90 = .ok (.return_, 1) := by decide +kernel
theorem d_J_makeFrame_0 : decode b_J_makeFrame 0 = .ok (.aload_n 0, 1) := by decide +kernel
theorem d_J_makeFrame_1 : decode b_J_makeFrame 1 = .ok (.invokevirtual 240, 3) := by decide +kernel
theorem d_J_makeFrame_4 : decode b_J_makeFrame 4 = .ok (.astore 4, 2) := by decide +kernel
theorem d_J_makeFrame_6 : decode b_J_makeFrame 6 = .ok (.aload 4, 2) := by decide +kernel
theorem d_J_makeFrame_8 : decode b_J_makeFrame 8 = .ok (.iconst 1, 1) := by decide +kernel
theorem d_J_makeFrame_9 : decode b_J_makeFrame 9 = .ok (.putfield 43, 3) := by decide +kernel
theorem d_J_makeFrame_12 : decode b_J_makeFrame 12 = .ok (.aload 4, 2) := by decide +kernel
theorem d_J_makeFrame_14 : decode b_J_makeFrame 14 = .ok (.aload_n 1, 1) := by decide +kernel
theorem d_J_makeFrame_15 : decode b_J_makeFrame 15 = .ok (.getfield 211, 3) := by decide +kernel
theorem d_J_makeFrame_18 : decode b_J_makeFrame 18 = .ok (.getfield 233, 3) := by decide +kernel
theorem d_J_makeFrame_21 : decode b_J_makeFrame 21 = .ok (.iconst 1, 1) := by decide +kernel
theorem d_J_makeFrame_22 : decode b_J_makeFrame 22 = .ok (.iadd, 1) := by decide +kernel
theorem d_J_makeFrame_23 : decode b_J_makeFrame 23 = .ok (.putfield 233, 3) := by decide +kernel
theorem d_J_makeFrame_26 : decode b_J_makeFrame 26 = .ok (.aload 4, 2) := by decide +kernel
theorem d_J_makeFrame_28 : decode b_J_makeFrame 28 = .ok (.aload_n 1, 1) := by decide +kernel
theorem d_J_makeFrame_29 : decode b_J_makeFrame 29 = .ok (.putfield 208, 3) := by decide +kernel
theorem d_J_makeFrame_32 : decode b_J_makeFrame 32 = .ok (.aload_n 0, 1) := by decide +kernel
theorem d_J_makeFrame_33 : decode b_J_makeFrame 33 = .ok (.iload_n 2, 1) := by decide +kernel
theorem d_J_makeFrame_34 : decode b_J_makeFrame 34 = .ok (.invokevirtual 131, 3) := by decide +kernel
theorem d_J_makeFrame_37 : decode b_J_makeFrame 37 = .ok (.istore 5, 2) := by decide +kernel
theorem d_J_makeFrame_39 : decode b_J_makeFrame 39 = .ok (.aload_n 0, 1) := by decide +kernel
theorem d_J_makeFrame_40 : decode b_J_makeFrame 40 = .ok (.aload 4, 2) := by decide +kernel
theorem d_J_makeFrame_42 : decode b_J_makeFrame 42 = .ok (.iload_n 3, 1) := by decide +kernel
theorem d_J_makeFrame_43 : decode b_J_makeFrame 43 = .ok (.iload 5, 2) := by decide +kernel
theorem d_J_makeFrame_45 : decode b_J_makeFrame 45 = .ok (.iconst 0, 1) := by decide +kernel
theorem d_J_makeFrame_46 : decode b_J_makeFrame 46 = .ok (.aload_n 0, 1) := by decide +kernel
theorem d_J_makeFrame_47 : decode b_J_makeFrame 47 = .ok (.aload 4, 2) := by decide +kernel
theorem d_J_makeFrame_49 : decode b_J_makeFrame 49 = .ok (.iload 5, 2) := by decide +kernel
theorem d_J_makeFrame_51 : decode b_J_makeFrame 51 = .ok (.iload_n 3, 1) := by decide +kernel
theorem d_J_makeFrame_52 : decode b_J_makeFrame 52 = .ok (.invokevirtual 47, 3) := by decide +kernel
theorem d_J_makeFrame_55 : decode b_J_makeFrame 55 = .ok (.invokevirtual 51, 3) := by decide +kernel
theorem d_J_makeFrame_58 : decode b_J_makeFrame 58 = .ok (.aload 4, 2) := by decide +kernel
theorem d_J_makeFrame_60 : decode b_J_makeFrame 60 = .ok (.areturn, 1) := by decide +kernel
theorem d_J_freeNavigable_0 : decode b_J_freeNavigable 0 = .ok (.iconst 1, 1) := by decide +kernel
theorem d_J_freeNavigable_1 : decode b_J_freeNavigable 1 = .ok (.istore_n 1, 1) := by decide +kernel
theorem d_J_freeNavigable_2 : decode b_J_freeNavigable 2 = .ok (.iload_n 1, 1) := by decide +kernel
theorem d_J_freeNavigable_3 : decode b_J_freeNavigable 3 = .ok (.bipush 39, 2) := by decide +kernel
theorem d_J_freeNavigable_5 : decode b_J_freeNavigable 5 = .ok (.if_icmp .ge 21, 3) := by decide +kernel
theorem d_J_freeNavigable_8 : decode b_J_freeNavigable 8 = .ok (.aload_n 0, 1) := by decide +kernel
theorem d_J_freeNavigable_9 : decode b_J_freeNavigable 9 = .ok (.getfield 17, 3) := by decide +kernel
theorem d_J_freeNavigable_12 : decode b_J_freeNavigable 12 = .ok (.iload_n 1, 1) := by decide +kernel
theorem d_J_freeNavigable_13 : decode b_J_freeNavigable 13 = .ok (.aaload, 1) := by decide +kernel
theorem d_J_freeNavigable_14 : decode b_J_freeNavigable 14 = .ok (.getfield 43, 3) := by decide +kernel
theorem d_J_freeNavigable_17 : decode b_J_freeNavigable 17 = .ok (.ifCond .eq 9, 3) := by decide +kernel
theorem d_J_freeNavigable_20 : decode b_J_freeNavigable 20 = .ok (.iinc 1 1, 3) := by decide +kernel
theorem d_J_freeNavigable_23 : decode b_J_freeNavigable 23 = .ok (.goto (-21), 3) := by decide +kernel
theorem d_J_freeNavigable_26 : decode b_J_freeNavigable 26 = .ok (.aload_n 0, 1) := by decide +kernel
theorem d_J_freeNavigable_27 : decode b_J_freeNavigable 27 = .ok (.getfield 17, 3) := by decide +kernel
theorem d_J_freeNavigable_30 : decode b_J_freeNavigable 30 = .ok (.iload_n 1, 1) := by decide +kernel
theorem d_J_freeNavigable_31 : decode b_J_freeNavigable 31 = .ok (.aaload, 1) := by decide +kernel
theorem d_J_freeNavigable_32 : decode b_J_freeNavigable 32 = .ok (.areturn, 1) := by decide +kernel
theorem d_J_followDetours_0 : decode b_J_followDetours 0 = .ok (.iload_n 1, 1) := by decide +kernel
theorem d_J_followDetours_1 : decode b_J_followDetours 1 = .ok (.istore_n 2, 1) := by decide +kernel
theorem d_J_followDetours_2 : decode b_J_followDetours 2 = .ok (.iconst 0, 1) := by decide +kernel
theorem d_J_followDetours_3 : decode b_J_followDetours 3 = .ok (.istore_n 3, 1) := by decide +kernel
theorem d_J_followDetours_4 : decode b_J_followDetours 4 = .ok (.iload_n 3, 1) := by decide +kernel
theorem d_J_followDetours_5 : decode b_J_followDetours 5 = .ok (.iconst 4, 1) := by decide +kernel
theorem d_J_followDetours_6 : decode b_J_followDetours 6 = .ok (.if_icmp .ge 52, 3) := by decide +kernel
theorem d_J_followDetours_9 : decode b_J_followDetours 9 = .ok (.aload_n 0, 1) := by decide +kernel
theorem d_J_followDetours_10 : decode b_J_followDetours 10 = .ok (.iload_n 2, 1) := by decide +kernel
theorem d_J_followDetours_11 : decode b_J_followDetours 11 = .ok (.invokevirtual 216, 3) := by decide +kernel
theorem d_J_followDetours_14 : decode b_J_followDetours 14 = .ok (.ifCond .eq 44, 3) := by decide +kernel
theorem d_J_followDetours_17 : decode b_J_followDetours 17 = .ok (.aload_n 0, 1) := by decide +kernel
theorem d_J_followDetours_18 : decode b_J_followDetours 18 = .ok (.getfield 11, 3) := by decide +kernel
theorem d_J_followDetours_21 : decode b_J_followDetours 21 = .ok (.iload_n 2, 1) := by decide +kernel
theorem d_J_followDetours_22 : decode b_J_followDetours 22 = .ok (.invokestatic 202, 3) := by decide +kernel
theorem d_J_followDetours_25 : decode b_J_followDetours 25 = .ok (.aaload, 1) := by decide +kernel
theorem d_J_followDetours_26 : decode b_J_followDetours 26 = .ok (.getfield 87, 3) := by decide +kernel
theorem d_J_followDetours_29 : decode b_J_followDetours 29 = .ok (.istore 4, 2) := by decide +kernel
theorem d_J_followDetours_31 : decode b_J_followDetours 31 = .ok (.iload 4, 2) := by decide +kernel
theorem d_J_followDetours_33 : decode b_J_followDetours 33 = .ok (.invokestatic 199, 3) := by decide +kernel
theorem d_J_followDetours_36 : decode b_J_followDetours 36 = .ok (.ifCond .ne 13, 3) := by decide +kernel
theorem d_J_followDetours_39 : decode b_J_followDetours 39 = .ok (.iload 4, 2) := by decide +kernel
theorem d_J_followDetours_41 : decode b_J_followDetours 41 = .ok (.iload_n 2, 1) := by decide +kernel
theorem d_J_followDetours_42 : decode b_J_followDetours 42 = .ok (.invokestatic 199, 3) := by decide +kernel
theorem d_J_followDetours_45 : decode b_J_followDetours 45 = .ok (.iadd, 1) := by decide +kernel
theorem d_J_followDetours_46 : decode b_J_followDetours 46 = .ok (.goto 5, 3) := by decide +kernel
theorem d_J_followDetours_49 : decode b_J_followDetours 49 = .ok (.iload 4, 2) := by decide +kernel
theorem d_J_followDetours_51 : decode b_J_followDetours 51 = .ok (.istore_n 2, 1) := by decide +kernel
theorem d_J_followDetours_52 : decode b_J_followDetours 52 = .ok (.iinc 3 1, 3) := by decide +kernel
theorem d_J_followDetours_55 : decode b_J_followDetours 55 = .ok (.goto (-51), 3) := by decide +kernel
theorem d_J_followDetours_58 : decode b_J_followDetours 58 = .ok (.iload_n 2, 1) := by decide +kernel
theorem d_J_followDetours_59 : decode b_J_followDetours 59 = .ok (.ireturn, 1) := by decide +kernel
theorem d_J_isDetour_0 : decode b_J_isDetour 0 = .ok (.iload_n 1, 1) := by decide +kernel
theorem d_J_isDetour_1 : decode b_J_isDetour 1 = .ok (.iconst (-1), 1) := by decide +kernel
theorem d_J_isDetour_2 : decode b_J_isDetour 2 = .ok (.if_icmp .eq 25, 3) := by decide +kernel
theorem d_J_isDetour_5 : decode b_J_isDetour 5 = .ok (.aload_n 0, 1) := by decide +kernel
theorem d_J_isDetour_6 : decode b_J_isDetour 6 = .ok (.getfield 11, 3) := by decide +kernel
theorem d_J_isDetour_9 : decode b_J_isDetour 9 = .ok (.iload_n 1, 1) := by decide +kernel
theorem d_J_isDetour_10 : decode b_J_isDetour 10 = .ok (.invokestatic 202, 3) := by decide +kernel
theorem d_J_isDetour_13 : decode b_J_isDetour 13 = .ok (.aaload, 1) := by decide +kernel
theorem d_J_isDetour_14 : decode b_J_isDetour 14 = .ok (.getfield 68, 3) := by decide +kernel
theorem d_J_isDetour_17 : decode b_J_isDetour 17 = .ok (.getstatic 84, 3) := by decide +kernel
theorem d_J_isDetour_20 : decode b_J_isDetour 20 = .ok (.if_acmp .ne 7, 3) := by decide +kernel
theorem d_J_isDetour_23 : decode b_J_isDetour 23 = .ok (.iconst 1, 1) := by decide +kernel
theorem d_J_isDetour_24 : decode b_J_isDetour 24 = .ok (.goto 4, 3) := by decide +kernel
theorem d_J_isDetour_27 : decode b_J_isDetour 27 = .ok (.iconst 0, 1) := by decide +kernel
theorem d_J_isDetour_28 : decode b_J_isDetour 28 = .ok (.ireturn, 1) := by decide +kernel
theorem d_J_fragmentOf_0 : decode b_J_fragmentOf 0 = .ok (.iload_n 0, 1) := by decide +kernel
theorem d_J_fragmentOf_1 : decode b_J_fragmentOf 1 = .ok (.iconst (-1), 1) := by decide +kernel
theorem d_J_fragmentOf_2 : decode b_J_fragmentOf 2 = .ok (.if_icmp .ne 7, 3) := by decide +kernel
theorem d_J_fragmentOf_5 : decode b_J_fragmentOf 5 = .ok (.iconst 0, 1) := by decide +kernel
theorem d_J_fragmentOf_6 : decode b_J_fragmentOf 6 = .ok (.goto 7, 3) := by decide +kernel
theorem d_J_fragmentOf_9 : decode b_J_fragmentOf 9 = .ok (.iload_n 0, 1) := by decide +kernel
theorem d_J_fragmentOf_10 : decode b_J_fragmentOf 10 = .ok (.bipush 8, 2) := by decide +kernel
theorem d_J_fragmentOf_12 : decode b_J_fragmentOf 12 = .ok (.irem, 1) := by decide +kernel
theorem d_J_fragmentOf_13 : decode b_J_fragmentOf 13 = .ok (.ireturn, 1) := by decide +kernel
theorem d_J_addEntry_0 : decode b_J_addEntry 0 = .ok (.iconst 0, 1) := by decide +kernel
theorem d_J_addEntry_1 : decode b_J_addEntry 1 = .ok (.istore 6, 2) := by decide +kernel
theorem d_J_addEntry_3 : decode b_J_addEntry 3 = .ok (.iload 6, 2) := by decide +kernel
theorem d_J_addEntry_5 : decode b_J_addEntry 5 = .ok (.bipush 39, 2) := by decide +kernel
theorem d_J_addEntry_7 : decode b_J_addEntry 7 = .ok (.if_icmp .ge 22, 3) := by decide +kernel
theorem d_J_addEntry_10 : decode b_J_addEntry 10 = .ok (.aload_n 0, 1) := by decide +kernel
theorem d_J_addEntry_11 : decode b_J_addEntry 11 = .ok (.getfield 29, 3) := by decide +kernel
theorem d_J_addEntry_14 : decode b_J_addEntry 14 = .ok (.iload 6, 2) := by decide +kernel
theorem d_J_addEntry_16 : decode b_J_addEntry 16 = .ok (.aaload, 1) := by decide +kernel
theorem d_J_addEntry_17 : decode b_J_addEntry 17 = .ok (.getfield 179, 3) := by decide +kernel
theorem d_J_addEntry_20 : decode b_J_addEntry 20 = .ok (.ifCond .eq 9, 3) := by decide +kernel
theorem d_J_addEntry_23 : decode b_J_addEntry 23 = .ok (.iinc 6 1, 3) := by decide +kernel
theorem d_J_addEntry_26 : decode b_J_addEntry 26 = .ok (.goto (-23), 3) := by decide +kernel
theorem d_J_addEntry_29 : decode b_J_addEntry 29 = .ok (.aload_n 0, 1) := by decide +kernel
theorem d_J_addEntry_30 : decode b_J_addEntry 30 = .ok (.getfield 29, 3) := by decide +kernel
theorem d_J_addEntry_33 : decode b_J_addEntry 33 = .ok (.iload 6, 2) := by decide +kernel
theorem d_J_addEntry_35 : decode b_J_addEntry 35 = .ok (.aaload, 1) := by decide +kernel
theorem d_J_addEntry_36 : decode b_J_addEntry 36 = .ok (.astore 7, 2) := by decide +kernel
theorem d_J_addEntry_38 : decode b_J_addEntry 38 = .ok (.aload 7, 2) := by decide +kernel
theorem d_J_addEntry_40 : decode b_J_addEntry 40 = .ok (.iconst 1, 1) := by decide +kernel
theorem d_J_addEntry_41 : decode b_J_addEntry 41 = .ok (.putfield 179, 3) := by decide +kernel
theorem d_J_addEntry_44 : decode b_J_addEntry 44 = .ok (.aload 7, 2) := by decide +kernel
theorem d_J_addEntry_46 : decode b_J_addEntry 46 = .ok (.aload_n 1, 1) := by decide +kernel
theorem d_J_addEntry_47 : decode b_J_addEntry 47 = .ok (.putfield 135, 3) := by decide +kernel
theorem d_J_addEntry_50 : decode b_J_addEntry 50 = .ok (.aload 7, 2) := by decide +kernel
theorem d_J_addEntry_52 : decode b_J_addEntry 52 = .ok (.iload_n 2, 1) := by decide +kernel
theorem d_J_addEntry_53 : decode b_J_addEntry 53 = .ok (.putfield 128, 3) := by decide +kernel
theorem d_J_addEntry_56 : decode b_J_addEntry 56 = .ok (.aload 7, 2) := by decide +kernel
theorem d_J_addEntry_58 : decode b_J_addEntry 58 = .ok (.iload_n 3, 1) := by decide +kernel
theorem d_J_addEntry_59 : decode b_J_addEntry 59 = .ok (.putfield 103, 3) := by decide +kernel
theorem d_J_addEntry_62 : decode b_J_addEntry 62 = .ok (.aload 7, 2) := by decide +kernel
theorem d_J_addEntry_64 : decode b_J_addEntry 64 = .ok (.iload 4, 2) := by decide +kernel
theorem d_J_addEntry_66 : decode b_J_addEntry 66 = .ok (.putfield 165, 3) := by decide +kernel
theorem d_J_addEntry_69 : decode b_J_addEntry 69 = .ok (.aload 7, 2) := by decide +kernel
theorem d_J_addEntry_71 : decode b_J_addEntry 71 = .ok (.aload 5, 2) := by decide +kernel
theorem d_J_addEntry_73 : decode b_J_addEntry 73 = .ok (.putfield 120, 3) := by decide +kernel
theorem d_J_addEntry_76 : decode b_J_addEntry 76 = .ok (.return_, 1) := by decide +kernel
theorem d_J_content_0 : decode b_J_content 0 = .ok (.iload_n 1, 1) := by decide +kernel
theorem d_J_content_1 : decode b_J_content 1 = .ok (.invokestatic 55, 3) := by decide +kernel
theorem d_J_content_4 : decode b_J_content 4 = .ok (.ifCond .eq 17, 3) := by decide +kernel
theorem d_J_content_7 : decode b_J_content 7 = .ok (.iload_n 2, 1) := by decide +kernel
theorem d_J_content_8 : decode b_J_content 8 = .ok (.invokestatic 59, 3) := by decide +kernel
theorem d_J_content_11 : decode b_J_content 11 = .ok (.ifCond .eq 10, 3) := by decide +kernel
theorem d_J_content_14 : decode b_J_content 14 = .ok (.iload_n 3, 1) := by decide +kernel
theorem d_J_content_15 : decode b_J_content 15 = .ok (.invokestatic 59, 3) := by decide +kernel
theorem d_J_content_18 : decode b_J_content 18 = .ok (.ifCond .ne 5, 3) := by decide +kernel
theorem d_J_content_21 : decode b_J_content 21 = .ok (.iconst 0, 1) := by decide +kernel
theorem d_J_content_22 : decode b_J_content 22 = .ok (.ireturn, 1) := by decide +kernel
theorem d_J_content_23 : decode b_J_content 23 = .ok (.aload_n 0, 1) := by decide +kernel
theorem d_J_content_24 : decode b_J_content 24 = .ok (.getfield 11, 3) := by decide +kernel
theorem d_J_content_27 : decode b_J_content 27 = .ok (.iload_n 1, 1) := by decide +kernel
theorem d_J_content_28 : decode b_J_content 28 = .ok (.aaload, 1) := by decide +kernel
theorem d_J_content_29 : decode b_J_content 29 = .ok (.astore 5, 2) := by decide +kernel
theorem d_J_content_31 : decode b_J_content 31 = .ok (.aload 5, 2) := by decide +kernel
theorem d_J_content_33 : decode b_J_content 33 = .ok (.getstatic 62, 3) := by decide +kernel
theorem d_J_content_36 : decode b_J_content 36 = .ok (.putfield 68, 3) := by decide +kernel
theorem d_J_content_39 : decode b_J_content 39 = .ok (.aload 5, 2) := by decide +kernel
theorem d_J_content_41 : decode b_J_content 41 = .ok (.iload_n 2, 1) := by decide +kernel
theorem d_J_content_42 : decode b_J_content 42 = .ok (.putfield 71, 3) := by decide +kernel
theorem d_J_content_45 : decode b_J_content 45 = .ok (.aload 5, 2) := by decide +kernel
theorem d_J_content_47 : decode b_J_content 47 = .ok (.iload_n 3, 1) := by decide +kernel
theorem d_J_content_48 : decode b_J_content 48 = .ok (.putfield 75, 3) := by decide +kernel
theorem d_J_content_51 : decode b_J_content 51 = .ok (.aload 5, 2) := by decide +kernel
theorem d_J_content_53 : decode b_J_content 53 = .ok (.iload 4, 2) := by decide +kernel
theorem d_J_content_55 : decode b_J_content 55 = .ok (.putfield 78, 3) := by decide +kernel
theorem d_J_content_58 : decode b_J_content 58 = .ok (.iconst 1, 1) := by decide +kernel
theorem d_J_content_59 : decode b_J_content 59 = .ok (.ireturn, 1) := by decide +kernel
theorem d_J_isPage_0 : decode b_J_isPage 0 = .ok (.iload_n 0, 1) := by decide +kernel
theorem d_J_isPage_1 : decode b_J_isPage 1 = .ok (.ifCond .lt 13, 3) := by decide +kernel
theorem d_J_isPage_4 : decode b_J_isPage 4 = .ok (.iload_n 0, 1) := by decide +kernel
theorem d_J_isPage_5 : decode b_J_isPage 5 = .ok (.bipush 32, 2) := by decide +kernel
theorem d_J_isPage_7 : decode b_J_isPage 7 = .ok (.if_icmp .ge 7, 3) := by decide +kernel
theorem d_J_isPage_10 : decode b_J_isPage 10 = .ok (.iconst 1, 1) := by decide +kernel
theorem d_J_isPage_11 : decode b_J_isPage 11 = .ok (.goto 4, 3) := by decide +kernel
theorem d_J_isPage_14 : decode b_J_isPage 14 = .ok (.iconst 0, 1) := by decide +kernel
theorem d_J_isPage_15 : decode b_J_isPage 15 = .ok (.ireturn, 1) := by decide +kernel
theorem d_J_isFrameChoice_0 : decode b_J_isFrameChoice 0 = .ok (.iload_n 0, 1) := by decide +kernel
theorem d_J_isFrameChoice_1 : decode b_J_isFrameChoice 1 = .ok (.bipush (-2), 2) := by decide +kernel
theorem d_J_isFrameChoice_3 : decode b_J_isFrameChoice 3 = .ok (.if_icmp .eq 10, 3) := by decide +kernel
theorem d_J_isFrameChoice_6 : decode b_J_isFrameChoice 6 = .ok (.iload_n 0, 1) := by decide +kernel
theorem d_J_isFrameChoice_7 : decode b_J_isFrameChoice 7 = .ok (.invokestatic 93, 3) := by decide +kernel
theorem d_J_isFrameChoice_10 : decode b_J_isFrameChoice 10 = .ok (.ifCond .eq 7, 3) := by decide +kernel
theorem d_J_isFrameChoice_13 : decode b_J_isFrameChoice 13 = .ok (.iconst 1, 1) := by decide +kernel
theorem d_J_isFrameChoice_14 : decode b_J_isFrameChoice 14 = .ok (.goto 4, 3) := by decide +kernel
theorem d_J_isFrameChoice_17 : decode b_J_isFrameChoice 17 = .ok (.iconst 0, 1) := by decide +kernel
theorem d_J_isFrameChoice_18 : decode b_J_isFrameChoice 18 = .ok (.ireturn, 1) := by decide +kernel
