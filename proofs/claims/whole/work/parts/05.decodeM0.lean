theorem d_M_init_0 : decode b_M_init 0 = .ok (.aload_n 0, 1) := by decide +kernel
theorem d_M_init_1 : decode b_M_init 1 = .ok (.invokespecial 1, 3) := by decide +kernel
theorem d_M_init_4 : decode b_M_init 4 = .ok (.aload_n 0, 1) := by decide +kernel
theorem d_M_init_5 : decode b_M_init 5 = .ok (.bipush 32, 2) := by decide +kernel
theorem d_M_init_7 : decode b_M_init 7 = .ok (.newarray .int, 2) := by decide +kernel
theorem d_M_init_9 : decode b_M_init 9 = .ok (.putfield 7, 3) := by decide +kernel
theorem d_M_init_12 : decode b_M_init 12 = .ok (.aload_n 0, 1) := by decide +kernel
theorem d_M_init_13 : decode b_M_init 13 = .ok (.bipush 32, 2) := by decide +kernel
theorem d_M_init_15 : decode b_M_init 15 = .ok (.newarray .int, 2) := by decide +kernel
theorem d_M_init_17 : decode b_M_init 17 = .ok (.putfield 13, 3) := by decide +kernel
theorem d_M_init_20 : decode b_M_init 20 = .ok (.aload_n 0, 1) := by decide +kernel
theorem d_M_init_21 : decode b_M_init 21 = .ok (.bipush 32, 2) := by decide +kernel
theorem d_M_init_23 : decode b_M_init 23 = .ok (.newarray .int, 2) := by decide +kernel
theorem d_M_init_25 : decode b_M_init 25 = .ok (.putfield 16, 3) := by decide +kernel
theorem d_M_init_28 : decode b_M_init 28 = .ok (.aload_n 0, 1) := by decide +kernel
theorem d_M_init_29 : decode b_M_init 29 = .ok (.bipush 32, 2) := by decide +kernel
theorem d_M_init_31 : decode b_M_init 31 = .ok (.newarray .boolean, 2) := by decide +kernel
theorem d_M_init_33 : decode b_M_init 33 = .ok (.putfield 19, 3) := by decide +kernel
theorem d_M_init_36 : decode b_M_init 36 = .ok (.aload_n 0, 1) := by decide +kernel
theorem d_M_init_37 : decode b_M_init 37 = .ok (.bipush 48, 2) := by decide +kernel
theorem d_M_init_39 : decode b_M_init 39 = .ok (.newarray .int, 2) := by decide +kernel
theorem d_M_init_41 : decode b_M_init 41 = .ok (.putfield 23, 3) := by decide +kernel
theorem d_M_init_44 : decode b_M_init 44 = .ok (.aload_n 0, 1) := by decide +kernel
theorem d_M_init_45 : decode b_M_init 45 = .ok (.bipush 48, 2) := by decide +kernel
theorem d_M_init_47 : decode b_M_init 47 = .ok (.newarray .int, 2) := by decide +kernel
theorem d_M_init_49 : decode b_M_init 49 = .ok (.putfield 26, 3) := by decide +kernel
theorem d_M_init_52 : decode b_M_init 52 = .ok (.aload_n 0, 1) := by decide +kernel
theorem d_M_init_53 : decode b_M_init 53 = .ok (.bipush 48, 2) := by decide +kernel
theorem d_M_init_55 : decode b_M_init 55 = .ok (.newarray .int, 2) := by decide +kernel
theorem d_M_init_57 : decode b_M_init 57 = .ok (.putfield 29, 3) := by decide +kernel
theorem d_M_init_60 : decode b_M_init 60 = .ok (.aload_n 0, 1) := by decide +kernel
theorem d_M_init_61 : decode b_M_init 61 = .ok (.bipush 48, 2) := by decide +kernel
theorem d_M_init_63 : decode b_M_init 63 = .ok (.newarray .int, 2) := by decide +kernel
theorem d_M_init_65 : decode b_M_init 65 = .ok (.putfield 32, 3) := by decide +kernel
theorem d_M_init_68 : decode b_M_init 68 = .ok (.aload_n 0, 1) := by decide +kernel
theorem d_M_init_69 : decode b_M_init 69 = .ok (.bipush 48, 2) := by decide +kernel
theorem d_M_init_71 : decode b_M_init 71 = .ok (.newarray .int, 2) := by decide +kernel
theorem d_M_init_73 : decode b_M_init 73 = .ok (.putfield 35, 3) := by decide +kernel
theorem d_M_init_76 : decode b_M_init 76 = .ok (.aload_n 0, 1) := by decide +kernel
theorem d_M_init_77 : decode b_M_init 77 = .ok (.bipush 48, 2) := by decide +kernel
theorem d_M_init_79 : decode b_M_init 79 = .ok (.newarray .boolean, 2) := by decide +kernel
theorem d_M_init_81 : decode b_M_init 81 = .ok (.putfield 38, 3) := by decide +kernel
theorem d_M_init_84 : decode b_M_init 84 = .ok (.aload_n 0, 1) := by decide +kernel
theorem d_M_init_85 : decode b_M_init 85 = .ok (.bipush 48, 2) := by decide +kernel
theorem d_M_init_87 : decode b_M_init 87 = .ok (.newarray .boolean, 2) := by decide +kernel
theorem d_M_init_89 : decode b_M_init 89 = .ok (.putfield 41, 3) := by decide +kernel
theorem d_M_init_92 : decode b_M_init 92 = .ok (.aload_n 0, 1) := by decide +kernel
theorem d_M_init_93 : decode b_M_init 93 = .ok (.bipush 48, 2) := by decide +kernel
theorem d_M_init_95 : decode b_M_init 95 = .ok (.newarray .int, 2) := by decide +kernel
theorem d_M_init_97 : decode b_M_init 97 = .ok (.putfield 44, 3) := by decide +kernel
theorem d_M_init_100 : decode b_M_init 100 = .ok (.aload_n 0, 1) := by decide +kernel
theorem d_M_init_101 : decode b_M_init 101 = .ok (.bipush 48, 2) := by decide +kernel
theorem d_M_init_103 : decode b_M_init 103 = .ok (.newarray .boolean, 2) := by decide +kernel
theorem d_M_init_105 : decode b_M_init 105 = .ok (.putfield 47, 3) := by decide +kernel
theorem d_M_init_108 : decode b_M_init 108 = .ok (.aload_n 0, 1) := by decide +kernel
theorem d_M_init_109 : decode b_M_init 109 = .ok (.bipush 48, 2) := by decide +kernel
theorem d_M_init_111 : decode b_M_init 111 = .ok (.newarray .int, 2) := by decide +kernel
theorem d_M_init_113 : decode b_M_init 113 = .ok (.putfield 50, 3) := by decide +kernel
theorem d_M_init_116 : decode b_M_init 116 = .ok (.aload_n 0, 1) := by decide +kernel
theorem d_M_init_117 : decode b_M_init 117 = .ok (.bipush 48, 2) := by decide +kernel
theorem d_M_init_119 : decode b_M_init 119 = .ok (.newarray .int, 2) := by decide +kernel
theorem d_M_init_121 : decode b_M_init 121 = .ok (.putfield 53, 3) := by decide +kernel
theorem d_M_init_124 : decode b_M_init 124 = .ok (.aload_n 0, 1) := by decide +kernel
theorem d_M_init_125 : decode b_M_init 125 = .ok (.bipush 48, 2) := by decide +kernel
theorem d_M_init_127 : decode b_M_init 127 = .ok (.newarray .boolean, 2) := by decide +kernel
theorem d_M_init_129 : decode b_M_init 129 = .ok (.putfield 56, 3) := by decide +kernel
theorem d_M_init_132 : decode b_M_init 132 = .ok (.aload_n 0, 1) := by decide +kernel
theorem d_M_init_133 : decode b_M_init 133 = .ok (.bipush 48, 2) := by decide +kernel
theorem d_M_init_135 : decode b_M_init 135 = .ok (.newarray .int, 2) := by decide +kernel
theorem d_M_init_137 : decode b_M_init 137 = .ok (.putfield 59, 3) := by decide +kernel
theorem d_M_init_140 : decode b_M_init 140 = .ok (.aload_n 0, 1) := by decide +kernel
theorem d_M_init_141 : decode b_M_init 141 = .ok (.bipush 48, 2) := by decide +kernel
theorem d_M_init_143 : decode b_M_init 143 = .ok (.newarray .boolean, 2) := by decide +kernel
theorem d_M_init_145 : decode b_M_init 145 = .ok (.putfield 62, 3) := by decide +kernel
theorem d_M_init_148 : decode b_M_init 148 = .ok (.aload_n 0, 1) := by decide +kernel
theorem d_M_init_149 : decode b_M_init 149 = .ok (.bipush 48, 2) := by decide +kernel
theorem d_M_init_151 : decode b_M_init 151 = .ok (.newarray .int, 2) := by decide +kernel
theorem d_M_init_153 : decode b_M_init 153 = .ok (.putfield 65, 3) := by decide +kernel
theorem d_M_init_156 : decode b_M_init 156 = .ok (.aload_n 0, 1) := by decide +kernel
theorem d_M_init_157 : decode b_M_init 157 = .ok (.bipush 48, 2) := by decide +kernel
theorem d_M_init_159 : decode b_M_init 159 = .ok (.newarray .boolean, 2) := by decide +kernel
theorem d_M_init_161 : decode b_M_init 161 = .ok (.putfield 68, 3) := by decide +kernel
theorem d_M_init_164 : decode b_M_init 164 = .ok (.aload_n 0, 1) := by decide +kernel
theorem d_M_init_165 : decode b_M_init 165 = .ok (.bipush 48, 2) := by decide +kernel
theorem d_M_init_167 : decode b_M_init 167 = .ok (.newarray .boolean, 2) := by decide +kernel
theorem d_M_init_169 : decode b_M_init 169 = .ok (.putfield 71, 3) := by decide +kernel
theorem d_M_init_172 : decode b_M_init 172 = .ok (.iconst 0, 1) := by decide +kernel
theorem d_M_init_173 : decode b_M_init 173 = .ok (.istore_n 1, 1) := by decide +kernel
theorem d_M_init_174 : decode b_M_init 174 = .ok (.iload_n 1, 1) := by decide +kernel
theorem d_M_init_175 : decode b_M_init 175 = .ok (.bipush 32, 2) := by decide +kernel
theorem d_M_init_177 : decode b_M_init 177 = .ok (.if_icmp .ge 25, 3) := by decide +kernel
theorem d_M_init_180 : decode b_M_init 180 = .ok (.aload_n 0, 1) := by decide +kernel
theorem d_M_init_181 : decode b_M_init 181 = .ok (.getfield 13, 3) := by decide +kernel
theorem d_M_init_184 : decode b_M_init 184 = .ok (.iload_n 1, 1) := by decide +kernel
theorem d_M_init_185 : decode b_M_init 185 = .ok (.bipush (-2), 2) := by decide +kernel
theorem d_M_init_187 : decode b_M_init 187 = .ok (.iastore, 1) := by decide +kernel
theorem d_M_init_188 : decode b_M_init 188 = .ok (.aload_n 0, 1) := by decide +kernel
theorem d_M_init_189 : decode b_M_init 189 = .ok (.getfield 16, 3) := by decide +kernel
theorem d_M_init_192 : decode b_M_init 192 = .ok (.iload_n 1, 1) := by decide +kernel
theorem d_M_init_193 : decode b_M_init 193 = .ok (.bipush (-2), 2) := by decide +kernel
theorem d_M_init_195 : decode b_M_init 195 = .ok (.iastore, 1) := by decide +kernel
theorem d_M_init_196 : decode b_M_init 196 = .ok (.iinc 1 1, 3) := by decide +kernel
theorem d_M_init_199 : decode b_M_init 199 = .ok (.goto (-25), 3) := by decide +kernel
theorem d_M_init_202 : decode b_M_init 202 = .ok (.aload_n 0, 1) := by decide +kernel
theorem d_M_init_203 : decode b_M_init 203 = .ok (.getfield 56, 3) := by decide +kernel
theorem d_M_init_206 : decode b_M_init 206 = .ok (.iconst 0, 1) := by decide +kernel
theorem d_M_init_207 : decode b_M_init 207 = .ok (.iconst 1, 1) := by decide +kernel
theorem d_M_init_208 : decode b_M_init 208 = .ok (.bastore, 1) := by decide +kernel
theorem d_M_init_209 : decode b_M_init 209 = .ok (.aload_n 0, 1) := by decide +kernel
theorem d_M_init_210 : decode b_M_init 210 = .ok (.getfield 59, 3) := by decide +kernel
theorem d_M_init_213 : decode b_M_init 213 = .ok (.iconst 0, 1) := by decide +kernel
theorem d_M_init_214 : decode b_M_init 214 = .ok (.iconst (-1), 1) := by decide +kernel
theorem d_M_init_215 : decode b_M_init 215 = .ok (.iastore, 1) := by decide +kernel
theorem d_M_init_216 : decode b_M_init 216 = .ok (.aload_n 0, 1) := by decide +kernel
theorem d_M_init_217 : decode b_M_init 217 = .ok (.iconst 0, 1) := by decide +kernel
theorem d_M_init_218 : decode b_M_init 218 = .ok (.iconst (-1), 1) := by decide +kernel
theorem d_M_init_219 : decode b_M_init 219 = .ok (.invokevirtual 74, 3) := by decide +kernel
theorem d_M_init_222 : decode b_M_init 222 = .ok (.istore_n 1, 1) := by decide +kernel
theorem d_M_init_223 : decode b_M_init 223 = .ok (.aload_n 0, 1) := by decide +kernel
theorem d_M_init_224 : decode b_M_init 224 = .ok (.iconst 0, 1) := by decide +kernel
theorem d_M_init_225 : decode b_M_init 225 = .ok (.iconst 0, 1) := by decide +kernel
theorem d_M_init_226 : decode b_M_init 226 = .ok (.iconst (-1), 1) := by decide +kernel
theorem d_M_init_227 : decode b_M_init 227 = .ok (.iload_n 1, 1) := by decide +kernel
theorem d_M_init_228 : decode b_M_init 228 = .ok (.invokevirtual 78, 3) := by decide +kernel
theorem d_M_init_231 : decode b_M_init 231 = .ok (.pop, 1) := by decide +kernel
theorem d_M_init_232 : decode b_M_init 232 = .ok (.aload_n 0, 1) := by decide +kernel
theorem d_M_init_233 : decode b_M_init 233 = .ok (.invokevirtual 82, 3) := by decide +kernel
theorem d_M_init_236 : decode b_M_init 236 = .ok (.return_, 1) := by decide +kernel
theorem d_M_make_0 : decode b_M_make 0 = .ok (.iconst 0, 1) := by decide +kernel
theorem d_M_make_1 : decode b_M_make 1 = .ok (.istore_n 3, 1) := by decide +kernel
theorem d_M_make_2 : decode b_M_make 2 = .ok (.iload_n 3, 1) := by decide +kernel
theorem d_M_make_3 : decode b_M_make 3 = .ok (.bipush 47, 2) := by decide +kernel
theorem d_M_make_5 : decode b_M_make 5 = .ok (.if_icmp .ge 18, 3) := by decide +kernel
theorem d_M_make_8 : decode b_M_make 8 = .ok (.aload_n 0, 1) := by decide +kernel
theorem d_M_make_9 : decode b_M_make 9 = .ok (.getfield 41, 3) := by decide +kernel
theorem d_M_make_12 : decode b_M_make 12 = .ok (.iload_n 3, 1) := by decide +kernel
theorem d_M_make_13 : decode b_M_make 13 = .ok (.baload, 1) := by decide +kernel
theorem d_M_make_14 : decode b_M_make 14 = .ok (.ifCond .eq 9, 3) := by decide +kernel
theorem d_M_make_17 : decode b_M_make 17 = .ok (.iinc 3 1, 3) := by decide +kernel
theorem d_M_make_20 : decode b_M_make 20 = .ok (.goto (-18), 3) := by decide +kernel
theorem d_M_make_23 : decode b_M_make 23 = .ok (.aload_n 0, 1) := by decide +kernel
theorem d_M_make_24 : decode b_M_make 24 = .ok (.getfield 41, 3) := by decide +kernel
theorem d_M_make_27 : decode b_M_make 27 = .ok (.iload_n 3, 1) := by decide +kernel
theorem d_M_make_28 : decode b_M_make 28 = .ok (.iconst 1, 1) := by decide +kernel
theorem d_M_make_29 : decode b_M_make 29 = .ok (.bastore, 1) := by decide +kernel
theorem d_M_make_30 : decode b_M_make 30 = .ok (.aload_n 0, 1) := by decide +kernel
theorem d_M_make_31 : decode b_M_make 31 = .ok (.getfield 50, 3) := by decide +kernel
theorem d_M_make_34 : decode b_M_make 34 = .ok (.iload_n 3, 1) := by decide +kernel
theorem d_M_make_35 : decode b_M_make 35 = .ok (.iconst (-1), 1) := by decide +kernel
theorem d_M_make_36 : decode b_M_make 36 = .ok (.iastore, 1) := by decide +kernel
theorem d_M_make_37 : decode b_M_make 37 = .ok (.aload_n 0, 1) := by decide +kernel
theorem d_M_make_38 : decode b_M_make 38 = .ok (.getfield 53, 3) := by decide +kernel
theorem d_M_make_41 : decode b_M_make 41 = .ok (.iload_n 3, 1) := by decide +kernel
theorem d_M_make_42 : decode b_M_make 42 = .ok (.iconst (-1), 1) := by decide +kernel
theorem d_M_make_43 : decode b_M_make 43 = .ok (.iastore, 1) := by decide +kernel
theorem d_M_make_44 : decode b_M_make 44 = .ok (.aload_n 0, 1) := by decide +kernel
theorem d_M_make_45 : decode b_M_make 45 = .ok (.getfield 59, 3) := by decide +kernel
theorem d_M_make_48 : decode b_M_make 48 = .ok (.iload_n 1, 1) := by decide +kernel
theorem d_M_make_49 : decode b_M_make 49 = .ok (.iaload, 1) := by decide +kernel
theorem d_M_make_50 : decode b_M_make 50 = .ok (.istore 4, 2) := by decide +kernel
theorem d_M_make_52 : decode b_M_make 52 = .ok (.iload 4, 2) := by decide +kernel
theorem d_M_make_54 : decode b_M_make 54 = .ok (.ifCond .lt 17, 3) := by decide +kernel
theorem d_M_make_57 : decode b_M_make 57 = .ok (.aload_n 0, 1) := by decide +kernel
theorem d_M_make_58 : decode b_M_make 58 = .ok (.getfield 47, 3) := by decide +kernel
theorem d_M_make_61 : decode b_M_make 61 = .ok (.iload 4, 2) := by decide +kernel
theorem d_M_make_63 : decode b_M_make 63 = .ok (.baload, 1) := by decide +kernel
theorem d_M_make_64 : decode b_M_make 64 = .ok (.ifCond .eq 7, 3) := by decide +kernel
theorem d_M_make_67 : decode b_M_make 67 = .ok (.iconst 1, 1) := by decide +kernel
theorem d_M_make_68 : decode b_M_make 68 = .ok (.goto 4, 3) := by decide +kernel
theorem d_M_make_71 : decode b_M_make 71 = .ok (.iconst 0, 1) := by decide +kernel
theorem d_M_make_72 : decode b_M_make 72 = .ok (.istore 5, 2) := by decide +kernel
theorem d_M_make_74 : decode b_M_make 74 = .ok (.aload_n 0, 1) := by decide +kernel
theorem d_M_make_75 : decode b_M_make 75 = .ok (.iload_n 2, 1) := by decide +kernel
theorem d_M_make_76 : decode b_M_make 76 = .ok (.putfield 93, 3) := by decide +kernel
theorem d_M_make_79 : decode b_M_make 79 = .ok (.aload_n 0, 1) := by decide +kernel
theorem d_M_make_80 : decode b_M_make 80 = .ok (.getfield 47, 3) := by decide +kernel
theorem d_M_make_83 : decode b_M_make 83 = .ok (.iload_n 3, 1) := by decide +kernel
theorem d_M_make_84 : decode b_M_make 84 = .ok (.iload 5, 2) := by decide +kernel
theorem d_M_make_86 : decode b_M_make 86 = .ok (.bastore, 1) := by decide +kernel
theorem d_M_make_87 : decode b_M_make 87 = .ok (.iload_n 2, 1) := by decide +kernel
theorem d_M_make_88 : decode b_M_make 88 = .ok (.iconst (-1), 1) := by decide +kernel
theorem d_M_make_89 : decode b_M_make 89 = .ok (.if_icmp .ne 35, 3) := by decide +kernel
theorem d_M_make_92 : decode b_M_make 92 = .ok (.aload_n 0, 1) := by decide +kernel
theorem d_M_make_93 : decode b_M_make 93 = .ok (.getfield 44, 3) := by decide +kernel
theorem d_M_make_96 : decode b_M_make 96 = .ok (.iload_n 3, 1) := by decide +kernel
theorem d_M_make_97 : decode b_M_make 97 = .ok (.iload 4, 2) := by decide +kernel
theorem d_M_make_99 : decode b_M_make 99 = .ok (.ifCond .lt 18, 3) := by decide +kernel
theorem d_M_make_102 : decode b_M_make 102 = .ok (.iload 5, 2) := by decide +kernel
theorem d_M_make_104 : decode b_M_make 104 = .ok (.ifCond .ne 13, 3) := by decide +kernel
theorem d_M_make_107 : decode b_M_make 107 = .ok (.aload_n 0, 1) := by decide +kernel
theorem d_M_make_108 : decode b_M_make 108 = .ok (.getfield 44, 3) := by decide +kernel
theorem d_M_make_111 : decode b_M_make 111 = .ok (.iload 4, 2) := by decide +kernel
theorem d_M_make_113 : decode b_M_make 113 = .ok (.iaload, 1) := by decide +kernel
theorem d_M_make_114 : decode b_M_make 114 = .ok (.goto 7, 3) := by decide +kernel
theorem d_M_make_117 : decode b_M_make 117 = .ok (.aload_n 0, 1) := by decide +kernel
theorem d_M_make_118 : decode b_M_make 118 = .ok (.invokevirtual 96, 3) := by decide +kernel
theorem d_M_make_121 : decode b_M_make 121 = .ok (.iastore, 1) := by decide +kernel
theorem d_M_make_122 : decode b_M_make 122 = .ok (.iload_n 3, 1) := by decide +kernel
theorem d_M_make_123 : decode b_M_make 123 = .ok (.ireturn, 1) := by decide +kernel
theorem d_M_make_124 : decode b_M_make 124 = .ok (.iconst 0, 1) := by decide +kernel
theorem d_M_make_125 : decode b_M_make 125 = .ok (.istore 6, 2) := by decide +kernel
theorem d_M_make_127 : decode b_M_make 127 = .ok (.iload 6, 2) := by decide +kernel
theorem d_M_make_129 : decode b_M_make 129 = .ok (.iconst 4, 1) := by decide +kernel
theorem d_M_make_130 : decode b_M_make 130 = .ok (.if_icmp .ge 66, 3) := by decide +kernel
theorem d_M_make_133 : decode b_M_make 133 = .ok (.aload_n 0, 1) := by decide +kernel
theorem d_M_make_134 : decode b_M_make 134 = .ok (.getfield 7, 3) := by decide +kernel
theorem d_M_make_137 : decode b_M_make 137 = .ok (.aload_n 0, 1) := by decide +kernel
theorem d_M_make_138 : decode b_M_make 138 = .ok (.getfield 93, 3) := by decide +kernel
theorem d_M_make_141 : decode b_M_make 141 = .ok (.bipush 8, 2) := by decide +kernel
theorem d_M_make_143 : decode b_M_make 143 = .ok (.idiv, 1) := by decide +kernel
theorem d_M_make_144 : decode b_M_make 144 = .ok (.iaload, 1) := by decide +kernel
theorem d_M_make_145 : decode b_M_make 145 = .ok (.iconst 1, 1) := by decide +kernel
theorem d_M_make_146 : decode b_M_make 146 = .ok (.if_icmp .ne 50, 3) := by decide +kernel
theorem d_M_make_149 : decode b_M_make 149 = .ok (.aload_n 0, 1) := by decide +kernel
theorem d_M_make_150 : decode b_M_make 150 = .ok (.getfield 13, 3) := by decide +kernel
theorem d_M_make_153 : decode b_M_make 153 = .ok (.aload_n 0, 1) := by decide +kernel
theorem d_M_make_154 : decode b_M_make 154 = .ok (.getfield 93, 3) := by decide +kernel
theorem d_M_make_157 : decode b_M_make 157 = .ok (.bipush 8, 2) := by decide +kernel
theorem d_M_make_159 : decode b_M_make 159 = .ok (.idiv, 1) := by decide +kernel
theorem d_M_make_160 : decode b_M_make 160 = .ok (.iaload, 1) := by decide +kernel
theorem d_M_make_161 : decode b_M_make 161 = .ok (.istore 7, 2) := by decide +kernel
theorem d_M_make_163 : decode b_M_make 163 = .ok (.aload_n 0, 1) := by decide +kernel
theorem d_M_make_164 : decode b_M_make 164 = .ok (.iload 7, 2) := by decide +kernel
theorem d_M_make_166 : decode b_M_make 166 = .ok (.bipush 8, 2) := by decide +kernel
theorem d_M_make_168 : decode b_M_make 168 = .ok (.irem, 1) := by decide +kernel
theorem d_M_make_169 : decode b_M_make 169 = .ok (.ifCond .ne 16, 3) := by decide +kernel
theorem d_M_make_172 : decode b_M_make 172 = .ok (.iload 7, 2) := by decide +kernel
theorem d_M_make_174 : decode b_M_make 174 = .ok (.aload_n 0, 1) := by decide +kernel
theorem d_M_make_175 : decode b_M_make 175 = .ok (.getfield 93, 3) := by decide +kernel
theorem d_M_make_178 : decode b_M_make 178 = .ok (.bipush 8, 2) := by decide +kernel
theorem d_M_make_180 : decode b_M_make 180 = .ok (.irem, 1) := by decide +kernel
theorem d_M_make_181 : decode b_M_make 181 = .ok (.iadd, 1) := by decide +kernel
theorem d_M_make_182 : decode b_M_make 182 = .ok (.goto 5, 3) := by decide +kernel
theorem d_M_make_185 : decode b_M_make 185 = .ok (.iload 7, 2) := by decide +kernel
theorem d_M_make_187 : decode b_M_make 187 = .ok (.putfield 93, 3) := by decide +kernel
theorem d_M_make_190 : decode b_M_make 190 = .ok (.iinc 6 1, 3) := by decide +kernel
theorem d_M_make_193 : decode b_M_make 193 = .ok (.goto (-66), 3) := by decide +kernel
theorem d_M_make_196 : decode b_M_make 196 = .ok (.aload_n 0, 1) := by decide +kernel
theorem d_M_make_197 : decode b_M_make 197 = .ok (.getfield 7, 3) := by decide +kernel
theorem d_M_make_200 : decode b_M_make 200 = .ok (.aload_n 0, 1) := by decide +kernel
theorem d_M_make_201 : decode b_M_make 201 = .ok (.getfield 93, 3) := by decide +kernel
theorem d_M_make_204 : decode b_M_make 204 = .ok (.bipush 8, 2) := by decide +kernel
theorem d_M_make_206 : decode b_M_make 206 = .ok (.idiv, 1) := by decide +kernel
theorem d_M_make_207 : decode b_M_make 207 = .ok (.iaload, 1) := by decide +kernel
theorem d_M_make_208 : decode b_M_make 208 = .ok (.ifCond .eq 22, 3) := by decide +kernel
theorem d_M_make_211 : decode b_M_make 211 = .ok (.aload_n 0, 1) := by decide +kernel
theorem d_M_make_212 : decode b_M_make 212 = .ok (.getfield 47, 3) := by decide +kernel
theorem d_M_make_215 : decode b_M_make 215 = .ok (.iload_n 3, 1) := by decide +kernel
theorem d_M_make_216 : decode b_M_make 216 = .ok (.iconst 0, 1) := by decide +kernel
theorem d_M_make_217 : decode b_M_make 217 = .ok (.bastore, 1) := by decide +kernel
theorem d_M_make_218 : decode b_M_make 218 = .ok (.aload_n 0, 1) := by decide +kernel
theorem d_M_make_219 : decode b_M_make 219 = .ok (.getfield 44, 3) := by decide +kernel
theorem d_M_make_222 : decode b_M_make 222 = .ok (.iload_n 3, 1) := by decide +kernel
theorem d_M_make_223 : decode b_M_make 223 = .ok (.aload_n 0, 1) := by decide +kernel
theorem d_M_make_224 : decode b_M_make 224 = .ok (.invokevirtual 96, 3) := by decide +kernel
theorem d_M_make_227 : decode b_M_make 227 = .ok (.iastore, 1) := by decide +kernel
theorem d_M_make_228 : decode b_M_make 228 = .ok (.iload_n 3, 1) := by decide +kernel
theorem d_M_make_229 : decode b_M_make 229 = .ok (.ireturn, 1) := by decide +kernel
theorem d_M_make_230 : decode b_M_make 230 = .ok (.aload_n 0, 1) := by decide +kernel
theorem d_M_make_231 : decode b_M_make 231 = .ok (.getfield 47, 3) := by decide +kernel
theorem d_M_make_234 : decode b_M_make 234 = .ok (.iload_n 3, 1) := by decide +kernel
theorem d_M_make_235 : decode b_M_make 235 = .ok (.iload 5, 2) := by decide +kernel
theorem d_M_make_237 : decode b_M_make 237 = .ok (.ifCond .ne 18, 3) := by decide +kernel
theorem d_M_make_240 : decode b_M_make 240 = .ok (.aload_n 0, 1) := by decide +kernel
theorem d_M_make_241 : decode b_M_make 241 = .ok (.getfield 19, 3) := by decide +kernel
theorem d_M_make_244 : decode b_M_make 244 = .ok (.aload_n 0, 1) := by decide +kernel
theorem d_M_make_245 : decode b_M_make 245 = .ok (.getfield 93, 3) := by decide +kernel
theorem d_M_make_248 : decode b_M_make 248 = .ok (.bipush 8, 2) := by decide +kernel
theorem d_M_make_250 : decode b_M_make 250 = .ok (.idiv, 1) := by decide +kernel
theorem d_M_make_251 : decode b_M_make 251 = .ok (.baload, 1) := by decide +kernel
theorem d_M_make_252 : decode b_M_make 252 = .ok (.ifCond .eq 7, 3) := by decide +kernel
theorem d_M_make_255 : decode b_M_make 255 = .ok (.iconst 1, 1) := by decide +kernel
theorem d_M_make_256 : decode b_M_make 256 = .ok (.goto 4, 3) := by decide +kernel
theorem d_M_make_259 : decode b_M_make 259 = .ok (.iconst 0, 1) := by decide +kernel
theorem d_M_make_260 : decode b_M_make 260 = .ok (.bastore, 1) := by decide +kernel
theorem d_M_make_261 : decode b_M_make 261 = .ok (.aload_n 0, 1) := by decide +kernel
theorem d_M_make_262 : decode b_M_make 262 = .ok (.getfield 44, 3) := by decide +kernel
theorem d_M_make_265 : decode b_M_make 265 = .ok (.iload_n 3, 1) := by decide +kernel
theorem d_M_make_266 : decode b_M_make 266 = .ok (.aload_n 0, 1) := by decide +kernel
theorem d_M_make_267 : decode b_M_make 267 = .ok (.getfield 47, 3) := by decide +kernel
theorem d_M_make_270 : decode b_M_make 270 = .ok (.iload_n 3, 1) := by decide +kernel
theorem d_M_make_271 : decode b_M_make 271 = .ok (.baload, 1) := by decide +kernel
theorem d_M_make_272 : decode b_M_make 272 = .ok (.ifCond .eq 10, 3) := by decide +kernel
theorem d_M_make_275 : decode b_M_make 275 = .ok (.aload_n 0, 1) := by decide +kernel
theorem d_M_make_276 : decode b_M_make 276 = .ok (.invokevirtual 96, 3) := by decide +kernel
theorem d_M_make_279 : decode b_M_make 279 = .ok (.goto 10, 3) := by decide +kernel
theorem d_M_make_282 : decode b_M_make 282 = .ok (.aload_n 0, 1) := by decide +kernel
theorem d_M_make_283 : decode b_M_make 283 = .ok (.getfield 93, 3) := by decide +kernel
theorem d_M_make_286 : decode b_M_make 286 = .ok (.bipush 64, 2) := by decide +kernel
theorem d_M_make_288 : decode b_M_make 288 = .ok (.idiv, 1) := by decide +kernel
theorem d_M_make_289 : decode b_M_make 289 = .ok (.iastore, 1) := by decide +kernel
theorem d_M_make_290 : decode b_M_make 290 = .ok (.iload_n 3, 1) := by decide +kernel
theorem d_M_make_291 : decode b_M_make 291 = .ok (.ireturn, 1) := by decide +kernel
theorem d_M_freshOrigin_0 : decode b_M_freshOrigin 0 = .ok (.aload_n 0, 1) := by decide +kernel
theorem d_M_freshOrigin_1 : decode b_M_freshOrigin 1 = .ok (.dup, 1) := by decide +kernel
theorem d_M_freshOrigin_2 : decode b_M_freshOrigin 2 = .ok (.getfield 89, 3) := by decide +kernel
theorem d_M_freshOrigin_5 : decode b_M_freshOrigin 5 = .ok (.iconst 1, 1) := by decide +kernel
theorem d_M_freshOrigin_6 : decode b_M_freshOrigin 6 = .ok (.iadd, 1) := by decide +kernel
theorem d_M_freshOrigin_7 : decode b_M_freshOrigin 7 = .ok (.putfield 89, 3) := by decide +kernel
theorem d_M_freshOrigin_10 : decode b_M_freshOrigin 10 = .ok (.iconst 3, 1) := by decide +kernel
theorem d_M_freshOrigin_11 : decode b_M_freshOrigin 11 = .ok (.aload_n 0, 1) := by decide +kernel
theorem d_M_freshOrigin_12 : decode b_M_freshOrigin 12 = .ok (.getfield 89, 3) := by decide +kernel
theorem d_M_freshOrigin_15 : decode b_M_freshOrigin 15 = .ok (.iadd, 1) := by decide +kernel
theorem d_M_freshOrigin_16 : decode b_M_freshOrigin 16 = .ok (.ireturn, 1) := by decide +kernel
theorem d_M_write_0 : decode b_M_write 0 = .ok (.iconst 0, 1) := by decide +kernel
theorem d_M_write_1 : decode b_M_write 1 = .ok (.istore 5, 2) := by decide +kernel
theorem d_M_write_3 : decode b_M_write 3 = .ok (.iload 5, 2) := by decide +kernel
theorem d_M_write_5 : decode b_M_write 5 = .ok (.bipush 47, 2) := by decide +kernel
theorem d_M_write_7 : decode b_M_write 7 = .ok (.if_icmp .ge 19, 3) := by decide +kernel
theorem d_M_write_10 : decode b_M_write 10 = .ok (.aload_n 0, 1) := by decide +kernel
theorem d_M_write_11 : decode b_M_write 11 = .ok (.getfield 38, 3) := by decide +kernel
theorem d_M_write_14 : decode b_M_write 14 = .ok (.iload 5, 2) := by decide +kernel
theorem d_M_write_16 : decode b_M_write 16 = .ok (.baload, 1) := by decide +kernel
theorem d_M_write_17 : decode b_M_write 17 = .ok (.ifCond .eq 9, 3) := by decide +kernel
theorem d_M_write_20 : decode b_M_write 20 = .ok (.iinc 5 1, 3) := by decide +kernel
theorem d_M_write_23 : decode b_M_write 23 = .ok (.goto (-20), 3) := by decide +kernel
theorem d_M_write_26 : decode b_M_write 26 = .ok (.aload_n 0, 1) := by decide +kernel
theorem d_M_write_27 : decode b_M_write 27 = .ok (.getfield 38, 3) := by decide +kernel
theorem d_M_write_30 : decode b_M_write 30 = .ok (.iload 5, 2) := by decide +kernel
theorem d_M_write_32 : decode b_M_write 32 = .ok (.iconst 1, 1) := by decide +kernel
theorem d_M_write_33 : decode b_M_write 33 = .ok (.bastore, 1) := by decide +kernel
theorem d_M_write_34 : decode b_M_write 34 = .ok (.aload_n 0, 1) := by decide +kernel
theorem d_M_write_35 : decode b_M_write 35 = .ok (.getfield 23, 3) := by decide +kernel
theorem d_M_write_38 : decode b_M_write 38 = .ok (.iload 5, 2) := by decide +kernel
theorem d_M_write_40 : decode b_M_write 40 = .ok (.iload_n 1, 1) := by decide +kernel
theorem d_M_write_41 : decode b_M_write 41 = .ok (.iastore, 1) := by decide +kernel
theorem d_M_write_42 : decode b_M_write 42 = .ok (.aload_n 0, 1) := by decide +kernel
theorem d_M_write_43 : decode b_M_write 43 = .ok (.getfield 26, 3) := by decide +kernel
theorem d_M_write_46 : decode b_M_write 46 = .ok (.iload 5, 2) := by decide +kernel
theorem d_M_write_48 : decode b_M_write 48 = .ok (.iload_n 2, 1) := by decide +kernel
theorem d_M_write_49 : decode b_M_write 49 = .ok (.iastore, 1) := by decide +kernel
theorem d_M_write_50 : decode b_M_write 50 = .ok (.aload_n 0, 1) := by decide +kernel
theorem d_M_write_51 : decode b_M_write 51 = .ok (.getfield 29, 3) := by decide +kernel
theorem d_M_write_54 : decode b_M_write 54 = .ok (.iload 5, 2) := by decide +kernel
theorem d_M_write_56 : decode b_M_write 56 = .ok (.iload_n 3, 1) := by decide +kernel
theorem d_M_write_57 : decode b_M_write 57 = .ok (.iastore, 1) := by decide +kernel
theorem d_M_write_58 : decode b_M_write 58 = .ok (.aload_n 0, 1) := by decide +kernel
theorem d_M_write_59 : decode b_M_write 59 = .ok (.getfield 32, 3) := by decide +kernel
theorem d_M_write_62 : decode b_M_write 62 = .ok (.iload 5, 2) := by decide +kernel
theorem d_M_write_64 : decode b_M_write 64 = .ok (.iconst 0, 1) := by decide +kernel
theorem d_M_write_65 : decode b_M_write 65 = .ok (.iastore, 1) := by decide +kernel
theorem d_M_write_66 : decode b_M_write 66 = .ok (.aload_n 0, 1) := by decide +kernel
theorem d_M_write_67 : decode b_M_write 67 = .ok (.getfield 35, 3) := by decide +kernel
theorem d_M_write_70 : decode b_M_write 70 = .ok (.iload 5, 2) := by decide +kernel
theorem d_M_write_72 : decode b_M_write 72 = .ok (.iload 4, 2) := by decide +kernel
theorem d_M_write_74 : decode b_M_write 74 = .ok (.iastore, 1) := by decide +kernel
theorem d_M_write_75 : decode b_M_write 75 = .ok (.iload 5, 2) := by decide +kernel
theorem d_M_write_77 : decode b_M_write 77 = .ok (.ireturn, 1) := by decide +kernel
theorem d_M_mark_0 : decode b_M_mark 0 = .ok (.iconst 0, 1) := by decide +kernel
theorem d_M_mark_1 : decode b_M_mark 1 = .ok (.istore_n 1, 1) := by decide +kernel
theorem d_M_mark_2 : decode b_M_mark 2 = .ok (.iload_n 1, 1) := by decide +kernel
theorem d_M_mark_3 : decode b_M_mark 3 = .ok (.bipush 48, 2) := by decide +kernel
theorem d_M_mark_5 : decode b_M_mark 5 = .ok (.if_icmp .ge 46, 3) := by decide +kernel
theorem d_M_mark_8 : decode b_M_mark 8 = .ok (.aload_n 0, 1) := by decide +kernel
theorem d_M_mark_9 : decode b_M_mark 9 = .ok (.getfield 68, 3) := by decide +kernel
theorem d_M_mark_12 : decode b_M_mark 12 = .ok (.iload_n 1, 1) := by decide +kernel
theorem d_M_mark_13 : decode b_M_mark 13 = .ok (.iconst 0, 1) := by decide +kernel
theorem d_M_mark_14 : decode b_M_mark 14 = .ok (.bastore, 1) := by decide +kernel
theorem d_M_mark_15 : decode b_M_mark 15 = .ok (.aload_n 0, 1) := by decide +kernel
theorem d_M_mark_16 : decode b_M_mark 16 = .ok (.getfield 71, 3) := by decide +kernel
theorem d_M_mark_19 : decode b_M_mark 19 = .ok (.iload_n 1, 1) := by decide +kernel
theorem d_M_mark_20 : decode b_M_mark 20 = .ok (.iload_n 1, 1) := by decide +kernel
theorem d_M_mark_21 : decode b_M_mark 21 = .ok (.ifCond .ne 7, 3) := by decide +kernel
theorem d_M_mark_24 : decode b_M_mark 24 = .ok (.iconst 1, 1) := by decide +kernel
theorem d_M_mark_25 : decode b_M_mark 25 = .ok (.goto 4, 3) := by decide +kernel
theorem d_M_mark_28 : decode b_M_mark 28 = .ok (.iconst 0, 1) := by decide +kernel
theorem d_M_mark_29 : decode b_M_mark 29 = .ok (.bastore, 1) := by decide +kernel
theorem d_M_mark_30 : decode b_M_mark 30 = .ok (.aload_n 0, 1) := by decide +kernel
theorem d_M_mark_31 : decode b_M_mark 31 = .ok (.getfield 62, 3) := by decide +kernel
theorem d_M_mark_34 : decode b_M_mark 34 = .ok (.iload_n 1, 1) := by decide +kernel
theorem d_M_mark_35 : decode b_M_mark 35 = .ok (.iload_n 1, 1) := by decide +kernel
theorem d_M_mark_36 : decode b_M_mark 36 = .ok (.ifCond .ne 7, 3) := by decide +kernel
theorem d_M_mark_39 : decode b_M_mark 39 = .ok (.iconst 1, 1) := by decide +kernel
theorem d_M_mark_40 : decode b_M_mark 40 = .ok (.goto 4, 3) := by decide +kernel
theorem d_M_mark_43 : decode b_M_mark 43 = .ok (.iconst 0, 1) := by decide +kernel
theorem d_M_mark_44 : decode b_M_mark 44 = .ok (.bastore, 1) := by decide +kernel
theorem d_M_mark_45 : decode b_M_mark 45 = .ok (.iinc 1 1, 3) := by decide +kernel
theorem d_M_mark_48 : decode b_M_mark 48 = .ok (.goto (-46), 3) := by decide +kernel
theorem d_M_mark_51 : decode b_M_mark 51 = .ok (.iconst 0, 1) := by decide +kernel
theorem d_M_mark_52 : decode b_M_mark 52 = .ok (.istore_n 1, 1) := by decide +kernel
theorem d_M_mark_53 : decode b_M_mark 53 = .ok (.iload_n 1, 1) := by decide +kernel
theorem d_M_mark_54 : decode b_M_mark 54 = .ok (.iconst 3, 1) := by decide +kernel
theorem d_M_mark_55 : decode b_M_mark 55 = .ok (.if_icmp .ge 88, 3) := by decide +kernel
theorem d_M_mark_58 : decode b_M_mark 58 = .ok (.iconst 0, 1) := by decide +kernel
theorem d_M_mark_59 : decode b_M_mark 59 = .ok (.istore_n 2, 1) := by decide +kernel
theorem d_M_mark_60 : decode b_M_mark 60 = .ok (.iload_n 2, 1) := by decide +kernel
theorem d_M_mark_61 : decode b_M_mark 61 = .ok (.bipush 48, 2) := by decide +kernel
theorem d_M_mark_63 : decode b_M_mark 63 = .ok (.if_icmp .ge 74, 3) := by decide +kernel
theorem d_M_mark_66 : decode b_M_mark 66 = .ok (.aload_n 0, 1) := by decide +kernel
theorem d_M_mark_67 : decode b_M_mark 67 = .ok (.getfield 38, 3) := by decide +kernel
theorem d_M_mark_70 : decode b_M_mark 70 = .ok (.iload_n 2, 1) := by decide +kernel
theorem d_M_mark_71 : decode b_M_mark 71 = .ok (.baload, 1) := by decide +kernel
theorem d_M_mark_72 : decode b_M_mark 72 = .ok (.ifCond .eq 59, 3) := by decide +kernel
theorem d_M_mark_75 : decode b_M_mark 75 = .ok (.aload_n 0, 1) := by decide +kernel
theorem d_M_mark_76 : decode b_M_mark 76 = .ok (.getfield 71, 3) := by decide +kernel
theorem d_M_mark_79 : decode b_M_mark 79 = .ok (.aload_n 0, 1) := by decide +kernel
theorem d_M_mark_80 : decode b_M_mark 80 = .ok (.getfield 23, 3) := by decide +kernel
theorem d_M_mark_83 : decode b_M_mark 83 = .ok (.iload_n 2, 1) := by decide +kernel
theorem d_M_mark_84 : decode b_M_mark 84 = .ok (.iaload, 1) := by decide +kernel
theorem d_M_mark_85 : decode b_M_mark 85 = .ok (.baload, 1) := by decide +kernel
theorem d_M_mark_86 : decode b_M_mark 86 = .ok (.ifCond .eq 45, 3) := by decide +kernel
theorem d_M_mark_89 : decode b_M_mark 89 = .ok (.aload_n 0, 1) := by decide +kernel
theorem d_M_mark_90 : decode b_M_mark 90 = .ok (.getfield 68, 3) := by decide +kernel
theorem d_M_mark_93 : decode b_M_mark 93 = .ok (.aload_n 0, 1) := by decide +kernel
theorem d_M_mark_94 : decode b_M_mark 94 = .ok (.getfield 35, 3) := by decide +kernel
theorem d_M_mark_97 : decode b_M_mark 97 = .ok (.iload_n 2, 1) := by decide +kernel
theorem d_M_mark_98 : decode b_M_mark 98 = .ok (.iaload, 1) := by decide +kernel
theorem d_M_mark_99 : decode b_M_mark 99 = .ok (.iconst 1, 1) := by decide +kernel
theorem d_M_mark_100 : decode b_M_mark 100 = .ok (.bastore, 1) := by decide +kernel
theorem d_M_mark_101 : decode b_M_mark 101 = .ok (.aload_n 0, 1) := by decide +kernel
theorem d_M_mark_102 : decode b_M_mark 102 = .ok (.aload_n 0, 1) := by decide +kernel
theorem d_M_mark_103 : decode b_M_mark 103 = .ok (.getfield 50, 3) := by decide +kernel
theorem d_M_mark_106 : decode b_M_mark 106 = .ok (.aload_n 0, 1) := by decide +kernel
theorem d_M_mark_107 : decode b_M_mark 107 = .ok (.getfield 35, 3) := by decide +kernel
theorem d_M_mark_110 : decode b_M_mark 110 = .ok (.iload_n 2, 1) := by decide +kernel
theorem d_M_mark_111 : decode b_M_mark 111 = .ok (.iaload, 1) := by decide +kernel
theorem d_M_mark_112 : decode b_M_mark 112 = .ok (.iaload, 1) := by decide +kernel
theorem d_M_mark_113 : decode b_M_mark 113 = .ok (.invokevirtual 120, 3) := by decide +kernel
theorem d_M_mark_116 : decode b_M_mark 116 = .ok (.aload_n 0, 1) := by decide +kernel
theorem d_M_mark_117 : decode b_M_mark 117 = .ok (.aload_n 0, 1) := by decide +kernel
theorem d_M_mark_118 : decode b_M_mark 118 = .ok (.getfield 53, 3) := by decide +kernel
theorem d_M_mark_121 : decode b_M_mark 121 = .ok (.aload_n 0, 1) := by decide +kernel
theorem d_M_mark_122 : decode b_M_mark 122 = .ok (.getfield 35, 3) := by decide +kernel
theorem d_M_mark_125 : decode b_M_mark 125 = .ok (.iload_n 2, 1) := by decide +kernel
theorem d_M_mark_126 : decode b_M_mark 126 = .ok (.iaload, 1) := by decide +kernel
theorem d_M_mark_127 : decode b_M_mark 127 = .ok (.iaload, 1) := by decide +kernel
theorem d_M_mark_128 : decode b_M_mark 128 = .ok (.invokevirtual 120, 3) := by decide +kernel
theorem d_M_mark_131 : decode b_M_mark 131 = .ok (.iinc 2 1, 3) := by decide +kernel
theorem d_M_mark_134 : decode b_M_mark 134 = .ok (.goto (-74), 3) := by decide +kernel
theorem d_M_mark_137 : decode b_M_mark 137 = .ok (.iinc 1 1, 3) := by decide +kernel
theorem d_M_mark_140 : decode b_M_mark 140 = .ok (.goto (-87), 3) := by decide +kernel
theorem d_M_mark_143 : decode b_M_mark 143 = .ok (.iconst 0, 1) := by decide +kernel
theorem d_M_mark_144 : decode b_M_mark 144 = .ok (.istore_n 1, 1) := by decide +kernel
theorem d_M_mark_145 : decode b_M_mark 145 = .ok (.iload_n 1, 1) := by decide +kernel
theorem d_M_mark_146 : decode b_M_mark 146 = .ok (.bipush 48, 2) := by decide +kernel
theorem d_M_mark_148 : decode b_M_mark 148 = .ok (.if_icmp .ge 101, 3) := by decide +kernel
theorem d_M_mark_151 : decode b_M_mark 151 = .ok (.aload_n 0, 1) := by decide +kernel
theorem d_M_mark_152 : decode b_M_mark 152 = .ok (.getfield 56, 3) := by decide +kernel
theorem d_M_mark_155 : decode b_M_mark 155 = .ok (.iload_n 1, 1) := by decide +kernel
theorem d_M_mark_156 : decode b_M_mark 156 = .ok (.aload_n 0, 1) := by decide +kernel
theorem d_M_mark_157 : decode b_M_mark 157 = .ok (.getfield 56, 3) := by decide +kernel
theorem d_M_mark_160 : decode b_M_mark 160 = .ok (.iload_n 1, 1) := by decide +kernel
theorem d_M_mark_161 : decode b_M_mark 161 = .ok (.baload, 1) := by decide +kernel
theorem d_M_mark_162 : decode b_M_mark 162 = .ok (.ifCond .eq 16, 3) := by decide +kernel
theorem d_M_mark_165 : decode b_M_mark 165 = .ok (.aload_n 0, 1) := by decide +kernel
theorem d_M_mark_166 : decode b_M_mark 166 = .ok (.getfield 71, 3) := by decide +kernel
theorem d_M_mark_169 : decode b_M_mark 169 = .ok (.iload_n 1, 1) := by decide +kernel
theorem d_M_mark_170 : decode b_M_mark 170 = .ok (.baload, 1) := by decide +kernel
theorem d_M_mark_171 : decode b_M_mark 171 = .ok (.ifCond .eq 7, 3) := by decide +kernel
theorem d_M_mark_174 : decode b_M_mark 174 = .ok (.iconst 1, 1) := by decide +kernel
theorem d_M_mark_175 : decode b_M_mark 175 = .ok (.goto 4, 3) := by decide +kernel
theorem d_M_mark_178 : decode b_M_mark 178 = .ok (.iconst 0, 1) := by decide +kernel
theorem d_M_mark_179 : decode b_M_mark 179 = .ok (.bastore, 1) := by decide +kernel
theorem d_M_mark_180 : decode b_M_mark 180 = .ok (.aload_n 0, 1) := by decide +kernel
theorem d_M_mark_181 : decode b_M_mark 181 = .ok (.getfield 41, 3) := by decide +kernel
theorem d_M_mark_184 : decode b_M_mark 184 = .ok (.iload_n 1, 1) := by decide +kernel
theorem d_M_mark_185 : decode b_M_mark 185 = .ok (.aload_n 0, 1) := by decide +kernel
theorem d_M_mark_186 : decode b_M_mark 186 = .ok (.getfield 41, 3) := by decide +kernel
theorem d_M_mark_189 : decode b_M_mark 189 = .ok (.iload_n 1, 1) := by decide +kernel
theorem d_M_mark_190 : decode b_M_mark 190 = .ok (.baload, 1) := by decide +kernel
theorem d_M_mark_191 : decode b_M_mark 191 = .ok (.ifCond .eq 16, 3) := by decide +kernel
theorem d_M_mark_194 : decode b_M_mark 194 = .ok (.aload_n 0, 1) := by decide +kernel
theorem d_M_mark_195 : decode b_M_mark 195 = .ok (.getfield 68, 3) := by decide +kernel
theorem d_M_mark_198 : decode b_M_mark 198 = .ok (.iload_n 1, 1) := by decide +kernel
theorem d_M_mark_199 : decode b_M_mark 199 = .ok (.baload, 1) := by decide +kernel
theorem d_M_mark_200 : decode b_M_mark 200 = .ok (.ifCond .eq 7, 3) := by decide +kernel
theorem d_M_mark_203 : decode b_M_mark 203 = .ok (.iconst 1, 1) := by decide +kernel
theorem d_M_mark_204 : decode b_M_mark 204 = .ok (.goto 4, 3) := by decide +kernel
theorem d_M_mark_207 : decode b_M_mark 207 = .ok (.iconst 0, 1) := by decide +kernel
theorem d_M_mark_208 : decode b_M_mark 208 = .ok (.bastore, 1) := by decide +kernel
theorem d_M_mark_209 : decode b_M_mark 209 = .ok (.aload_n 0, 1) := by decide +kernel
theorem d_M_mark_210 : decode b_M_mark 210 = .ok (.getfield 38, 3) := by decide +kernel
theorem d_M_mark_213 : decode b_M_mark 213 = .ok (.iload_n 1, 1) := by decide +kernel
theorem d_M_mark_214 : decode b_M_mark 214 = .ok (.aload_n 0, 1) := by decide +kernel
theorem d_M_mark_215 : decode b_M_mark 215 = .ok (.getfield 38, 3) := by decide +kernel
theorem d_M_mark_218 : decode b_M_mark 218 = .ok (.iload_n 1, 1) := by decide +kernel
theorem d_M_mark_219 : decode b_M_mark 219 = .ok (.baload, 1) := by decide +kernel
theorem d_M_mark_220 : decode b_M_mark 220 = .ok (.ifCond .eq 21, 3) := by decide +kernel
theorem d_M_mark_223 : decode b_M_mark 223 = .ok (.aload_n 0, 1) := by decide +kernel
theorem d_M_mark_224 : decode b_M_mark 224 = .ok (.getfield 71, 3) := by decide +kernel
theorem d_M_mark_227 : decode b_M_mark 227 = .ok (.aload_n 0, 1) := by decide +kernel
theorem d_M_mark_228 : decode b_M_mark 228 = .ok (.getfield 23, 3) := by decide +kernel
theorem d_M_mark_231 : decode b_M_mark 231 = .ok (.iload_n 1, 1) := by decide +kernel
theorem d_M_mark_232 : decode b_M_mark 232 = .ok (.iaload, 1) := by decide +kernel
theorem d_M_mark_233 : decode b_M_mark 233 = .ok (.baload, 1) := by decide +kernel
theorem d_M_mark_234 : decode b_M_mark 234 = .ok (.ifCond .eq 7, 3) := by decide +kernel
theorem d_M_mark_237 : decode b_M_mark 237 = .ok (.iconst 1, 1) := by decide +kernel
theorem d_M_mark_238 : decode b_M_mark 238 = .ok (.goto 4, 3) := by decide +kernel
theorem d_M_mark_241 : decode b_M_mark 241 = .ok (.iconst 0, 1) := by decide +kernel
theorem d_M_mark_242 : decode b_M_mark 242 = .ok (.bastore, 1) := by decide +kernel
theorem d_M_mark_243 : decode b_M_mark 243 = .ok (.iinc 1 1, 3) := by decide +kernel
theorem d_M_mark_246 : decode b_M_mark 246 = .ok (.goto (-101), 3) := by decide +kernel
theorem d_M_mark_249 : decode b_M_mark 249 = .ok (.iconst 0, 1) := by decide +kernel
theorem d_M_mark_250 : decode b_M_mark 250 = .ok (.istore_n 1, 1) := by decide +kernel
theorem d_M_mark_251 : decode b_M_mark 251 = .ok (.iload_n 1, 1) := by decide +kernel
theorem d_M_mark_252 : decode b_M_mark 252 = .ok (.iconst 3, 1) := by decide +kernel
theorem d_M_mark_253 : decode b_M_mark 253 = .ok (.if_icmp .ge 46, 3) := by decide +kernel
theorem d_M_mark_256 : decode b_M_mark 256 = .ok (.iconst 0, 1) := by decide +kernel
theorem d_M_mark_257 : decode b_M_mark 257 = .ok (.istore_n 2, 1) := by decide +kernel
theorem d_M_mark_258 : decode b_M_mark 258 = .ok (.iload_n 2, 1) := by decide +kernel
theorem d_M_mark_259 : decode b_M_mark 259 = .ok (.bipush 48, 2) := by decide +kernel
theorem d_M_mark_261 : decode b_M_mark 261 = .ok (.if_icmp .ge 32, 3) := by decide +kernel
theorem d_M_mark_264 : decode b_M_mark 264 = .ok (.aload_n 0, 1) := by decide +kernel
theorem d_M_mark_265 : decode b_M_mark 265 = .ok (.getfield 62, 3) := by decide +kernel
theorem d_M_mark_268 : decode b_M_mark 268 = .ok (.iload_n 2, 1) := by decide +kernel
theorem d_M_mark_269 : decode b_M_mark 269 = .ok (.baload, 1) := by decide +kernel
theorem d_M_mark_270 : decode b_M_mark 270 = .ok (.ifCond .eq 17, 3) := by decide +kernel
theorem d_M_mark_273 : decode b_M_mark 273 = .ok (.aload_n 0, 1) := by decide +kernel
theorem d_M_mark_274 : decode b_M_mark 274 = .ok (.aload_n 0, 1) := by decide +kernel
theorem d_M_mark_275 : decode b_M_mark 275 = .ok (.getfield 35, 3) := by decide +kernel
theorem d_M_mark_278 : decode b_M_mark 278 = .ok (.aload_n 0, 1) := by decide +kernel
theorem d_M_mark_279 : decode b_M_mark 279 = .ok (.iload_n 2, 1) := by decide +kernel
theorem d_M_mark_280 : decode b_M_mark 280 = .ok (.invokevirtual 124, 3) := by decide +kernel
theorem d_M_mark_283 : decode b_M_mark 283 = .ok (.iaload, 1) := by decide +kernel
theorem d_M_mark_284 : decode b_M_mark 284 = .ok (.invokevirtual 127, 3) := by decide +kernel
theorem d_M_mark_287 : decode b_M_mark 287 = .ok (.iinc 2 1, 3) := by decide +kernel
theorem d_M_mark_290 : decode b_M_mark 290 = .ok (.goto (-32), 3) := by decide +kernel
theorem d_M_mark_293 : decode b_M_mark 293 = .ok (.iinc 1 1, 3) := by decide +kernel
theorem d_M_mark_296 : decode b_M_mark 296 = .ok (.goto (-45), 3) := by decide +kernel
theorem d_M_mark_299 : decode b_M_mark 299 = .ok (.return_, 1) := by decide +kernel
