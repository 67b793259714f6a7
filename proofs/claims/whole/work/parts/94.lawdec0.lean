theorem d_L_0 : decode code 0 = .ok (.new 7, 3) := by decide +kernel
theorem d_L_3 : decode code 3 = .ok (.dup, 1) := by decide +kernel
theorem d_L_4 : decode code 4 = .ok (.invokespecial 9, 3) := by decide +kernel
theorem d_L_7 : decode code 7 = .ok (.astore_n 1, 1) := by decide +kernel
theorem d_L_8 : decode code 8 = .ok (.new 10, 3) := by decide +kernel
theorem d_L_11 : decode code 11 = .ok (.dup, 1) := by decide +kernel
theorem d_L_12 : decode code 12 = .ok (.invokespecial 12, 3) := by decide +kernel
theorem d_L_15 : decode code 15 = .ok (.astore_n 2, 1) := by decide +kernel
theorem d_L_16 : decode code 16 = .ok (.iconst 0, 1) := by decide +kernel
theorem d_L_17 : decode code 17 = .ok (.istore_n 3, 1) := by decide +kernel
theorem d_L_18 : decode code 18 = .ok (.iload_n 3, 1) := by decide +kernel
theorem d_L_19 : decode code 19 = .ok (.aload_n 0, 1) := by decide +kernel
theorem d_L_20 : decode code 20 = .ok (.arraylength, 1) := by decide +kernel
theorem d_L_21 : decode code 21 = .ok (.iconst 5, 1) := by decide +kernel
theorem d_L_22 : decode code 22 = .ok (.isub, 1) := by decide +kernel
theorem d_L_23 : decode code 23 = .ok (.if_icmp .gt 592, 3) := by decide +kernel
theorem d_L_26 : decode code 26 = .ok (.aload_n 0, 1) := by decide +kernel
theorem d_L_27 : decode code 27 = .ok (.iload_n 3, 1) := by decide +kernel
theorem d_L_28 : decode code 28 = .ok (.iaload, 1) := by decide +kernel
theorem d_L_29 : decode code 29 = .ok (.bipush 15, 2) := by decide +kernel
theorem d_L_31 : decode code 31 = .ok (.iand, 1) := by decide +kernel
theorem d_L_32 : decode code 32 = .ok (.tableswitch 577 0 15 #[80, 149, 182, 205, 264, 333, 356, 379, 402, 426, 449, 472, 505, 528, 541, 554], 80) := by decide +kernel
theorem d_L_112 : decode code 112 = .ok (.aload_n 1, 1) := by decide +kernel
theorem d_L_113 : decode code 113 = .ok (.aload_n 0, 1) := by decide +kernel
theorem d_L_114 : decode code 114 = .ok (.iload_n 3, 1) := by decide +kernel
theorem d_L_115 : decode code 115 = .ok (.iconst 1, 1) := by decide +kernel
theorem d_L_116 : decode code 116 = .ok (.iadd, 1) := by decide +kernel
theorem d_L_117 : decode code 117 = .ok (.iaload, 1) := by decide +kernel
theorem d_L_118 : decode code 118 = .ok (.aload_n 0, 1) := by decide +kernel
theorem d_L_119 : decode code 119 = .ok (.iload_n 3, 1) := by decide +kernel
theorem d_L_120 : decode code 120 = .ok (.iconst 2, 1) := by decide +kernel
theorem d_L_121 : decode code 121 = .ok (.iadd, 1) := by decide +kernel
theorem d_L_122 : decode code 122 = .ok (.iaload, 1) := by decide +kernel
theorem d_L_123 : decode code 123 = .ok (.aload_n 0, 1) := by decide +kernel
theorem d_L_124 : decode code 124 = .ok (.iload_n 3, 1) := by decide +kernel
theorem d_L_125 : decode code 125 = .ok (.iconst 3, 1) := by decide +kernel
theorem d_L_126 : decode code 126 = .ok (.iadd, 1) := by decide +kernel
theorem d_L_127 : decode code 127 = .ok (.iaload, 1) := by decide +kernel
theorem d_L_128 : decode code 128 = .ok (.aload_n 0, 1) := by decide +kernel
theorem d_L_129 : decode code 129 = .ok (.iload_n 3, 1) := by decide +kernel
theorem d_L_130 : decode code 130 = .ok (.iconst 4, 1) := by decide +kernel
theorem d_L_131 : decode code 131 = .ok (.iadd, 1) := by decide +kernel
theorem d_L_132 : decode code 132 = .ok (.iaload, 1) := by decide +kernel
theorem d_L_133 : decode code 133 = .ok (.ifCond .eq 7, 3) := by decide +kernel
theorem d_L_136 : decode code 136 = .ok (.iconst 1, 1) := by decide +kernel
theorem d_L_137 : decode code 137 = .ok (.goto 4, 3) := by decide +kernel
theorem d_L_140 : decode code 140 = .ok (.iconst 0, 1) := by decide +kernel
theorem d_L_141 : decode code 141 = .ok (.invokevirtual 13, 3) := by decide +kernel
theorem d_L_144 : decode code 144 = .ok (.aload_n 2, 1) := by decide +kernel
theorem d_L_145 : decode code 145 = .ok (.aload_n 0, 1) := by decide +kernel
theorem d_L_146 : decode code 146 = .ok (.iload_n 3, 1) := by decide +kernel
theorem d_L_147 : decode code 147 = .ok (.iconst 1, 1) := by decide +kernel
theorem d_L_148 : decode code 148 = .ok (.iadd, 1) := by decide +kernel
theorem d_L_149 : decode code 149 = .ok (.iaload, 1) := by decide +kernel
theorem d_L_150 : decode code 150 = .ok (.aload_n 0, 1) := by decide +kernel
theorem d_L_151 : decode code 151 = .ok (.iload_n 3, 1) := by decide +kernel
theorem d_L_152 : decode code 152 = .ok (.iconst 2, 1) := by decide +kernel
theorem d_L_153 : decode code 153 = .ok (.iadd, 1) := by decide +kernel
theorem d_L_154 : decode code 154 = .ok (.iaload, 1) := by decide +kernel
theorem d_L_155 : decode code 155 = .ok (.aload_n 0, 1) := by decide +kernel
theorem d_L_156 : decode code 156 = .ok (.iload_n 3, 1) := by decide +kernel
theorem d_L_157 : decode code 157 = .ok (.iconst 3, 1) := by decide +kernel
theorem d_L_158 : decode code 158 = .ok (.iadd, 1) := by decide +kernel
theorem d_L_159 : decode code 159 = .ok (.iaload, 1) := by decide +kernel
theorem d_L_160 : decode code 160 = .ok (.aload_n 0, 1) := by decide +kernel
theorem d_L_161 : decode code 161 = .ok (.iload_n 3, 1) := by decide +kernel
theorem d_L_162 : decode code 162 = .ok (.iconst 4, 1) := by decide +kernel
theorem d_L_163 : decode code 163 = .ok (.iadd, 1) := by decide +kernel
theorem d_L_164 : decode code 164 = .ok (.iaload, 1) := by decide +kernel
theorem d_L_165 : decode code 165 = .ok (.ifCond .eq 7, 3) := by decide +kernel
theorem d_L_168 : decode code 168 = .ok (.iconst 1, 1) := by decide +kernel
theorem d_L_169 : decode code 169 = .ok (.goto 4, 3) := by decide +kernel
theorem d_L_172 : decode code 172 = .ok (.iconst 0, 1) := by decide +kernel
theorem d_L_173 : decode code 173 = .ok (.invokevirtual 17, 3) := by decide +kernel
theorem d_L_176 : decode code 176 = .ok (.if_icmp .eq 433, 3) := by decide +kernel
theorem d_L_179 : decode code 179 = .ok (.iconst 0, 1) := by decide +kernel
theorem d_L_180 : decode code 180 = .ok (.ireturn, 1) := by decide +kernel
theorem d_L_181 : decode code 181 = .ok (.aload_n 1, 1) := by decide +kernel
theorem d_L_182 : decode code 182 = .ok (.aload_n 0, 1) := by decide +kernel
theorem d_L_183 : decode code 183 = .ok (.iload_n 3, 1) := by decide +kernel
theorem d_L_184 : decode code 184 = .ok (.iconst 1, 1) := by decide +kernel
theorem d_L_185 : decode code 185 = .ok (.iadd, 1) := by decide +kernel
theorem d_L_186 : decode code 186 = .ok (.iaload, 1) := by decide +kernel
theorem d_L_187 : decode code 187 = .ok (.aload_n 0, 1) := by decide +kernel
theorem d_L_188 : decode code 188 = .ok (.iload_n 3, 1) := by decide +kernel
theorem d_L_189 : decode code 189 = .ok (.iconst 2, 1) := by decide +kernel
theorem d_L_190 : decode code 190 = .ok (.iadd, 1) := by decide +kernel
theorem d_L_191 : decode code 191 = .ok (.iaload, 1) := by decide +kernel
theorem d_L_192 : decode code 192 = .ok (.invokevirtual 18, 3) := by decide +kernel
theorem d_L_195 : decode code 195 = .ok (.aload_n 2, 1) := by decide +kernel
theorem d_L_196 : decode code 196 = .ok (.aload_n 0, 1) := by decide +kernel
theorem d_L_197 : decode code 197 = .ok (.iload_n 3, 1) := by decide +kernel
theorem d_L_198 : decode code 198 = .ok (.iconst 1, 1) := by decide +kernel
theorem d_L_199 : decode code 199 = .ok (.iadd, 1) := by decide +kernel
theorem d_L_200 : decode code 200 = .ok (.iaload, 1) := by decide +kernel
theorem d_L_201 : decode code 201 = .ok (.aload_n 0, 1) := by decide +kernel
theorem d_L_202 : decode code 202 = .ok (.iload_n 3, 1) := by decide +kernel
theorem d_L_203 : decode code 203 = .ok (.iconst 2, 1) := by decide +kernel
theorem d_L_204 : decode code 204 = .ok (.iadd, 1) := by decide +kernel
theorem d_L_205 : decode code 205 = .ok (.iaload, 1) := by decide +kernel
theorem d_L_206 : decode code 206 = .ok (.invokevirtual 22, 3) := by decide +kernel
theorem d_L_209 : decode code 209 = .ok (.if_icmp .eq 400, 3) := by decide +kernel
theorem d_L_212 : decode code 212 = .ok (.iconst 0, 1) := by decide +kernel
theorem d_L_213 : decode code 213 = .ok (.ireturn, 1) := by decide +kernel
theorem d_L_214 : decode code 214 = .ok (.aload_n 1, 1) := by decide +kernel
theorem d_L_215 : decode code 215 = .ok (.aload_n 0, 1) := by decide +kernel
theorem d_L_216 : decode code 216 = .ok (.iload_n 3, 1) := by decide +kernel
theorem d_L_217 : decode code 217 = .ok (.iconst 1, 1) := by decide +kernel
theorem d_L_218 : decode code 218 = .ok (.iadd, 1) := by decide +kernel
theorem d_L_219 : decode code 219 = .ok (.iaload, 1) := by decide +kernel
