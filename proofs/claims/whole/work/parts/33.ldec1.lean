theorem d_law_law_0 : decode code 0 = .ok (.new 7, 3) := by decide +kernel
theorem d_law_law_3 : decode code 3 = .ok (.dup, 1) := by decide +kernel
theorem d_law_law_4 : decode code 4 = .ok (.invokespecial 9, 3) := by decide +kernel
theorem d_law_law_7 : decode code 7 = .ok (.astore_n 1, 1) := by decide +kernel
theorem d_law_law_8 : decode code 8 = .ok (.new 10, 3) := by decide +kernel
theorem d_law_law_11 : decode code 11 = .ok (.dup, 1) := by decide +kernel
theorem d_law_law_12 : decode code 12 = .ok (.invokespecial 12, 3) := by decide +kernel
theorem d_law_law_15 : decode code 15 = .ok (.astore_n 2, 1) := by decide +kernel
theorem d_law_law_16 : decode code 16 = .ok (.iconst 0, 1) := by decide +kernel
theorem d_law_law_17 : decode code 17 = .ok (.istore_n 3, 1) := by decide +kernel
theorem d_law_law_18 : decode code 18 = .ok (.iload_n 3, 1) := by decide +kernel
theorem d_law_law_19 : decode code 19 = .ok (.aload_n 0, 1) := by decide +kernel
theorem d_law_law_20 : decode code 20 = .ok (.arraylength, 1) := by decide +kernel
theorem d_law_law_21 : decode code 21 = .ok (.iconst 5, 1) := by decide +kernel
theorem d_law_law_22 : decode code 22 = .ok (.isub, 1) := by decide +kernel
theorem d_law_law_23 : decode code 23 = .ok (.if_icmp .gt 570, 3) := by decide +kernel
theorem d_law_law_26 : decode code 26 = .ok (.aload_n 0, 1) := by decide +kernel
theorem d_law_law_27 : decode code 27 = .ok (.iload_n 3, 1) := by decide +kernel
theorem d_law_law_28 : decode code 28 = .ok (.iaload, 1) := by decide +kernel
theorem d_law_law_29 : decode code 29 = .ok (.bipush 31, 2) := by decide +kernel
theorem d_law_law_31 : decode code 31 = .ok (.iand, 1) := by decide +kernel
theorem d_law_law_32 : decode code 32 = .ok (.tableswitch 555 0 18 #[92, 115, 138, 161, 174, 185, 208, 241, 294, 327, 360, 373, 406, 429, 442, 475, 508, 521, 544], 92) := by decide +kernel
theorem d_law_law_124 : decode code 124 = .ok (.aload_n 1, 1) := by decide +kernel
theorem d_law_law_125 : decode code 125 = .ok (.aload_n 0, 1) := by decide +kernel
theorem d_law_law_126 : decode code 126 = .ok (.iload_n 3, 1) := by decide +kernel
theorem d_law_law_127 : decode code 127 = .ok (.iconst 1, 1) := by decide +kernel
theorem d_law_law_128 : decode code 128 = .ok (.iadd, 1) := by decide +kernel
theorem d_law_law_129 : decode code 129 = .ok (.iaload, 1) := by decide +kernel
theorem d_law_law_130 : decode code 130 = .ok (.invokevirtual 13, 3) := by decide +kernel
theorem d_law_law_133 : decode code 133 = .ok (.aload_n 2, 1) := by decide +kernel
theorem d_law_law_134 : decode code 134 = .ok (.aload_n 0, 1) := by decide +kernel
theorem d_law_law_135 : decode code 135 = .ok (.iload_n 3, 1) := by decide +kernel
theorem d_law_law_136 : decode code 136 = .ok (.iconst 1, 1) := by decide +kernel
theorem d_law_law_137 : decode code 137 = .ok (.iadd, 1) := by decide +kernel
theorem d_law_law_138 : decode code 138 = .ok (.iaload, 1) := by decide +kernel
theorem d_law_law_139 : decode code 139 = .ok (.invokevirtual 17, 3) := by decide +kernel
theorem d_law_law_142 : decode code 142 = .ok (.if_icmp .eq 445, 3) := by decide +kernel
theorem d_law_law_145 : decode code 145 = .ok (.iconst 0, 1) := by decide +kernel
theorem d_law_law_146 : decode code 146 = .ok (.ireturn, 1) := by decide +kernel
theorem d_law_law_147 : decode code 147 = .ok (.aload_n 1, 1) := by decide +kernel
theorem d_law_law_148 : decode code 148 = .ok (.aload_n 0, 1) := by decide +kernel
theorem d_law_law_149 : decode code 149 = .ok (.iload_n 3, 1) := by decide +kernel
theorem d_law_law_150 : decode code 150 = .ok (.iconst 1, 1) := by decide +kernel
theorem d_law_law_151 : decode code 151 = .ok (.iadd, 1) := by decide +kernel
theorem d_law_law_152 : decode code 152 = .ok (.iaload, 1) := by decide +kernel
theorem d_law_law_153 : decode code 153 = .ok (.invokevirtual 18, 3) := by decide +kernel
theorem d_law_law_156 : decode code 156 = .ok (.aload_n 2, 1) := by decide +kernel
theorem d_law_law_157 : decode code 157 = .ok (.aload_n 0, 1) := by decide +kernel
theorem d_law_law_158 : decode code 158 = .ok (.iload_n 3, 1) := by decide +kernel
theorem d_law_law_159 : decode code 159 = .ok (.iconst 1, 1) := by decide +kernel
theorem d_law_law_160 : decode code 160 = .ok (.iadd, 1) := by decide +kernel
theorem d_law_law_161 : decode code 161 = .ok (.iaload, 1) := by decide +kernel
theorem d_law_law_162 : decode code 162 = .ok (.invokevirtual 22, 3) := by decide +kernel
theorem d_law_law_165 : decode code 165 = .ok (.if_icmp .eq 422, 3) := by decide +kernel
theorem d_law_law_168 : decode code 168 = .ok (.iconst 0, 1) := by decide +kernel
theorem d_law_law_169 : decode code 169 = .ok (.ireturn, 1) := by decide +kernel
theorem d_law_law_170 : decode code 170 = .ok (.aload_n 1, 1) := by decide +kernel
theorem d_law_law_171 : decode code 171 = .ok (.aload_n 0, 1) := by decide +kernel
theorem d_law_law_172 : decode code 172 = .ok (.iload_n 3, 1) := by decide +kernel
theorem d_law_law_173 : decode code 173 = .ok (.iconst 1, 1) := by decide +kernel
theorem d_law_law_174 : decode code 174 = .ok (.iadd, 1) := by decide +kernel
theorem d_law_law_175 : decode code 175 = .ok (.iaload, 1) := by decide +kernel
theorem d_law_law_176 : decode code 176 = .ok (.invokevirtual 23, 3) := by decide +kernel
theorem d_law_law_179 : decode code 179 = .ok (.aload_n 2, 1) := by decide +kernel
theorem d_law_law_180 : decode code 180 = .ok (.aload_n 0, 1) := by decide +kernel
theorem d_law_law_181 : decode code 181 = .ok (.iload_n 3, 1) := by decide +kernel
theorem d_law_law_182 : decode code 182 = .ok (.iconst 1, 1) := by decide +kernel
theorem d_law_law_183 : decode code 183 = .ok (.iadd, 1) := by decide +kernel
theorem d_law_law_184 : decode code 184 = .ok (.iaload, 1) := by decide +kernel
theorem d_law_law_185 : decode code 185 = .ok (.invokevirtual 26, 3) := by decide +kernel
theorem d_law_law_188 : decode code 188 = .ok (.if_icmp .eq 399, 3) := by decide +kernel
theorem d_law_law_191 : decode code 191 = .ok (.iconst 0, 1) := by decide +kernel
theorem d_law_law_192 : decode code 192 = .ok (.ireturn, 1) := by decide +kernel
theorem d_law_law_193 : decode code 193 = .ok (.aload_n 1, 1) := by decide +kernel
theorem d_law_law_194 : decode code 194 = .ok (.invokevirtual 27, 3) := by decide +kernel
theorem d_law_law_197 : decode code 197 = .ok (.aload_n 2, 1) := by decide +kernel
theorem d_law_law_198 : decode code 198 = .ok (.invokevirtual 31, 3) := by decide +kernel
theorem d_law_law_201 : decode code 201 = .ok (.if_icmp .eq 386, 3) := by decide +kernel
theorem d_law_law_204 : decode code 204 = .ok (.iconst 0, 1) := by decide +kernel
theorem d_law_law_205 : decode code 205 = .ok (.ireturn, 1) := by decide +kernel
theorem d_law_law_206 : decode code 206 = .ok (.aload_n 1, 1) := by decide +kernel
theorem d_law_law_207 : decode code 207 = .ok (.invokevirtual 32, 3) := by decide +kernel
theorem d_law_law_210 : decode code 210 = .ok (.aload_n 2, 1) := by decide +kernel
theorem d_law_law_211 : decode code 211 = .ok (.invokevirtual 35, 3) := by decide +kernel
theorem d_law_law_214 : decode code 214 = .ok (.goto 373, 3) := by decide +kernel
theorem d_law_law_217 : decode code 217 = .ok (.aload_n 1, 1) := by decide +kernel
theorem d_law_law_218 : decode code 218 = .ok (.aload_n 0, 1) := by decide +kernel
theorem d_law_law_219 : decode code 219 = .ok (.iload_n 3, 1) := by decide +kernel
theorem d_law_law_220 : decode code 220 = .ok (.iconst 1, 1) := by decide +kernel
theorem d_law_law_221 : decode code 221 = .ok (.iadd, 1) := by decide +kernel
theorem d_law_law_222 : decode code 222 = .ok (.iaload, 1) := by decide +kernel
theorem d_law_law_223 : decode code 223 = .ok (.invokevirtual 36, 3) := by decide +kernel
theorem d_law_law_226 : decode code 226 = .ok (.aload_n 2, 1) := by decide +kernel
theorem d_law_law_227 : decode code 227 = .ok (.aload_n 0, 1) := by decide +kernel
theorem d_law_law_228 : decode code 228 = .ok (.iload_n 3, 1) := by decide +kernel
