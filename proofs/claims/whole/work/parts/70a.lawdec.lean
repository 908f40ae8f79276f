abbrev m_Law_law : zM := (⟨"TableMachineLaw", "law", "([I)Z"⟩, code, 8, some .boolean)
theorem d_Law_law_0 : decode m_Law_law.2.1 0 = .ok (.new 8, 3) := by decide +kernel
theorem d_Law_law_3 : decode m_Law_law.2.1 3 = .ok (.dup, 1) := by decide +kernel
theorem d_Law_law_4 : decode m_Law_law.2.1 4 = .ok (.invokespecial 63, 3) := by decide +kernel
theorem d_Law_law_7 : decode m_Law_law.2.1 7 = .ok (.astore_n 1, 1) := by decide +kernel
theorem d_Law_law_8 : decode m_Law_law.2.1 8 = .ok (.new 64, 3) := by decide +kernel
theorem d_Law_law_11 : decode m_Law_law.2.1 11 = .ok (.dup, 1) := by decide +kernel
theorem d_Law_law_12 : decode m_Law_law.2.1 12 = .ok (.invokespecial 66, 3) := by decide +kernel
theorem d_Law_law_15 : decode m_Law_law.2.1 15 = .ok (.astore_n 2, 1) := by decide +kernel
theorem d_Law_law_16 : decode m_Law_law.2.1 16 = .ok (.iconst 1, 1) := by decide +kernel
theorem d_Law_law_17 : decode m_Law_law.2.1 17 = .ok (.newarray .long, 2) := by decide +kernel
theorem d_Law_law_19 : decode m_Law_law.2.1 19 = .ok (.astore_n 3, 1) := by decide +kernel
theorem d_Law_law_20 : decode m_Law_law.2.1 20 = .ok (.iconst 0, 1) := by decide +kernel
theorem d_Law_law_21 : decode m_Law_law.2.1 21 = .ok (.istore 4, 2) := by decide +kernel
theorem d_Law_law_23 : decode m_Law_law.2.1 23 = .ok (.iload 4, 2) := by decide +kernel
theorem d_Law_law_25 : decode m_Law_law.2.1 25 = .ok (.aload_n 0, 1) := by decide +kernel
theorem d_Law_law_26 : decode m_Law_law.2.1 26 = .ok (.arraylength, 1) := by decide +kernel
theorem d_Law_law_27 : decode m_Law_law.2.1 27 = .ok (.iconst 5, 1) := by decide +kernel
theorem d_Law_law_28 : decode m_Law_law.2.1 28 = .ok (.isub, 1) := by decide +kernel
theorem d_Law_law_29 : decode m_Law_law.2.1 29 = .ok (.if_icmp .gt 1439, 3) := by decide +kernel
theorem d_Law_law_32 : decode m_Law_law.2.1 32 = .ok (.aload_n 0, 1) := by decide +kernel
theorem d_Law_law_33 : decode m_Law_law.2.1 33 = .ok (.iload 4, 2) := by decide +kernel
theorem d_Law_law_35 : decode m_Law_law.2.1 35 = .ok (.iaload, 1) := by decide +kernel
theorem d_Law_law_36 : decode m_Law_law.2.1 36 = .ok (.bipush 31, 2) := by decide +kernel
theorem d_Law_law_38 : decode m_Law_law.2.1 38 = .ok (.iand, 1) := by decide +kernel
theorem d_Law_law_39 : decode m_Law_law.2.1 39 = .ok (.tableswitch 1423 0 18 #[89, 145, 242, 349, 456, 481, 608, 719, 838, 930, 941, 1009, 1065, 1132, 1207, 1244, 1281, 1342, 1379], 89) := by decide +kernel
theorem d_Law_law_128 : decode m_Law_law.2.1 128 = .ok (.aload_n 1, 1) := by decide +kernel
theorem d_Law_law_129 : decode m_Law_law.2.1 129 = .ok (.aload_n 0, 1) := by decide +kernel
theorem d_Law_law_130 : decode m_Law_law.2.1 130 = .ok (.iload 4, 2) := by decide +kernel
theorem d_Law_law_132 : decode m_Law_law.2.1 132 = .ok (.iconst 1, 1) := by decide +kernel
theorem d_Law_law_133 : decode m_Law_law.2.1 133 = .ok (.iadd, 1) := by decide +kernel
theorem d_Law_law_134 : decode m_Law_law.2.1 134 = .ok (.iaload, 1) := by decide +kernel
theorem d_Law_law_135 : decode m_Law_law.2.1 135 = .ok (.aload_n 3, 1) := by decide +kernel
theorem d_Law_law_136 : decode m_Law_law.2.1 136 = .ok (.invokestatic 67, 3) := by decide +kernel
theorem d_Law_law_139 : decode m_Law_law.2.1 139 = .ok (.istore 5, 2) := by decide +kernel
theorem d_Law_law_141 : decode m_Law_law.2.1 141 = .ok (.aload_n 2, 1) := by decide +kernel
theorem d_Law_law_142 : decode m_Law_law.2.1 142 = .ok (.aload_n 0, 1) := by decide +kernel
theorem d_Law_law_143 : decode m_Law_law.2.1 143 = .ok (.iload 4, 2) := by decide +kernel
theorem d_Law_law_145 : decode m_Law_law.2.1 145 = .ok (.iconst 1, 1) := by decide +kernel
theorem d_Law_law_146 : decode m_Law_law.2.1 146 = .ok (.iadd, 1) := by decide +kernel
theorem d_Law_law_147 : decode m_Law_law.2.1 147 = .ok (.iaload, 1) := by decide +kernel
theorem d_Law_law_148 : decode m_Law_law.2.1 148 = .ok (.invokevirtual 72, 3) := by decide +kernel
theorem d_Law_law_151 : decode m_Law_law.2.1 151 = .ok (.istore 6, 2) := by decide +kernel
theorem d_Law_law_153 : decode m_Law_law.2.1 153 = .ok (.aload_n 2, 1) := by decide +kernel
theorem d_Law_law_154 : decode m_Law_law.2.1 154 = .ok (.invokevirtual 73, 3) := by decide +kernel
theorem d_Law_law_157 : decode m_Law_law.2.1 157 = .ok (.iload 5, 2) := by decide +kernel
theorem d_Law_law_159 : decode m_Law_law.2.1 159 = .ok (.if_icmp .eq 5, 3) := by decide +kernel
theorem d_Law_law_162 : decode m_Law_law.2.1 162 = .ok (.iconst 0, 1) := by decide +kernel
theorem d_Law_law_163 : decode m_Law_law.2.1 163 = .ok (.ireturn, 1) := by decide +kernel
theorem d_Law_law_164 : decode m_Law_law.2.1 164 = .ok (.iload 5, 2) := by decide +kernel
theorem d_Law_law_166 : decode m_Law_law.2.1 166 = .ok (.ifCond .ne 15, 3) := by decide +kernel
theorem d_Law_law_169 : decode m_Law_law.2.1 169 = .ok (.aload_n 3, 1) := by decide +kernel
theorem d_Law_law_170 : decode m_Law_law.2.1 170 = .ok (.iconst 0, 1) := by decide +kernel
theorem d_Law_law_171 : decode m_Law_law.2.1 171 = .ok (.laload, 1) := by decide +kernel
theorem d_Law_law_172 : decode m_Law_law.2.1 172 = .ok (.iload 6, 2) := by decide +kernel
theorem d_Law_law_174 : decode m_Law_law.2.1 174 = .ok (.i2l, 1) := by decide +kernel
theorem d_Law_law_175 : decode m_Law_law.2.1 175 = .ok (.lcmp, 1) := by decide +kernel
theorem d_Law_law_176 : decode m_Law_law.2.1 176 = .ok (.ifCond .eq 5, 3) := by decide +kernel
theorem d_Law_law_179 : decode m_Law_law.2.1 179 = .ok (.iconst 0, 1) := by decide +kernel
theorem d_Law_law_180 : decode m_Law_law.2.1 180 = .ok (.ireturn, 1) := by decide +kernel
theorem d_Law_law_181 : decode m_Law_law.2.1 181 = .ok (.goto 1281, 3) := by decide +kernel
theorem d_Law_law_184 : decode m_Law_law.2.1 184 = .ok (.aload_n 1, 1) := by decide +kernel
theorem d_Law_law_185 : decode m_Law_law.2.1 185 = .ok (.aload_n 0, 1) := by decide +kernel
theorem d_Law_law_186 : decode m_Law_law.2.1 186 = .ok (.iload 4, 2) := by decide +kernel
theorem d_Law_law_188 : decode m_Law_law.2.1 188 = .ok (.iconst 1, 1) := by decide +kernel
theorem d_Law_law_189 : decode m_Law_law.2.1 189 = .ok (.iadd, 1) := by decide +kernel
theorem d_Law_law_190 : decode m_Law_law.2.1 190 = .ok (.iaload, 1) := by decide +kernel
theorem d_Law_law_191 : decode m_Law_law.2.1 191 = .ok (.aload_n 0, 1) := by decide +kernel
theorem d_Law_law_192 : decode m_Law_law.2.1 192 = .ok (.iload 4, 2) := by decide +kernel
theorem d_Law_law_194 : decode m_Law_law.2.1 194 = .ok (.iconst 2, 1) := by decide +kernel
theorem d_Law_law_195 : decode m_Law_law.2.1 195 = .ok (.iadd, 1) := by decide +kernel
theorem d_Law_law_196 : decode m_Law_law.2.1 196 = .ok (.iaload, 1) := by decide +kernel
theorem d_Law_law_197 : decode m_Law_law.2.1 197 = .ok (.ifCond .eq 7, 3) := by decide +kernel
theorem d_Law_law_200 : decode m_Law_law.2.1 200 = .ok (.iconst 1, 1) := by decide +kernel
theorem d_Law_law_201 : decode m_Law_law.2.1 201 = .ok (.goto 4, 3) := by decide +kernel
theorem d_Law_law_204 : decode m_Law_law.2.1 204 = .ok (.iconst 0, 1) := by decide +kernel
theorem d_Law_law_205 : decode m_Law_law.2.1 205 = .ok (.aload_n 0, 1) := by decide +kernel
theorem d_Law_law_206 : decode m_Law_law.2.1 206 = .ok (.iload 4, 2) := by decide +kernel
theorem d_Law_law_208 : decode m_Law_law.2.1 208 = .ok (.iconst 3, 1) := by decide +kernel
theorem d_Law_law_209 : decode m_Law_law.2.1 209 = .ok (.iadd, 1) := by decide +kernel
theorem d_Law_law_210 : decode m_Law_law.2.1 210 = .ok (.iaload, 1) := by decide +kernel
theorem d_Law_law_211 : decode m_Law_law.2.1 211 = .ok (.i2l, 1) := by decide +kernel
theorem d_Law_law_212 : decode m_Law_law.2.1 212 = .ok (.bipush 32, 2) := by decide +kernel
theorem d_Law_law_214 : decode m_Law_law.2.1 214 = .ok (.lshl, 1) := by decide +kernel
theorem d_Law_law_215 : decode m_Law_law.2.1 215 = .ok (.aload_n 0, 1) := by decide +kernel
theorem d_Law_law_216 : decode m_Law_law.2.1 216 = .ok (.iload 4, 2) := by decide +kernel
theorem d_Law_law_218 : decode m_Law_law.2.1 218 = .ok (.iconst 4, 1) := by decide +kernel
theorem d_Law_law_219 : decode m_Law_law.2.1 219 = .ok (.iadd, 1) := by decide +kernel
theorem d_Law_law_220 : decode m_Law_law.2.1 220 = .ok (.iaload, 1) := by decide +kernel
theorem d_Law_law_221 : decode m_Law_law.2.1 221 = .ok (.i2l, 1) := by decide +kernel
theorem d_Law_law_222 : decode m_Law_law.2.1 222 = .ok (.ldc2_w 76, 3) := by decide +kernel
theorem d_Law_law_225 : decode m_Law_law.2.1 225 = .ok (.land, 1) := by decide +kernel
theorem d_Law_law_226 : decode m_Law_law.2.1 226 = .ok (.lor, 1) := by decide +kernel
theorem d_Law_law_227 : decode m_Law_law.2.1 227 = .ok (.invokevirtual 78, 3) := by decide +kernel
theorem d_Law_law_230 : decode m_Law_law.2.1 230 = .ok (.aload_n 2, 1) := by decide +kernel
theorem d_Law_law_231 : decode m_Law_law.2.1 231 = .ok (.aload_n 0, 1) := by decide +kernel
theorem d_Law_law_232 : decode m_Law_law.2.1 232 = .ok (.iload 4, 2) := by decide +kernel
theorem d_Law_law_234 : decode m_Law_law.2.1 234 = .ok (.iconst 1, 1) := by decide +kernel
theorem d_Law_law_235 : decode m_Law_law.2.1 235 = .ok (.iadd, 1) := by decide +kernel
theorem d_Law_law_236 : decode m_Law_law.2.1 236 = .ok (.iaload, 1) := by decide +kernel
theorem d_Law_law_237 : decode m_Law_law.2.1 237 = .ok (.aload_n 0, 1) := by decide +kernel
theorem d_Law_law_238 : decode m_Law_law.2.1 238 = .ok (.iload 4, 2) := by decide +kernel
theorem d_Law_law_240 : decode m_Law_law.2.1 240 = .ok (.iconst 2, 1) := by decide +kernel
theorem d_Law_law_241 : decode m_Law_law.2.1 241 = .ok (.iadd, 1) := by decide +kernel
theorem d_Law_law_242 : decode m_Law_law.2.1 242 = .ok (.iaload, 1) := by decide +kernel
theorem d_Law_law_243 : decode m_Law_law.2.1 243 = .ok (.ifCond .eq 7, 3) := by decide +kernel
theorem d_Law_law_246 : decode m_Law_law.2.1 246 = .ok (.iconst 1, 1) := by decide +kernel
theorem d_Law_law_247 : decode m_Law_law.2.1 247 = .ok (.goto 4, 3) := by decide +kernel
theorem d_Law_law_250 : decode m_Law_law.2.1 250 = .ok (.iconst 0, 1) := by decide +kernel
theorem d_Law_law_251 : decode m_Law_law.2.1 251 = .ok (.aload_n 0, 1) := by decide +kernel
theorem d_Law_law_252 : decode m_Law_law.2.1 252 = .ok (.iload 4, 2) := by decide +kernel
theorem d_Law_law_254 : decode m_Law_law.2.1 254 = .ok (.iconst 3, 1) := by decide +kernel
theorem d_Law_law_255 : decode m_Law_law.2.1 255 = .ok (.iadd, 1) := by decide +kernel
theorem d_Law_law_256 : decode m_Law_law.2.1 256 = .ok (.iaload, 1) := by decide +kernel
theorem d_Law_law_257 : decode m_Law_law.2.1 257 = .ok (.i2l, 1) := by decide +kernel
theorem d_Law_law_258 : decode m_Law_law.2.1 258 = .ok (.bipush 32, 2) := by decide +kernel
theorem d_Law_law_260 : decode m_Law_law.2.1 260 = .ok (.lshl, 1) := by decide +kernel
theorem d_Law_law_261 : decode m_Law_law.2.1 261 = .ok (.aload_n 0, 1) := by decide +kernel
theorem d_Law_law_262 : decode m_Law_law.2.1 262 = .ok (.iload 4, 2) := by decide +kernel
theorem d_Law_law_264 : decode m_Law_law.2.1 264 = .ok (.iconst 4, 1) := by decide +kernel
theorem d_Law_law_265 : decode m_Law_law.2.1 265 = .ok (.iadd, 1) := by decide +kernel
