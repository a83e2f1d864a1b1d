theorem xd_K_tell_153 : decode xb_K_tell 153 = .ok (.iconst 1, 1) := by decide +kernel
theorem xd_K_tell_154 : decode xb_K_tell 154 = .ok (.iushr, 1) := by decide +kernel
theorem xd_K_tell_155 : decode xb_K_tell 155 = .ok (.ireturn, 1) := by decide +kernel
theorem xd_K_tell_156 : decode xb_K_tell 156 = .ok (.aload_n 0, 1) := by decide +kernel
theorem xd_K_tell_157 : decode xb_K_tell 157 = .ok (.getfield 40, 3) := by decide +kernel
theorem xd_K_tell_160 : decode xb_K_tell 160 = .ok (.aload_n 0, 1) := by decide +kernel
theorem xd_K_tell_161 : decode xb_K_tell 161 = .ok (.getfield 31, 3) := by decide +kernel
theorem xd_K_tell_164 : decode xb_K_tell 164 = .ok (.iand, 1) := by decide +kernel
theorem xd_K_tell_165 : decode xb_K_tell 165 = .ok (.iconst 1, 1) := by decide +kernel
theorem xd_K_tell_166 : decode xb_K_tell 166 = .ok (.iushr, 1) := by decide +kernel
theorem xd_K_tell_167 : decode xb_K_tell 167 = .ok (.ireturn, 1) := by decide +kernel
theorem xd_K_tell_168 : decode xb_K_tell 168 = .ok (.aload_n 0, 1) := by decide +kernel
theorem xd_K_tell_169 : decode xb_K_tell 169 = .ok (.getfield 24, 3) := by decide +kernel
theorem xd_K_tell_172 : decode xb_K_tell 172 = .ok (.ireturn, 1) := by decide +kernel
theorem xd_K_tell_173 : decode xb_K_tell 173 = .ok (.aload_n 0, 1) := by decide +kernel
theorem xd_K_tell_174 : decode xb_K_tell 174 = .ok (.getfield 28, 3) := by decide +kernel
theorem xd_K_tell_177 : decode xb_K_tell 177 = .ok (.ireturn, 1) := by decide +kernel
theorem xd_K_tell_178 : decode xb_K_tell 178 = .ok (.aload_n 0, 1) := by decide +kernel
theorem xd_K_tell_179 : decode xb_K_tell 179 = .ok (.getfield 31, 3) := by decide +kernel
theorem xd_K_tell_182 : decode xb_K_tell 182 = .ok (.ireturn, 1) := by decide +kernel
theorem xd_K_tell_183 : decode xb_K_tell 183 = .ok (.aload_n 0, 1) := by decide +kernel
theorem xd_K_tell_184 : decode xb_K_tell 184 = .ok (.getfield 34, 3) := by decide +kernel
theorem xd_K_tell_187 : decode xb_K_tell 187 = .ok (.ireturn, 1) := by decide +kernel
theorem xd_K_tell_188 : decode xb_K_tell 188 = .ok (.aload_n 0, 1) := by decide +kernel
theorem xd_K_tell_189 : decode xb_K_tell 189 = .ok (.getfield 37, 3) := by decide +kernel
theorem xd_K_tell_192 : decode xb_K_tell 192 = .ok (.ireturn, 1) := by decide +kernel
theorem xd_K_tell_193 : decode xb_K_tell 193 = .ok (.aload_n 0, 1) := by decide +kernel
theorem xd_K_tell_194 : decode xb_K_tell 194 = .ok (.getfield 40, 3) := by decide +kernel
theorem xd_K_tell_197 : decode xb_K_tell 197 = .ok (.ireturn, 1) := by decide +kernel
theorem xd_K_tell_198 : decode xb_K_tell 198 = .ok (.aload_n 0, 1) := by decide +kernel
theorem xd_K_tell_199 : decode xb_K_tell 199 = .ok (.getfield 40, 3) := by decide +kernel
theorem xd_K_tell_202 : decode xb_K_tell 202 = .ok (.ireturn, 1) := by decide +kernel
theorem xd_K_tell_203 : decode xb_K_tell 203 = .ok (.aload_n 0, 1) := by decide +kernel
theorem xd_K_tell_204 : decode xb_K_tell 204 = .ok (.getfield 43, 3) := by decide +kernel
theorem xd_K_tell_207 : decode xb_K_tell 207 = .ok (.ireturn, 1) := by decide +kernel
theorem xd_K_tell_208 : decode xb_K_tell 208 = .ok (.aload_n 0, 1) := by decide +kernel
theorem xd_K_tell_209 : decode xb_K_tell 209 = .ok (.getfield 46, 3) := by decide +kernel
theorem xd_K_tell_212 : decode xb_K_tell 212 = .ok (.ireturn, 1) := by decide +kernel
theorem xd_K_tell_213 : decode xb_K_tell 213 = .ok (.aload_n 0, 1) := by decide +kernel
theorem xd_K_tell_214 : decode xb_K_tell 214 = .ok (.getfield 49, 3) := by decide +kernel
theorem xd_K_tell_217 : decode xb_K_tell 217 = .ok (.l2i, 1) := by decide +kernel
theorem xd_K_tell_218 : decode xb_K_tell 218 = .ok (.ireturn, 1) := by decide +kernel
theorem xd_K_tell_219 : decode xb_K_tell 219 = .ok (.aload_n 0, 1) := by decide +kernel
theorem xd_K_tell_220 : decode xb_K_tell 220 = .ok (.getfield 49, 3) := by decide +kernel
theorem xd_K_tell_223 : decode xb_K_tell 223 = .ok (.bipush 32, 2) := by decide +kernel
theorem xd_K_tell_225 : decode xb_K_tell 225 = .ok (.lushr, 1) := by decide +kernel
theorem xd_K_tell_226 : decode xb_K_tell 226 = .ok (.l2i, 1) := by decide +kernel
theorem xd_K_tell_227 : decode xb_K_tell 227 = .ok (.ireturn, 1) := by decide +kernel
theorem xd_K_tell_228 : decode xb_K_tell 228 = .ok (.aload_n 0, 1) := by decide +kernel
theorem xd_K_tell_229 : decode xb_K_tell 229 = .ok (.getfield 18, 3) := by decide +kernel
theorem xd_K_tell_232 : decode xb_K_tell 232 = .ok (.iload_n 1, 1) := by decide +kernel
theorem xd_K_tell_233 : decode xb_K_tell 233 = .ok (.sipush 256, 3) := by decide +kernel
theorem xd_K_tell_236 : decode xb_K_tell 236 = .ok (.isub, 1) := by decide +kernel
theorem xd_K_tell_237 : decode xb_K_tell 237 = .ok (.invokevirtual 74, 3) := by decide +kernel
theorem xd_K_tell_240 : decode xb_K_tell 240 = .ok (.ireturn, 1) := by decide +kernel
theorem xd_K_write_0 : decode xb_K_write 0 = .ok (.iload_n 1, 1) := by decide +kernel
theorem xd_K_write_1 : decode xb_K_write 1 = .ok (.invokestatic 62, 3) := by decide +kernel
theorem xd_K_write_4 : decode xb_K_write 4 = .ok (.ifCond .eq 13, 3) := by decide +kernel
theorem xd_K_write_7 : decode xb_K_write 7 = .ok (.aload_n 0, 1) := by decide +kernel
theorem xd_K_write_8 : decode xb_K_write 8 = .ok (.getfield 12, 3) := by decide +kernel
theorem xd_K_write_11 : decode xb_K_write 11 = .ok (.iload_n 1, 1) := by decide +kernel
theorem xd_K_write_12 : decode xb_K_write 12 = .ok (.iload_n 2, 1) := by decide +kernel
theorem xd_K_write_13 : decode xb_K_write 13 = .ok (.invokevirtual 78, 3) := by decide +kernel
theorem xd_K_write_16 : decode xb_K_write 16 = .ok (.return_, 1) := by decide +kernel
theorem xd_K_write_17 : decode xb_K_write 17 = .ok (.iload_n 1, 1) := by decide +kernel
theorem xd_K_write_18 : decode xb_K_write 18 = .ok (.lookupswitch 235 #[(516, 98), (580, 125), (1536, 141), (1538, 152), (1539, 163), (1540, 175), (1603, 187), (1604, 195), (1605, 204), (1610, 216), (1664, 224)], 98) := by decide +kernel
theorem xd_K_write_116 : decode xb_K_write 116 = .ok (.aload_n 0, 1) := by decide +kernel
theorem xd_K_write_117 : decode xb_K_write 117 = .ok (.aload_n 0, 1) := by decide +kernel
theorem xd_K_write_118 : decode xb_K_write 118 = .ok (.getfield 34, 3) := by decide +kernel
theorem xd_K_write_121 : decode xb_K_write 121 = .ok (.aload_n 0, 1) := by decide +kernel
theorem xd_K_write_122 : decode xb_K_write 122 = .ok (.getfield 31, 3) := by decide +kernel
theorem xd_K_write_125 : decode xb_K_write 125 = .ok (.iconst (-1), 1) := by decide +kernel
theorem xd_K_write_126 : decode xb_K_write 126 = .ok (.ixor, 1) := by decide +kernel
theorem xd_K_write_127 : decode xb_K_write 127 = .ok (.iand, 1) := by decide +kernel
theorem xd_K_write_128 : decode xb_K_write 128 = .ok (.iload_n 2, 1) := by decide +kernel
theorem xd_K_write_129 : decode xb_K_write 129 = .ok (.iconst 1, 1) := by decide +kernel
theorem xd_K_write_130 : decode xb_K_write 130 = .ok (.ishl, 1) := by decide +kernel
theorem xd_K_write_131 : decode xb_K_write 131 = .ok (.aload_n 0, 1) := by decide +kernel
theorem xd_K_write_132 : decode xb_K_write 132 = .ok (.getfield 31, 3) := by decide +kernel
theorem xd_K_write_135 : decode xb_K_write 135 = .ok (.iand, 1) := by decide +kernel
theorem xd_K_write_136 : decode xb_K_write 136 = .ok (.ior, 1) := by decide +kernel
theorem xd_K_write_137 : decode xb_K_write 137 = .ok (.putfield 34, 3) := by decide +kernel
theorem xd_K_write_140 : decode xb_K_write 140 = .ok (.goto 126, 3) := by decide +kernel
theorem xd_K_write_143 : decode xb_K_write 143 = .ok (.aload_n 0, 1) := by decide +kernel
theorem xd_K_write_144 : decode xb_K_write 144 = .ok (.iload_n 2, 1) := by decide +kernel
theorem xd_K_write_145 : decode xb_K_write 145 = .ok (.iconst 1, 1) := by decide +kernel
theorem xd_K_write_146 : decode xb_K_write 146 = .ok (.ishl, 1) := by decide +kernel
theorem xd_K_write_147 : decode xb_K_write 147 = .ok (.iconst 4, 1) := by decide +kernel
theorem xd_K_write_148 : decode xb_K_write 148 = .ok (.aload_n 0, 1) := by decide +kernel
theorem xd_K_write_149 : decode xb_K_write 149 = .ok (.getfield 31, 3) := by decide +kernel
theorem xd_K_write_152 : decode xb_K_write 152 = .ok (.iand, 1) := by decide +kernel
theorem xd_K_write_153 : decode xb_K_write 153 = .ok (.invokevirtual 82, 3) := by decide +kernel
theorem xd_K_write_156 : decode xb_K_write 156 = .ok (.goto 110, 3) := by decide +kernel
theorem xd_K_write_159 : decode xb_K_write 159 = .ok (.aload_n 0, 1) := by decide +kernel
theorem xd_K_write_160 : decode xb_K_write 160 = .ok (.iload_n 2, 1) := by decide +kernel
theorem xd_K_write_161 : decode xb_K_write 161 = .ok (.ldc 85, 2) := by decide +kernel
theorem xd_K_write_163 : decode xb_K_write 163 = .ok (.iand, 1) := by decide +kernel
theorem xd_K_write_164 : decode xb_K_write 164 = .ok (.putfield 24, 3) := by decide +kernel
theorem xd_K_write_167 : decode xb_K_write 167 = .ok (.goto 99, 3) := by decide +kernel
theorem xd_K_write_170 : decode xb_K_write 170 = .ok (.aload_n 0, 1) := by decide +kernel
theorem xd_K_write_171 : decode xb_K_write 171 = .ok (.iload_n 2, 1) := by decide +kernel
theorem xd_K_write_172 : decode xb_K_write 172 = .ok (.ldc 86, 2) := by decide +kernel
theorem xd_K_write_174 : decode xb_K_write 174 = .ok (.iand, 1) := by decide +kernel
theorem xd_K_write_175 : decode xb_K_write 175 = .ok (.putfield 28, 3) := by decide +kernel
theorem xd_K_write_178 : decode xb_K_write 178 = .ok (.goto 88, 3) := by decide +kernel
theorem xd_K_write_181 : decode xb_K_write 181 = .ok (.aload_n 0, 1) := by decide +kernel
theorem xd_K_write_182 : decode xb_K_write 182 = .ok (.iload_n 2, 1) := by decide +kernel
theorem xd_K_write_183 : decode xb_K_write 183 = .ok (.sipush 1092, 3) := by decide +kernel
theorem xd_K_write_186 : decode xb_K_write 186 = .ok (.iand, 1) := by decide +kernel
theorem xd_K_write_187 : decode xb_K_write 187 = .ok (.putfield 31, 3) := by decide +kernel
theorem xd_K_write_190 : decode xb_K_write 190 = .ok (.goto 76, 3) := by decide +kernel
theorem xd_K_write_193 : decode xb_K_write 193 = .ok (.aload_n 0, 1) := by decide +kernel
theorem xd_K_write_194 : decode xb_K_write 194 = .ok (.iload_n 2, 1) := by decide +kernel
theorem xd_K_write_195 : decode xb_K_write 195 = .ok (.sipush 1092, 3) := by decide +kernel
theorem xd_K_write_198 : decode xb_K_write 198 = .ok (.iand, 1) := by decide +kernel
theorem xd_K_write_199 : decode xb_K_write 199 = .ok (.putfield 34, 3) := by decide +kernel
theorem xd_K_write_202 : decode xb_K_write 202 = .ok (.goto 64, 3) := by decide +kernel
theorem xd_K_write_205 : decode xb_K_write 205 = .ok (.aload_n 0, 1) := by decide +kernel
theorem xd_K_write_206 : decode xb_K_write 206 = .ok (.iload_n 2, 1) := by decide +kernel
theorem xd_K_write_207 : decode xb_K_write 207 = .ok (.putfield 37, 3) := by decide +kernel
theorem xd_K_write_210 : decode xb_K_write 210 = .ok (.goto 56, 3) := by decide +kernel
theorem xd_K_write_213 : decode xb_K_write 213 = .ok (.aload_n 0, 1) := by decide +kernel
theorem xd_K_write_214 : decode xb_K_write 214 = .ok (.iload_n 2, 1) := by decide +kernel
theorem xd_K_write_215 : decode xb_K_write 215 = .ok (.iconst 4, 1) := by decide +kernel
theorem xd_K_write_216 : decode xb_K_write 216 = .ok (.invokevirtual 82, 3) := by decide +kernel
theorem xd_K_write_219 : decode xb_K_write 219 = .ok (.goto 47, 3) := by decide +kernel
theorem xd_K_write_222 : decode xb_K_write 222 = .ok (.aload_n 0, 1) := by decide +kernel
theorem xd_K_write_223 : decode xb_K_write 223 = .ok (.iload_n 2, 1) := by decide +kernel
theorem xd_K_write_224 : decode xb_K_write 224 = .ok (.sipush 1092, 3) := by decide +kernel
theorem xd_K_write_227 : decode xb_K_write 227 = .ok (.iand, 1) := by decide +kernel
theorem xd_K_write_228 : decode xb_K_write 228 = .ok (.putfield 40, 3) := by decide +kernel
theorem xd_K_write_231 : decode xb_K_write 231 = .ok (.goto 35, 3) := by decide +kernel
theorem xd_K_write_234 : decode xb_K_write 234 = .ok (.aload_n 0, 1) := by decide +kernel
theorem xd_K_write_235 : decode xb_K_write 235 = .ok (.iload_n 2, 1) := by decide +kernel
theorem xd_K_write_236 : decode xb_K_write 236 = .ok (.putfield 43, 3) := by decide +kernel
theorem xd_K_write_239 : decode xb_K_write 239 = .ok (.goto 27, 3) := by decide +kernel
theorem xd_K_write_242 : decode xb_K_write 242 = .ok (.aload_n 0, 1) := by decide +kernel
theorem xd_K_write_243 : decode xb_K_write 243 = .ok (.iload_n 2, 1) := by decide +kernel
theorem xd_K_write_244 : decode xb_K_write 244 = .ok (.ldc 87, 2) := by decide +kernel
theorem xd_K_write_246 : decode xb_K_write 246 = .ok (.iand, 1) := by decide +kernel
theorem xd_K_write_247 : decode xb_K_write 247 = .ok (.putfield 46, 3) := by decide +kernel
theorem xd_K_write_250 : decode xb_K_write 250 = .ok (.goto 16, 3) := by decide +kernel
theorem xd_K_write_253 : decode xb_K_write 253 = .ok (.aload_n 0, 1) := by decide +kernel
theorem xd_K_write_254 : decode xb_K_write 254 = .ok (.getfield 18, 3) := by decide +kernel
theorem xd_K_write_257 : decode xb_K_write 257 = .ok (.iload_n 1, 1) := by decide +kernel
theorem xd_K_write_258 : decode xb_K_write 258 = .ok (.sipush 256, 3) := by decide +kernel
theorem xd_K_write_261 : decode xb_K_write 261 = .ok (.isub, 1) := by decide +kernel
theorem xd_K_write_262 : decode xb_K_write 262 = .ok (.iload_n 2, 1) := by decide +kernel
theorem xd_K_write_263 : decode xb_K_write 263 = .ok (.invokevirtual 78, 3) := by decide +kernel
theorem xd_K_write_266 : decode xb_K_write 266 = .ok (.return_, 1) := by decide +kernel
theorem xd_K_raiseSoft_0 : decode xb_K_raiseSoft 0 = .ok (.aload_n 0, 1) := by decide +kernel
theorem xd_K_raiseSoft_1 : decode xb_K_raiseSoft 1 = .ok (.aload_n 0, 1) := by decide +kernel
theorem xd_K_raiseSoft_2 : decode xb_K_raiseSoft 2 = .ok (.getfield 40, 3) := by decide +kernel
theorem xd_K_raiseSoft_5 : decode xb_K_raiseSoft 5 = .ok (.iload_n 2, 1) := by decide +kernel
theorem xd_K_raiseSoft_6 : decode xb_K_raiseSoft 6 = .ok (.iconst (-1), 1) := by decide +kernel
theorem xd_K_raiseSoft_7 : decode xb_K_raiseSoft 7 = .ok (.ixor, 1) := by decide +kernel
theorem xd_K_raiseSoft_8 : decode xb_K_raiseSoft 8 = .ok (.iand, 1) := by decide +kernel
theorem xd_K_raiseSoft_9 : decode xb_K_raiseSoft 9 = .ok (.iload_n 1, 1) := by decide +kernel
theorem xd_K_raiseSoft_10 : decode xb_K_raiseSoft 10 = .ok (.iload_n 2, 1) := by decide +kernel
theorem xd_K_raiseSoft_11 : decode xb_K_raiseSoft 11 = .ok (.iand, 1) := by decide +kernel
theorem xd_K_raiseSoft_12 : decode xb_K_raiseSoft 12 = .ok (.ior, 1) := by decide +kernel
theorem xd_K_raiseSoft_13 : decode xb_K_raiseSoft 13 = .ok (.putfield 40, 3) := by decide +kernel
theorem xd_K_raiseSoft_16 : decode xb_K_raiseSoft 16 = .ok (.return_, 1) := by decide +kernel
theorem xd_K_pendingForS_0 : decode xb_K_pendingForS 0 = .ok (.aload_n 0, 1) := by decide +kernel
theorem xd_K_pendingForS_1 : decode xb_K_pendingForS 1 = .ok (.getfield 12, 3) := by decide +kernel
theorem xd_K_pendingForS_4 : decode xb_K_pendingForS 4 = .ok (.getfield 88, 3) := by decide +kernel
theorem xd_K_pendingForS_7 : decode xb_K_pendingForS 7 = .ok (.aload_n 0, 1) := by decide +kernel
theorem xd_K_pendingForS_8 : decode xb_K_pendingForS 8 = .ok (.getfield 49, 3) := by decide +kernel
theorem xd_K_pendingForS_11 : decode xb_K_pendingForS 11 = .ok (.aload_n 0, 1) := by decide +kernel
theorem xd_K_pendingForS_12 : decode xb_K_pendingForS 12 = .ok (.getfield 55, 3) := by decide +kernel
theorem xd_K_pendingForS_15 : decode xb_K_pendingForS 15 = .ok (.lcmp, 1) := by decide +kernel
theorem xd_K_pendingForS_16 : decode xb_K_pendingForS 16 = .ok (.ifCond .lt 8, 3) := by decide +kernel
theorem xd_K_pendingForS_19 : decode xb_K_pendingForS 19 = .ok (.bipush 32, 2) := by decide +kernel
theorem xd_K_pendingForS_21 : decode xb_K_pendingForS 21 = .ok (.goto 4, 3) := by decide +kernel
theorem xd_K_pendingForS_24 : decode xb_K_pendingForS 24 = .ok (.iconst 0, 1) := by decide +kernel
theorem xd_K_pendingForS_25 : decode xb_K_pendingForS 25 = .ok (.ior, 1) := by decide +kernel
theorem xd_K_pendingForS_26 : decode xb_K_pendingForS 26 = .ok (.aload_n 0, 1) := by decide +kernel
theorem xd_K_pendingForS_27 : decode xb_K_pendingForS 27 = .ok (.getfield 58, 3) := by decide +kernel
theorem xd_K_pendingForS_30 : decode xb_K_pendingForS 30 = .ok (.ifCond .eq 9, 3) := by decide +kernel
theorem xd_K_pendingForS_33 : decode xb_K_pendingForS 33 = .ok (.sipush 512, 3) := by decide +kernel
theorem xd_K_pendingForS_36 : decode xb_K_pendingForS 36 = .ok (.goto 4, 3) := by decide +kernel
theorem xd_K_pendingForS_39 : decode xb_K_pendingForS 39 = .ok (.iconst 0, 1) := by decide +kernel
theorem xd_K_pendingForS_40 : decode xb_K_pendingForS 40 = .ok (.ior, 1) := by decide +kernel
theorem xd_K_pendingForS_41 : decode xb_K_pendingForS 41 = .ok (.ireturn, 1) := by decide +kernel
theorem xd_K_dueForS_0 : decode xb_K_dueForS 0 = .ok (.iload_n 1, 1) := by decide +kernel
theorem xd_K_dueForS_1 : decode xb_K_dueForS 1 = .ok (.iconst 1, 1) := by decide +kernel
theorem xd_K_dueForS_2 : decode xb_K_dueForS 2 = .ok (.if_icmp .ne 17, 3) := by decide +kernel
theorem xd_K_dueForS_5 : decode xb_K_dueForS 5 = .ok (.aload_n 0, 1) := by decide +kernel
theorem xd_K_dueForS_6 : decode xb_K_dueForS 6 = .ok (.getfield 12, 3) := by decide +kernel
theorem xd_K_dueForS_9 : decode xb_K_dueForS 9 = .ok (.getfield 91, 3) := by decide +kernel
theorem xd_K_dueForS_12 : decode xb_K_dueForS 12 = .ok (.iconst 2, 1) := by decide +kernel
theorem xd_K_dueForS_13 : decode xb_K_dueForS 13 = .ok (.iand, 1) := by decide +kernel
theorem xd_K_dueForS_14 : decode xb_K_dueForS 14 = .ok (.ifCond .ne 5, 3) := by decide +kernel
theorem xd_K_dueForS_17 : decode xb_K_dueForS 17 = .ok (.iconst (-1), 1) := by decide +kernel
theorem xd_K_dueForS_18 : decode xb_K_dueForS 18 = .ok (.ireturn, 1) := by decide +kernel
theorem xd_K_dueForS_19 : decode xb_K_dueForS 19 = .ok (.aload_n 0, 1) := by decide +kernel
theorem xd_K_dueForS_20 : decode xb_K_dueForS 20 = .ok (.invokevirtual 70, 3) := by decide +kernel
theorem xd_K_dueForS_23 : decode xb_K_dueForS 23 = .ok (.aload_n 0, 1) := by decide +kernel
theorem xd_K_dueForS_24 : decode xb_K_dueForS 24 = .ok (.getfield 12, 3) := by decide +kernel
theorem xd_K_dueForS_27 : decode xb_K_dueForS 27 = .ok (.getfield 94, 3) := by decide +kernel
theorem xd_K_dueForS_30 : decode xb_K_dueForS 30 = .ok (.iand, 1) := by decide +kernel
theorem xd_K_dueForS_31 : decode xb_K_dueForS 31 = .ok (.aload_n 0, 1) := by decide +kernel
theorem xd_K_dueForS_32 : decode xb_K_dueForS 32 = .ok (.getfield 40, 3) := by decide +kernel
theorem xd_K_dueForS_35 : decode xb_K_dueForS 35 = .ok (.aload_n 0, 1) := by decide +kernel
theorem xd_K_dueForS_36 : decode xb_K_dueForS 36 = .ok (.getfield 34, 3) := by decide +kernel
theorem xd_K_dueForS_39 : decode xb_K_dueForS 39 = .ok (.iand, 1) := by decide +kernel
theorem xd_K_dueForS_40 : decode xb_K_dueForS 40 = .ok (.aload_n 0, 1) := by decide +kernel
theorem xd_K_dueForS_41 : decode xb_K_dueForS 41 = .ok (.getfield 31, 3) := by decide +kernel
theorem xd_K_dueForS_44 : decode xb_K_dueForS 44 = .ok (.iconst (-1), 1) := by decide +kernel
theorem xd_K_dueForS_45 : decode xb_K_dueForS 45 = .ok (.ixor, 1) := by decide +kernel
theorem xd_K_dueForS_46 : decode xb_K_dueForS 46 = .ok (.iand, 1) := by decide +kernel
theorem xd_K_dueForS_47 : decode xb_K_dueForS 47 = .ok (.ior, 1) := by decide +kernel
theorem xd_K_dueForS_48 : decode xb_K_dueForS 48 = .ok (.invokestatic 97, 3) := by decide +kernel
theorem xd_K_dueForS_51 : decode xb_K_dueForS 51 = .ok (.ireturn, 1) := by decide +kernel
theorem xd_K_dueForVs_0 : decode xb_K_dueForVs 0 = .ok (.iload_n 1, 1) := by decide +kernel
theorem xd_K_dueForVs_1 : decode xb_K_dueForVs 1 = .ok (.iconst 2, 1) := by decide +kernel
theorem xd_K_dueForVs_2 : decode xb_K_dueForVs 2 = .ok (.if_icmp .eq 20, 3) := by decide +kernel
theorem xd_K_dueForVs_5 : decode xb_K_dueForVs 5 = .ok (.iload_n 1, 1) := by decide +kernel
theorem xd_K_dueForVs_6 : decode xb_K_dueForVs 6 = .ok (.iconst 3, 1) := by decide +kernel
theorem xd_K_dueForVs_7 : decode xb_K_dueForVs 7 = .ok (.if_icmp .ne 19, 3) := by decide +kernel
theorem xd_K_dueForVs_10 : decode xb_K_dueForVs 10 = .ok (.aload_n 0, 1) := by decide +kernel
theorem xd_K_dueForVs_11 : decode xb_K_dueForVs 11 = .ok (.getfield 18, 3) := by decide +kernel
theorem xd_K_dueForVs_14 : decode xb_K_dueForVs 14 = .ok (.getfield 91, 3) := by decide +kernel
theorem xd_K_dueForVs_17 : decode xb_K_dueForVs 17 = .ok (.iconst 2, 1) := by decide +kernel
theorem xd_K_dueForVs_18 : decode xb_K_dueForVs 18 = .ok (.iand, 1) := by decide +kernel
theorem xd_K_dueForVs_19 : decode xb_K_dueForVs 19 = .ok (.ifCond .eq 7, 3) := by decide +kernel
theorem xd_K_dueForVs_22 : decode xb_K_dueForVs 22 = .ok (.iconst 1, 1) := by decide +kernel
theorem xd_K_dueForVs_23 : decode xb_K_dueForVs 23 = .ok (.goto 4, 3) := by decide +kernel
theorem xd_K_dueForVs_26 : decode xb_K_dueForVs 26 = .ok (.iconst 0, 1) := by decide +kernel
theorem xd_K_dueForVs_27 : decode xb_K_dueForVs 27 = .ok (.istore_n 2, 1) := by decide +kernel
theorem xd_K_dueForVs_28 : decode xb_K_dueForVs 28 = .ok (.iload_n 2, 1) := by decide +kernel
theorem xd_K_dueForVs_29 : decode xb_K_dueForVs 29 = .ok (.ifCond .eq 23, 3) := by decide +kernel
theorem xd_K_dueForVs_32 : decode xb_K_dueForVs 32 = .ok (.aload_n 0, 1) := by decide +kernel
theorem xd_K_dueForVs_33 : decode xb_K_dueForVs 33 = .ok (.getfield 40, 3) := by decide +kernel
theorem xd_K_dueForVs_36 : decode xb_K_dueForVs 36 = .ok (.aload_n 0, 1) := by decide +kernel
theorem xd_K_dueForVs_37 : decode xb_K_dueForVs 37 = .ok (.getfield 34, 3) := by decide +kernel
theorem xd_K_dueForVs_40 : decode xb_K_dueForVs 40 = .ok (.iand, 1) := by decide +kernel
theorem xd_K_dueForVs_41 : decode xb_K_dueForVs 41 = .ok (.aload_n 0, 1) := by decide +kernel
theorem xd_K_dueForVs_42 : decode xb_K_dueForVs 42 = .ok (.getfield 31, 3) := by decide +kernel
theorem xd_K_dueForVs_45 : decode xb_K_dueForVs 45 = .ok (.iand, 1) := by decide +kernel
theorem xd_K_dueForVs_46 : decode xb_K_dueForVs 46 = .ok (.invokestatic 97, 3) := by decide +kernel
theorem xd_K_dueForVs_49 : decode xb_K_dueForVs 49 = .ok (.goto 4, 3) := by decide +kernel
theorem xd_K_dueForVs_52 : decode xb_K_dueForVs 52 = .ok (.iconst (-1), 1) := by decide +kernel
theorem xd_K_dueForVs_53 : decode xb_K_dueForVs 53 = .ok (.ireturn, 1) := by decide +kernel
theorem xd_K_first_0 : decode xb_K_first 0 = .ok (.iconst 0, 1) := by decide +kernel
theorem xd_K_first_1 : decode xb_K_first 1 = .ok (.istore_n 1, 1) := by decide +kernel
theorem xd_K_first_2 : decode xb_K_first 2 = .ok (.iload_n 1, 1) := by decide +kernel
theorem xd_K_first_3 : decode xb_K_first 3 = .ok (.getstatic 100, 3) := by decide +kernel
theorem xd_K_first_6 : decode xb_K_first 6 = .ok (.arraylength, 1) := by decide +kernel
theorem xd_K_first_7 : decode xb_K_first 7 = .ok (.if_icmp .ge 27, 3) := by decide +kernel
theorem xd_K_first_10 : decode xb_K_first 10 = .ok (.iload_n 0, 1) := by decide +kernel
theorem xd_K_first_11 : decode xb_K_first 11 = .ok (.getstatic 100, 3) := by decide +kernel
theorem xd_K_first_14 : decode xb_K_first 14 = .ok (.iload_n 1, 1) := by decide +kernel
theorem xd_K_first_15 : decode xb_K_first 15 = .ok (.iaload, 1) := by decide +kernel
theorem xd_K_first_16 : decode xb_K_first 16 = .ok (.iushr, 1) := by decide +kernel
theorem xd_K_first_17 : decode xb_K_first 17 = .ok (.iconst 1, 1) := by decide +kernel
theorem xd_K_first_18 : decode xb_K_first 18 = .ok (.iand, 1) := by decide +kernel
theorem xd_K_first_19 : decode xb_K_first 19 = .ok (.ifCond .eq 9, 3) := by decide +kernel
theorem xd_K_first_22 : decode xb_K_first 22 = .ok (.getstatic 100, 3) := by decide +kernel
theorem xd_K_first_25 : decode xb_K_first 25 = .ok (.iload_n 1, 1) := by decide +kernel
theorem xd_K_first_26 : decode xb_K_first 26 = .ok (.iaload, 1) := by decide +kernel
theorem xd_K_first_27 : decode xb_K_first 27 = .ok (.ireturn, 1) := by decide +kernel
theorem xd_K_first_28 : decode xb_K_first 28 = .ok (.iinc 1 1, 3) := by decide +kernel
theorem xd_K_first_31 : decode xb_K_first 31 = .ok (.goto (-29), 3) := by decide +kernel
theorem xd_K_first_34 : decode xb_K_first 34 = .ok (.iconst (-1), 1) := by decide +kernel
theorem xd_K_first_35 : decode xb_K_first 35 = .ok (.ireturn, 1) := by decide +kernel
theorem xd_K_noteTrap_0 : decode xb_K_noteTrap 0 = .ok (.aload_n 0, 1) := by decide +kernel
theorem xd_K_noteTrap_1 : decode xb_K_noteTrap 1 = .ok (.dup, 1) := by decide +kernel
theorem xd_K_noteTrap_2 : decode xb_K_noteTrap 2 = .ok (.getfield 24, 3) := by decide +kernel
theorem xd_K_noteTrap_5 : decode xb_K_noteTrap 5 = .ok (.sipush (-193), 3) := by decide +kernel
theorem xd_K_noteTrap_8 : decode xb_K_noteTrap 8 = .ok (.iand, 1) := by decide +kernel
theorem xd_K_noteTrap_9 : decode xb_K_noteTrap 9 = .ok (.putfield 24, 3) := by decide +kernel
theorem xd_K_noteTrap_12 : decode xb_K_noteTrap 12 = .ok (.iload_n 2, 1) := by decide +kernel
theorem xd_K_noteTrap_13 : decode xb_K_noteTrap 13 = .ok (.invokestatic 104, 3) := by decide +kernel
theorem xd_K_noteTrap_16 : decode xb_K_noteTrap 16 = .ok (.ifCond .eq 34, 3) := by decide +kernel
theorem xd_K_noteTrap_19 : decode xb_K_noteTrap 19 = .ok (.aload_n 0, 1) := by decide +kernel
theorem xd_K_noteTrap_20 : decode xb_K_noteTrap 20 = .ok (.aload_n 0, 1) := by decide +kernel
theorem xd_K_noteTrap_21 : decode xb_K_noteTrap 21 = .ok (.getfield 24, 3) := by decide +kernel
theorem xd_K_noteTrap_24 : decode xb_K_noteTrap 24 = .ok (.sipush (-257), 3) := by decide +kernel
theorem xd_K_noteTrap_27 : decode xb_K_noteTrap 27 = .ok (.iand, 1) := by decide +kernel
theorem xd_K_noteTrap_28 : decode xb_K_noteTrap 28 = .ok (.sipush 128, 3) := by decide +kernel
theorem xd_K_noteTrap_31 : decode xb_K_noteTrap 31 = .ok (.ior, 1) := by decide +kernel
theorem xd_K_noteTrap_32 : decode xb_K_noteTrap 32 = .ok (.iload_n 2, 1) := by decide +kernel
theorem xd_K_noteTrap_33 : decode xb_K_noteTrap 33 = .ok (.invokestatic 107, 3) := by decide +kernel
theorem xd_K_noteTrap_36 : decode xb_K_noteTrap 36 = .ok (.ifCond .eq 9, 3) := by decide +kernel
theorem xd_K_noteTrap_39 : decode xb_K_noteTrap 39 = .ok (.sipush 256, 3) := by decide +kernel
theorem xd_K_noteTrap_42 : decode xb_K_noteTrap 42 = .ok (.goto 4, 3) := by decide +kernel
theorem xd_K_noteTrap_45 : decode xb_K_noteTrap 45 = .ok (.iconst 0, 1) := by decide +kernel
theorem xd_K_noteTrap_46 : decode xb_K_noteTrap 46 = .ok (.ior, 1) := by decide +kernel
theorem xd_K_noteTrap_47 : decode xb_K_noteTrap 47 = .ok (.putfield 24, 3) := by decide +kernel
theorem xd_K_noteTrap_50 : decode xb_K_noteTrap 50 = .ok (.aload_n 1, 1) := by decide +kernel
theorem xd_K_noteTrap_51 : decode xb_K_noteTrap 51 = .ok (.invokevirtual 110, 3) := by decide +kernel
theorem xd_K_noteTrap_54 : decode xb_K_noteTrap 54 = .ok (.ifCond .eq 28, 3) := by decide +kernel
theorem xd_K_noteTrap_57 : decode xb_K_noteTrap 57 = .ok (.iload_n 2, 1) := by decide +kernel
theorem xd_K_noteTrap_58 : decode xb_K_noteTrap 58 = .ok (.invokestatic 104, 3) := by decide +kernel
theorem xd_K_noteTrap_61 : decode xb_K_noteTrap 61 = .ok (.ifCond .ne 10, 3) := by decide +kernel
theorem xd_K_noteTrap_64 : decode xb_K_noteTrap 64 = .ok (.aload_n 1, 1) := by decide +kernel
theorem xd_K_noteTrap_65 : decode xb_K_noteTrap 65 = .ok (.getfield 116, 3) := by decide +kernel
theorem xd_K_noteTrap_68 : decode xb_K_noteTrap 68 = .ok (.ifCond .eq 14, 3) := by decide +kernel
theorem xd_K_noteTrap_71 : decode xb_K_noteTrap 71 = .ok (.aload_n 0, 1) := by decide +kernel
theorem xd_K_noteTrap_72 : decode xb_K_noteTrap 72 = .ok (.dup, 1) := by decide +kernel
theorem xd_K_noteTrap_73 : decode xb_K_noteTrap 73 = .ok (.getfield 24, 3) := by decide +kernel
theorem xd_K_noteTrap_76 : decode xb_K_noteTrap 76 = .ok (.bipush 64, 2) := by decide +kernel
theorem xd_K_noteTrap_78 : decode xb_K_noteTrap 78 = .ok (.ior, 1) := by decide +kernel
theorem xd_K_noteTrap_79 : decode xb_K_noteTrap 79 = .ok (.putfield 24, 3) := by decide +kernel
theorem xd_K_noteTrap_82 : decode xb_K_noteTrap 82 = .ok (.aload_n 0, 1) := by decide +kernel
theorem xd_K_noteTrap_83 : decode xb_K_noteTrap 83 = .ok (.aload_n 1, 1) := by decide +kernel
theorem xd_K_noteTrap_84 : decode xb_K_noteTrap 84 = .ok (.getfield 119, 3) := by decide +kernel
theorem xd_K_noteTrap_87 : decode xb_K_noteTrap 87 = .ok (.putfield 37, 3) := by decide +kernel
theorem xd_K_noteTrap_90 : decode xb_K_noteTrap 90 = .ok (.aload_n 0, 1) := by decide +kernel
theorem xd_K_noteTrap_91 : decode xb_K_noteTrap 91 = .ok (.aload_n 1, 1) := by decide +kernel
theorem xd_K_noteTrap_92 : decode xb_K_noteTrap 92 = .ok (.getfield 122, 3) := by decide +kernel
theorem xd_K_noteTrap_95 : decode xb_K_noteTrap 95 = .ok (.putfield 43, 3) := by decide +kernel
theorem xd_K_noteTrap_98 : decode xb_K_noteTrap 98 = .ok (.return_, 1) := by decide +kernel
theorem xd_C_init_0 : decode xb_C_init 0 = .ok (.aload_n 0, 1) := by decide +kernel
theorem xd_C_init_1 : decode xb_C_init 1 = .ok (.invokespecial 3, 3) := by decide +kernel
theorem xd_C_init_4 : decode xb_C_init 4 = .ok (.aload_n 0, 1) := by decide +kernel
theorem xd_C_init_5 : decode xb_C_init 5 = .ok (.bipush 32, 2) := by decide +kernel
theorem xd_C_init_7 : decode xb_C_init 7 = .ok (.newarray .int, 2) := by decide +kernel
theorem xd_C_init_9 : decode xb_C_init 9 = .ok (.putfield 9, 3) := by decide +kernel
theorem xd_C_init_12 : decode xb_C_init 12 = .ok (.aload_n 0, 1) := by decide +kernel
theorem xd_C_init_13 : decode xb_C_init 13 = .ok (.new 15, 3) := by decide +kernel
theorem xd_C_init_16 : decode xb_C_init 16 = .ok (.dup, 1) := by decide +kernel
theorem xd_C_init_17 : decode xb_C_init 17 = .ok (.iconst 1, 1) := by decide +kernel
theorem xd_C_init_18 : decode xb_C_init 18 = .ok (.invokespecial 17, 3) := by decide +kernel
theorem xd_C_init_21 : decode xb_C_init 21 = .ok (.putfield 20, 3) := by decide +kernel
theorem xd_C_init_24 : decode xb_C_init 24 = .ok (.aload_n 0, 1) := by decide +kernel
theorem xd_C_init_25 : decode xb_C_init 25 = .ok (.new 24, 3) := by decide +kernel
theorem xd_C_init_28 : decode xb_C_init 28 = .ok (.dup, 1) := by decide +kernel
theorem xd_C_init_29 : decode xb_C_init 29 = .ok (.invokespecial 26, 3) := by decide +kernel
theorem xd_C_init_32 : decode xb_C_init 32 = .ok (.putfield 27, 3) := by decide +kernel
theorem xd_C_init_35 : decode xb_C_init 35 = .ok (.aload_n 0, 1) := by decide +kernel
theorem xd_C_init_36 : decode xb_C_init 36 = .ok (.aload_n 0, 1) := by decide +kernel
theorem xd_C_init_37 : decode xb_C_init 37 = .ok (.getfield 27, 3) := by decide +kernel
theorem xd_C_init_40 : decode xb_C_init 40 = .ok (.getfield 31, 3) := by decide +kernel
theorem xd_C_init_43 : decode xb_C_init 43 = .ok (.putfield 34, 3) := by decide +kernel
theorem xd_C_init_46 : decode xb_C_init 46 = .ok (.aload_n 0, 1) := by decide +kernel
theorem xd_C_init_47 : decode xb_C_init 47 = .ok (.aload_n 0, 1) := by decide +kernel
theorem xd_C_init_48 : decode xb_C_init 48 = .ok (.getfield 27, 3) := by decide +kernel
theorem xd_C_init_51 : decode xb_C_init 51 = .ok (.getfield 35, 3) := by decide +kernel
theorem xd_C_init_54 : decode xb_C_init 54 = .ok (.putfield 39, 3) := by decide +kernel
theorem xd_C_init_57 : decode xb_C_init 57 = .ok (.aload_n 0, 1) := by decide +kernel
theorem xd_C_init_58 : decode xb_C_init 58 = .ok (.aload_n 0, 1) := by decide +kernel
theorem xd_C_init_59 : decode xb_C_init 59 = .ok (.getfield 27, 3) := by decide +kernel
theorem xd_C_init_62 : decode xb_C_init 62 = .ok (.getfield 40, 3) := by decide +kernel
theorem xd_C_init_65 : decode xb_C_init 65 = .ok (.putfield 44, 3) := by decide +kernel
theorem xd_C_init_68 : decode xb_C_init 68 = .ok (.return_, 1) := by decide +kernel
theorem xd_C_reset_0 : decode xb_C_reset 0 = .ok (.aload_n 0, 1) := by decide +kernel
theorem xd_C_reset_1 : decode xb_C_reset 1 = .ok (.getfield 9, 3) := by decide +kernel
theorem xd_C_reset_4 : decode xb_C_reset 4 = .ok (.iconst 0, 1) := by decide +kernel
theorem xd_C_reset_5 : decode xb_C_reset 5 = .ok (.invokestatic 45, 3) := by decide +kernel
theorem xd_C_reset_8 : decode xb_C_reset 8 = .ok (.aload_n 0, 1) := by decide +kernel
theorem xd_C_reset_9 : decode xb_C_reset 9 = .ok (.getfield 20, 3) := by decide +kernel
theorem xd_C_reset_12 : decode xb_C_reset 12 = .ok (.invokevirtual 51, 3) := by decide +kernel
theorem xd_C_reset_15 : decode xb_C_reset 15 = .ok (.aload_n 0, 1) := by decide +kernel
theorem xd_C_reset_16 : decode xb_C_reset 16 = .ok (.getfield 34, 3) := by decide +kernel
theorem xd_C_reset_19 : decode xb_C_reset 19 = .ok (.invokevirtual 51, 3) := by decide +kernel
theorem xd_C_reset_22 : decode xb_C_reset 22 = .ok (.aload_n 0, 1) := by decide +kernel
theorem xd_C_reset_23 : decode xb_C_reset 23 = .ok (.getfield 39, 3) := by decide +kernel
theorem xd_C_reset_26 : decode xb_C_reset 26 = .ok (.invokevirtual 54, 3) := by decide +kernel
theorem xd_C_reset_29 : decode xb_C_reset 29 = .ok (.aload_n 0, 1) := by decide +kernel
theorem xd_C_reset_30 : decode xb_C_reset 30 = .ok (.iconst 0, 1) := by decide +kernel
theorem xd_C_reset_31 : decode xb_C_reset 31 = .ok (.putfield 57, 3) := by decide +kernel
theorem xd_C_reset_34 : decode xb_C_reset 34 = .ok (.aload_n 0, 1) := by decide +kernel
theorem xd_C_reset_35 : decode xb_C_reset 35 = .ok (.iconst 0, 1) := by decide +kernel
theorem xd_C_reset_36 : decode xb_C_reset 36 = .ok (.putfield 61, 3) := by decide +kernel
theorem xd_C_reset_39 : decode xb_C_reset 39 = .ok (.aload_n 0, 1) := by decide +kernel
theorem xd_C_reset_40 : decode xb_C_reset 40 = .ok (.iconst 1, 1) := by decide +kernel
theorem xd_C_reset_41 : decode xb_C_reset 41 = .ok (.putfield 64, 3) := by decide +kernel
theorem xd_C_reset_44 : decode xb_C_reset 44 = .ok (.aload_n 0, 1) := by decide +kernel
theorem xd_C_reset_45 : decode xb_C_reset 45 = .ok (.iconst 0, 1) := by decide +kernel
theorem xd_C_reset_46 : decode xb_C_reset 46 = .ok (.putfield 67, 3) := by decide +kernel
theorem xd_C_reset_49 : decode xb_C_reset 49 = .ok (.aload_n 0, 1) := by decide +kernel
theorem xd_C_reset_50 : decode xb_C_reset 50 = .ok (.iconst 0, 1) := by decide +kernel
theorem xd_C_reset_51 : decode xb_C_reset 51 = .ok (.putfield 71, 3) := by decide +kernel
theorem xd_C_reset_54 : decode xb_C_reset 54 = .ok (.aload_n 0, 1) := by decide +kernel
theorem xd_C_reset_55 : decode xb_C_reset 55 = .ok (.iconst 0, 1) := by decide +kernel
theorem xd_C_reset_56 : decode xb_C_reset 56 = .ok (.putfield 74, 3) := by decide +kernel
theorem xd_C_reset_59 : decode xb_C_reset 59 = .ok (.aload_n 0, 1) := by decide +kernel
theorem xd_C_reset_60 : decode xb_C_reset 60 = .ok (.iconst 0, 1) := by decide +kernel
theorem xd_C_reset_61 : decode xb_C_reset 61 = .ok (.putfield 77, 3) := by decide +kernel
theorem xd_C_reset_64 : decode xb_C_reset 64 = .ok (.return_, 1) := by decide +kernel
theorem xd_C_put_0 : decode xb_C_put 0 = .ok (.iload_n 1, 1) := by decide +kernel
theorem xd_C_put_1 : decode xb_C_put 1 = .ok (.ifCond .eq 10, 3) := by decide +kernel
theorem xd_C_put_4 : decode xb_C_put 4 = .ok (.aload_n 0, 1) := by decide +kernel
theorem xd_C_put_5 : decode xb_C_put 5 = .ok (.getfield 9, 3) := by decide +kernel
theorem xd_C_put_8 : decode xb_C_put 8 = .ok (.iload_n 1, 1) := by decide +kernel
theorem xd_C_put_9 : decode xb_C_put 9 = .ok (.iload_n 2, 1) := by decide +kernel
theorem xd_C_put_10 : decode xb_C_put 10 = .ok (.iastore, 1) := by decide +kernel
theorem xd_C_put_11 : decode xb_C_put 11 = .ok (.return_, 1) := by decide +kernel
theorem xd_C_startStep_0 : decode xb_C_startStep 0 = .ok (.aload_n 0, 1) := by decide +kernel
theorem xd_C_startStep_1 : decode xb_C_startStep 1 = .ok (.getfield 44, 3) := by decide +kernel
theorem xd_C_startStep_4 : decode xb_C_startStep 4 = .ok (.invokevirtual 80, 3) := by decide +kernel
theorem xd_C_startStep_7 : decode xb_C_startStep 7 = .ok (.aload_n 0, 1) := by decide +kernel
theorem xd_C_startStep_8 : decode xb_C_startStep 8 = .ok (.invokevirtual 83, 3) := by decide +kernel
theorem xd_C_startStep_11 : decode xb_C_startStep 11 = .ok (.ifCond .eq 5, 3) := by decide +kernel
theorem xd_C_startStep_14 : decode xb_C_startStep 14 = .ok (.iconst 0, 1) := by decide +kernel
theorem xd_C_startStep_15 : decode xb_C_startStep 15 = .ok (.ireturn, 1) := by decide +kernel
theorem xd_C_startStep_16 : decode xb_C_startStep 16 = .ok (.aload_n 0, 1) := by decide +kernel
theorem xd_C_startStep_17 : decode xb_C_startStep 17 = .ok (.getfield 27, 3) := by decide +kernel
theorem xd_C_startStep_20 : decode xb_C_startStep 20 = .ok (.aload_n 0, 1) := by decide +kernel
theorem xd_C_startStep_21 : decode xb_C_startStep 21 = .ok (.getfield 61, 3) := by decide +kernel
theorem xd_C_startStep_24 : decode xb_C_startStep 24 = .ok (.iconst 2, 1) := by decide +kernel
theorem xd_C_startStep_25 : decode xb_C_startStep 25 = .ok (.getstatic 87, 3) := by decide +kernel
theorem xd_C_startStep_28 : decode xb_C_startStep 28 = .ok (.aload_n 0, 1) := by decide +kernel
theorem xd_C_startStep_29 : decode xb_C_startStep 29 = .ok (.getfield 64, 3) := by decide +kernel
theorem xd_C_startStep_32 : decode xb_C_startStep 32 = .ok (.invokevirtual 93, 3) := by decide +kernel
theorem xd_C_startStep_35 : decode xb_C_startStep 35 = .ok (.istore_n 1, 1) := by decide +kernel
theorem xd_C_startStep_36 : decode xb_C_startStep 36 = .ok (.iload_n 1, 1) := by decide +kernel
theorem xd_C_startStep_37 : decode xb_C_startStep 37 = .ok (.ifCond .ge 5, 3) := by decide +kernel
theorem xd_C_startStep_40 : decode xb_C_startStep 40 = .ok (.iconst 0, 1) := by decide +kernel
theorem xd_C_startStep_41 : decode xb_C_startStep 41 = .ok (.ireturn, 1) := by decide +kernel
theorem xd_C_startStep_42 : decode xb_C_startStep 42 = .ok (.aload_n 0, 1) := by decide +kernel
theorem xd_C_startStep_43 : decode xb_C_startStep 43 = .ok (.aload_n 0, 1) := by decide +kernel
theorem xd_C_startStep_44 : decode xb_C_startStep 44 = .ok (.getfield 34, 3) := by decide +kernel
theorem xd_C_startStep_47 : decode xb_C_startStep 47 = .ok (.iload_n 1, 1) := by decide +kernel
theorem xd_C_startStep_48 : decode xb_C_startStep 48 = .ok (.invokevirtual 97, 3) := by decide +kernel
theorem xd_C_startStep_51 : decode xb_C_startStep 51 = .ok (.putfield 101, 3) := by decide +kernel
theorem xd_C_startStep_54 : decode xb_C_startStep 54 = .ok (.aload_n 0, 1) := by decide +kernel
theorem xd_C_startStep_55 : decode xb_C_startStep 55 = .ok (.aload_n 0, 1) := by decide +kernel
theorem xd_C_startStep_56 : decode xb_C_startStep 56 = .ok (.getfield 61, 3) := by decide +kernel
theorem xd_C_startStep_59 : decode xb_C_startStep 59 = .ok (.iconst 4, 1) := by decide +kernel
theorem xd_C_startStep_60 : decode xb_C_startStep 60 = .ok (.iadd, 1) := by decide +kernel
theorem xd_C_startStep_61 : decode xb_C_startStep 61 = .ok (.putfield 104, 3) := by decide +kernel
theorem xd_C_startStep_64 : decode xb_C_startStep 64 = .ok (.iconst 1, 1) := by decide +kernel
theorem xd_C_startStep_65 : decode xb_C_startStep 65 = .ok (.ireturn, 1) := by decide +kernel
theorem xd_C_interrupted_0 : decode xb_C_interrupted 0 = .ok (.aload_n 0, 1) := by decide +kernel
theorem xd_C_interrupted_1 : decode xb_C_interrupted 1 = .ok (.getfield 39, 3) := by decide +kernel
theorem xd_C_interrupted_4 : decode xb_C_interrupted 4 = .ok (.aload_n 0, 1) := by decide +kernel
theorem xd_C_interrupted_5 : decode xb_C_interrupted 5 = .ok (.getfield 64, 3) := by decide +kernel
theorem xd_C_interrupted_8 : decode xb_C_interrupted 8 = .ok (.invokevirtual 107, 3) := by decide +kernel
theorem xd_C_interrupted_11 : decode xb_C_interrupted 11 = .ok (.istore_n 1, 1) := by decide +kernel
theorem xd_C_interrupted_12 : decode xb_C_interrupted 12 = .ok (.iload_n 1, 1) := by decide +kernel
theorem xd_C_interrupted_13 : decode xb_C_interrupted 13 = .ok (.iconst (-1), 1) := by decide +kernel
theorem xd_C_interrupted_14 : decode xb_C_interrupted 14 = .ok (.if_icmp .eq 17, 3) := by decide +kernel
theorem xd_C_interrupted_17 : decode xb_C_interrupted 17 = .ok (.aload_n 0, 1) := by decide +kernel
theorem xd_C_interrupted_18 : decode xb_C_interrupted 18 = .ok (.getfield 44, 3) := by decide +kernel
theorem xd_C_interrupted_21 : decode xb_C_interrupted 21 = .ok (.ldc 110, 2) := by decide +kernel
theorem xd_C_interrupted_23 : decode xb_C_interrupted 23 = .ok (.iload_n 1, 1) := by decide +kernel
theorem xd_C_interrupted_24 : decode xb_C_interrupted 24 = .ok (.ior, 1) := by decide +kernel
theorem xd_C_interrupted_25 : decode xb_C_interrupted 25 = .ok (.iconst 0, 1) := by decide +kernel
theorem xd_C_interrupted_26 : decode xb_C_interrupted 26 = .ok (.invokevirtual 111, 3) := by decide +kernel
theorem xd_C_interrupted_29 : decode xb_C_interrupted 29 = .ok (.iconst 1, 1) := by decide +kernel
theorem xd_C_interrupted_30 : decode xb_C_interrupted 30 = .ok (.ireturn, 1) := by decide +kernel
theorem xd_C_interrupted_31 : decode xb_C_interrupted 31 = .ok (.aload_n 0, 1) := by decide +kernel
theorem xd_C_interrupted_32 : decode xb_C_interrupted 32 = .ok (.getfield 39, 3) := by decide +kernel
theorem xd_C_interrupted_35 : decode xb_C_interrupted 35 = .ok (.aload_n 0, 1) := by decide +kernel
theorem xd_C_interrupted_36 : decode xb_C_interrupted 36 = .ok (.getfield 64, 3) := by decide +kernel
theorem xd_C_interrupted_39 : decode xb_C_interrupted 39 = .ok (.invokevirtual 115, 3) := by decide +kernel
theorem xd_C_interrupted_42 : decode xb_C_interrupted 42 = .ok (.istore_n 2, 1) := by decide +kernel
theorem xd_C_interrupted_43 : decode xb_C_interrupted 43 = .ok (.iload_n 2, 1) := by decide +kernel
theorem xd_C_interrupted_44 : decode xb_C_interrupted 44 = .ok (.iconst (-1), 1) := by decide +kernel
theorem xd_C_interrupted_45 : decode xb_C_interrupted 45 = .ok (.if_icmp .eq 27, 3) := by decide +kernel
theorem xd_C_interrupted_48 : decode xb_C_interrupted 48 = .ok (.aload_n 0, 1) := by decide +kernel
theorem xd_C_interrupted_49 : decode xb_C_interrupted 49 = .ok (.getfield 44, 3) := by decide +kernel
theorem xd_C_interrupted_52 : decode xb_C_interrupted 52 = .ok (.ldc 110, 2) := by decide +kernel
theorem xd_C_interrupted_54 : decode xb_C_interrupted 54 = .ok (.iload_n 2, 1) := by decide +kernel
theorem xd_C_interrupted_55 : decode xb_C_interrupted 55 = .ok (.iconst 1, 1) := by decide +kernel
theorem xd_C_interrupted_56 : decode xb_C_interrupted 56 = .ok (.isub, 1) := by decide +kernel
theorem xd_C_interrupted_57 : decode xb_C_interrupted 57 = .ok (.ior, 1) := by decide +kernel
theorem xd_C_interrupted_58 : decode xb_C_interrupted 58 = .ok (.iconst 0, 1) := by decide +kernel
theorem xd_C_interrupted_59 : decode xb_C_interrupted 59 = .ok (.invokevirtual 111, 3) := by decide +kernel
theorem xd_C_interrupted_62 : decode xb_C_interrupted 62 = .ok (.aload_n 0, 1) := by decide +kernel
theorem xd_C_interrupted_63 : decode xb_C_interrupted 63 = .ok (.getfield 44, 3) := by decide +kernel
theorem xd_C_interrupted_66 : decode xb_C_interrupted 66 = .ok (.iconst 1, 1) := by decide +kernel
theorem xd_C_interrupted_67 : decode xb_C_interrupted 67 = .ok (.putfield 118, 3) := by decide +kernel
theorem xd_C_interrupted_70 : decode xb_C_interrupted 70 = .ok (.iconst 1, 1) := by decide +kernel
theorem xd_C_interrupted_71 : decode xb_C_interrupted 71 = .ok (.ireturn, 1) := by decide +kernel
theorem xd_C_interrupted_72 : decode xb_C_interrupted 72 = .ok (.iconst 0, 1) := by decide +kernel
theorem xd_C_interrupted_73 : decode xb_C_interrupted 73 = .ok (.ireturn, 1) := by decide +kernel
theorem xd_C_endStep_0 : decode xb_C_endStep 0 = .ok (.aload_n 0, 1) := by decide +kernel
theorem xd_C_endStep_1 : decode xb_C_endStep 1 = .ok (.getfield 44, 3) := by decide +kernel
theorem xd_C_endStep_4 : decode xb_C_endStep 4 = .ok (.getfield 121, 3) := by decide +kernel
theorem xd_C_endStep_7 : decode xb_C_endStep 7 = .ok (.iconst (-1), 1) := by decide +kernel
theorem xd_C_endStep_8 : decode xb_C_endStep 8 = .ok (.if_icmp .ne 14, 3) := by decide +kernel
theorem xd_C_endStep_11 : decode xb_C_endStep 11 = .ok (.aload_n 0, 1) := by decide +kernel
theorem xd_C_endStep_12 : decode xb_C_endStep 12 = .ok (.aload_n 0, 1) := by decide +kernel
theorem xd_C_endStep_13 : decode xb_C_endStep 13 = .ok (.getfield 104, 3) := by decide +kernel
theorem xd_C_endStep_16 : decode xb_C_endStep 16 = .ok (.putfield 61, 3) := by decide +kernel
theorem xd_C_endStep_19 : decode xb_C_endStep 19 = .ok (.goto 7, 3) := by decide +kernel
theorem xd_C_endStep_22 : decode xb_C_endStep 22 = .ok (.aload_n 0, 1) := by decide +kernel
theorem xd_C_endStep_23 : decode xb_C_endStep 23 = .ok (.invokevirtual 124, 3) := by decide +kernel
theorem xd_C_endStep_26 : decode xb_C_endStep 26 = .ok (.aload_n 0, 1) := by decide +kernel
theorem xd_C_endStep_27 : decode xb_C_endStep 27 = .ok (.getfield 39, 3) := by decide +kernel
theorem xd_C_endStep_30 : decode xb_C_endStep 30 = .ok (.dup, 1) := by decide +kernel
theorem xd_C_endStep_31 : decode xb_C_endStep 31 = .ok (.getfield 127, 3) := by decide +kernel
theorem xd_C_endStep_34 : decode xb_C_endStep 34 = .ok (.lconst 1, 1) := by decide +kernel
theorem xd_C_endStep_35 : decode xb_C_endStep 35 = .ok (.ladd, 1) := by decide +kernel
theorem xd_C_endStep_36 : decode xb_C_endStep 36 = .ok (.putfield 127, 3) := by decide +kernel
theorem xd_C_endStep_39 : decode xb_C_endStep 39 = .ok (.return_, 1) := by decide +kernel
theorem xd_C_takeTrap_0 : decode xb_C_takeTrap 0 = .ok (.aload_n 0, 1) := by decide +kernel
theorem xd_C_takeTrap_1 : decode xb_C_takeTrap 1 = .ok (.getfield 64, 3) := by decide +kernel
theorem xd_C_takeTrap_4 : decode xb_C_takeTrap 4 = .ok (.invokestatic 131, 3) := by decide +kernel
theorem xd_C_takeTrap_7 : decode xb_C_takeTrap 7 = .ok (.istore_n 1, 1) := by decide +kernel
theorem xd_C_takeTrap_8 : decode xb_C_takeTrap 8 = .ok (.aload_n 0, 1) := by decide +kernel
theorem xd_C_takeTrap_9 : decode xb_C_takeTrap 9 = .ok (.getfield 44, 3) := by decide +kernel
theorem xd_C_takeTrap_12 : decode xb_C_takeTrap 12 = .ok (.getfield 121, 3) := by decide +kernel
theorem xd_C_takeTrap_15 : decode xb_C_takeTrap 15 = .ok (.ifCond .ge 13, 3) := by decide +kernel
theorem xd_C_takeTrap_18 : decode xb_C_takeTrap 18 = .ok (.aload_n 0, 1) := by decide +kernel
theorem xd_C_takeTrap_19 : decode xb_C_takeTrap 19 = .ok (.dup, 1) := by decide +kernel
