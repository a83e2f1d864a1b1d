theorem xd_C_takeTrap_20 : decode xb_C_takeTrap 20 = .ok (.getfield 77, 3) := by decide +kernel
theorem xd_C_takeTrap_23 : decode xb_C_takeTrap 23 = .ok (.iconst 1, 1) := by decide +kernel
theorem xd_C_takeTrap_24 : decode xb_C_takeTrap 24 = .ok (.iadd, 1) := by decide +kernel
theorem xd_C_takeTrap_25 : decode xb_C_takeTrap 25 = .ok (.putfield 77, 3) := by decide +kernel
theorem xd_C_takeTrap_28 : decode xb_C_takeTrap 28 = .ok (.aload_n 0, 1) := by decide +kernel
theorem xd_C_takeTrap_29 : decode xb_C_takeTrap 29 = .ok (.getfield 44, 3) := by decide +kernel
theorem xd_C_takeTrap_32 : decode xb_C_takeTrap 32 = .ok (.aload_n 0, 1) := by decide +kernel
theorem xd_C_takeTrap_33 : decode xb_C_takeTrap 33 = .ok (.getfield 64, 3) := by decide +kernel
theorem xd_C_takeTrap_36 : decode xb_C_takeTrap 36 = .ok (.aload_n 0, 1) := by decide +kernel
theorem xd_C_takeTrap_37 : decode xb_C_takeTrap 37 = .ok (.getfield 39, 3) := by decide +kernel
theorem xd_C_takeTrap_40 : decode xb_C_takeTrap 40 = .ok (.getfield 135, 3) := by decide +kernel
theorem xd_C_takeTrap_43 : decode xb_C_takeTrap 43 = .ok (.invokevirtual 138, 3) := by decide +kernel
theorem xd_C_takeTrap_46 : decode xb_C_takeTrap 46 = .ok (.ifCond .eq 54, 3) := by decide +kernel
theorem xd_C_takeTrap_49 : decode xb_C_takeTrap 49 = .ok (.aload_n 0, 1) := by decide +kernel
theorem xd_C_takeTrap_50 : decode xb_C_takeTrap 50 = .ok (.dup, 1) := by decide +kernel
theorem xd_C_takeTrap_51 : decode xb_C_takeTrap 51 = .ok (.getfield 74, 3) := by decide +kernel
theorem xd_C_takeTrap_54 : decode xb_C_takeTrap 54 = .ok (.iconst 1, 1) := by decide +kernel
theorem xd_C_takeTrap_55 : decode xb_C_takeTrap 55 = .ok (.iadd, 1) := by decide +kernel
theorem xd_C_takeTrap_56 : decode xb_C_takeTrap 56 = .ok (.putfield 74, 3) := by decide +kernel
theorem xd_C_takeTrap_59 : decode xb_C_takeTrap 59 = .ok (.aload_n 0, 1) := by decide +kernel
theorem xd_C_takeTrap_60 : decode xb_C_takeTrap 60 = .ok (.aload_n 0, 1) := by decide +kernel
theorem xd_C_takeTrap_61 : decode xb_C_takeTrap 61 = .ok (.getfield 39, 3) := by decide +kernel
theorem xd_C_takeTrap_64 : decode xb_C_takeTrap 64 = .ok (.getfield 142, 3) := by decide +kernel
theorem xd_C_takeTrap_67 : decode xb_C_takeTrap 67 = .ok (.aload_n 0, 1) := by decide +kernel
theorem xd_C_takeTrap_68 : decode xb_C_takeTrap 68 = .ok (.getfield 61, 3) := by decide +kernel
theorem xd_C_takeTrap_71 : decode xb_C_takeTrap 71 = .ok (.aload_n 0, 1) := by decide +kernel
theorem xd_C_takeTrap_72 : decode xb_C_takeTrap 72 = .ok (.getfield 44, 3) := by decide +kernel
theorem xd_C_takeTrap_75 : decode xb_C_takeTrap 75 = .ok (.getfield 121, 3) := by decide +kernel
theorem xd_C_takeTrap_78 : decode xb_C_takeTrap 78 = .ok (.aload_n 0, 1) := by decide +kernel
theorem xd_C_takeTrap_79 : decode xb_C_takeTrap 79 = .ok (.getfield 44, 3) := by decide +kernel
theorem xd_C_takeTrap_82 : decode xb_C_takeTrap 82 = .ok (.getfield 146, 3) := by decide +kernel
theorem xd_C_takeTrap_85 : decode xb_C_takeTrap 85 = .ok (.iload_n 1, 1) := by decide +kernel
theorem xd_C_takeTrap_86 : decode xb_C_takeTrap 86 = .ok (.invokevirtual 149, 3) := by decide +kernel
theorem xd_C_takeTrap_89 : decode xb_C_takeTrap 89 = .ok (.putfield 61, 3) := by decide +kernel
theorem xd_C_takeTrap_92 : decode xb_C_takeTrap 92 = .ok (.aload_n 0, 1) := by decide +kernel
theorem xd_C_takeTrap_93 : decode xb_C_takeTrap 93 = .ok (.iconst 3, 1) := by decide +kernel
theorem xd_C_takeTrap_94 : decode xb_C_takeTrap 94 = .ok (.putfield 64, 3) := by decide +kernel
theorem xd_C_takeTrap_97 : decode xb_C_takeTrap 97 = .ok (.goto 66, 3) := by decide +kernel
theorem xd_C_takeTrap_100 : decode xb_C_takeTrap 100 = .ok (.aload_n 0, 1) := by decide +kernel
theorem xd_C_takeTrap_101 : decode xb_C_takeTrap 101 = .ok (.dup, 1) := by decide +kernel
theorem xd_C_takeTrap_102 : decode xb_C_takeTrap 102 = .ok (.getfield 71, 3) := by decide +kernel
theorem xd_C_takeTrap_105 : decode xb_C_takeTrap 105 = .ok (.iconst 1, 1) := by decide +kernel
theorem xd_C_takeTrap_106 : decode xb_C_takeTrap 106 = .ok (.iadd, 1) := by decide +kernel
theorem xd_C_takeTrap_107 : decode xb_C_takeTrap 107 = .ok (.putfield 71, 3) := by decide +kernel
theorem xd_C_takeTrap_110 : decode xb_C_takeTrap 110 = .ok (.aload_n 0, 1) := by decide +kernel
theorem xd_C_takeTrap_111 : decode xb_C_takeTrap 111 = .ok (.getfield 39, 3) := by decide +kernel
theorem xd_C_takeTrap_114 : decode xb_C_takeTrap 114 = .ok (.aload_n 0, 1) := by decide +kernel
theorem xd_C_takeTrap_115 : decode xb_C_takeTrap 115 = .ok (.getfield 44, 3) := by decide +kernel
theorem xd_C_takeTrap_118 : decode xb_C_takeTrap 118 = .ok (.aload_n 0, 1) := by decide +kernel
theorem xd_C_takeTrap_119 : decode xb_C_takeTrap 119 = .ok (.getfield 64, 3) := by decide +kernel
theorem xd_C_takeTrap_122 : decode xb_C_takeTrap 122 = .ok (.invokevirtual 155, 3) := by decide +kernel
theorem xd_C_takeTrap_125 : decode xb_C_takeTrap 125 = .ok (.aload_n 0, 1) := by decide +kernel
theorem xd_C_takeTrap_126 : decode xb_C_takeTrap 126 = .ok (.aload_n 0, 1) := by decide +kernel
theorem xd_C_takeTrap_127 : decode xb_C_takeTrap 127 = .ok (.getfield 39, 3) := by decide +kernel
theorem xd_C_takeTrap_130 : decode xb_C_takeTrap 130 = .ok (.getfield 159, 3) := by decide +kernel
theorem xd_C_takeTrap_133 : decode xb_C_takeTrap 133 = .ok (.aload_n 0, 1) := by decide +kernel
theorem xd_C_takeTrap_134 : decode xb_C_takeTrap 134 = .ok (.getfield 61, 3) := by decide +kernel
theorem xd_C_takeTrap_137 : decode xb_C_takeTrap 137 = .ok (.aload_n 0, 1) := by decide +kernel
theorem xd_C_takeTrap_138 : decode xb_C_takeTrap 138 = .ok (.getfield 44, 3) := by decide +kernel
theorem xd_C_takeTrap_141 : decode xb_C_takeTrap 141 = .ok (.getfield 121, 3) := by decide +kernel
theorem xd_C_takeTrap_144 : decode xb_C_takeTrap 144 = .ok (.aload_n 0, 1) := by decide +kernel
theorem xd_C_takeTrap_145 : decode xb_C_takeTrap 145 = .ok (.getfield 44, 3) := by decide +kernel
theorem xd_C_takeTrap_148 : decode xb_C_takeTrap 148 = .ok (.getfield 146, 3) := by decide +kernel
theorem xd_C_takeTrap_151 : decode xb_C_takeTrap 151 = .ok (.iload_n 1, 1) := by decide +kernel
theorem xd_C_takeTrap_152 : decode xb_C_takeTrap 152 = .ok (.invokevirtual 149, 3) := by decide +kernel
theorem xd_C_takeTrap_155 : decode xb_C_takeTrap 155 = .ok (.putfield 61, 3) := by decide +kernel
theorem xd_C_takeTrap_158 : decode xb_C_takeTrap 158 = .ok (.aload_n 0, 1) := by decide +kernel
theorem xd_C_takeTrap_159 : decode xb_C_takeTrap 159 = .ok (.iconst 1, 1) := by decide +kernel
theorem xd_C_takeTrap_160 : decode xb_C_takeTrap 160 = .ok (.putfield 64, 3) := by decide +kernel
theorem xd_C_takeTrap_163 : decode xb_C_takeTrap 163 = .ok (.return_, 1) := by decide +kernel
theorem xd_C_perform_0 : decode xb_C_perform 0 = .ok (.aload_n 0, 1) := by decide +kernel
theorem xd_C_perform_1 : decode xb_C_perform 1 = .ok (.getfield 101, 3) := by decide +kernel
theorem xd_C_perform_4 : decode xb_C_perform 4 = .ok (.invokestatic 162, 3) := by decide +kernel
theorem xd_C_perform_7 : decode xb_C_perform 7 = .ok (.istore_n 1, 1) := by decide +kernel
theorem xd_C_perform_8 : decode xb_C_perform 8 = .ok (.aload_n 0, 1) := by decide +kernel
theorem xd_C_perform_9 : decode xb_C_perform 9 = .ok (.getfield 101, 3) := by decide +kernel
theorem xd_C_perform_12 : decode xb_C_perform 12 = .ok (.invokestatic 167, 3) := by decide +kernel
theorem xd_C_perform_15 : decode xb_C_perform 15 = .ok (.lookupswitch 250 #[(3, 97), (15, 104), (19, 111), (23, 118), (35, 144), (51, 151), (55, 158), (99, 179), (103, 186), (111, 193), (115, 219)], 97) := by decide +kernel
theorem xd_C_perform_112 : decode xb_C_perform 112 = .ok (.aload_n 0, 1) := by decide +kernel
theorem xd_C_perform_113 : decode xb_C_perform 113 = .ok (.invokevirtual 170, 3) := by decide +kernel
theorem xd_C_perform_116 : decode xb_C_perform 116 = .ok (.goto 154, 3) := by decide +kernel
theorem xd_C_perform_119 : decode xb_C_perform 119 = .ok (.aload_n 0, 1) := by decide +kernel
theorem xd_C_perform_120 : decode xb_C_perform 120 = .ok (.invokevirtual 173, 3) := by decide +kernel
theorem xd_C_perform_123 : decode xb_C_perform 123 = .ok (.goto 147, 3) := by decide +kernel
theorem xd_C_perform_126 : decode xb_C_perform 126 = .ok (.aload_n 0, 1) := by decide +kernel
theorem xd_C_perform_127 : decode xb_C_perform 127 = .ok (.invokevirtual 176, 3) := by decide +kernel
theorem xd_C_perform_130 : decode xb_C_perform 130 = .ok (.goto 140, 3) := by decide +kernel
theorem xd_C_perform_133 : decode xb_C_perform 133 = .ok (.aload_n 0, 1) := by decide +kernel
theorem xd_C_perform_134 : decode xb_C_perform 134 = .ok (.aload_n 0, 1) := by decide +kernel
theorem xd_C_perform_135 : decode xb_C_perform 135 = .ok (.getfield 101, 3) := by decide +kernel
theorem xd_C_perform_138 : decode xb_C_perform 138 = .ok (.invokestatic 179, 3) := by decide +kernel
theorem xd_C_perform_141 : decode xb_C_perform 141 = .ok (.aload_n 0, 1) := by decide +kernel
theorem xd_C_perform_142 : decode xb_C_perform 142 = .ok (.getfield 61, 3) := by decide +kernel
theorem xd_C_perform_145 : decode xb_C_perform 145 = .ok (.aload_n 0, 1) := by decide +kernel
theorem xd_C_perform_146 : decode xb_C_perform 146 = .ok (.getfield 101, 3) := by decide +kernel
theorem xd_C_perform_149 : decode xb_C_perform 149 = .ok (.invokestatic 182, 3) := by decide +kernel
theorem xd_C_perform_152 : decode xb_C_perform 152 = .ok (.iadd, 1) := by decide +kernel
theorem xd_C_perform_153 : decode xb_C_perform 153 = .ok (.invokevirtual 185, 3) := by decide +kernel
theorem xd_C_perform_156 : decode xb_C_perform 156 = .ok (.goto 114, 3) := by decide +kernel
theorem xd_C_perform_159 : decode xb_C_perform 159 = .ok (.aload_n 0, 1) := by decide +kernel
theorem xd_C_perform_160 : decode xb_C_perform 160 = .ok (.invokevirtual 188, 3) := by decide +kernel
theorem xd_C_perform_163 : decode xb_C_perform 163 = .ok (.goto 107, 3) := by decide +kernel
theorem xd_C_perform_166 : decode xb_C_perform 166 = .ok (.aload_n 0, 1) := by decide +kernel
theorem xd_C_perform_167 : decode xb_C_perform 167 = .ok (.invokevirtual 191, 3) := by decide +kernel
theorem xd_C_perform_170 : decode xb_C_perform 170 = .ok (.goto 100, 3) := by decide +kernel
theorem xd_C_perform_173 : decode xb_C_perform 173 = .ok (.aload_n 0, 1) := by decide +kernel
theorem xd_C_perform_174 : decode xb_C_perform 174 = .ok (.aload_n 0, 1) := by decide +kernel
theorem xd_C_perform_175 : decode xb_C_perform 175 = .ok (.getfield 101, 3) := by decide +kernel
theorem xd_C_perform_178 : decode xb_C_perform 178 = .ok (.invokestatic 179, 3) := by decide +kernel
theorem xd_C_perform_181 : decode xb_C_perform 181 = .ok (.aload_n 0, 1) := by decide +kernel
theorem xd_C_perform_182 : decode xb_C_perform 182 = .ok (.getfield 101, 3) := by decide +kernel
theorem xd_C_perform_185 : decode xb_C_perform 185 = .ok (.invokestatic 182, 3) := by decide +kernel
theorem xd_C_perform_188 : decode xb_C_perform 188 = .ok (.invokevirtual 185, 3) := by decide +kernel
theorem xd_C_perform_191 : decode xb_C_perform 191 = .ok (.goto 79, 3) := by decide +kernel
theorem xd_C_perform_194 : decode xb_C_perform 194 = .ok (.aload_n 0, 1) := by decide +kernel
theorem xd_C_perform_195 : decode xb_C_perform 195 = .ok (.invokevirtual 194, 3) := by decide +kernel
theorem xd_C_perform_198 : decode xb_C_perform 198 = .ok (.goto 72, 3) := by decide +kernel
theorem xd_C_perform_201 : decode xb_C_perform 201 = .ok (.aload_n 0, 1) := by decide +kernel
theorem xd_C_perform_202 : decode xb_C_perform 202 = .ok (.invokevirtual 197, 3) := by decide +kernel
theorem xd_C_perform_205 : decode xb_C_perform 205 = .ok (.goto 65, 3) := by decide +kernel
theorem xd_C_perform_208 : decode xb_C_perform 208 = .ok (.aload_n 0, 1) := by decide +kernel
theorem xd_C_perform_209 : decode xb_C_perform 209 = .ok (.aload_n 0, 1) := by decide +kernel
theorem xd_C_perform_210 : decode xb_C_perform 210 = .ok (.getfield 61, 3) := by decide +kernel
theorem xd_C_perform_213 : decode xb_C_perform 213 = .ok (.aload_n 0, 1) := by decide +kernel
theorem xd_C_perform_214 : decode xb_C_perform 214 = .ok (.getfield 101, 3) := by decide +kernel
theorem xd_C_perform_217 : decode xb_C_perform 217 = .ok (.invokestatic 200, 3) := by decide +kernel
theorem xd_C_perform_220 : decode xb_C_perform 220 = .ok (.iadd, 1) := by decide +kernel
theorem xd_C_perform_221 : decode xb_C_perform 221 = .ok (.aload_n 0, 1) := by decide +kernel
theorem xd_C_perform_222 : decode xb_C_perform 222 = .ok (.getfield 101, 3) := by decide +kernel
theorem xd_C_perform_225 : decode xb_C_perform 225 = .ok (.invokestatic 179, 3) := by decide +kernel
theorem xd_C_perform_228 : decode xb_C_perform 228 = .ok (.invokevirtual 203, 3) := by decide +kernel
theorem xd_C_perform_231 : decode xb_C_perform 231 = .ok (.goto 39, 3) := by decide +kernel
theorem xd_C_perform_234 : decode xb_C_perform 234 = .ok (.iload_n 1, 1) := by decide +kernel
theorem xd_C_perform_235 : decode xb_C_perform 235 = .ok (.ifCond .ne 10, 3) := by decide +kernel
theorem xd_C_perform_238 : decode xb_C_perform 238 = .ok (.aload_n 0, 1) := by decide +kernel
theorem xd_C_perform_239 : decode xb_C_perform 239 = .ok (.invokevirtual 206, 3) := by decide +kernel
theorem xd_C_perform_242 : decode xb_C_perform 242 = .ok (.goto 28, 3) := by decide +kernel
theorem xd_C_perform_245 : decode xb_C_perform 245 = .ok (.iload_n 1, 1) := by decide +kernel
theorem xd_C_perform_246 : decode xb_C_perform 246 = .ok (.iconst 4, 1) := by decide +kernel
theorem xd_C_perform_247 : decode xb_C_perform 247 = .ok (.if_icmp .ne 10, 3) := by decide +kernel
theorem xd_C_perform_250 : decode xb_C_perform 250 = .ok (.aload_n 0, 1) := by decide +kernel
theorem xd_C_perform_251 : decode xb_C_perform 251 = .ok (.invokevirtual 209, 3) := by decide +kernel
theorem xd_C_perform_254 : decode xb_C_perform 254 = .ok (.goto 16, 3) := by decide +kernel
theorem xd_C_perform_257 : decode xb_C_perform 257 = .ok (.aload_n 0, 1) := by decide +kernel
theorem xd_C_perform_258 : decode xb_C_perform 258 = .ok (.iload_n 1, 1) := by decide +kernel
theorem xd_C_perform_259 : decode xb_C_perform 259 = .ok (.invokevirtual 212, 3) := by decide +kernel
theorem xd_C_perform_262 : decode xb_C_perform 262 = .ok (.goto 8, 3) := by decide +kernel
theorem xd_C_perform_265 : decode xb_C_perform 265 = .ok (.aload_n 0, 1) := by decide +kernel
theorem xd_C_perform_266 : decode xb_C_perform 266 = .ok (.iconst 2, 1) := by decide +kernel
theorem xd_C_perform_267 : decode xb_C_perform 267 = .ok (.invokevirtual 215, 3) := by decide +kernel
theorem xd_C_perform_270 : decode xb_C_perform 270 = .ok (.return_, 1) := by decide +kernel
theorem xd_C_refuse_0 : decode xb_C_refuse 0 = .ok (.aload_n 0, 1) := by decide +kernel
theorem xd_C_refuse_1 : decode xb_C_refuse 1 = .ok (.getfield 44, 3) := by decide +kernel
theorem xd_C_refuse_4 : decode xb_C_refuse 4 = .ok (.iload_n 1, 1) := by decide +kernel
theorem xd_C_refuse_5 : decode xb_C_refuse 5 = .ok (.aload_n 0, 1) := by decide +kernel
theorem xd_C_refuse_6 : decode xb_C_refuse 6 = .ok (.getfield 101, 3) := by decide +kernel
theorem xd_C_refuse_9 : decode xb_C_refuse 9 = .ok (.invokevirtual 111, 3) := by decide +kernel
theorem xd_C_refuse_12 : decode xb_C_refuse 12 = .ok (.return_, 1) := by decide +kernel
theorem xd_C_jump_0 : decode xb_C_jump 0 = .ok (.iload_n 1, 1) := by decide +kernel
theorem xd_C_jump_1 : decode xb_C_jump 1 = .ok (.iconst 3, 1) := by decide +kernel
theorem xd_C_jump_2 : decode xb_C_jump 2 = .ok (.iand, 1) := by decide +kernel
theorem xd_C_jump_3 : decode xb_C_jump 3 = .ok (.ifCond .eq 13, 3) := by decide +kernel
theorem xd_C_jump_6 : decode xb_C_jump 6 = .ok (.aload_n 0, 1) := by decide +kernel
theorem xd_C_jump_7 : decode xb_C_jump 7 = .ok (.getfield 44, 3) := by decide +kernel
theorem xd_C_jump_10 : decode xb_C_jump 10 = .ok (.iconst 0, 1) := by decide +kernel
theorem xd_C_jump_11 : decode xb_C_jump 11 = .ok (.iload_n 1, 1) := by decide +kernel
theorem xd_C_jump_12 : decode xb_C_jump 12 = .ok (.invokevirtual 111, 3) := by decide +kernel
theorem xd_C_jump_15 : decode xb_C_jump 15 = .ok (.return_, 1) := by decide +kernel
theorem xd_C_jump_16 : decode xb_C_jump 16 = .ok (.aload_n 0, 1) := by decide +kernel
theorem xd_C_jump_17 : decode xb_C_jump 17 = .ok (.iload_n 1, 1) := by decide +kernel
theorem xd_C_jump_18 : decode xb_C_jump 18 = .ok (.putfield 104, 3) := by decide +kernel
theorem xd_C_jump_21 : decode xb_C_jump 21 = .ok (.aload_n 0, 1) := by decide +kernel
theorem xd_C_jump_22 : decode xb_C_jump 22 = .ok (.iload_n 2, 1) := by decide +kernel
theorem xd_C_jump_23 : decode xb_C_jump 23 = .ok (.aload_n 0, 1) := by decide +kernel
theorem xd_C_jump_24 : decode xb_C_jump 24 = .ok (.getfield 61, 3) := by decide +kernel
theorem xd_C_jump_27 : decode xb_C_jump 27 = .ok (.iconst 4, 1) := by decide +kernel
theorem xd_C_jump_28 : decode xb_C_jump 28 = .ok (.iadd, 1) := by decide +kernel
theorem xd_C_jump_29 : decode xb_C_jump 29 = .ok (.invokevirtual 185, 3) := by decide +kernel
theorem xd_C_jump_32 : decode xb_C_jump 32 = .ok (.return_, 1) := by decide +kernel
theorem xd_C_jumpToRegisterOp_0 : decode xb_C_jumpToRegisterOp 0 = .ok (.aload_n 0, 1) := by decide +kernel
theorem xd_C_jumpToRegisterOp_1 : decode xb_C_jumpToRegisterOp 1 = .ok (.getfield 101, 3) := by decide +kernel
theorem xd_C_jumpToRegisterOp_4 : decode xb_C_jumpToRegisterOp 4 = .ok (.invokestatic 162, 3) := by decide +kernel
theorem xd_C_jumpToRegisterOp_7 : decode xb_C_jumpToRegisterOp 7 = .ok (.ifCond .eq 9, 3) := by decide +kernel
theorem xd_C_jumpToRegisterOp_10 : decode xb_C_jumpToRegisterOp 10 = .ok (.aload_n 0, 1) := by decide +kernel
theorem xd_C_jumpToRegisterOp_11 : decode xb_C_jumpToRegisterOp 11 = .ok (.iconst 2, 1) := by decide +kernel
theorem xd_C_jumpToRegisterOp_12 : decode xb_C_jumpToRegisterOp 12 = .ok (.invokevirtual 215, 3) := by decide +kernel
theorem xd_C_jumpToRegisterOp_15 : decode xb_C_jumpToRegisterOp 15 = .ok (.return_, 1) := by decide +kernel
theorem xd_C_jumpToRegisterOp_16 : decode xb_C_jumpToRegisterOp 16 = .ok (.aload_n 0, 1) := by decide +kernel
theorem xd_C_jumpToRegisterOp_17 : decode xb_C_jumpToRegisterOp 17 = .ok (.aload_n 0, 1) := by decide +kernel
theorem xd_C_jumpToRegisterOp_18 : decode xb_C_jumpToRegisterOp 18 = .ok (.getfield 9, 3) := by decide +kernel
theorem xd_C_jumpToRegisterOp_21 : decode xb_C_jumpToRegisterOp 21 = .ok (.aload_n 0, 1) := by decide +kernel
theorem xd_C_jumpToRegisterOp_22 : decode xb_C_jumpToRegisterOp 22 = .ok (.getfield 101, 3) := by decide +kernel
theorem xd_C_jumpToRegisterOp_25 : decode xb_C_jumpToRegisterOp 25 = .ok (.invokestatic 218, 3) := by decide +kernel
theorem xd_C_jumpToRegisterOp_28 : decode xb_C_jumpToRegisterOp 28 = .ok (.iaload, 1) := by decide +kernel
theorem xd_C_jumpToRegisterOp_29 : decode xb_C_jumpToRegisterOp 29 = .ok (.aload_n 0, 1) := by decide +kernel
theorem xd_C_jumpToRegisterOp_30 : decode xb_C_jumpToRegisterOp 30 = .ok (.getfield 101, 3) := by decide +kernel
theorem xd_C_jumpToRegisterOp_33 : decode xb_C_jumpToRegisterOp 33 = .ok (.invokestatic 221, 3) := by decide +kernel
theorem xd_C_jumpToRegisterOp_36 : decode xb_C_jumpToRegisterOp 36 = .ok (.iadd, 1) := by decide +kernel
theorem xd_C_jumpToRegisterOp_37 : decode xb_C_jumpToRegisterOp 37 = .ok (.bipush (-2), 2) := by decide +kernel
theorem xd_C_jumpToRegisterOp_39 : decode xb_C_jumpToRegisterOp 39 = .ok (.iand, 1) := by decide +kernel
theorem xd_C_jumpToRegisterOp_40 : decode xb_C_jumpToRegisterOp 40 = .ok (.aload_n 0, 1) := by decide +kernel
theorem xd_C_jumpToRegisterOp_41 : decode xb_C_jumpToRegisterOp 41 = .ok (.getfield 101, 3) := by decide +kernel
theorem xd_C_jumpToRegisterOp_44 : decode xb_C_jumpToRegisterOp 44 = .ok (.invokestatic 179, 3) := by decide +kernel
theorem xd_C_jumpToRegisterOp_47 : decode xb_C_jumpToRegisterOp 47 = .ok (.invokevirtual 203, 3) := by decide +kernel
theorem xd_C_jumpToRegisterOp_50 : decode xb_C_jumpToRegisterOp 50 = .ok (.return_, 1) := by decide +kernel
theorem xd_C_branchOp_0 : decode xb_C_branchOp 0 = .ok (.aload_n 0, 1) := by decide +kernel
theorem xd_C_branchOp_1 : decode xb_C_branchOp 1 = .ok (.getfield 101, 3) := by decide +kernel
theorem xd_C_branchOp_4 : decode xb_C_branchOp 4 = .ok (.invokestatic 162, 3) := by decide +kernel
theorem xd_C_branchOp_7 : decode xb_C_branchOp 7 = .ok (.istore_n 1, 1) := by decide +kernel
theorem xd_C_branchOp_8 : decode xb_C_branchOp 8 = .ok (.iload_n 1, 1) := by decide +kernel
theorem xd_C_branchOp_9 : decode xb_C_branchOp 9 = .ok (.invokestatic 224, 3) := by decide +kernel
theorem xd_C_branchOp_12 : decode xb_C_branchOp 12 = .ok (.ifCond .ne 11, 3) := by decide +kernel
theorem xd_C_branchOp_15 : decode xb_C_branchOp 15 = .ok (.aload_n 0, 1) := by decide +kernel
theorem xd_C_branchOp_16 : decode xb_C_branchOp 16 = .ok (.iconst 2, 1) := by decide +kernel
theorem xd_C_branchOp_17 : decode xb_C_branchOp 17 = .ok (.invokevirtual 215, 3) := by decide +kernel
theorem xd_C_branchOp_20 : decode xb_C_branchOp 20 = .ok (.goto 51, 3) := by decide +kernel
theorem xd_C_branchOp_23 : decode xb_C_branchOp 23 = .ok (.iload_n 1, 1) := by decide +kernel
theorem xd_C_branchOp_24 : decode xb_C_branchOp 24 = .ok (.aload_n 0, 1) := by decide +kernel
theorem xd_C_branchOp_25 : decode xb_C_branchOp 25 = .ok (.getfield 9, 3) := by decide +kernel
theorem xd_C_branchOp_28 : decode xb_C_branchOp 28 = .ok (.aload_n 0, 1) := by decide +kernel
theorem xd_C_branchOp_29 : decode xb_C_branchOp 29 = .ok (.getfield 101, 3) := by decide +kernel
theorem xd_C_branchOp_32 : decode xb_C_branchOp 32 = .ok (.invokestatic 218, 3) := by decide +kernel
theorem xd_C_branchOp_35 : decode xb_C_branchOp 35 = .ok (.iaload, 1) := by decide +kernel
theorem xd_C_branchOp_36 : decode xb_C_branchOp 36 = .ok (.aload_n 0, 1) := by decide +kernel
theorem xd_C_branchOp_37 : decode xb_C_branchOp 37 = .ok (.getfield 9, 3) := by decide +kernel
theorem xd_C_branchOp_40 : decode xb_C_branchOp 40 = .ok (.aload_n 0, 1) := by decide +kernel
theorem xd_C_branchOp_41 : decode xb_C_branchOp 41 = .ok (.getfield 101, 3) := by decide +kernel
theorem xd_C_branchOp_44 : decode xb_C_branchOp 44 = .ok (.invokestatic 229, 3) := by decide +kernel
theorem xd_C_branchOp_47 : decode xb_C_branchOp 47 = .ok (.iaload, 1) := by decide +kernel
theorem xd_C_branchOp_48 : decode xb_C_branchOp 48 = .ok (.invokestatic 232, 3) := by decide +kernel
theorem xd_C_branchOp_51 : decode xb_C_branchOp 51 = .ok (.ifCond .eq 20, 3) := by decide +kernel
theorem xd_C_branchOp_54 : decode xb_C_branchOp 54 = .ok (.aload_n 0, 1) := by decide +kernel
theorem xd_C_branchOp_55 : decode xb_C_branchOp 55 = .ok (.aload_n 0, 1) := by decide +kernel
theorem xd_C_branchOp_56 : decode xb_C_branchOp 56 = .ok (.getfield 61, 3) := by decide +kernel
theorem xd_C_branchOp_59 : decode xb_C_branchOp 59 = .ok (.aload_n 0, 1) := by decide +kernel
theorem xd_C_branchOp_60 : decode xb_C_branchOp 60 = .ok (.getfield 101, 3) := by decide +kernel
theorem xd_C_branchOp_63 : decode xb_C_branchOp 63 = .ok (.invokestatic 236, 3) := by decide +kernel
theorem xd_C_branchOp_66 : decode xb_C_branchOp 66 = .ok (.iadd, 1) := by decide +kernel
theorem xd_C_branchOp_67 : decode xb_C_branchOp 67 = .ok (.iconst 0, 1) := by decide +kernel
theorem xd_C_branchOp_68 : decode xb_C_branchOp 68 = .ok (.invokevirtual 203, 3) := by decide +kernel
theorem xd_C_branchOp_71 : decode xb_C_branchOp 71 = .ok (.return_, 1) := by decide +kernel
theorem xd_C_fenceOp_0 : decode xb_C_fenceOp 0 = .ok (.aload_n 0, 1) := by decide +kernel
theorem xd_C_fenceOp_1 : decode xb_C_fenceOp 1 = .ok (.getfield 101, 3) := by decide +kernel
theorem xd_C_fenceOp_4 : decode xb_C_fenceOp 4 = .ok (.invokestatic 162, 3) := by decide +kernel
theorem xd_C_fenceOp_7 : decode xb_C_fenceOp 7 = .ok (.iconst 1, 1) := by decide +kernel
theorem xd_C_fenceOp_8 : decode xb_C_fenceOp 8 = .ok (.if_icmp .le 8, 3) := by decide +kernel
theorem xd_C_fenceOp_11 : decode xb_C_fenceOp 11 = .ok (.aload_n 0, 1) := by decide +kernel
theorem xd_C_fenceOp_12 : decode xb_C_fenceOp 12 = .ok (.iconst 2, 1) := by decide +kernel
theorem xd_C_fenceOp_13 : decode xb_C_fenceOp 13 = .ok (.invokevirtual 215, 3) := by decide +kernel
theorem xd_C_fenceOp_16 : decode xb_C_fenceOp 16 = .ok (.return_, 1) := by decide +kernel
theorem xd_C_immediateOp_0 : decode xb_C_immediateOp 0 = .ok (.aload_n 0, 1) := by decide +kernel
theorem xd_C_immediateOp_1 : decode xb_C_immediateOp 1 = .ok (.getfield 101, 3) := by decide +kernel
theorem xd_C_immediateOp_4 : decode xb_C_immediateOp 4 = .ok (.invokestatic 162, 3) := by decide +kernel
theorem xd_C_immediateOp_7 : decode xb_C_immediateOp 7 = .ok (.istore_n 1, 1) := by decide +kernel
theorem xd_C_immediateOp_8 : decode xb_C_immediateOp 8 = .ok (.aload_n 0, 1) := by decide +kernel
theorem xd_C_immediateOp_9 : decode xb_C_immediateOp 9 = .ok (.getfield 101, 3) := by decide +kernel
theorem xd_C_immediateOp_12 : decode xb_C_immediateOp 12 = .ok (.invokestatic 239, 3) := by decide +kernel
theorem xd_C_immediateOp_15 : decode xb_C_immediateOp 15 = .ok (.istore_n 2, 1) := by decide +kernel
theorem xd_C_immediateOp_16 : decode xb_C_immediateOp 16 = .ok (.aload_n 0, 1) := by decide +kernel
theorem xd_C_immediateOp_17 : decode xb_C_immediateOp 17 = .ok (.getfield 9, 3) := by decide +kernel
theorem xd_C_immediateOp_20 : decode xb_C_immediateOp 20 = .ok (.aload_n 0, 1) := by decide +kernel
theorem xd_C_immediateOp_21 : decode xb_C_immediateOp 21 = .ok (.getfield 101, 3) := by decide +kernel
theorem xd_C_immediateOp_24 : decode xb_C_immediateOp 24 = .ok (.invokestatic 218, 3) := by decide +kernel
theorem xd_C_immediateOp_27 : decode xb_C_immediateOp 27 = .ok (.iaload, 1) := by decide +kernel
theorem xd_C_immediateOp_28 : decode xb_C_immediateOp 28 = .ok (.istore_n 3, 1) := by decide +kernel
theorem xd_C_immediateOp_29 : decode xb_C_immediateOp 29 = .ok (.iload_n 1, 1) := by decide +kernel
theorem xd_C_immediateOp_30 : decode xb_C_immediateOp 30 = .ok (.iconst 5, 1) := by decide +kernel
theorem xd_C_immediateOp_31 : decode xb_C_immediateOp 31 = .ok (.if_icmp .ne 32, 3) := by decide +kernel
theorem xd_C_immediateOp_34 : decode xb_C_immediateOp 34 = .ok (.iload_n 2, 1) := by decide +kernel
theorem xd_C_immediateOp_35 : decode xb_C_immediateOp 35 = .ok (.bipush 32, 2) := by decide +kernel
theorem xd_C_immediateOp_37 : decode xb_C_immediateOp 37 = .ok (.if_icmp .ne 26, 3) := by decide +kernel
theorem xd_C_immediateOp_40 : decode xb_C_immediateOp 40 = .ok (.aload_n 0, 1) := by decide +kernel
theorem xd_C_immediateOp_41 : decode xb_C_immediateOp 41 = .ok (.aload_n 0, 1) := by decide +kernel
theorem xd_C_immediateOp_42 : decode xb_C_immediateOp 42 = .ok (.getfield 101, 3) := by decide +kernel
theorem xd_C_immediateOp_45 : decode xb_C_immediateOp 45 = .ok (.invokestatic 179, 3) := by decide +kernel
theorem xd_C_immediateOp_48 : decode xb_C_immediateOp 48 = .ok (.iload_n 3, 1) := by decide +kernel
theorem xd_C_immediateOp_49 : decode xb_C_immediateOp 49 = .ok (.aload_n 0, 1) := by decide +kernel
theorem xd_C_immediateOp_50 : decode xb_C_immediateOp 50 = .ok (.getfield 101, 3) := by decide +kernel
theorem xd_C_immediateOp_53 : decode xb_C_immediateOp 53 = .ok (.invokestatic 229, 3) := by decide +kernel
theorem xd_C_immediateOp_56 : decode xb_C_immediateOp 56 = .ok (.ishr, 1) := by decide +kernel
theorem xd_C_immediateOp_57 : decode xb_C_immediateOp 57 = .ok (.invokevirtual 185, 3) := by decide +kernel
theorem xd_C_immediateOp_60 : decode xb_C_immediateOp 60 = .ok (.goto 48, 3) := by decide +kernel
theorem xd_C_immediateOp_63 : decode xb_C_immediateOp 63 = .ok (.iload_n 1, 1) := by decide +kernel
theorem xd_C_immediateOp_64 : decode xb_C_immediateOp 64 = .ok (.iconst 1, 1) := by decide +kernel
theorem xd_C_immediateOp_65 : decode xb_C_immediateOp 65 = .ok (.if_icmp .eq 8, 3) := by decide +kernel
theorem xd_C_immediateOp_68 : decode xb_C_immediateOp 68 = .ok (.iload_n 1, 1) := by decide +kernel
theorem xd_C_immediateOp_69 : decode xb_C_immediateOp 69 = .ok (.iconst 5, 1) := by decide +kernel
theorem xd_C_immediateOp_70 : decode xb_C_immediateOp 70 = .ok (.if_icmp .ne 15, 3) := by decide +kernel
theorem xd_C_immediateOp_73 : decode xb_C_immediateOp 73 = .ok (.iload_n 2, 1) := by decide +kernel
theorem xd_C_immediateOp_74 : decode xb_C_immediateOp 74 = .ok (.ifCond .eq 11, 3) := by decide +kernel
theorem xd_C_immediateOp_77 : decode xb_C_immediateOp 77 = .ok (.aload_n 0, 1) := by decide +kernel
theorem xd_C_immediateOp_78 : decode xb_C_immediateOp 78 = .ok (.iconst 2, 1) := by decide +kernel
theorem xd_C_immediateOp_79 : decode xb_C_immediateOp 79 = .ok (.invokevirtual 215, 3) := by decide +kernel
theorem xd_C_immediateOp_82 : decode xb_C_immediateOp 82 = .ok (.goto 26, 3) := by decide +kernel
theorem xd_C_immediateOp_85 : decode xb_C_immediateOp 85 = .ok (.aload_n 0, 1) := by decide +kernel
theorem xd_C_immediateOp_86 : decode xb_C_immediateOp 86 = .ok (.aload_n 0, 1) := by decide +kernel
theorem xd_C_immediateOp_87 : decode xb_C_immediateOp 87 = .ok (.getfield 101, 3) := by decide +kernel
theorem xd_C_immediateOp_90 : decode xb_C_immediateOp 90 = .ok (.invokestatic 179, 3) := by decide +kernel
theorem xd_C_immediateOp_93 : decode xb_C_immediateOp 93 = .ok (.iload_n 1, 1) := by decide +kernel
theorem xd_C_immediateOp_94 : decode xb_C_immediateOp 94 = .ok (.iload_n 3, 1) := by decide +kernel
theorem xd_C_immediateOp_95 : decode xb_C_immediateOp 95 = .ok (.aload_n 0, 1) := by decide +kernel
theorem xd_C_immediateOp_96 : decode xb_C_immediateOp 96 = .ok (.getfield 101, 3) := by decide +kernel
theorem xd_C_immediateOp_99 : decode xb_C_immediateOp 99 = .ok (.invokestatic 221, 3) := by decide +kernel
theorem xd_C_immediateOp_102 : decode xb_C_immediateOp 102 = .ok (.invokestatic 242, 3) := by decide +kernel
theorem xd_C_immediateOp_105 : decode xb_C_immediateOp 105 = .ok (.invokevirtual 185, 3) := by decide +kernel
theorem xd_C_immediateOp_108 : decode xb_C_immediateOp 108 = .ok (.return_, 1) := by decide +kernel
theorem xd_C_registerOp_0 : decode xb_C_registerOp 0 = .ok (.aload_n 0, 1) := by decide +kernel
theorem xd_C_registerOp_1 : decode xb_C_registerOp 1 = .ok (.getfield 101, 3) := by decide +kernel
theorem xd_C_registerOp_4 : decode xb_C_registerOp 4 = .ok (.invokestatic 162, 3) := by decide +kernel
theorem xd_C_registerOp_7 : decode xb_C_registerOp 7 = .ok (.istore_n 1, 1) := by decide +kernel
theorem xd_C_registerOp_8 : decode xb_C_registerOp 8 = .ok (.aload_n 0, 1) := by decide +kernel
theorem xd_C_registerOp_9 : decode xb_C_registerOp 9 = .ok (.getfield 101, 3) := by decide +kernel
theorem xd_C_registerOp_12 : decode xb_C_registerOp 12 = .ok (.invokestatic 239, 3) := by decide +kernel
theorem xd_C_registerOp_15 : decode xb_C_registerOp 15 = .ok (.istore_n 2, 1) := by decide +kernel
theorem xd_C_registerOp_16 : decode xb_C_registerOp 16 = .ok (.aload_n 0, 1) := by decide +kernel
theorem xd_C_registerOp_17 : decode xb_C_registerOp 17 = .ok (.getfield 101, 3) := by decide +kernel
theorem xd_C_registerOp_20 : decode xb_C_registerOp 20 = .ok (.invokestatic 179, 3) := by decide +kernel
theorem xd_C_registerOp_23 : decode xb_C_registerOp 23 = .ok (.istore_n 3, 1) := by decide +kernel
theorem xd_C_registerOp_24 : decode xb_C_registerOp 24 = .ok (.aload_n 0, 1) := by decide +kernel
theorem xd_C_registerOp_25 : decode xb_C_registerOp 25 = .ok (.getfield 9, 3) := by decide +kernel
theorem xd_C_registerOp_28 : decode xb_C_registerOp 28 = .ok (.aload_n 0, 1) := by decide +kernel
theorem xd_C_registerOp_29 : decode xb_C_registerOp 29 = .ok (.getfield 101, 3) := by decide +kernel
theorem xd_C_registerOp_32 : decode xb_C_registerOp 32 = .ok (.invokestatic 218, 3) := by decide +kernel
theorem xd_C_registerOp_35 : decode xb_C_registerOp 35 = .ok (.iaload, 1) := by decide +kernel
theorem xd_C_registerOp_36 : decode xb_C_registerOp 36 = .ok (.istore 4, 2) := by decide +kernel
theorem xd_C_registerOp_38 : decode xb_C_registerOp 38 = .ok (.aload_n 0, 1) := by decide +kernel
theorem xd_C_registerOp_39 : decode xb_C_registerOp 39 = .ok (.getfield 9, 3) := by decide +kernel
theorem xd_C_registerOp_42 : decode xb_C_registerOp 42 = .ok (.aload_n 0, 1) := by decide +kernel
theorem xd_C_registerOp_43 : decode xb_C_registerOp 43 = .ok (.getfield 101, 3) := by decide +kernel
theorem xd_C_registerOp_46 : decode xb_C_registerOp 46 = .ok (.invokestatic 229, 3) := by decide +kernel
theorem xd_C_registerOp_49 : decode xb_C_registerOp 49 = .ok (.iaload, 1) := by decide +kernel
theorem xd_C_registerOp_50 : decode xb_C_registerOp 50 = .ok (.istore 5, 2) := by decide +kernel
theorem xd_C_registerOp_52 : decode xb_C_registerOp 52 = .ok (.iload_n 2, 1) := by decide +kernel
theorem xd_C_registerOp_53 : decode xb_C_registerOp 53 = .ok (.ifCond .ne 19, 3) := by decide +kernel
theorem xd_C_registerOp_56 : decode xb_C_registerOp 56 = .ok (.aload_n 0, 1) := by decide +kernel
theorem xd_C_registerOp_57 : decode xb_C_registerOp 57 = .ok (.iload_n 3, 1) := by decide +kernel
theorem xd_C_registerOp_58 : decode xb_C_registerOp 58 = .ok (.iload_n 1, 1) := by decide +kernel
theorem xd_C_registerOp_59 : decode xb_C_registerOp 59 = .ok (.iload 4, 2) := by decide +kernel
theorem xd_C_registerOp_61 : decode xb_C_registerOp 61 = .ok (.iload 5, 2) := by decide +kernel
theorem xd_C_registerOp_63 : decode xb_C_registerOp 63 = .ok (.invokestatic 242, 3) := by decide +kernel
theorem xd_C_registerOp_66 : decode xb_C_registerOp 66 = .ok (.invokevirtual 185, 3) := by decide +kernel
theorem xd_C_registerOp_69 : decode xb_C_registerOp 69 = .ok (.goto 95, 3) := by decide +kernel
theorem xd_C_registerOp_72 : decode xb_C_registerOp 72 = .ok (.iload_n 2, 1) := by decide +kernel
theorem xd_C_registerOp_73 : decode xb_C_registerOp 73 = .ok (.iconst 1, 1) := by decide +kernel
theorem xd_C_registerOp_74 : decode xb_C_registerOp 74 = .ok (.if_icmp .ne 35, 3) := by decide +kernel
theorem xd_C_registerOp_77 : decode xb_C_registerOp 77 = .ok (.aload_n 0, 1) := by decide +kernel
theorem xd_C_registerOp_78 : decode xb_C_registerOp 78 = .ok (.iload_n 3, 1) := by decide +kernel
theorem xd_C_registerOp_79 : decode xb_C_registerOp 79 = .ok (.iload_n 1, 1) := by decide +kernel
theorem xd_C_registerOp_80 : decode xb_C_registerOp 80 = .ok (.iconst 4, 1) := by decide +kernel
theorem xd_C_registerOp_81 : decode xb_C_registerOp 81 = .ok (.if_icmp .ge 14, 3) := by decide +kernel
theorem xd_C_registerOp_84 : decode xb_C_registerOp 84 = .ok (.iload_n 1, 1) := by decide +kernel
theorem xd_C_registerOp_85 : decode xb_C_registerOp 85 = .ok (.iload 4, 2) := by decide +kernel
theorem xd_C_registerOp_87 : decode xb_C_registerOp 87 = .ok (.iload 5, 2) := by decide +kernel
theorem xd_C_registerOp_89 : decode xb_C_registerOp 89 = .ok (.invokestatic 246, 3) := by decide +kernel
theorem xd_C_registerOp_92 : decode xb_C_registerOp 92 = .ok (.goto 11, 3) := by decide +kernel
theorem xd_C_registerOp_95 : decode xb_C_registerOp 95 = .ok (.iload_n 1, 1) := by decide +kernel
theorem xd_C_registerOp_96 : decode xb_C_registerOp 96 = .ok (.iload 4, 2) := by decide +kernel
theorem xd_C_registerOp_98 : decode xb_C_registerOp 98 = .ok (.iload 5, 2) := by decide +kernel
theorem xd_C_registerOp_100 : decode xb_C_registerOp 100 = .ok (.invokestatic 249, 3) := by decide +kernel
theorem xd_C_registerOp_103 : decode xb_C_registerOp 103 = .ok (.invokevirtual 185, 3) := by decide +kernel
theorem xd_C_registerOp_106 : decode xb_C_registerOp 106 = .ok (.goto 58, 3) := by decide +kernel
theorem xd_C_registerOp_109 : decode xb_C_registerOp 109 = .ok (.iload_n 2, 1) := by decide +kernel
theorem xd_C_registerOp_110 : decode xb_C_registerOp 110 = .ok (.bipush 32, 2) := by decide +kernel
theorem xd_C_registerOp_112 : decode xb_C_registerOp 112 = .ok (.if_icmp .ne 20, 3) := by decide +kernel
theorem xd_C_registerOp_115 : decode xb_C_registerOp 115 = .ok (.iload_n 1, 1) := by decide +kernel
theorem xd_C_registerOp_116 : decode xb_C_registerOp 116 = .ok (.ifCond .ne 16, 3) := by decide +kernel
theorem xd_C_registerOp_119 : decode xb_C_registerOp 119 = .ok (.aload_n 0, 1) := by decide +kernel
theorem xd_C_registerOp_120 : decode xb_C_registerOp 120 = .ok (.iload_n 3, 1) := by decide +kernel
theorem xd_C_registerOp_121 : decode xb_C_registerOp 121 = .ok (.iload 4, 2) := by decide +kernel
theorem xd_C_registerOp_123 : decode xb_C_registerOp 123 = .ok (.iload 5, 2) := by decide +kernel
theorem xd_C_registerOp_125 : decode xb_C_registerOp 125 = .ok (.isub, 1) := by decide +kernel
theorem xd_C_registerOp_126 : decode xb_C_registerOp 126 = .ok (.invokevirtual 185, 3) := by decide +kernel
theorem xd_C_registerOp_129 : decode xb_C_registerOp 129 = .ok (.goto 35, 3) := by decide +kernel
theorem xd_C_registerOp_132 : decode xb_C_registerOp 132 = .ok (.iload_n 2, 1) := by decide +kernel
theorem xd_C_registerOp_133 : decode xb_C_registerOp 133 = .ok (.bipush 32, 2) := by decide +kernel
theorem xd_C_registerOp_135 : decode xb_C_registerOp 135 = .ok (.if_icmp .ne 24, 3) := by decide +kernel
theorem xd_C_registerOp_138 : decode xb_C_registerOp 138 = .ok (.iload_n 1, 1) := by decide +kernel
theorem xd_C_registerOp_139 : decode xb_C_registerOp 139 = .ok (.iconst 5, 1) := by decide +kernel
theorem xd_C_registerOp_140 : decode xb_C_registerOp 140 = .ok (.if_icmp .ne 19, 3) := by decide +kernel
theorem xd_C_registerOp_143 : decode xb_C_registerOp 143 = .ok (.aload_n 0, 1) := by decide +kernel
theorem xd_C_registerOp_144 : decode xb_C_registerOp 144 = .ok (.iload_n 3, 1) := by decide +kernel
theorem xd_C_registerOp_145 : decode xb_C_registerOp 145 = .ok (.iload 4, 2) := by decide +kernel
theorem xd_C_registerOp_147 : decode xb_C_registerOp 147 = .ok (.iload 5, 2) := by decide +kernel
theorem xd_C_registerOp_149 : decode xb_C_registerOp 149 = .ok (.bipush 31, 2) := by decide +kernel
theorem xd_C_registerOp_151 : decode xb_C_registerOp 151 = .ok (.iand, 1) := by decide +kernel
theorem xd_C_registerOp_152 : decode xb_C_registerOp 152 = .ok (.ishr, 1) := by decide +kernel
theorem xd_C_registerOp_153 : decode xb_C_registerOp 153 = .ok (.invokevirtual 185, 3) := by decide +kernel
theorem xd_C_registerOp_156 : decode xb_C_registerOp 156 = .ok (.goto 8, 3) := by decide +kernel
theorem xd_C_registerOp_159 : decode xb_C_registerOp 159 = .ok (.aload_n 0, 1) := by decide +kernel
theorem xd_C_registerOp_160 : decode xb_C_registerOp 160 = .ok (.iconst 2, 1) := by decide +kernel
theorem xd_C_registerOp_161 : decode xb_C_registerOp 161 = .ok (.invokevirtual 215, 3) := by decide +kernel
theorem xd_C_registerOp_164 : decode xb_C_registerOp 164 = .ok (.return_, 1) := by decide +kernel
theorem xd_C_loadOp_0 : decode xb_C_loadOp 0 = .ok (.aload_n 0, 1) := by decide +kernel
theorem xd_C_loadOp_1 : decode xb_C_loadOp 1 = .ok (.getfield 101, 3) := by decide +kernel
theorem xd_C_loadOp_4 : decode xb_C_loadOp 4 = .ok (.invokestatic 162, 3) := by decide +kernel
theorem xd_C_loadOp_7 : decode xb_C_loadOp 7 = .ok (.istore_n 1, 1) := by decide +kernel
theorem xd_C_loadOp_8 : decode xb_C_loadOp 8 = .ok (.iload_n 1, 1) := by decide +kernel
theorem xd_C_loadOp_9 : decode xb_C_loadOp 9 = .ok (.iconst 3, 1) := by decide +kernel
theorem xd_C_loadOp_10 : decode xb_C_loadOp 10 = .ok (.if_icmp .eq 8, 3) := by decide +kernel
theorem xd_C_loadOp_13 : decode xb_C_loadOp 13 = .ok (.iload_n 1, 1) := by decide +kernel
theorem xd_C_loadOp_14 : decode xb_C_loadOp 14 = .ok (.iconst 5, 1) := by decide +kernel
theorem xd_C_loadOp_15 : decode xb_C_loadOp 15 = .ok (.if_icmp .le 9, 3) := by decide +kernel
theorem xd_C_loadOp_18 : decode xb_C_loadOp 18 = .ok (.aload_n 0, 1) := by decide +kernel
theorem xd_C_loadOp_19 : decode xb_C_loadOp 19 = .ok (.iconst 2, 1) := by decide +kernel
theorem xd_C_loadOp_20 : decode xb_C_loadOp 20 = .ok (.invokevirtual 215, 3) := by decide +kernel
theorem xd_C_loadOp_23 : decode xb_C_loadOp 23 = .ok (.return_, 1) := by decide +kernel
theorem xd_C_loadOp_24 : decode xb_C_loadOp 24 = .ok (.aload_n 0, 1) := by decide +kernel
theorem xd_C_loadOp_25 : decode xb_C_loadOp 25 = .ok (.aload_n 0, 1) := by decide +kernel
theorem xd_C_loadOp_26 : decode xb_C_loadOp 26 = .ok (.getfield 9, 3) := by decide +kernel
theorem xd_C_loadOp_29 : decode xb_C_loadOp 29 = .ok (.aload_n 0, 1) := by decide +kernel
theorem xd_C_loadOp_30 : decode xb_C_loadOp 30 = .ok (.getfield 101, 3) := by decide +kernel
theorem xd_C_loadOp_33 : decode xb_C_loadOp 33 = .ok (.invokestatic 218, 3) := by decide +kernel
theorem xd_C_loadOp_36 : decode xb_C_loadOp 36 = .ok (.iaload, 1) := by decide +kernel
theorem xd_C_loadOp_37 : decode xb_C_loadOp 37 = .ok (.aload_n 0, 1) := by decide +kernel
theorem xd_C_loadOp_38 : decode xb_C_loadOp 38 = .ok (.getfield 101, 3) := by decide +kernel
theorem xd_C_loadOp_41 : decode xb_C_loadOp 41 = .ok (.invokestatic 221, 3) := by decide +kernel
theorem xd_C_loadOp_44 : decode xb_C_loadOp 44 = .ok (.iadd, 1) := by decide +kernel
theorem xd_C_loadOp_45 : decode xb_C_loadOp 45 = .ok (.iload_n 1, 1) := by decide +kernel
theorem xd_C_loadOp_46 : decode xb_C_loadOp 46 = .ok (.iconst 3, 1) := by decide +kernel
theorem xd_C_loadOp_47 : decode xb_C_loadOp 47 = .ok (.iand, 1) := by decide +kernel
theorem xd_C_loadOp_48 : decode xb_C_loadOp 48 = .ok (.iload_n 1, 1) := by decide +kernel
theorem xd_C_loadOp_49 : decode xb_C_loadOp 49 = .ok (.iconst 3, 1) := by decide +kernel
theorem xd_C_loadOp_50 : decode xb_C_loadOp 50 = .ok (.if_icmp .le 7, 3) := by decide +kernel
theorem xd_C_loadOp_53 : decode xb_C_loadOp 53 = .ok (.iconst 1, 1) := by decide +kernel
theorem xd_C_loadOp_54 : decode xb_C_loadOp 54 = .ok (.goto 4, 3) := by decide +kernel
theorem xd_C_loadOp_57 : decode xb_C_loadOp 57 = .ok (.iconst 0, 1) := by decide +kernel
theorem xd_C_loadOp_58 : decode xb_C_loadOp 58 = .ok (.getstatic 252, 3) := by decide +kernel
theorem xd_C_loadOp_61 : decode xb_C_loadOp 61 = .ok (.aload_n 0, 1) := by decide +kernel
theorem xd_C_loadOp_62 : decode xb_C_loadOp 62 = .ok (.getfield 64, 3) := by decide +kernel
theorem xd_C_loadOp_65 : decode xb_C_loadOp 65 = .ok (.invokevirtual 255, 3) := by decide +kernel
theorem xd_C_loadOp_68 : decode xb_C_loadOp 68 = .ok (.return_, 1) := by decide +kernel
theorem xd_C_storeOp_0 : decode xb_C_storeOp 0 = .ok (.aload_n 0, 1) := by decide +kernel
theorem xd_C_storeOp_1 : decode xb_C_storeOp 1 = .ok (.getfield 101, 3) := by decide +kernel
theorem xd_C_storeOp_4 : decode xb_C_storeOp 4 = .ok (.invokestatic 162, 3) := by decide +kernel
theorem xd_C_storeOp_7 : decode xb_C_storeOp 7 = .ok (.istore_n 1, 1) := by decide +kernel
theorem xd_C_storeOp_8 : decode xb_C_storeOp 8 = .ok (.iload_n 1, 1) := by decide +kernel
theorem xd_C_storeOp_9 : decode xb_C_storeOp 9 = .ok (.iconst 2, 1) := by decide +kernel
theorem xd_C_storeOp_10 : decode xb_C_storeOp 10 = .ok (.if_icmp .le 9, 3) := by decide +kernel
theorem xd_C_storeOp_13 : decode xb_C_storeOp 13 = .ok (.aload_n 0, 1) := by decide +kernel
theorem xd_C_storeOp_14 : decode xb_C_storeOp 14 = .ok (.iconst 2, 1) := by decide +kernel
theorem xd_C_storeOp_15 : decode xb_C_storeOp 15 = .ok (.invokevirtual 215, 3) := by decide +kernel
theorem xd_C_storeOp_18 : decode xb_C_storeOp 18 = .ok (.return_, 1) := by decide +kernel
theorem xd_C_storeOp_19 : decode xb_C_storeOp 19 = .ok (.aload_n 0, 1) := by decide +kernel
theorem xd_C_storeOp_20 : decode xb_C_storeOp 20 = .ok (.aload_n 0, 1) := by decide +kernel
theorem xd_C_storeOp_21 : decode xb_C_storeOp 21 = .ok (.getfield 9, 3) := by decide +kernel
theorem xd_C_storeOp_24 : decode xb_C_storeOp 24 = .ok (.aload_n 0, 1) := by decide +kernel
theorem xd_C_storeOp_25 : decode xb_C_storeOp 25 = .ok (.getfield 101, 3) := by decide +kernel
theorem xd_C_storeOp_28 : decode xb_C_storeOp 28 = .ok (.invokestatic 218, 3) := by decide +kernel
theorem xd_C_storeOp_31 : decode xb_C_storeOp 31 = .ok (.iaload, 1) := by decide +kernel
theorem xd_C_storeOp_32 : decode xb_C_storeOp 32 = .ok (.aload_n 0, 1) := by decide +kernel
theorem xd_C_storeOp_33 : decode xb_C_storeOp 33 = .ok (.getfield 101, 3) := by decide +kernel
theorem xd_C_storeOp_36 : decode xb_C_storeOp 36 = .ok (.invokestatic 259, 3) := by decide +kernel
theorem xd_C_storeOp_39 : decode xb_C_storeOp 39 = .ok (.iadd, 1) := by decide +kernel
theorem xd_C_storeOp_40 : decode xb_C_storeOp 40 = .ok (.iload_n 1, 1) := by decide +kernel
theorem xd_C_storeOp_41 : decode xb_C_storeOp 41 = .ok (.aload_n 0, 1) := by decide +kernel
theorem xd_C_storeOp_42 : decode xb_C_storeOp 42 = .ok (.getfield 64, 3) := by decide +kernel
theorem xd_C_storeOp_45 : decode xb_C_storeOp 45 = .ok (.invokevirtual 262, 3) := by decide +kernel
theorem xd_C_storeOp_48 : decode xb_C_storeOp 48 = .ok (.return_, 1) := by decide +kernel
theorem xd_C_load_0 : decode xb_C_load 0 = .ok (.aload_n 0, 1) := by decide +kernel
theorem xd_C_load_1 : decode xb_C_load 1 = .ok (.getfield 27, 3) := by decide +kernel
theorem xd_C_load_4 : decode xb_C_load 4 = .ok (.iload_n 1, 1) := by decide +kernel
theorem xd_C_load_5 : decode xb_C_load 5 = .ok (.iload_n 2, 1) := by decide +kernel
theorem xd_C_load_6 : decode xb_C_load 6 = .ok (.aload 4, 2) := by decide +kernel
theorem xd_C_load_8 : decode xb_C_load 8 = .ok (.iload 5, 2) := by decide +kernel
theorem xd_C_load_10 : decode xb_C_load 10 = .ok (.invokevirtual 93, 3) := by decide +kernel
theorem xd_C_load_13 : decode xb_C_load 13 = .ok (.istore 6, 2) := by decide +kernel
theorem xd_C_load_15 : decode xb_C_load 15 = .ok (.iload 6, 2) := by decide +kernel
theorem xd_C_load_17 : decode xb_C_load 17 = .ok (.ifCond .ge 4, 3) := by decide +kernel
theorem xd_C_load_20 : decode xb_C_load 20 = .ok (.return_, 1) := by decide +kernel
theorem xd_C_load_21 : decode xb_C_load 21 = .ok (.aload_n 0, 1) := by decide +kernel
theorem xd_C_load_22 : decode xb_C_load 22 = .ok (.getfield 34, 3) := by decide +kernel
theorem xd_C_load_25 : decode xb_C_load 25 = .ok (.iload 6, 2) := by decide +kernel
theorem xd_C_load_27 : decode xb_C_load 27 = .ok (.iload_n 2, 1) := by decide +kernel
theorem xd_C_load_28 : decode xb_C_load 28 = .ok (.invokevirtual 266, 3) := by decide +kernel
theorem xd_C_load_31 : decode xb_C_load 31 = .ok (.istore 7, 2) := by decide +kernel
theorem xd_C_load_33 : decode xb_C_load 33 = .ok (.aload_n 0, 1) := by decide +kernel
theorem xd_C_load_34 : decode xb_C_load 34 = .ok (.aload_n 0, 1) := by decide +kernel
theorem xd_C_load_35 : decode xb_C_load 35 = .ok (.getfield 101, 3) := by decide +kernel
theorem xd_C_load_38 : decode xb_C_load 38 = .ok (.invokestatic 179, 3) := by decide +kernel
theorem xd_C_load_41 : decode xb_C_load 41 = .ok (.iload_n 3, 1) := by decide +kernel
theorem xd_C_load_42 : decode xb_C_load 42 = .ok (.ifCond .eq 27, 3) := by decide +kernel
theorem xd_C_load_45 : decode xb_C_load 45 = .ok (.iload_n 2, 1) := by decide +kernel
theorem xd_C_load_46 : decode xb_C_load 46 = .ok (.iconst 2, 1) := by decide +kernel
theorem xd_C_load_47 : decode xb_C_load 47 = .ok (.if_icmp .eq 22, 3) := by decide +kernel
theorem xd_C_load_50 : decode xb_C_load 50 = .ok (.iload 7, 2) := by decide +kernel
theorem xd_C_load_52 : decode xb_C_load 52 = .ok (.iload_n 2, 1) := by decide +kernel
theorem xd_C_load_53 : decode xb_C_load 53 = .ok (.ifCond .ne 9, 3) := by decide +kernel
theorem xd_C_load_56 : decode xb_C_load 56 = .ok (.sipush 255, 3) := by decide +kernel
theorem xd_C_load_59 : decode xb_C_load 59 = .ok (.goto 6, 3) := by decide +kernel
theorem xd_C_load_62 : decode xb_C_load 62 = .ok (.ldc_w 270, 3) := by decide +kernel
theorem xd_C_load_65 : decode xb_C_load 65 = .ok (.iand, 1) := by decide +kernel
theorem xd_C_load_66 : decode xb_C_load 66 = .ok (.goto 5, 3) := by decide +kernel
theorem xd_C_load_69 : decode xb_C_load 69 = .ok (.iload 7, 2) := by decide +kernel
theorem xd_C_load_71 : decode xb_C_load 71 = .ok (.invokevirtual 185, 3) := by decide +kernel
theorem xd_C_load_74 : decode xb_C_load 74 = .ok (.return_, 1) := by decide +kernel
theorem xd_C_store_0 : decode xb_C_store 0 = .ok (.aload_n 0, 1) := by decide +kernel
theorem xd_C_store_1 : decode xb_C_store 1 = .ok (.getfield 27, 3) := by decide +kernel
theorem xd_C_store_4 : decode xb_C_store 4 = .ok (.iload_n 1, 1) := by decide +kernel
theorem xd_C_store_5 : decode xb_C_store 5 = .ok (.iload_n 2, 1) := by decide +kernel
theorem xd_C_store_6 : decode xb_C_store 6 = .ok (.getstatic 271, 3) := by decide +kernel
