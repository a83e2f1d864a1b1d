theorem xd_Z_system_47 : decode xb_Z_system 47 = .ok (.iload_n 1, 1) := by decide +kernel
theorem xd_Z_system_48 : decode xb_Z_system 48 = .ok (.invokevirtual 195, 3) := by decide +kernel
theorem xd_Z_system_51 : decode xb_Z_system 51 = .ok (.ireturn, 1) := by decide +kernel
theorem xd_Z_system_52 : decode xb_Z_system 52 = .ok (.iload 6, 2) := by decide +kernel
theorem xd_Z_system_54 : decode xb_Z_system 54 = .ok (.bipush 9, 2) := by decide +kernel
theorem xd_Z_system_56 : decode xb_Z_system 56 = .ok (.if_icmp .ne 45, 3) := by decide +kernel
theorem xd_Z_system_59 : decode xb_Z_system 59 = .ok (.aload_n 0, 1) := by decide +kernel
theorem xd_Z_system_60 : decode xb_Z_system 60 = .ok (.getfield 18, 3) := by decide +kernel
theorem xd_Z_system_63 : decode xb_Z_system 63 = .ok (.iconst 1, 1) := by decide +kernel
theorem xd_Z_system_64 : decode xb_Z_system 64 = .ok (.if_icmp .eq 31, 3) := by decide +kernel
theorem xd_Z_system_67 : decode xb_Z_system 67 = .ok (.aload_n 0, 1) := by decide +kernel
theorem xd_Z_system_68 : decode xb_Z_system 68 = .ok (.getfield 18, 3) := by decide +kernel
theorem xd_Z_system_71 : decode xb_Z_system 71 = .ok (.iconst 3, 1) := by decide +kernel
theorem xd_Z_system_72 : decode xb_Z_system 72 = .ok (.if_icmp .ne 15, 3) := by decide +kernel
theorem xd_Z_system_75 : decode xb_Z_system 75 = .ok (.aload_n 0, 1) := by decide +kernel
theorem xd_Z_system_76 : decode xb_Z_system 76 = .ok (.sipush 1536, 3) := by decide +kernel
theorem xd_Z_system_79 : decode xb_Z_system 79 = .ok (.bipush 20, 2) := by decide +kernel
theorem xd_Z_system_81 : decode xb_Z_system 81 = .ok (.invokevirtual 74, 3) := by decide +kernel
theorem xd_Z_system_84 : decode xb_Z_system 84 = .ok (.ifCond .eq 11, 3) := by decide +kernel
theorem xd_Z_system_87 : decode xb_Z_system 87 = .ok (.aload_n 0, 1) := by decide +kernel
theorem xd_Z_system_88 : decode xb_Z_system 88 = .ok (.iload_n 1, 1) := by decide +kernel
theorem xd_Z_system_89 : decode xb_Z_system 89 = .ok (.invokevirtual 259, 3) := by decide +kernel
theorem xd_Z_system_92 : decode xb_Z_system 92 = .ok (.ifCond .eq 7, 3) := by decide +kernel
theorem xd_Z_system_95 : decode xb_Z_system 95 = .ok (.iconst 1, 1) := by decide +kernel
theorem xd_Z_system_96 : decode xb_Z_system 96 = .ok (.goto 4, 3) := by decide +kernel
theorem xd_Z_system_99 : decode xb_Z_system 99 = .ok (.iconst 0, 1) := by decide +kernel
theorem xd_Z_system_100 : decode xb_Z_system 100 = .ok (.ireturn, 1) := by decide +kernel
theorem xd_Z_system_101 : decode xb_Z_system 101 = .ok (.iload 6, 2) := by decide +kernel
theorem xd_Z_system_103 : decode xb_Z_system 103 = .ok (.bipush 17, 2) := by decide +kernel
theorem xd_Z_system_105 : decode xb_Z_system 105 = .ok (.if_icmp .eq 10, 3) := by decide +kernel
theorem xd_Z_system_108 : decode xb_Z_system 108 = .ok (.iload 6, 2) := by decide +kernel
theorem xd_Z_system_110 : decode xb_Z_system 110 = .ok (.bipush 49, 2) := by decide +kernel
theorem xd_Z_system_112 : decode xb_Z_system 112 = .ok (.if_icmp .ne 25, 3) := by decide +kernel
theorem xd_Z_system_115 : decode xb_Z_system 115 = .ok (.aload_n 0, 1) := by decide +kernel
theorem xd_Z_system_116 : decode xb_Z_system 116 = .ok (.getfield 18, 3) := by decide +kernel
theorem xd_Z_system_119 : decode xb_Z_system 119 = .ok (.iconst 1, 1) := by decide +kernel
theorem xd_Z_system_120 : decode xb_Z_system 120 = .ok (.if_icmp .eq 11, 3) := by decide +kernel
theorem xd_Z_system_123 : decode xb_Z_system 123 = .ok (.aload_n 0, 1) := by decide +kernel
theorem xd_Z_system_124 : decode xb_Z_system 124 = .ok (.iload_n 1, 1) := by decide +kernel
theorem xd_Z_system_125 : decode xb_Z_system 125 = .ok (.invokevirtual 259, 3) := by decide +kernel
theorem xd_Z_system_128 : decode xb_Z_system 128 = .ok (.ifCond .eq 7, 3) := by decide +kernel
theorem xd_Z_system_131 : decode xb_Z_system 131 = .ok (.iconst 1, 1) := by decide +kernel
theorem xd_Z_system_132 : decode xb_Z_system 132 = .ok (.goto 4, 3) := by decide +kernel
theorem xd_Z_system_135 : decode xb_Z_system 135 = .ok (.iconst 0, 1) := by decide +kernel
theorem xd_Z_system_136 : decode xb_Z_system 136 = .ok (.ireturn, 1) := by decide +kernel
theorem xd_Z_system_137 : decode xb_Z_system 137 = .ok (.iload_n 1, 1) := by decide +kernel
theorem xd_Z_system_138 : decode xb_Z_system 138 = .ok (.bipush 15, 2) := by decide +kernel
theorem xd_Z_system_140 : decode xb_Z_system 140 = .ok (.ishr, 1) := by decide +kernel
theorem xd_Z_system_141 : decode xb_Z_system 141 = .ok (.bipush 31, 2) := by decide +kernel
theorem xd_Z_system_143 : decode xb_Z_system 143 = .ok (.iand, 1) := by decide +kernel
theorem xd_Z_system_144 : decode xb_Z_system 144 = .ok (.ifCond .eq 9, 3) := by decide +kernel
theorem xd_Z_system_147 : decode xb_Z_system 147 = .ok (.aload_n 0, 1) := by decide +kernel
theorem xd_Z_system_148 : decode xb_Z_system 148 = .ok (.iload_n 1, 1) := by decide +kernel
theorem xd_Z_system_149 : decode xb_Z_system 149 = .ok (.invokevirtual 195, 3) := by decide +kernel
theorem xd_Z_system_152 : decode xb_Z_system 152 = .ok (.ireturn, 1) := by decide +kernel
theorem xd_Z_system_153 : decode xb_Z_system 153 = .ok (.iload 7, 2) := by decide +kernel
theorem xd_Z_system_155 : decode xb_Z_system 155 = .ok (.ifCond .ne 8, 3) := by decide +kernel
theorem xd_Z_system_158 : decode xb_Z_system 158 = .ok (.aload_n 0, 1) := by decide +kernel
theorem xd_Z_system_159 : decode xb_Z_system 159 = .ok (.invokevirtual 262, 3) := by decide +kernel
theorem xd_Z_system_162 : decode xb_Z_system 162 = .ok (.ireturn, 1) := by decide +kernel
theorem xd_Z_system_163 : decode xb_Z_system 163 = .ok (.iload 7, 2) := by decide +kernel
theorem xd_Z_system_165 : decode xb_Z_system 165 = .ok (.iconst 1, 1) := by decide +kernel
theorem xd_Z_system_166 : decode xb_Z_system 166 = .ok (.if_icmp .ne 17, 3) := by decide +kernel
theorem xd_Z_system_169 : decode xb_Z_system 169 = .ok (.aload_n 0, 1) := by decide +kernel
theorem xd_Z_system_170 : decode xb_Z_system 170 = .ok (.iconst 3, 1) := by decide +kernel
theorem xd_Z_system_171 : decode xb_Z_system 171 = .ok (.aload_n 0, 1) := by decide +kernel
theorem xd_Z_system_172 : decode xb_Z_system 172 = .ok (.getfield 14, 3) := by decide +kernel
theorem xd_Z_system_175 : decode xb_Z_system 175 = .ok (.aload_n 0, 1) := by decide +kernel
theorem xd_Z_system_176 : decode xb_Z_system 176 = .ok (.invokevirtual 96, 3) := by decide +kernel
theorem xd_Z_system_179 : decode xb_Z_system 179 = .ok (.invokevirtual 121, 3) := by decide +kernel
theorem xd_Z_system_182 : decode xb_Z_system 182 = .ok (.ireturn, 1) := by decide +kernel
theorem xd_Z_system_183 : decode xb_Z_system 183 = .ok (.iload 7, 2) := by decide +kernel
theorem xd_Z_system_185 : decode xb_Z_system 185 = .ok (.sipush 258, 3) := by decide +kernel
theorem xd_Z_system_188 : decode xb_Z_system 188 = .ok (.if_icmp .ne 57, 3) := by decide +kernel
theorem xd_Z_system_191 : decode xb_Z_system 191 = .ok (.aload_n 0, 1) := by decide +kernel
theorem xd_Z_system_192 : decode xb_Z_system 192 = .ok (.getfield 18, 3) := by decide +kernel
theorem xd_Z_system_195 : decode xb_Z_system 195 = .ok (.iconst 1, 1) := by decide +kernel
theorem xd_Z_system_196 : decode xb_Z_system 196 = .ok (.if_icmp .ne 13, 3) := by decide +kernel
theorem xd_Z_system_199 : decode xb_Z_system 199 = .ok (.aload_n 0, 1) := by decide +kernel
theorem xd_Z_system_200 : decode xb_Z_system 200 = .ok (.sipush 256, 3) := by decide +kernel
theorem xd_Z_system_203 : decode xb_Z_system 203 = .ok (.invokevirtual 265, 3) := by decide +kernel
theorem xd_Z_system_206 : decode xb_Z_system 206 = .ok (.goto 38, 3) := by decide +kernel
theorem xd_Z_system_209 : decode xb_Z_system 209 = .ok (.aload_n 0, 1) := by decide +kernel
theorem xd_Z_system_210 : decode xb_Z_system 210 = .ok (.getfield 18, 3) := by decide +kernel
theorem xd_Z_system_213 : decode xb_Z_system 213 = .ok (.iconst 3, 1) := by decide +kernel
theorem xd_Z_system_214 : decode xb_Z_system 214 = .ok (.if_icmp .ne 25, 3) := by decide +kernel
theorem xd_Z_system_217 : decode xb_Z_system 217 = .ok (.aload_n 0, 1) := by decide +kernel
theorem xd_Z_system_218 : decode xb_Z_system 218 = .ok (.sipush 1536, 3) := by decide +kernel
theorem xd_Z_system_221 : decode xb_Z_system 221 = .ok (.bipush 22, 2) := by decide +kernel
theorem xd_Z_system_223 : decode xb_Z_system 223 = .ok (.invokevirtual 74, 3) := by decide +kernel
theorem xd_Z_system_226 : decode xb_Z_system 226 = .ok (.ifCond .ne 13, 3) := by decide +kernel
theorem xd_Z_system_229 : decode xb_Z_system 229 = .ok (.aload_n 0, 1) := by decide +kernel
theorem xd_Z_system_230 : decode xb_Z_system 230 = .ok (.sipush 512, 3) := by decide +kernel
theorem xd_Z_system_233 : decode xb_Z_system 233 = .ok (.invokevirtual 265, 3) := by decide +kernel
theorem xd_Z_system_236 : decode xb_Z_system 236 = .ok (.goto 8, 3) := by decide +kernel
theorem xd_Z_system_239 : decode xb_Z_system 239 = .ok (.aload_n 0, 1) := by decide +kernel
theorem xd_Z_system_240 : decode xb_Z_system 240 = .ok (.iload_n 1, 1) := by decide +kernel
theorem xd_Z_system_241 : decode xb_Z_system 241 = .ok (.invokevirtual 259, 3) := by decide +kernel
theorem xd_Z_system_244 : decode xb_Z_system 244 = .ok (.ireturn, 1) := by decide +kernel
theorem xd_Z_system_245 : decode xb_Z_system 245 = .ok (.iload 7, 2) := by decide +kernel
theorem xd_Z_system_247 : decode xb_Z_system 247 = .ok (.sipush 261, 3) := by decide +kernel
theorem xd_Z_system_250 : decode xb_Z_system 250 = .ok (.if_icmp .ne 45, 3) := by decide +kernel
theorem xd_Z_system_253 : decode xb_Z_system 253 = .ok (.aload_n 0, 1) := by decide +kernel
theorem xd_Z_system_254 : decode xb_Z_system 254 = .ok (.getfield 18, 3) := by decide +kernel
theorem xd_Z_system_257 : decode xb_Z_system 257 = .ok (.iconst 1, 1) := by decide +kernel
theorem xd_Z_system_258 : decode xb_Z_system 258 = .ok (.if_icmp .eq 31, 3) := by decide +kernel
theorem xd_Z_system_261 : decode xb_Z_system 261 = .ok (.aload_n 0, 1) := by decide +kernel
theorem xd_Z_system_262 : decode xb_Z_system 262 = .ok (.getfield 18, 3) := by decide +kernel
theorem xd_Z_system_265 : decode xb_Z_system 265 = .ok (.iconst 3, 1) := by decide +kernel
theorem xd_Z_system_266 : decode xb_Z_system 266 = .ok (.if_icmp .ne 15, 3) := by decide +kernel
theorem xd_Z_system_269 : decode xb_Z_system 269 = .ok (.aload_n 0, 1) := by decide +kernel
theorem xd_Z_system_270 : decode xb_Z_system 270 = .ok (.sipush 1536, 3) := by decide +kernel
theorem xd_Z_system_273 : decode xb_Z_system 273 = .ok (.bipush 21, 2) := by decide +kernel
theorem xd_Z_system_275 : decode xb_Z_system 275 = .ok (.invokevirtual 74, 3) := by decide +kernel
theorem xd_Z_system_278 : decode xb_Z_system 278 = .ok (.ifCond .eq 11, 3) := by decide +kernel
theorem xd_Z_system_281 : decode xb_Z_system 281 = .ok (.aload_n 0, 1) := by decide +kernel
theorem xd_Z_system_282 : decode xb_Z_system 282 = .ok (.iload_n 1, 1) := by decide +kernel
theorem xd_Z_system_283 : decode xb_Z_system 283 = .ok (.invokevirtual 259, 3) := by decide +kernel
theorem xd_Z_system_286 : decode xb_Z_system 286 = .ok (.ifCond .eq 7, 3) := by decide +kernel
theorem xd_Z_system_289 : decode xb_Z_system 289 = .ok (.iconst 1, 1) := by decide +kernel
theorem xd_Z_system_290 : decode xb_Z_system 290 = .ok (.goto 4, 3) := by decide +kernel
theorem xd_Z_system_293 : decode xb_Z_system 293 = .ok (.iconst 0, 1) := by decide +kernel
theorem xd_Z_system_294 : decode xb_Z_system 294 = .ok (.ireturn, 1) := by decide +kernel
theorem xd_Z_system_295 : decode xb_Z_system 295 = .ok (.aload_n 0, 1) := by decide +kernel
theorem xd_Z_system_296 : decode xb_Z_system 296 = .ok (.iload_n 1, 1) := by decide +kernel
theorem xd_Z_system_297 : decode xb_Z_system 297 = .ok (.invokevirtual 195, 3) := by decide +kernel
theorem xd_Z_system_300 : decode xb_Z_system 300 = .ok (.ireturn, 1) := by decide +kernel
theorem xd_Z_call_0 : decode xb_Z_call 0 = .ok (.aload_n 0, 1) := by decide +kernel
theorem xd_Z_call_1 : decode xb_Z_call 1 = .ok (.getfield 18, 3) := by decide +kernel
theorem xd_Z_call_4 : decode xb_Z_call 4 = .ok (.iconst 1, 1) := by decide +kernel
theorem xd_Z_call_5 : decode xb_Z_call 5 = .ok (.if_icmp .eq 25, 3) := by decide +kernel
theorem xd_Z_call_8 : decode xb_Z_call 8 = .ok (.aload_n 0, 1) := by decide +kernel
theorem xd_Z_call_9 : decode xb_Z_call 9 = .ok (.aload_n 0, 1) := by decide +kernel
theorem xd_Z_call_10 : decode xb_Z_call 10 = .ok (.getfield 18, 3) := by decide +kernel
theorem xd_Z_call_13 : decode xb_Z_call 13 = .ok (.iconst 3, 1) := by decide +kernel
theorem xd_Z_call_14 : decode xb_Z_call 14 = .ok (.if_icmp .ne 8, 3) := by decide +kernel
theorem xd_Z_call_17 : decode xb_Z_call 17 = .ok (.bipush 10, 2) := by decide +kernel
theorem xd_Z_call_19 : decode xb_Z_call 19 = .ok (.goto 5, 3) := by decide +kernel
theorem xd_Z_call_22 : decode xb_Z_call 22 = .ok (.bipush 8, 2) := by decide +kernel
theorem xd_Z_call_24 : decode xb_Z_call 24 = .ok (.iconst 0, 1) := by decide +kernel
theorem xd_Z_call_25 : decode xb_Z_call 25 = .ok (.iconst 0, 1) := by decide +kernel
theorem xd_Z_call_26 : decode xb_Z_call 26 = .ok (.invokevirtual 121, 3) := by decide +kernel
theorem xd_Z_call_29 : decode xb_Z_call 29 = .ok (.ireturn, 1) := by decide +kernel
theorem xd_Z_call_30 : decode xb_Z_call 30 = .ok (.aload_n 0, 1) := by decide +kernel
theorem xd_Z_call_31 : decode xb_Z_call 31 = .ok (.getfield 8, 3) := by decide +kernel
theorem xd_Z_call_34 : decode xb_Z_call 34 = .ok (.bipush 17, 2) := by decide +kernel
theorem xd_Z_call_36 : decode xb_Z_call 36 = .ok (.iaload, 1) := by decide +kernel
theorem xd_Z_call_37 : decode xb_Z_call 37 = .ok (.istore_n 1, 1) := by decide +kernel
theorem xd_Z_call_38 : decode xb_Z_call 38 = .ok (.iconst 0, 1) := by decide +kernel
theorem xd_Z_call_39 : decode xb_Z_call 39 = .ok (.istore_n 2, 1) := by decide +kernel
theorem xd_Z_call_40 : decode xb_Z_call 40 = .ok (.iload_n 1, 1) := by decide +kernel
theorem xd_Z_call_41 : decode xb_Z_call 41 = .ok (.ifCond .ne 57, 3) := by decide +kernel
theorem xd_Z_call_44 : decode xb_Z_call 44 = .ok (.aload_n 0, 1) := by decide +kernel
theorem xd_Z_call_45 : decode xb_Z_call 45 = .ok (.aload_n 0, 1) := by decide +kernel
theorem xd_Z_call_46 : decode xb_Z_call 46 = .ok (.getfield 8, 3) := by decide +kernel
theorem xd_Z_call_49 : decode xb_Z_call 49 = .ok (.bipush 11, 2) := by decide +kernel
theorem xd_Z_call_51 : decode xb_Z_call 51 = .ok (.iaload, 1) := by decide +kernel
theorem xd_Z_call_52 : decode xb_Z_call 52 = .ok (.i2l, 1) := by decide +kernel
theorem xd_Z_call_53 : decode xb_Z_call 53 = .ok (.bipush 32, 2) := by decide +kernel
theorem xd_Z_call_55 : decode xb_Z_call 55 = .ok (.lshl, 1) := by decide +kernel
theorem xd_Z_call_56 : decode xb_Z_call 56 = .ok (.aload_n 0, 1) := by decide +kernel
theorem xd_Z_call_57 : decode xb_Z_call 57 = .ok (.getfield 8, 3) := by decide +kernel
theorem xd_Z_call_60 : decode xb_Z_call 60 = .ok (.bipush 10, 2) := by decide +kernel
theorem xd_Z_call_62 : decode xb_Z_call 62 = .ok (.iaload, 1) := by decide +kernel
theorem xd_Z_call_63 : decode xb_Z_call 63 = .ok (.i2l, 1) := by decide +kernel
theorem xd_Z_call_64 : decode xb_Z_call 64 = .ok (.ldc2_w 68, 3) := by decide +kernel
theorem xd_Z_call_67 : decode xb_Z_call 67 = .ok (.land, 1) := by decide +kernel
theorem xd_Z_call_68 : decode xb_Z_call 68 = .ok (.lor, 1) := by decide +kernel
theorem xd_Z_call_69 : decode xb_Z_call 69 = .ok (.putfield 27, 3) := by decide +kernel
theorem xd_Z_call_72 : decode xb_Z_call 72 = .ok (.aload_n 0, 1) := by decide +kernel
theorem xd_Z_call_73 : decode xb_Z_call 73 = .ok (.aload_n 0, 1) := by decide +kernel
theorem xd_Z_call_74 : decode xb_Z_call 74 = .ok (.getfield 27, 3) := by decide +kernel
theorem xd_Z_call_77 : decode xb_Z_call 77 = .ok (.lconst 0, 1) := by decide +kernel
theorem xd_Z_call_78 : decode xb_Z_call 78 = .ok (.lcmp, 1) := by decide +kernel
theorem xd_Z_call_79 : decode xb_Z_call 79 = .ok (.ifCond .ge 9, 3) := by decide +kernel
theorem xd_Z_call_82 : decode xb_Z_call 82 = .ok (.ldc2_w 25, 3) := by decide +kernel
theorem xd_Z_call_85 : decode xb_Z_call 85 = .ok (.goto 7, 3) := by decide +kernel
theorem xd_Z_call_88 : decode xb_Z_call 88 = .ok (.aload_n 0, 1) := by decide +kernel
theorem xd_Z_call_89 : decode xb_Z_call 89 = .ok (.getfield 27, 3) := by decide +kernel
theorem xd_Z_call_92 : decode xb_Z_call 92 = .ok (.putfield 27, 3) := by decide +kernel
theorem xd_Z_call_95 : decode xb_Z_call 95 = .ok (.goto 68, 3) := by decide +kernel
theorem xd_Z_call_98 : decode xb_Z_call 98 = .ok (.iload_n 1, 1) := by decide +kernel
theorem xd_Z_call_99 : decode xb_Z_call 99 = .ok (.iconst 1, 1) := by decide +kernel
theorem xd_Z_call_100 : decode xb_Z_call 100 = .ok (.if_icmp .ne 46, 3) := by decide +kernel
theorem xd_Z_call_103 : decode xb_Z_call 103 = .ok (.aload_n 0, 1) := by decide +kernel
theorem xd_Z_call_104 : decode xb_Z_call 104 = .ok (.getfield 37, 3) := by decide +kernel
theorem xd_Z_call_107 : decode xb_Z_call 107 = .ok (.sipush 4096, 3) := by decide +kernel
theorem xd_Z_call_110 : decode xb_Z_call 110 = .ok (.if_icmp .ge 53, 3) := by decide +kernel
theorem xd_Z_call_113 : decode xb_Z_call 113 = .ok (.aload_n 0, 1) := by decide +kernel
theorem xd_Z_call_114 : decode xb_Z_call 114 = .ok (.getfield 268, 3) := by decide +kernel
theorem xd_Z_call_117 : decode xb_Z_call 117 = .ok (.aload_n 0, 1) := by decide +kernel
theorem xd_Z_call_118 : decode xb_Z_call 118 = .ok (.getfield 37, 3) := by decide +kernel
theorem xd_Z_call_121 : decode xb_Z_call 121 = .ok (.aload_n 0, 1) := by decide +kernel
theorem xd_Z_call_122 : decode xb_Z_call 122 = .ok (.getfield 8, 3) := by decide +kernel
theorem xd_Z_call_125 : decode xb_Z_call 125 = .ok (.bipush 10, 2) := by decide +kernel
theorem xd_Z_call_127 : decode xb_Z_call 127 = .ok (.iaload, 1) := by decide +kernel
theorem xd_Z_call_128 : decode xb_Z_call 128 = .ok (.sipush 255, 3) := by decide +kernel
theorem xd_Z_call_131 : decode xb_Z_call 131 = .ok (.iand, 1) := by decide +kernel
theorem xd_Z_call_132 : decode xb_Z_call 132 = .ok (.iastore, 1) := by decide +kernel
theorem xd_Z_call_133 : decode xb_Z_call 133 = .ok (.aload_n 0, 1) := by decide +kernel
theorem xd_Z_call_134 : decode xb_Z_call 134 = .ok (.dup, 1) := by decide +kernel
theorem xd_Z_call_135 : decode xb_Z_call 135 = .ok (.getfield 37, 3) := by decide +kernel
theorem xd_Z_call_138 : decode xb_Z_call 138 = .ok (.iconst 1, 1) := by decide +kernel
theorem xd_Z_call_139 : decode xb_Z_call 139 = .ok (.iadd, 1) := by decide +kernel
theorem xd_Z_call_140 : decode xb_Z_call 140 = .ok (.putfield 37, 3) := by decide +kernel
theorem xd_Z_call_143 : decode xb_Z_call 143 = .ok (.goto 20, 3) := by decide +kernel
theorem xd_Z_call_146 : decode xb_Z_call 146 = .ok (.iload_n 1, 1) := by decide +kernel
theorem xd_Z_call_147 : decode xb_Z_call 147 = .ok (.bipush 8, 2) := by decide +kernel
theorem xd_Z_call_149 : decode xb_Z_call 149 = .ok (.if_icmp .ne 11, 3) := by decide +kernel
theorem xd_Z_call_152 : decode xb_Z_call 152 = .ok (.aload_n 0, 1) := by decide +kernel
theorem xd_Z_call_153 : decode xb_Z_call 153 = .ok (.iconst 1, 1) := by decide +kernel
theorem xd_Z_call_154 : decode xb_Z_call 154 = .ok (.putfield 34, 3) := by decide +kernel
theorem xd_Z_call_157 : decode xb_Z_call 157 = .ok (.goto 6, 3) := by decide +kernel
theorem xd_Z_call_160 : decode xb_Z_call 160 = .ok (.bipush (-2), 2) := by decide +kernel
theorem xd_Z_call_162 : decode xb_Z_call 162 = .ok (.istore_n 2, 1) := by decide +kernel
theorem xd_Z_call_163 : decode xb_Z_call 163 = .ok (.aload_n 0, 1) := by decide +kernel
theorem xd_Z_call_164 : decode xb_Z_call 164 = .ok (.bipush 10, 2) := by decide +kernel
theorem xd_Z_call_166 : decode xb_Z_call 166 = .ok (.iload_n 2, 1) := by decide +kernel
theorem xd_Z_call_167 : decode xb_Z_call 167 = .ok (.invokevirtual 185, 3) := by decide +kernel
theorem xd_Z_call_170 : decode xb_Z_call 170 = .ok (.ireturn, 1) := by decide +kernel
theorem xd_Z_back_0 : decode xb_Z_back 0 = .ok (.aload_n 0, 1) := by decide +kernel
theorem xd_Z_back_1 : decode xb_Z_back 1 = .ok (.iload_n 1, 1) := by decide +kernel
theorem xd_Z_back_2 : decode xb_Z_back 2 = .ok (.bipush 8, 2) := by decide +kernel
theorem xd_Z_back_4 : decode xb_Z_back 4 = .ok (.invokevirtual 74, 3) := by decide +kernel
theorem xd_Z_back_7 : decode xb_Z_back 7 = .ok (.istore_n 2, 1) := by decide +kernel
theorem xd_Z_back_8 : decode xb_Z_back 8 = .ok (.iload_n 1, 1) := by decide +kernel
theorem xd_Z_back_9 : decode xb_Z_back 9 = .ok (.sipush 512, 3) := by decide +kernel
theorem xd_Z_back_12 : decode xb_Z_back 12 = .ok (.if_icmp .eq 15, 3) := by decide +kernel
theorem xd_Z_back_15 : decode xb_Z_back 15 = .ok (.aload_n 0, 1) := by decide +kernel
theorem xd_Z_back_16 : decode xb_Z_back 16 = .ok (.sipush 1536, 3) := by decide +kernel
theorem xd_Z_back_19 : decode xb_Z_back 19 = .ok (.bipush 7, 2) := by decide +kernel
theorem xd_Z_back_21 : decode xb_Z_back 21 = .ok (.invokevirtual 74, 3) := by decide +kernel
theorem xd_Z_back_24 : decode xb_Z_back 24 = .ok (.ifCond .eq 7, 3) := by decide +kernel
theorem xd_Z_back_27 : decode xb_Z_back 27 = .ok (.iconst 1, 1) := by decide +kernel
theorem xd_Z_back_28 : decode xb_Z_back 28 = .ok (.goto 4, 3) := by decide +kernel
theorem xd_Z_back_31 : decode xb_Z_back 31 = .ok (.iconst 0, 1) := by decide +kernel
theorem xd_Z_back_32 : decode xb_Z_back 32 = .ok (.istore_n 3, 1) := by decide +kernel
theorem xd_Z_back_33 : decode xb_Z_back 33 = .ok (.aload_n 0, 1) := by decide +kernel
theorem xd_Z_back_34 : decode xb_Z_back 34 = .ok (.aload_n 0, 1) := by decide +kernel
theorem xd_Z_back_35 : decode xb_Z_back 35 = .ok (.iload_n 1, 1) := by decide +kernel
theorem xd_Z_back_36 : decode xb_Z_back 36 = .ok (.bipush 65, 2) := by decide +kernel
theorem xd_Z_back_38 : decode xb_Z_back 38 = .ok (.iadd, 1) := by decide +kernel
theorem xd_Z_back_39 : decode xb_Z_back 39 = .ok (.invokevirtual 56, 3) := by decide +kernel
theorem xd_Z_back_42 : decode xb_Z_back 42 = .ok (.putfield 182, 3) := by decide +kernel
theorem xd_Z_back_45 : decode xb_Z_back 45 = .ok (.aload_n 0, 1) := by decide +kernel
theorem xd_Z_back_46 : decode xb_Z_back 46 = .ok (.iload_n 1, 1) := by decide +kernel
theorem xd_Z_back_47 : decode xb_Z_back 47 = .ok (.iconst 1, 1) := by decide +kernel
theorem xd_Z_back_48 : decode xb_Z_back 48 = .ok (.aload_n 0, 1) := by decide +kernel
theorem xd_Z_back_49 : decode xb_Z_back 49 = .ok (.iload_n 1, 1) := by decide +kernel
theorem xd_Z_back_50 : decode xb_Z_back 50 = .ok (.iconst 5, 1) := by decide +kernel
theorem xd_Z_back_51 : decode xb_Z_back 51 = .ok (.invokevirtual 74, 3) := by decide +kernel
theorem xd_Z_back_54 : decode xb_Z_back 54 = .ok (.invokevirtual 70, 3) := by decide +kernel
theorem xd_Z_back_57 : decode xb_Z_back 57 = .ok (.aload_n 0, 1) := by decide +kernel
theorem xd_Z_back_58 : decode xb_Z_back 58 = .ok (.iload_n 1, 1) := by decide +kernel
theorem xd_Z_back_59 : decode xb_Z_back 59 = .ok (.iconst 5, 1) := by decide +kernel
theorem xd_Z_back_60 : decode xb_Z_back 60 = .ok (.iconst 1, 1) := by decide +kernel
theorem xd_Z_back_61 : decode xb_Z_back 61 = .ok (.invokevirtual 70, 3) := by decide +kernel
theorem xd_Z_back_64 : decode xb_Z_back 64 = .ok (.aload_n 0, 1) := by decide +kernel
theorem xd_Z_back_65 : decode xb_Z_back 65 = .ok (.iload_n 1, 1) := by decide +kernel
theorem xd_Z_back_66 : decode xb_Z_back 66 = .ok (.bipush 8, 2) := by decide +kernel
theorem xd_Z_back_68 : decode xb_Z_back 68 = .ok (.iconst 0, 1) := by decide +kernel
theorem xd_Z_back_69 : decode xb_Z_back 69 = .ok (.invokevirtual 70, 3) := by decide +kernel
theorem xd_Z_back_72 : decode xb_Z_back 72 = .ok (.iload_n 1, 1) := by decide +kernel
theorem xd_Z_back_73 : decode xb_Z_back 73 = .ok (.sipush 256, 3) := by decide +kernel
theorem xd_Z_back_76 : decode xb_Z_back 76 = .ok (.if_icmp .ne 13, 3) := by decide +kernel
theorem xd_Z_back_79 : decode xb_Z_back 79 = .ok (.aload_n 0, 1) := by decide +kernel
theorem xd_Z_back_80 : decode xb_Z_back 80 = .ok (.sipush 1536, 3) := by decide +kernel
theorem xd_Z_back_83 : decode xb_Z_back 83 = .ok (.bipush 7, 2) := by decide +kernel
theorem xd_Z_back_85 : decode xb_Z_back 85 = .ok (.iconst 0, 1) := by decide +kernel
theorem xd_Z_back_86 : decode xb_Z_back 86 = .ok (.invokevirtual 70, 3) := by decide +kernel
theorem xd_Z_back_89 : decode xb_Z_back 89 = .ok (.aload_n 0, 1) := by decide +kernel
theorem xd_Z_back_90 : decode xb_Z_back 90 = .ok (.iload_n 3, 1) := by decide +kernel
theorem xd_Z_back_91 : decode xb_Z_back 91 = .ok (.ifCond .eq 15, 3) := by decide +kernel
theorem xd_Z_back_94 : decode xb_Z_back 94 = .ok (.iload_n 2, 1) := by decide +kernel
theorem xd_Z_back_95 : decode xb_Z_back 95 = .ok (.ifCond .eq 7, 3) := by decide +kernel
theorem xd_Z_back_98 : decode xb_Z_back 98 = .ok (.iconst 3, 1) := by decide +kernel
theorem xd_Z_back_99 : decode xb_Z_back 99 = .ok (.goto 16, 3) := by decide +kernel
theorem xd_Z_back_102 : decode xb_Z_back 102 = .ok (.iconst 2, 1) := by decide +kernel
theorem xd_Z_back_103 : decode xb_Z_back 103 = .ok (.goto 12, 3) := by decide +kernel
theorem xd_Z_back_106 : decode xb_Z_back 106 = .ok (.iload_n 2, 1) := by decide +kernel
theorem xd_Z_back_107 : decode xb_Z_back 107 = .ok (.ifCond .eq 7, 3) := by decide +kernel
theorem xd_Z_back_110 : decode xb_Z_back 110 = .ok (.iconst 1, 1) := by decide +kernel
theorem xd_Z_back_111 : decode xb_Z_back 111 = .ok (.goto 4, 3) := by decide +kernel
theorem xd_Z_back_114 : decode xb_Z_back 114 = .ok (.iconst 0, 1) := by decide +kernel
theorem xd_Z_back_115 : decode xb_Z_back 115 = .ok (.putfield 18, 3) := by decide +kernel
theorem xd_Z_back_118 : decode xb_Z_back 118 = .ok (.iconst 1, 1) := by decide +kernel
theorem xd_Z_back_119 : decode xb_Z_back 119 = .ok (.ireturn, 1) := by decide +kernel
theorem xd_Z_control_0 : decode xb_Z_control 0 = .ok (.iload_n 1, 1) := by decide +kernel
theorem xd_Z_control_1 : decode xb_Z_control 1 = .ok (.bipush 20, 2) := by decide +kernel
theorem xd_Z_control_3 : decode xb_Z_control 3 = .ok (.iushr, 1) := by decide +kernel
theorem xd_Z_control_4 : decode xb_Z_control 4 = .ok (.istore 5, 2) := by decide +kernel
theorem xd_Z_control_6 : decode xb_Z_control 6 = .ok (.iload_n 1, 1) := by decide +kernel
theorem xd_Z_control_7 : decode xb_Z_control 7 = .ok (.bipush 15, 2) := by decide +kernel
theorem xd_Z_control_9 : decode xb_Z_control 9 = .ok (.ishr, 1) := by decide +kernel
theorem xd_Z_control_10 : decode xb_Z_control 10 = .ok (.bipush 31, 2) := by decide +kernel
theorem xd_Z_control_12 : decode xb_Z_control 12 = .ok (.iand, 1) := by decide +kernel
theorem xd_Z_control_13 : decode xb_Z_control 13 = .ok (.istore 6, 2) := by decide +kernel
theorem xd_Z_control_15 : decode xb_Z_control 15 = .ok (.iload_n 3, 1) := by decide +kernel
theorem xd_Z_control_16 : decode xb_Z_control 16 = .ok (.iconst 4, 1) := by decide +kernel
theorem xd_Z_control_17 : decode xb_Z_control 17 = .ok (.if_icmp .le 8, 3) := by decide +kernel
theorem xd_Z_control_20 : decode xb_Z_control 20 = .ok (.iload 6, 2) := by decide +kernel
theorem xd_Z_control_22 : decode xb_Z_control 22 = .ok (.goto 5, 3) := by decide +kernel
theorem xd_Z_control_25 : decode xb_Z_control 25 = .ok (.iload 4, 2) := by decide +kernel
theorem xd_Z_control_27 : decode xb_Z_control 27 = .ok (.istore 7, 2) := by decide +kernel
theorem xd_Z_control_29 : decode xb_Z_control 29 = .ok (.iload_n 3, 1) := by decide +kernel
theorem xd_Z_control_30 : decode xb_Z_control 30 = .ok (.iconst 4, 1) := by decide +kernel
theorem xd_Z_control_31 : decode xb_Z_control 31 = .ok (.irem, 1) := by decide +kernel
theorem xd_Z_control_32 : decode xb_Z_control 32 = .ok (.iconst 1, 1) := by decide +kernel
theorem xd_Z_control_33 : decode xb_Z_control 33 = .ok (.if_icmp .eq 8, 3) := by decide +kernel
theorem xd_Z_control_36 : decode xb_Z_control 36 = .ok (.iload 6, 2) := by decide +kernel
theorem xd_Z_control_38 : decode xb_Z_control 38 = .ok (.ifCond .eq 7, 3) := by decide +kernel
theorem xd_Z_control_41 : decode xb_Z_control 41 = .ok (.iconst 1, 1) := by decide +kernel
theorem xd_Z_control_42 : decode xb_Z_control 42 = .ok (.goto 4, 3) := by decide +kernel
theorem xd_Z_control_45 : decode xb_Z_control 45 = .ok (.iconst 0, 1) := by decide +kernel
theorem xd_Z_control_46 : decode xb_Z_control 46 = .ok (.istore 8, 2) := by decide +kernel
theorem xd_Z_control_48 : decode xb_Z_control 48 = .ok (.aload_n 0, 1) := by decide +kernel
theorem xd_Z_control_49 : decode xb_Z_control 49 = .ok (.iload 5, 2) := by decide +kernel
theorem xd_Z_control_51 : decode xb_Z_control 51 = .ok (.iload 8, 2) := by decide +kernel
theorem xd_Z_control_53 : decode xb_Z_control 53 = .ok (.invokevirtual 271, 3) := by decide +kernel
theorem xd_Z_control_56 : decode xb_Z_control 56 = .ok (.istore 9, 2) := by decide +kernel
theorem xd_Z_control_58 : decode xb_Z_control 58 = .ok (.iload 9, 2) := by decide +kernel
theorem xd_Z_control_60 : decode xb_Z_control 60 = .ok (.ifCond .le 12, 3) := by decide +kernel
theorem xd_Z_control_63 : decode xb_Z_control 63 = .ok (.aload_n 0, 1) := by decide +kernel
theorem xd_Z_control_64 : decode xb_Z_control 64 = .ok (.iload 9, 2) := by decide +kernel
theorem xd_Z_control_66 : decode xb_Z_control 66 = .ok (.iload_n 1, 1) := by decide +kernel
theorem xd_Z_control_67 : decode xb_Z_control 67 = .ok (.iconst 0, 1) := by decide +kernel
theorem xd_Z_control_68 : decode xb_Z_control 68 = .ok (.invokevirtual 121, 3) := by decide +kernel
theorem xd_Z_control_71 : decode xb_Z_control 71 = .ok (.ireturn, 1) := by decide +kernel
theorem xd_Z_control_72 : decode xb_Z_control 72 = .ok (.aload_n 0, 1) := by decide +kernel
theorem xd_Z_control_73 : decode xb_Z_control 73 = .ok (.getfield 18, 3) := by decide +kernel
theorem xd_Z_control_76 : decode xb_Z_control 76 = .ok (.iconst 3, 1) := by decide +kernel
theorem xd_Z_control_77 : decode xb_Z_control 77 = .ok (.if_icmp .ne 20, 3) := by decide +kernel
theorem xd_Z_control_80 : decode xb_Z_control 80 = .ok (.iload 5, 2) := by decide +kernel
theorem xd_Z_control_82 : decode xb_Z_control 82 = .ok (.sipush 512, 3) := by decide +kernel
theorem xd_Z_control_85 : decode xb_Z_control 85 = .ok (.if_icmp .ge 12, 3) := by decide +kernel
theorem xd_Z_control_88 : decode xb_Z_control 88 = .ok (.iload 5, 2) := by decide +kernel
theorem xd_Z_control_90 : decode xb_Z_control 90 = .ok (.sipush 256, 3) := by decide +kernel
theorem xd_Z_control_93 : decode xb_Z_control 93 = .ok (.iadd, 1) := by decide +kernel
theorem xd_Z_control_94 : decode xb_Z_control 94 = .ok (.goto 5, 3) := by decide +kernel
theorem xd_Z_control_97 : decode xb_Z_control 97 = .ok (.iload 5, 2) := by decide +kernel
theorem xd_Z_control_99 : decode xb_Z_control 99 = .ok (.istore 10, 2) := by decide +kernel
theorem xd_Z_control_101 : decode xb_Z_control 101 = .ok (.aload_n 0, 1) := by decide +kernel
theorem xd_Z_control_102 : decode xb_Z_control 102 = .ok (.iload 10, 2) := by decide +kernel
theorem xd_Z_control_104 : decode xb_Z_control 104 = .ok (.invokevirtual 109, 3) := by decide +kernel
theorem xd_Z_control_107 : decode xb_Z_control 107 = .ok (.istore 11, 2) := by decide +kernel
theorem xd_Z_control_109 : decode xb_Z_control 109 = .ok (.iload 8, 2) := by decide +kernel
theorem xd_Z_control_111 : decode xb_Z_control 111 = .ok (.ifCond .eq 43, 3) := by decide +kernel
theorem xd_Z_control_114 : decode xb_Z_control 114 = .ok (.aload_n 0, 1) := by decide +kernel
theorem xd_Z_control_115 : decode xb_Z_control 115 = .ok (.iload 10, 2) := by decide +kernel
theorem xd_Z_control_117 : decode xb_Z_control 117 = .ok (.iload_n 3, 1) := by decide +kernel
theorem xd_Z_control_118 : decode xb_Z_control 118 = .ok (.iconst 4, 1) := by decide +kernel
theorem xd_Z_control_119 : decode xb_Z_control 119 = .ok (.irem, 1) := by decide +kernel
theorem xd_Z_control_120 : decode xb_Z_control 120 = .ok (.iconst 1, 1) := by decide +kernel
theorem xd_Z_control_121 : decode xb_Z_control 121 = .ok (.if_icmp .ne 8, 3) := by decide +kernel
theorem xd_Z_control_124 : decode xb_Z_control 124 = .ok (.iload 7, 2) := by decide +kernel
theorem xd_Z_control_126 : decode xb_Z_control 126 = .ok (.goto 25, 3) := by decide +kernel
theorem xd_Z_control_129 : decode xb_Z_control 129 = .ok (.iload_n 3, 1) := by decide +kernel
theorem xd_Z_control_130 : decode xb_Z_control 130 = .ok (.iconst 4, 1) := by decide +kernel
theorem xd_Z_control_131 : decode xb_Z_control 131 = .ok (.irem, 1) := by decide +kernel
theorem xd_Z_control_132 : decode xb_Z_control 132 = .ok (.iconst 2, 1) := by decide +kernel
theorem xd_Z_control_133 : decode xb_Z_control 133 = .ok (.if_icmp .ne 11, 3) := by decide +kernel
theorem xd_Z_control_136 : decode xb_Z_control 136 = .ok (.iload 11, 2) := by decide +kernel
theorem xd_Z_control_138 : decode xb_Z_control 138 = .ok (.iload 7, 2) := by decide +kernel
theorem xd_Z_control_140 : decode xb_Z_control 140 = .ok (.ior, 1) := by decide +kernel
theorem xd_Z_control_141 : decode xb_Z_control 141 = .ok (.goto 10, 3) := by decide +kernel
theorem xd_Z_control_144 : decode xb_Z_control 144 = .ok (.iload 11, 2) := by decide +kernel
theorem xd_Z_control_146 : decode xb_Z_control 146 = .ok (.iload 7, 2) := by decide +kernel
theorem xd_Z_control_148 : decode xb_Z_control 148 = .ok (.iconst (-1), 1) := by decide +kernel
theorem xd_Z_control_149 : decode xb_Z_control 149 = .ok (.ixor, 1) := by decide +kernel
theorem xd_Z_control_150 : decode xb_Z_control 150 = .ok (.iand, 1) := by decide +kernel
theorem xd_Z_control_151 : decode xb_Z_control 151 = .ok (.invokevirtual 275, 3) := by decide +kernel
theorem xd_Z_control_154 : decode xb_Z_control 154 = .ok (.aload_n 0, 1) := by decide +kernel
theorem xd_Z_control_155 : decode xb_Z_control 155 = .ok (.iload_n 2, 1) := by decide +kernel
theorem xd_Z_control_156 : decode xb_Z_control 156 = .ok (.iload 11, 2) := by decide +kernel
theorem xd_Z_control_158 : decode xb_Z_control 158 = .ok (.invokevirtual 185, 3) := by decide +kernel
theorem xd_Z_control_161 : decode xb_Z_control 161 = .ok (.ireturn, 1) := by decide +kernel
theorem xd_Z_asIfVirtual_0 : decode xb_Z_asIfVirtual 0 = .ok (.iload_n 1, 1) := by decide +kernel
theorem xd_Z_asIfVirtual_1 : decode xb_Z_asIfVirtual 1 = .ok (.bipush 25, 2) := by decide +kernel
theorem xd_Z_asIfVirtual_3 : decode xb_Z_asIfVirtual 3 = .ok (.iushr, 1) := by decide +kernel
theorem xd_Z_asIfVirtual_4 : decode xb_Z_asIfVirtual 4 = .ok (.istore 5, 2) := by decide +kernel
theorem xd_Z_asIfVirtual_6 : decode xb_Z_asIfVirtual 6 = .ok (.iload_n 1, 1) := by decide +kernel
theorem xd_Z_asIfVirtual_7 : decode xb_Z_asIfVirtual 7 = .ok (.bipush 20, 2) := by decide +kernel
theorem xd_Z_asIfVirtual_9 : decode xb_Z_asIfVirtual 9 = .ok (.ishr, 1) := by decide +kernel
theorem xd_Z_asIfVirtual_10 : decode xb_Z_asIfVirtual 10 = .ok (.bipush 31, 2) := by decide +kernel
theorem xd_Z_asIfVirtual_12 : decode xb_Z_asIfVirtual 12 = .ok (.iand, 1) := by decide +kernel
theorem xd_Z_asIfVirtual_13 : decode xb_Z_asIfVirtual 13 = .ok (.istore 6, 2) := by decide +kernel
theorem xd_Z_asIfVirtual_15 : decode xb_Z_asIfVirtual 15 = .ok (.iconst 1, 1) := by decide +kernel
theorem xd_Z_asIfVirtual_16 : decode xb_Z_asIfVirtual 16 = .ok (.iload 5, 2) := by decide +kernel
theorem xd_Z_asIfVirtual_18 : decode xb_Z_asIfVirtual 18 = .ok (.bipush 48, 2) := by decide +kernel
theorem xd_Z_asIfVirtual_20 : decode xb_Z_asIfVirtual 20 = .ok (.isub, 1) := by decide +kernel
theorem xd_Z_asIfVirtual_21 : decode xb_Z_asIfVirtual 21 = .ok (.iconst 2, 1) := by decide +kernel
theorem xd_Z_asIfVirtual_22 : decode xb_Z_asIfVirtual 22 = .ok (.idiv, 1) := by decide +kernel
theorem xd_Z_asIfVirtual_23 : decode xb_Z_asIfVirtual 23 = .ok (.ishl, 1) := by decide +kernel
theorem xd_Z_asIfVirtual_24 : decode xb_Z_asIfVirtual 24 = .ok (.istore 7, 2) := by decide +kernel
theorem xd_Z_asIfVirtual_26 : decode xb_Z_asIfVirtual 26 = .ok (.iload 5, 2) := by decide +kernel
theorem xd_Z_asIfVirtual_28 : decode xb_Z_asIfVirtual 28 = .ok (.bipush 48, 2) := by decide +kernel
theorem xd_Z_asIfVirtual_30 : decode xb_Z_asIfVirtual 30 = .ok (.bipush 52, 2) := by decide +kernel
theorem xd_Z_asIfVirtual_32 : decode xb_Z_asIfVirtual 32 = .ok (.invokestatic 278, 3) := by decide +kernel
theorem xd_Z_asIfVirtual_35 : decode xb_Z_asIfVirtual 35 = .ok (.ifCond .eq 43, 3) := by decide +kernel
theorem xd_Z_asIfVirtual_38 : decode xb_Z_asIfVirtual 38 = .ok (.iload 5, 2) := by decide +kernel
theorem xd_Z_asIfVirtual_40 : decode xb_Z_asIfVirtual 40 = .ok (.iconst 2, 1) := by decide +kernel
theorem xd_Z_asIfVirtual_41 : decode xb_Z_asIfVirtual 41 = .ok (.irem, 1) := by decide +kernel
theorem xd_Z_asIfVirtual_42 : decode xb_Z_asIfVirtual 42 = .ok (.ifCond .ne 36, 3) := by decide +kernel
theorem xd_Z_asIfVirtual_45 : decode xb_Z_asIfVirtual 45 = .ok (.iload 6, 2) := by decide +kernel
theorem xd_Z_asIfVirtual_47 : decode xb_Z_asIfVirtual 47 = .ok (.ifCond .eq 27, 3) := by decide +kernel
theorem xd_Z_asIfVirtual_50 : decode xb_Z_asIfVirtual 50 = .ok (.iload 6, 2) := by decide +kernel
theorem xd_Z_asIfVirtual_52 : decode xb_Z_asIfVirtual 52 = .ok (.iconst 1, 1) := by decide +kernel
theorem xd_Z_asIfVirtual_53 : decode xb_Z_asIfVirtual 53 = .ok (.if_icmp .ne 9, 3) := by decide +kernel
theorem xd_Z_asIfVirtual_56 : decode xb_Z_asIfVirtual 56 = .ok (.iload 7, 2) := by decide +kernel
theorem xd_Z_asIfVirtual_58 : decode xb_Z_asIfVirtual 58 = .ok (.iconst 4, 1) := by decide +kernel
theorem xd_Z_asIfVirtual_59 : decode xb_Z_asIfVirtual 59 = .ok (.if_icmp .lt 15, 3) := by decide +kernel
theorem xd_Z_asIfVirtual_62 : decode xb_Z_asIfVirtual 62 = .ok (.iload 6, 2) := by decide +kernel
theorem xd_Z_asIfVirtual_64 : decode xb_Z_asIfVirtual 64 = .ok (.iconst 3, 1) := by decide +kernel
theorem xd_Z_asIfVirtual_65 : decode xb_Z_asIfVirtual 65 = .ok (.if_icmp .ne 13, 3) := by decide +kernel
theorem xd_Z_asIfVirtual_68 : decode xb_Z_asIfVirtual 68 = .ok (.iload 7, 2) := by decide +kernel
theorem xd_Z_asIfVirtual_70 : decode xb_Z_asIfVirtual 70 = .ok (.iconst 1, 1) := by decide +kernel
theorem xd_Z_asIfVirtual_71 : decode xb_Z_asIfVirtual 71 = .ok (.if_icmp .le 7, 3) := by decide +kernel
theorem xd_Z_asIfVirtual_74 : decode xb_Z_asIfVirtual 74 = .ok (.iconst 1, 1) := by decide +kernel
theorem xd_Z_asIfVirtual_75 : decode xb_Z_asIfVirtual 75 = .ok (.goto 4, 3) := by decide +kernel
theorem xd_Z_asIfVirtual_78 : decode xb_Z_asIfVirtual 78 = .ok (.iconst 0, 1) := by decide +kernel
theorem xd_Z_asIfVirtual_79 : decode xb_Z_asIfVirtual 79 = .ok (.istore 8, 2) := by decide +kernel
theorem xd_Z_asIfVirtual_81 : decode xb_Z_asIfVirtual 81 = .ok (.iload 5, 2) := by decide +kernel
theorem xd_Z_asIfVirtual_83 : decode xb_Z_asIfVirtual 83 = .ok (.bipush 49, 2) := by decide +kernel
theorem xd_Z_asIfVirtual_85 : decode xb_Z_asIfVirtual 85 = .ok (.bipush 53, 2) := by decide +kernel
theorem xd_Z_asIfVirtual_87 : decode xb_Z_asIfVirtual 87 = .ok (.invokestatic 278, 3) := by decide +kernel
theorem xd_Z_asIfVirtual_90 : decode xb_Z_asIfVirtual 90 = .ok (.ifCond .eq 19, 3) := by decide +kernel
theorem xd_Z_asIfVirtual_93 : decode xb_Z_asIfVirtual 93 = .ok (.iload 5, 2) := by decide +kernel
theorem xd_Z_asIfVirtual_95 : decode xb_Z_asIfVirtual 95 = .ok (.iconst 2, 1) := by decide +kernel
theorem xd_Z_asIfVirtual_96 : decode xb_Z_asIfVirtual 96 = .ok (.irem, 1) := by decide +kernel
theorem xd_Z_asIfVirtual_97 : decode xb_Z_asIfVirtual 97 = .ok (.iconst 1, 1) := by decide +kernel
theorem xd_Z_asIfVirtual_98 : decode xb_Z_asIfVirtual 98 = .ok (.if_icmp .ne 11, 3) := by decide +kernel
theorem xd_Z_asIfVirtual_101 : decode xb_Z_asIfVirtual 101 = .ok (.iload_n 2, 1) := by decide +kernel
theorem xd_Z_asIfVirtual_102 : decode xb_Z_asIfVirtual 102 = .ok (.ifCond .ne 7, 3) := by decide +kernel
theorem xd_Z_asIfVirtual_105 : decode xb_Z_asIfVirtual 105 = .ok (.iconst 1, 1) := by decide +kernel
theorem xd_Z_asIfVirtual_106 : decode xb_Z_asIfVirtual 106 = .ok (.goto 4, 3) := by decide +kernel
theorem xd_Z_asIfVirtual_109 : decode xb_Z_asIfVirtual 109 = .ok (.iconst 0, 1) := by decide +kernel
theorem xd_Z_asIfVirtual_110 : decode xb_Z_asIfVirtual 110 = .ok (.istore 9, 2) := by decide +kernel
theorem xd_Z_asIfVirtual_112 : decode xb_Z_asIfVirtual 112 = .ok (.iload 8, 2) := by decide +kernel
theorem xd_Z_asIfVirtual_114 : decode xb_Z_asIfVirtual 114 = .ok (.ifCond .ne 14, 3) := by decide +kernel
theorem xd_Z_asIfVirtual_117 : decode xb_Z_asIfVirtual 117 = .ok (.iload 9, 2) := by decide +kernel
theorem xd_Z_asIfVirtual_119 : decode xb_Z_asIfVirtual 119 = .ok (.ifCond .ne 9, 3) := by decide +kernel
theorem xd_Z_asIfVirtual_122 : decode xb_Z_asIfVirtual 122 = .ok (.aload_n 0, 1) := by decide +kernel
theorem xd_Z_asIfVirtual_123 : decode xb_Z_asIfVirtual 123 = .ok (.iload_n 1, 1) := by decide +kernel
theorem xd_Z_asIfVirtual_124 : decode xb_Z_asIfVirtual 124 = .ok (.invokevirtual 195, 3) := by decide +kernel
theorem xd_Z_asIfVirtual_127 : decode xb_Z_asIfVirtual 127 = .ok (.ireturn, 1) := by decide +kernel
theorem xd_Z_asIfVirtual_128 : decode xb_Z_asIfVirtual 128 = .ok (.aload_n 0, 1) := by decide +kernel
theorem xd_Z_asIfVirtual_129 : decode xb_Z_asIfVirtual 129 = .ok (.invokevirtual 96, 3) := by decide +kernel
theorem xd_Z_asIfVirtual_132 : decode xb_Z_asIfVirtual 132 = .ok (.ifCond .ne 22, 3) := by decide +kernel
theorem xd_Z_asIfVirtual_135 : decode xb_Z_asIfVirtual 135 = .ok (.aload_n 0, 1) := by decide +kernel
theorem xd_Z_asIfVirtual_136 : decode xb_Z_asIfVirtual 136 = .ok (.getfield 18, 3) := by decide +kernel
theorem xd_Z_asIfVirtual_139 : decode xb_Z_asIfVirtual 139 = .ok (.ifCond .ne 21, 3) := by decide +kernel
theorem xd_Z_asIfVirtual_142 : decode xb_Z_asIfVirtual 142 = .ok (.aload_n 0, 1) := by decide +kernel
theorem xd_Z_asIfVirtual_143 : decode xb_Z_asIfVirtual 143 = .ok (.sipush 1536, 3) := by decide +kernel
theorem xd_Z_asIfVirtual_146 : decode xb_Z_asIfVirtual 146 = .ok (.bipush 9, 2) := by decide +kernel
theorem xd_Z_asIfVirtual_148 : decode xb_Z_asIfVirtual 148 = .ok (.invokevirtual 74, 3) := by decide +kernel
theorem xd_Z_asIfVirtual_151 : decode xb_Z_asIfVirtual 151 = .ok (.ifCond .ne 9, 3) := by decide +kernel
theorem xd_Z_asIfVirtual_154 : decode xb_Z_asIfVirtual 154 = .ok (.aload_n 0, 1) := by decide +kernel
theorem xd_Z_asIfVirtual_155 : decode xb_Z_asIfVirtual 155 = .ok (.iload_n 1, 1) := by decide +kernel
theorem xd_Z_asIfVirtual_156 : decode xb_Z_asIfVirtual 156 = .ok (.invokevirtual 259, 3) := by decide +kernel
theorem xd_Z_asIfVirtual_159 : decode xb_Z_asIfVirtual 159 = .ok (.ireturn, 1) := by decide +kernel
theorem xd_Z_asIfVirtual_160 : decode xb_Z_asIfVirtual 160 = .ok (.aload_n 0, 1) := by decide +kernel
theorem xd_Z_asIfVirtual_161 : decode xb_Z_asIfVirtual 161 = .ok (.iload 8, 2) := by decide +kernel
theorem xd_Z_asIfVirtual_163 : decode xb_Z_asIfVirtual 163 = .ok (.ifCond .eq 7, 3) := by decide +kernel
theorem xd_Z_asIfVirtual_166 : decode xb_Z_asIfVirtual 166 = .ok (.iconst 1, 1) := by decide +kernel
theorem xd_Z_asIfVirtual_167 : decode xb_Z_asIfVirtual 167 = .ok (.goto 4, 3) := by decide +kernel
theorem xd_Z_asIfVirtual_170 : decode xb_Z_asIfVirtual 170 = .ok (.iconst 2, 1) := by decide +kernel
theorem xd_Z_asIfVirtual_171 : decode xb_Z_asIfVirtual 171 = .ok (.iconst 1, 1) := by decide +kernel
theorem xd_Z_asIfVirtual_172 : decode xb_Z_asIfVirtual 172 = .ok (.aload_n 0, 1) := by decide +kernel
theorem xd_Z_asIfVirtual_173 : decode xb_Z_asIfVirtual 173 = .ok (.sipush 1536, 3) := by decide +kernel
theorem xd_Z_asIfVirtual_176 : decode xb_Z_asIfVirtual 176 = .ok (.bipush 8, 2) := by decide +kernel
theorem xd_Z_asIfVirtual_178 : decode xb_Z_asIfVirtual 178 = .ok (.invokevirtual 74, 3) := by decide +kernel
theorem xd_Z_asIfVirtual_181 : decode xb_Z_asIfVirtual 181 = .ok (.ifCond .ne 7, 3) := by decide +kernel
theorem xd_Z_asIfVirtual_184 : decode xb_Z_asIfVirtual 184 = .ok (.iconst 1, 1) := by decide +kernel
theorem xd_Z_asIfVirtual_185 : decode xb_Z_asIfVirtual 185 = .ok (.goto 4, 3) := by decide +kernel
theorem xd_Z_asIfVirtual_188 : decode xb_Z_asIfVirtual 188 = .ok (.iconst 0, 1) := by decide +kernel
theorem xd_Z_asIfVirtual_189 : decode xb_Z_asIfVirtual 189 = .ok (.iload 8, 2) := by decide +kernel
theorem xd_Z_asIfVirtual_191 : decode xb_Z_asIfVirtual 191 = .ok (.ifCond .eq 13, 3) := by decide +kernel
theorem xd_Z_asIfVirtual_194 : decode xb_Z_asIfVirtual 194 = .ok (.iload 6, 2) := by decide +kernel
theorem xd_Z_asIfVirtual_196 : decode xb_Z_asIfVirtual 196 = .ok (.iconst 3, 1) := by decide +kernel
theorem xd_Z_asIfVirtual_197 : decode xb_Z_asIfVirtual 197 = .ok (.if_icmp .ne 7, 3) := by decide +kernel
theorem xd_Z_asIfVirtual_200 : decode xb_Z_asIfVirtual 200 = .ok (.iconst 1, 1) := by decide +kernel
theorem xd_Z_asIfVirtual_201 : decode xb_Z_asIfVirtual 201 = .ok (.goto 4, 3) := by decide +kernel
theorem xd_Z_asIfVirtual_204 : decode xb_Z_asIfVirtual 204 = .ok (.iconst 0, 1) := by decide +kernel
theorem xd_Z_asIfVirtual_205 : decode xb_Z_asIfVirtual 205 = .ok (.invokevirtual 226, 3) := by decide +kernel
theorem xd_Z_asIfVirtual_208 : decode xb_Z_asIfVirtual 208 = .ok (.iload 8, 2) := by decide +kernel
theorem xd_Z_asIfVirtual_210 : decode xb_Z_asIfVirtual 210 = .ok (.ifCond .eq 24, 3) := by decide +kernel
theorem xd_Z_asIfVirtual_213 : decode xb_Z_asIfVirtual 213 = .ok (.aload_n 0, 1) := by decide +kernel
theorem xd_Z_asIfVirtual_214 : decode xb_Z_asIfVirtual 214 = .ok (.iload_n 2, 1) := by decide +kernel
theorem xd_Z_asIfVirtual_215 : decode xb_Z_asIfVirtual 215 = .ok (.iload 7, 2) := by decide +kernel
theorem xd_Z_asIfVirtual_217 : decode xb_Z_asIfVirtual 217 = .ok (.iload 6, 2) := by decide +kernel
theorem xd_Z_asIfVirtual_219 : decode xb_Z_asIfVirtual 219 = .ok (.ifCond .le 7, 3) := by decide +kernel
theorem xd_Z_asIfVirtual_222 : decode xb_Z_asIfVirtual 222 = .ok (.iconst 1, 1) := by decide +kernel
theorem xd_Z_asIfVirtual_223 : decode xb_Z_asIfVirtual 223 = .ok (.goto 4, 3) := by decide +kernel
theorem xd_Z_asIfVirtual_226 : decode xb_Z_asIfVirtual 226 = .ok (.iconst 0, 1) := by decide +kernel
theorem xd_Z_asIfVirtual_227 : decode xb_Z_asIfVirtual 227 = .ok (.iload_n 3, 1) := by decide +kernel
theorem xd_Z_asIfVirtual_228 : decode xb_Z_asIfVirtual 228 = .ok (.invokevirtual 230, 3) := by decide +kernel
theorem xd_Z_asIfVirtual_231 : decode xb_Z_asIfVirtual 231 = .ok (.goto 12, 3) := by decide +kernel
theorem xd_Z_asIfVirtual_234 : decode xb_Z_asIfVirtual 234 = .ok (.aload_n 0, 1) := by decide +kernel
theorem xd_Z_asIfVirtual_235 : decode xb_Z_asIfVirtual 235 = .ok (.iload 7, 2) := by decide +kernel
theorem xd_Z_asIfVirtual_237 : decode xb_Z_asIfVirtual 237 = .ok (.iload_n 3, 1) := by decide +kernel
