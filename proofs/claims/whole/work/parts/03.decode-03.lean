theorem xd_Z_due_132 : decode xb_Z_due 132 = .ok (.iconst (-1), 1) := by decide +kernel
theorem xd_Z_due_133 : decode xb_Z_due 133 = .ok (.istore 4, 2) := by decide +kernel
theorem xd_Z_due_135 : decode xb_Z_due 135 = .ok (.iload 4, 2) := by decide +kernel
theorem xd_Z_due_137 : decode xb_Z_due 137 = .ok (.ifCond .le 6, 3) := by decide +kernel
theorem xd_Z_due_140 : decode xb_Z_due 140 = .ok (.iload 4, 2) := by decide +kernel
theorem xd_Z_due_142 : decode xb_Z_due 142 = .ok (.ireturn, 1) := by decide +kernel
theorem xd_Z_due_143 : decode xb_Z_due 143 = .ok (.aload_n 0, 1) := by decide +kernel
theorem xd_Z_due_144 : decode xb_Z_due 144 = .ok (.getfield 18, 3) := by decide +kernel
theorem xd_Z_due_147 : decode xb_Z_due 147 = .ok (.iconst 2, 1) := by decide +kernel
theorem xd_Z_due_148 : decode xb_Z_due 148 = .ok (.if_icmp .eq 22, 3) := by decide +kernel
theorem xd_Z_due_151 : decode xb_Z_due 151 = .ok (.aload_n 0, 1) := by decide +kernel
theorem xd_Z_due_152 : decode xb_Z_due 152 = .ok (.getfield 18, 3) := by decide +kernel
theorem xd_Z_due_155 : decode xb_Z_due 155 = .ok (.iconst 3, 1) := by decide +kernel
theorem xd_Z_due_156 : decode xb_Z_due 156 = .ok (.if_icmp .ne 26, 3) := by decide +kernel
theorem xd_Z_due_159 : decode xb_Z_due 159 = .ok (.aload_n 0, 1) := by decide +kernel
theorem xd_Z_due_160 : decode xb_Z_due 160 = .ok (.sipush 512, 3) := by decide +kernel
theorem xd_Z_due_163 : decode xb_Z_due 163 = .ok (.iconst 1, 1) := by decide +kernel
theorem xd_Z_due_164 : decode xb_Z_due 164 = .ok (.invokevirtual 74, 3) := by decide +kernel
theorem xd_Z_due_167 : decode xb_Z_due 167 = .ok (.ifCond .eq 15, 3) := by decide +kernel
theorem xd_Z_due_170 : decode xb_Z_due 170 = .ok (.iload_n 2, 1) := by decide +kernel
theorem xd_Z_due_171 : decode xb_Z_due 171 = .ok (.aload_n 0, 1) := by decide +kernel
theorem xd_Z_due_172 : decode xb_Z_due 172 = .ok (.sipush 1539, 3) := by decide +kernel
theorem xd_Z_due_175 : decode xb_Z_due 175 = .ok (.invokevirtual 56, 3) := by decide +kernel
theorem xd_Z_due_178 : decode xb_Z_due 178 = .ok (.iand, 1) := by decide +kernel
theorem xd_Z_due_179 : decode xb_Z_due 179 = .ok (.goto 4, 3) := by decide +kernel
theorem xd_Z_due_182 : decode xb_Z_due 182 = .ok (.iconst 0, 1) := by decide +kernel
theorem xd_Z_due_183 : decode xb_Z_due 183 = .ok (.istore_n 3, 1) := by decide +kernel
theorem xd_Z_due_184 : decode xb_Z_due 184 = .ok (.iload_n 3, 1) := by decide +kernel
theorem xd_Z_due_185 : decode xb_Z_due 185 = .ok (.sipush 1024, 3) := by decide +kernel
theorem xd_Z_due_188 : decode xb_Z_due 188 = .ok (.iand, 1) := by decide +kernel
theorem xd_Z_due_189 : decode xb_Z_due 189 = .ok (.ifCond .le 8, 3) := by decide +kernel
theorem xd_Z_due_192 : decode xb_Z_due 192 = .ok (.bipush 109, 2) := by decide +kernel
theorem xd_Z_due_194 : decode xb_Z_due 194 = .ok (.goto 27, 3) := by decide +kernel
theorem xd_Z_due_197 : decode xb_Z_due 197 = .ok (.iload_n 3, 1) := by decide +kernel
theorem xd_Z_due_198 : decode xb_Z_due 198 = .ok (.iconst 4, 1) := by decide +kernel
theorem xd_Z_due_199 : decode xb_Z_due 199 = .ok (.iand, 1) := by decide +kernel
theorem xd_Z_due_200 : decode xb_Z_due 200 = .ok (.ifCond .le 8, 3) := by decide +kernel
theorem xd_Z_due_203 : decode xb_Z_due 203 = .ok (.bipush 101, 2) := by decide +kernel
theorem xd_Z_due_205 : decode xb_Z_due 205 = .ok (.goto 16, 3) := by decide +kernel
theorem xd_Z_due_208 : decode xb_Z_due 208 = .ok (.iload_n 3, 1) := by decide +kernel
theorem xd_Z_due_209 : decode xb_Z_due 209 = .ok (.bipush 64, 2) := by decide +kernel
theorem xd_Z_due_211 : decode xb_Z_due 211 = .ok (.iand, 1) := by decide +kernel
theorem xd_Z_due_212 : decode xb_Z_due 212 = .ok (.ifCond .le 8, 3) := by decide +kernel
theorem xd_Z_due_215 : decode xb_Z_due 215 = .ok (.bipush 105, 2) := by decide +kernel
theorem xd_Z_due_217 : decode xb_Z_due 217 = .ok (.goto 4, 3) := by decide +kernel
theorem xd_Z_due_220 : decode xb_Z_due 220 = .ok (.iconst (-1), 1) := by decide +kernel
theorem xd_Z_due_221 : decode xb_Z_due 221 = .ok (.ireturn, 1) := by decide +kernel
theorem xd_Z_word_0 : decode xb_Z_word 0 = .ok (.aload_n 0, 1) := by decide +kernel
theorem xd_Z_word_1 : decode xb_Z_word 1 = .ok (.getfield 2, 3) := by decide +kernel
theorem xd_Z_word_4 : decode xb_Z_word 4 = .ok (.lload_n 1, 1) := by decide +kernel
theorem xd_Z_word_5 : decode xb_Z_word 5 = .ok (.ldc2_w 107, 3) := by decide +kernel
theorem xd_Z_word_8 : decode xb_Z_word 8 = .ok (.ldiv, 1) := by decide +kernel
theorem xd_Z_word_9 : decode xb_Z_word 9 = .ok (.l2i, 1) := by decide +kernel
theorem xd_Z_word_10 : decode xb_Z_word 10 = .ok (.iaload, 1) := by decide +kernel
theorem xd_Z_word_11 : decode xb_Z_word 11 = .ok (.ireturn, 1) := by decide +kernel
theorem xd_Z_stageFault_0 : decode xb_Z_stageFault 0 = .ok (.aload_n 0, 1) := by decide +kernel
theorem xd_Z_stageFault_1 : decode xb_Z_stageFault 1 = .ok (.iload_n 1, 1) := by decide +kernel
theorem xd_Z_stageFault_2 : decode xb_Z_stageFault 2 = .ok (.iconst 2, 1) := by decide +kernel
theorem xd_Z_stageFault_3 : decode xb_Z_stageFault 3 = .ok (.if_icmp .ge 33, 3) := by decide +kernel
theorem xd_Z_stageFault_6 : decode xb_Z_stageFault 6 = .ok (.aload_n 0, 1) := by decide +kernel
theorem xd_Z_stageFault_7 : decode xb_Z_stageFault 7 = .ok (.getfield 112, 3) := by decide +kernel
theorem xd_Z_stageFault_10 : decode xb_Z_stageFault 10 = .ok (.ifCond .ne 8, 3) := by decide +kernel
theorem xd_Z_stageFault_13 : decode xb_Z_stageFault 13 = .ok (.bipush 12, 2) := by decide +kernel
theorem xd_Z_stageFault_15 : decode xb_Z_stageFault 15 = .ok (.goto 48, 3) := by decide +kernel
theorem xd_Z_stageFault_18 : decode xb_Z_stageFault 18 = .ok (.aload_n 0, 1) := by decide +kernel
theorem xd_Z_stageFault_19 : decode xb_Z_stageFault 19 = .ok (.getfield 112, 3) := by decide +kernel
theorem xd_Z_stageFault_22 : decode xb_Z_stageFault 22 = .ok (.iconst 1, 1) := by decide +kernel
theorem xd_Z_stageFault_23 : decode xb_Z_stageFault 23 = .ok (.if_icmp .ne 8, 3) := by decide +kernel
theorem xd_Z_stageFault_26 : decode xb_Z_stageFault 26 = .ok (.bipush 13, 2) := by decide +kernel
theorem xd_Z_stageFault_28 : decode xb_Z_stageFault 28 = .ok (.goto 35, 3) := by decide +kernel
theorem xd_Z_stageFault_31 : decode xb_Z_stageFault 31 = .ok (.bipush 15, 2) := by decide +kernel
theorem xd_Z_stageFault_33 : decode xb_Z_stageFault 33 = .ok (.goto 30, 3) := by decide +kernel
theorem xd_Z_stageFault_36 : decode xb_Z_stageFault 36 = .ok (.aload_n 0, 1) := by decide +kernel
theorem xd_Z_stageFault_37 : decode xb_Z_stageFault 37 = .ok (.getfield 112, 3) := by decide +kernel
theorem xd_Z_stageFault_40 : decode xb_Z_stageFault 40 = .ok (.ifCond .ne 8, 3) := by decide +kernel
theorem xd_Z_stageFault_43 : decode xb_Z_stageFault 43 = .ok (.bipush 20, 2) := by decide +kernel
theorem xd_Z_stageFault_45 : decode xb_Z_stageFault 45 = .ok (.goto 18, 3) := by decide +kernel
theorem xd_Z_stageFault_48 : decode xb_Z_stageFault 48 = .ok (.aload_n 0, 1) := by decide +kernel
theorem xd_Z_stageFault_49 : decode xb_Z_stageFault 49 = .ok (.getfield 112, 3) := by decide +kernel
theorem xd_Z_stageFault_52 : decode xb_Z_stageFault 52 = .ok (.iconst 1, 1) := by decide +kernel
theorem xd_Z_stageFault_53 : decode xb_Z_stageFault 53 = .ok (.if_icmp .ne 8, 3) := by decide +kernel
theorem xd_Z_stageFault_56 : decode xb_Z_stageFault 56 = .ok (.bipush 21, 2) := by decide +kernel
theorem xd_Z_stageFault_58 : decode xb_Z_stageFault 58 = .ok (.goto 5, 3) := by decide +kernel
theorem xd_Z_stageFault_61 : decode xb_Z_stageFault 61 = .ok (.bipush 23, 2) := by decide +kernel
theorem xd_Z_stageFault_63 : decode xb_Z_stageFault 63 = .ok (.aload_n 0, 1) := by decide +kernel
theorem xd_Z_stageFault_64 : decode xb_Z_stageFault 64 = .ok (.getfield 115, 3) := by decide +kernel
theorem xd_Z_stageFault_67 : decode xb_Z_stageFault 67 = .ok (.aload_n 0, 1) := by decide +kernel
theorem xd_Z_stageFault_68 : decode xb_Z_stageFault 68 = .ok (.getfield 118, 3) := by decide +kernel
theorem xd_Z_stageFault_71 : decode xb_Z_stageFault 71 = .ok (.invokevirtual 121, 3) := by decide +kernel
theorem xd_Z_stageFault_74 : decode xb_Z_stageFault 74 = .ok (.istore 5, 2) := by decide +kernel
theorem xd_Z_stageFault_76 : decode xb_Z_stageFault 76 = .ok (.aload_n 0, 1) := by decide +kernel
theorem xd_Z_stageFault_77 : decode xb_Z_stageFault 77 = .ok (.iload_n 1, 1) := by decide +kernel
theorem xd_Z_stageFault_78 : decode xb_Z_stageFault 78 = .ok (.iconst 2, 1) := by decide +kernel
theorem xd_Z_stageFault_79 : decode xb_Z_stageFault 79 = .ok (.if_icmp .ne 7, 3) := by decide +kernel
theorem xd_Z_stageFault_82 : decode xb_Z_stageFault 82 = .ok (.lload_n 2, 1) := by decide +kernel
theorem xd_Z_stageFault_83 : decode xb_Z_stageFault 83 = .ok (.goto 4, 3) := by decide +kernel
theorem xd_Z_stageFault_86 : decode xb_Z_stageFault 86 = .ok (.lconst 0, 1) := by decide +kernel
theorem xd_Z_stageFault_87 : decode xb_Z_stageFault 87 = .ok (.putfield 90, 3) := by decide +kernel
theorem xd_Z_stageFault_90 : decode xb_Z_stageFault 90 = .ok (.aload_n 0, 1) := by decide +kernel
theorem xd_Z_stageFault_91 : decode xb_Z_stageFault 91 = .ok (.iload_n 1, 1) := by decide +kernel
theorem xd_Z_stageFault_92 : decode xb_Z_stageFault 92 = .ok (.iconst 2, 1) := by decide +kernel
theorem xd_Z_stageFault_93 : decode xb_Z_stageFault 93 = .ok (.if_icmp .ne 12, 3) := by decide +kernel
theorem xd_Z_stageFault_96 : decode xb_Z_stageFault 96 = .ok (.iload 4, 2) := by decide +kernel
theorem xd_Z_stageFault_98 : decode xb_Z_stageFault 98 = .ok (.ifCond .eq 7, 3) := by decide +kernel
theorem xd_Z_stageFault_101 : decode xb_Z_stageFault 101 = .ok (.iconst 1, 1) := by decide +kernel
theorem xd_Z_stageFault_102 : decode xb_Z_stageFault 102 = .ok (.goto 4, 3) := by decide +kernel
theorem xd_Z_stageFault_105 : decode xb_Z_stageFault 105 = .ok (.iconst 0, 1) := by decide +kernel
theorem xd_Z_stageFault_106 : decode xb_Z_stageFault 106 = .ok (.putfield 93, 3) := by decide +kernel
theorem xd_Z_stageFault_109 : decode xb_Z_stageFault 109 = .ok (.ldc2_w 125, 3) := by decide +kernel
theorem xd_Z_stageFault_112 : decode xb_Z_stageFault 112 = .ok (.lreturn, 1) := by decide +kernel
theorem xd_Z_inMemory_0 : decode xb_Z_inMemory 0 = .ok (.lload_n 1, 1) := by decide +kernel
theorem xd_Z_inMemory_1 : decode xb_Z_inMemory 1 = .ok (.ldc2_w 127, 3) := by decide +kernel
theorem xd_Z_inMemory_4 : decode xb_Z_inMemory 4 = .ok (.lcmp, 1) := by decide +kernel
theorem xd_Z_inMemory_5 : decode xb_Z_inMemory 5 = .ok (.ifCond .ge 5, 3) := by decide +kernel
theorem xd_Z_inMemory_8 : decode xb_Z_inMemory 8 = .ok (.lload_n 1, 1) := by decide +kernel
theorem xd_Z_inMemory_9 : decode xb_Z_inMemory 9 = .ok (.lreturn, 1) := by decide +kernel
theorem xd_Z_inMemory_10 : decode xb_Z_inMemory 10 = .ok (.aload_n 0, 1) := by decide +kernel
theorem xd_Z_inMemory_11 : decode xb_Z_inMemory 11 = .ok (.aload_n 0, 1) := by decide +kernel
theorem xd_Z_inMemory_12 : decode xb_Z_inMemory 12 = .ok (.getfield 112, 3) := by decide +kernel
theorem xd_Z_inMemory_15 : decode xb_Z_inMemory 15 = .ok (.ifCond .ne 7, 3) := by decide +kernel
theorem xd_Z_inMemory_18 : decode xb_Z_inMemory 18 = .ok (.iconst 1, 1) := by decide +kernel
theorem xd_Z_inMemory_19 : decode xb_Z_inMemory 19 = .ok (.goto 17, 3) := by decide +kernel
theorem xd_Z_inMemory_22 : decode xb_Z_inMemory 22 = .ok (.aload_n 0, 1) := by decide +kernel
theorem xd_Z_inMemory_23 : decode xb_Z_inMemory 23 = .ok (.getfield 112, 3) := by decide +kernel
theorem xd_Z_inMemory_26 : decode xb_Z_inMemory 26 = .ok (.iconst 1, 1) := by decide +kernel
theorem xd_Z_inMemory_27 : decode xb_Z_inMemory 27 = .ok (.if_icmp .ne 7, 3) := by decide +kernel
theorem xd_Z_inMemory_30 : decode xb_Z_inMemory 30 = .ok (.iconst 5, 1) := by decide +kernel
theorem xd_Z_inMemory_31 : decode xb_Z_inMemory 31 = .ok (.goto 5, 3) := by decide +kernel
theorem xd_Z_inMemory_34 : decode xb_Z_inMemory 34 = .ok (.bipush 7, 2) := by decide +kernel
theorem xd_Z_inMemory_36 : decode xb_Z_inMemory 36 = .ok (.aload_n 0, 1) := by decide +kernel
theorem xd_Z_inMemory_37 : decode xb_Z_inMemory 37 = .ok (.getfield 115, 3) := by decide +kernel
theorem xd_Z_inMemory_40 : decode xb_Z_inMemory 40 = .ok (.aload_n 0, 1) := by decide +kernel
theorem xd_Z_inMemory_41 : decode xb_Z_inMemory 41 = .ok (.getfield 118, 3) := by decide +kernel
theorem xd_Z_inMemory_44 : decode xb_Z_inMemory 44 = .ok (.invokevirtual 121, 3) := by decide +kernel
theorem xd_Z_inMemory_47 : decode xb_Z_inMemory 47 = .ok (.istore_n 3, 1) := by decide +kernel
theorem xd_Z_inMemory_48 : decode xb_Z_inMemory 48 = .ok (.ldc2_w 125, 3) := by decide +kernel
theorem xd_Z_inMemory_51 : decode xb_Z_inMemory 51 = .ok (.lreturn, 1) := by decide +kernel
theorem xd_Z_second_0 : decode xb_Z_second 0 = .ok (.aload_n 0, 1) := by decide +kernel
theorem xd_Z_second_1 : decode xb_Z_second 1 = .ok (.sipush 1664, 3) := by decide +kernel
theorem xd_Z_second_4 : decode xb_Z_second 4 = .ok (.bipush 31, 2) := by decide +kernel
theorem xd_Z_second_6 : decode xb_Z_second 6 = .ok (.invokevirtual 74, 3) := by decide +kernel
theorem xd_Z_second_9 : decode xb_Z_second 9 = .ok (.ifCond .eq 29, 3) := by decide +kernel
theorem xd_Z_second_12 : decode xb_Z_second 12 = .ok (.aload_n 0, 1) := by decide +kernel
theorem xd_Z_second_13 : decode xb_Z_second 13 = .ok (.iconst 2, 1) := by decide +kernel
theorem xd_Z_second_14 : decode xb_Z_second 14 = .ok (.aload_n 0, 1) := by decide +kernel
theorem xd_Z_second_15 : decode xb_Z_second 15 = .ok (.sipush 1664, 3) := by decide +kernel
theorem xd_Z_second_18 : decode xb_Z_second 18 = .ok (.invokevirtual 56, 3) := by decide +kernel
theorem xd_Z_second_21 : decode xb_Z_second 21 = .ok (.i2l, 1) := by decide +kernel
theorem xd_Z_second_22 : decode xb_Z_second 22 = .ok (.ldc2_w 129, 3) := by decide +kernel
theorem xd_Z_second_25 : decode xb_Z_second 25 = .ok (.land, 1) := by decide +kernel
theorem xd_Z_second_26 : decode xb_Z_second 26 = .ok (.ldc2_w 131, 3) := by decide +kernel
theorem xd_Z_second_29 : decode xb_Z_second 29 = .ok (.lmul, 1) := by decide +kernel
theorem xd_Z_second_30 : decode xb_Z_second 30 = .ok (.lload_n 1, 1) := by decide +kernel
theorem xd_Z_second_31 : decode xb_Z_second 31 = .ok (.iload_n 3, 1) := by decide +kernel
theorem xd_Z_second_32 : decode xb_Z_second 32 = .ok (.invokevirtual 133, 3) := by decide +kernel
theorem xd_Z_second_35 : decode xb_Z_second 35 = .ok (.goto 8, 3) := by decide +kernel
theorem xd_Z_second_38 : decode xb_Z_second 38 = .ok (.aload_n 0, 1) := by decide +kernel
theorem xd_Z_second_39 : decode xb_Z_second 39 = .ok (.lload_n 1, 1) := by decide +kernel
theorem xd_Z_second_40 : decode xb_Z_second 40 = .ok (.invokevirtual 137, 3) := by decide +kernel
theorem xd_Z_second_43 : decode xb_Z_second 43 = .ok (.lreturn, 1) := by decide +kernel
theorem xd_Z_entryAt_0 : decode xb_Z_entryAt 0 = .ok (.iload_n 1, 1) := by decide +kernel
theorem xd_Z_entryAt_1 : decode xb_Z_entryAt 1 = .ok (.iconst 1, 1) := by decide +kernel
theorem xd_Z_entryAt_2 : decode xb_Z_entryAt 2 = .ok (.if_icmp .ne 12, 3) := by decide +kernel
theorem xd_Z_entryAt_5 : decode xb_Z_entryAt 5 = .ok (.aload_n 0, 1) := by decide +kernel
theorem xd_Z_entryAt_6 : decode xb_Z_entryAt 6 = .ok (.lload_n 2, 1) := by decide +kernel
theorem xd_Z_entryAt_7 : decode xb_Z_entryAt 7 = .ok (.iconst 1, 1) := by decide +kernel
theorem xd_Z_entryAt_8 : decode xb_Z_entryAt 8 = .ok (.invokevirtual 141, 3) := by decide +kernel
theorem xd_Z_entryAt_11 : decode xb_Z_entryAt 11 = .ok (.goto 8, 3) := by decide +kernel
theorem xd_Z_entryAt_14 : decode xb_Z_entryAt 14 = .ok (.aload_n 0, 1) := by decide +kernel
theorem xd_Z_entryAt_15 : decode xb_Z_entryAt 15 = .ok (.lload_n 2, 1) := by decide +kernel
theorem xd_Z_entryAt_16 : decode xb_Z_entryAt 16 = .ok (.invokevirtual 137, 3) := by decide +kernel
theorem xd_Z_entryAt_19 : decode xb_Z_entryAt 19 = .ok (.lstore 4, 2) := by decide +kernel
theorem xd_Z_entryAt_21 : decode xb_Z_entryAt 21 = .ok (.lload 4, 2) := by decide +kernel
theorem xd_Z_entryAt_23 : decode xb_Z_entryAt 23 = .ok (.lconst 0, 1) := by decide +kernel
theorem xd_Z_entryAt_24 : decode xb_Z_entryAt 24 = .ok (.lcmp, 1) := by decide +kernel
theorem xd_Z_entryAt_25 : decode xb_Z_entryAt 25 = .ok (.ifCond .ge 9, 3) := by decide +kernel
theorem xd_Z_entryAt_28 : decode xb_Z_entryAt 28 = .ok (.ldc2_w 125, 3) := by decide +kernel
theorem xd_Z_entryAt_31 : decode xb_Z_entryAt 31 = .ok (.goto 14, 3) := by decide +kernel
theorem xd_Z_entryAt_34 : decode xb_Z_entryAt 34 = .ok (.aload_n 0, 1) := by decide +kernel
theorem xd_Z_entryAt_35 : decode xb_Z_entryAt 35 = .ok (.lload 4, 2) := by decide +kernel
theorem xd_Z_entryAt_37 : decode xb_Z_entryAt 37 = .ok (.invokevirtual 145, 3) := by decide +kernel
theorem xd_Z_entryAt_40 : decode xb_Z_entryAt 40 = .ok (.i2l, 1) := by decide +kernel
theorem xd_Z_entryAt_41 : decode xb_Z_entryAt 41 = .ok (.ldc2_w 68, 3) := by decide +kernel
theorem xd_Z_entryAt_44 : decode xb_Z_entryAt 44 = .ok (.land, 1) := by decide +kernel
theorem xd_Z_entryAt_45 : decode xb_Z_entryAt 45 = .ok (.lreturn, 1) := by decide +kernel
theorem xd_Z_walk_0 : decode xb_Z_walk 0 = .ok (.lload 4, 2) := by decide +kernel
theorem xd_Z_walk_2 : decode xb_Z_walk 2 = .ok (.bipush 22, 2) := by decide +kernel
theorem xd_Z_walk_4 : decode xb_Z_walk 4 = .ok (.lshr, 1) := by decide +kernel
theorem xd_Z_walk_5 : decode xb_Z_walk 5 = .ok (.lstore 7, 2) := by decide +kernel
theorem xd_Z_walk_7 : decode xb_Z_walk 7 = .ok (.aload_n 0, 1) := by decide +kernel
theorem xd_Z_walk_8 : decode xb_Z_walk 8 = .ok (.iload_n 1, 1) := by decide +kernel
theorem xd_Z_walk_9 : decode xb_Z_walk 9 = .ok (.lload_n 2, 1) := by decide +kernel
theorem xd_Z_walk_10 : decode xb_Z_walk 10 = .ok (.ldc2_w 107, 3) := by decide +kernel
theorem xd_Z_walk_13 : decode xb_Z_walk 13 = .ok (.lload 7, 2) := by decide +kernel
theorem xd_Z_walk_15 : decode xb_Z_walk 15 = .ok (.lmul, 1) := by decide +kernel
theorem xd_Z_walk_16 : decode xb_Z_walk 16 = .ok (.ladd, 1) := by decide +kernel
theorem xd_Z_walk_17 : decode xb_Z_walk 17 = .ok (.invokevirtual 149, 3) := by decide +kernel
theorem xd_Z_walk_20 : decode xb_Z_walk 20 = .ok (.lstore 9, 2) := by decide +kernel
theorem xd_Z_walk_22 : decode xb_Z_walk 22 = .ok (.lload 9, 2) := by decide +kernel
theorem xd_Z_walk_24 : decode xb_Z_walk 24 = .ok (.lconst 0, 1) := by decide +kernel
theorem xd_Z_walk_25 : decode xb_Z_walk 25 = .ok (.lcmp, 1) := by decide +kernel
theorem xd_Z_walk_26 : decode xb_Z_walk 26 = .ok (.ifCond .ge 7, 3) := by decide +kernel
theorem xd_Z_walk_29 : decode xb_Z_walk 29 = .ok (.ldc2_w 125, 3) := by decide +kernel
theorem xd_Z_walk_32 : decode xb_Z_walk 32 = .ok (.lreturn, 1) := by decide +kernel
theorem xd_Z_walk_33 : decode xb_Z_walk 33 = .ok (.lload 9, 2) := by decide +kernel
theorem xd_Z_walk_35 : decode xb_Z_walk 35 = .ok (.ldc2_w 153, 3) := by decide +kernel
theorem xd_Z_walk_38 : decode xb_Z_walk 38 = .ok (.land, 1) := by decide +kernel
theorem xd_Z_walk_39 : decode xb_Z_walk 39 = .ok (.lconst 0, 1) := by decide +kernel
theorem xd_Z_walk_40 : decode xb_Z_walk 40 = .ok (.lcmp, 1) := by decide +kernel
theorem xd_Z_walk_41 : decode xb_Z_walk 41 = .ok (.ifCond .eq 7, 3) := by decide +kernel
theorem xd_Z_walk_44 : decode xb_Z_walk 44 = .ok (.iconst 1, 1) := by decide +kernel
theorem xd_Z_walk_45 : decode xb_Z_walk 45 = .ok (.goto 4, 3) := by decide +kernel
theorem xd_Z_walk_48 : decode xb_Z_walk 48 = .ok (.iconst 0, 1) := by decide +kernel
theorem xd_Z_walk_49 : decode xb_Z_walk 49 = .ok (.istore 11, 2) := by decide +kernel
theorem xd_Z_walk_51 : decode xb_Z_walk 51 = .ok (.iload 11, 2) := by decide +kernel
theorem xd_Z_walk_53 : decode xb_Z_walk 53 = .ok (.ifCond .ne 75, 3) := by decide +kernel
theorem xd_Z_walk_56 : decode xb_Z_walk 56 = .ok (.lload 9, 2) := by decide +kernel
theorem xd_Z_walk_58 : decode xb_Z_walk 58 = .ok (.lconst 1, 1) := by decide +kernel
theorem xd_Z_walk_59 : decode xb_Z_walk 59 = .ok (.land, 1) := by decide +kernel
theorem xd_Z_walk_60 : decode xb_Z_walk 60 = .ok (.lconst 0, 1) := by decide +kernel
theorem xd_Z_walk_61 : decode xb_Z_walk 61 = .ok (.lcmp, 1) := by decide +kernel
theorem xd_Z_walk_62 : decode xb_Z_walk 62 = .ok (.ifCond .eq 14, 3) := by decide +kernel
theorem xd_Z_walk_65 : decode xb_Z_walk 65 = .ok (.lload 9, 2) := by decide +kernel
theorem xd_Z_walk_67 : decode xb_Z_walk 67 = .ok (.ldc2_w 155, 3) := by decide +kernel
theorem xd_Z_walk_70 : decode xb_Z_walk 70 = .ok (.land, 1) := by decide +kernel
theorem xd_Z_walk_71 : decode xb_Z_walk 71 = .ok (.lconst 0, 1) := by decide +kernel
theorem xd_Z_walk_72 : decode xb_Z_walk 72 = .ok (.lcmp, 1) := by decide +kernel
theorem xd_Z_walk_73 : decode xb_Z_walk 73 = .ok (.ifCond .eq 13, 3) := by decide +kernel
theorem xd_Z_walk_76 : decode xb_Z_walk 76 = .ok (.aload_n 0, 1) := by decide +kernel
theorem xd_Z_walk_77 : decode xb_Z_walk 77 = .ok (.iload_n 1, 1) := by decide +kernel
theorem xd_Z_walk_78 : decode xb_Z_walk 78 = .ok (.lload 4, 2) := by decide +kernel
theorem xd_Z_walk_80 : decode xb_Z_walk 80 = .ok (.iload 6, 2) := by decide +kernel
theorem xd_Z_walk_82 : decode xb_Z_walk 82 = .ok (.invokevirtual 157, 3) := by decide +kernel
theorem xd_Z_walk_85 : decode xb_Z_walk 85 = .ok (.lreturn, 1) := by decide +kernel
theorem xd_Z_walk_86 : decode xb_Z_walk 86 = .ok (.aload_n 0, 1) := by decide +kernel
theorem xd_Z_walk_87 : decode xb_Z_walk 87 = .ok (.iload_n 1, 1) := by decide +kernel
theorem xd_Z_walk_88 : decode xb_Z_walk 88 = .ok (.lload 9, 2) := by decide +kernel
theorem xd_Z_walk_90 : decode xb_Z_walk 90 = .ok (.ldc2_w 161, 3) := by decide +kernel
theorem xd_Z_walk_93 : decode xb_Z_walk 93 = .ok (.ldiv, 1) := by decide +kernel
theorem xd_Z_walk_94 : decode xb_Z_walk 94 = .ok (.ldc2_w 131, 3) := by decide +kernel
theorem xd_Z_walk_97 : decode xb_Z_walk 97 = .ok (.lmul, 1) := by decide +kernel
theorem xd_Z_walk_98 : decode xb_Z_walk 98 = .ok (.ldc2_w 107, 3) := by decide +kernel
theorem xd_Z_walk_101 : decode xb_Z_walk 101 = .ok (.lload 4, 2) := by decide +kernel
theorem xd_Z_walk_103 : decode xb_Z_walk 103 = .ok (.bipush 12, 2) := by decide +kernel
theorem xd_Z_walk_105 : decode xb_Z_walk 105 = .ok (.lshr, 1) := by decide +kernel
theorem xd_Z_walk_106 : decode xb_Z_walk 106 = .ok (.ldc2_w 163, 3) := by decide +kernel
theorem xd_Z_walk_109 : decode xb_Z_walk 109 = .ok (.land, 1) := by decide +kernel
theorem xd_Z_walk_110 : decode xb_Z_walk 110 = .ok (.lmul, 1) := by decide +kernel
theorem xd_Z_walk_111 : decode xb_Z_walk 111 = .ok (.ladd, 1) := by decide +kernel
theorem xd_Z_walk_112 : decode xb_Z_walk 112 = .ok (.invokevirtual 149, 3) := by decide +kernel
theorem xd_Z_walk_115 : decode xb_Z_walk 115 = .ok (.lstore 9, 2) := by decide +kernel
theorem xd_Z_walk_117 : decode xb_Z_walk 117 = .ok (.lload 9, 2) := by decide +kernel
theorem xd_Z_walk_119 : decode xb_Z_walk 119 = .ok (.lconst 0, 1) := by decide +kernel
theorem xd_Z_walk_120 : decode xb_Z_walk 120 = .ok (.lcmp, 1) := by decide +kernel
theorem xd_Z_walk_121 : decode xb_Z_walk 121 = .ok (.ifCond .ge 7, 3) := by decide +kernel
theorem xd_Z_walk_124 : decode xb_Z_walk 124 = .ok (.ldc2_w 125, 3) := by decide +kernel
theorem xd_Z_walk_127 : decode xb_Z_walk 127 = .ok (.lreturn, 1) := by decide +kernel
theorem xd_Z_walk_128 : decode xb_Z_walk 128 = .ok (.aload_n 0, 1) := by decide +kernel
theorem xd_Z_walk_129 : decode xb_Z_walk 129 = .ok (.iload_n 1, 1) := by decide +kernel
theorem xd_Z_walk_130 : decode xb_Z_walk 130 = .ok (.lload 9, 2) := by decide +kernel
theorem xd_Z_walk_132 : decode xb_Z_walk 132 = .ok (.l2i, 1) := by decide +kernel
theorem xd_Z_walk_133 : decode xb_Z_walk 133 = .ok (.iload 6, 2) := by decide +kernel
theorem xd_Z_walk_135 : decode xb_Z_walk 135 = .ok (.invokevirtual 165, 3) := by decide +kernel
theorem xd_Z_walk_138 : decode xb_Z_walk 138 = .ok (.ifCond .eq 22, 3) := by decide +kernel
theorem xd_Z_walk_141 : decode xb_Z_walk 141 = .ok (.iload 11, 2) := by decide +kernel
theorem xd_Z_walk_143 : decode xb_Z_walk 143 = .ok (.ifCond .eq 27, 3) := by decide +kernel
theorem xd_Z_walk_146 : decode xb_Z_walk 146 = .ok (.lload 9, 2) := by decide +kernel
theorem xd_Z_walk_148 : decode xb_Z_walk 148 = .ok (.bipush 10, 2) := by decide +kernel
theorem xd_Z_walk_150 : decode xb_Z_walk 150 = .ok (.lshr, 1) := by decide +kernel
theorem xd_Z_walk_151 : decode xb_Z_walk 151 = .ok (.ldc2_w 163, 3) := by decide +kernel
theorem xd_Z_walk_154 : decode xb_Z_walk 154 = .ok (.land, 1) := by decide +kernel
theorem xd_Z_walk_155 : decode xb_Z_walk 155 = .ok (.lconst 0, 1) := by decide +kernel
theorem xd_Z_walk_156 : decode xb_Z_walk 156 = .ok (.lcmp, 1) := by decide +kernel
theorem xd_Z_walk_157 : decode xb_Z_walk 157 = .ok (.ifCond .eq 13, 3) := by decide +kernel
theorem xd_Z_walk_160 : decode xb_Z_walk 160 = .ok (.aload_n 0, 1) := by decide +kernel
theorem xd_Z_walk_161 : decode xb_Z_walk 161 = .ok (.iload_n 1, 1) := by decide +kernel
theorem xd_Z_walk_162 : decode xb_Z_walk 162 = .ok (.lload 4, 2) := by decide +kernel
theorem xd_Z_walk_164 : decode xb_Z_walk 164 = .ok (.iload 6, 2) := by decide +kernel
theorem xd_Z_walk_166 : decode xb_Z_walk 166 = .ok (.invokevirtual 157, 3) := by decide +kernel
theorem xd_Z_walk_169 : decode xb_Z_walk 169 = .ok (.lreturn, 1) := by decide +kernel
theorem xd_Z_walk_170 : decode xb_Z_walk 170 = .ok (.lload 9, 2) := by decide +kernel
theorem xd_Z_walk_172 : decode xb_Z_walk 172 = .ok (.ldc2_w 161, 3) := by decide +kernel
theorem xd_Z_walk_175 : decode xb_Z_walk 175 = .ok (.ldiv, 1) := by decide +kernel
theorem xd_Z_walk_176 : decode xb_Z_walk 176 = .ok (.lstore 12, 2) := by decide +kernel
theorem xd_Z_walk_178 : decode xb_Z_walk 178 = .ok (.iload 11, 2) := by decide +kernel
theorem xd_Z_walk_180 : decode xb_Z_walk 180 = .ok (.ifCond .eq 22, 3) := by decide +kernel
theorem xd_Z_walk_183 : decode xb_Z_walk 183 = .ok (.lload 12, 2) := by decide +kernel
theorem xd_Z_walk_185 : decode xb_Z_walk 185 = .ok (.ldc2_w 161, 3) := by decide +kernel
theorem xd_Z_walk_188 : decode xb_Z_walk 188 = .ok (.ldiv, 1) := by decide +kernel
theorem xd_Z_walk_189 : decode xb_Z_walk 189 = .ok (.bipush 22, 2) := by decide +kernel
theorem xd_Z_walk_191 : decode xb_Z_walk 191 = .ok (.lshl, 1) := by decide +kernel
theorem xd_Z_walk_192 : decode xb_Z_walk 192 = .ok (.lload 4, 2) := by decide +kernel
theorem xd_Z_walk_194 : decode xb_Z_walk 194 = .ok (.ldc2_w 168, 3) := by decide +kernel
theorem xd_Z_walk_197 : decode xb_Z_walk 197 = .ok (.land, 1) := by decide +kernel
theorem xd_Z_walk_198 : decode xb_Z_walk 198 = .ok (.ladd, 1) := by decide +kernel
theorem xd_Z_walk_199 : decode xb_Z_walk 199 = .ok (.goto 16, 3) := by decide +kernel
theorem xd_Z_walk_202 : decode xb_Z_walk 202 = .ok (.lload 12, 2) := by decide +kernel
theorem xd_Z_walk_204 : decode xb_Z_walk 204 = .ok (.ldc2_w 131, 3) := by decide +kernel
theorem xd_Z_walk_207 : decode xb_Z_walk 207 = .ok (.lmul, 1) := by decide +kernel
theorem xd_Z_walk_208 : decode xb_Z_walk 208 = .ok (.lload 4, 2) := by decide +kernel
theorem xd_Z_walk_210 : decode xb_Z_walk 210 = .ok (.ldc2_w 170, 3) := by decide +kernel
theorem xd_Z_walk_213 : decode xb_Z_walk 213 = .ok (.land, 1) := by decide +kernel
theorem xd_Z_walk_214 : decode xb_Z_walk 214 = .ok (.ladd, 1) := by decide +kernel
theorem xd_Z_walk_215 : decode xb_Z_walk 215 = .ok (.lstore 14, 2) := by decide +kernel
theorem xd_Z_walk_217 : decode xb_Z_walk 217 = .ok (.iload_n 1, 1) := by decide +kernel
theorem xd_Z_walk_218 : decode xb_Z_walk 218 = .ok (.iconst 1, 1) := by decide +kernel
theorem xd_Z_walk_219 : decode xb_Z_walk 219 = .ok (.if_icmp .ne 8, 3) := by decide +kernel
theorem xd_Z_walk_222 : decode xb_Z_walk 222 = .ok (.lload 14, 2) := by decide +kernel
theorem xd_Z_walk_224 : decode xb_Z_walk 224 = .ok (.goto 9, 3) := by decide +kernel
theorem xd_Z_walk_227 : decode xb_Z_walk 227 = .ok (.aload_n 0, 1) := by decide +kernel
theorem xd_Z_walk_228 : decode xb_Z_walk 228 = .ok (.lload 14, 2) := by decide +kernel
theorem xd_Z_walk_230 : decode xb_Z_walk 230 = .ok (.invokevirtual 137, 3) := by decide +kernel
theorem xd_Z_walk_233 : decode xb_Z_walk 233 = .ok (.lreturn, 1) := by decide +kernel
theorem xd_Z_isAllowed_0 : decode xb_Z_isAllowed 0 = .ok (.iload_n 2, 1) := by decide +kernel
theorem xd_Z_isAllowed_1 : decode xb_Z_isAllowed 1 = .ok (.iconst 1, 1) := by decide +kernel
theorem xd_Z_isAllowed_2 : decode xb_Z_isAllowed 2 = .ok (.iand, 1) := by decide +kernel
theorem xd_Z_isAllowed_3 : decode xb_Z_isAllowed 3 = .ok (.ifCond .eq 7, 3) := by decide +kernel
theorem xd_Z_isAllowed_6 : decode xb_Z_isAllowed 6 = .ok (.iconst 1, 1) := by decide +kernel
theorem xd_Z_isAllowed_7 : decode xb_Z_isAllowed 7 = .ok (.goto 4, 3) := by decide +kernel
theorem xd_Z_isAllowed_10 : decode xb_Z_isAllowed 10 = .ok (.iconst 0, 1) := by decide +kernel
theorem xd_Z_isAllowed_11 : decode xb_Z_isAllowed 11 = .ok (.istore 4, 2) := by decide +kernel
theorem xd_Z_isAllowed_13 : decode xb_Z_isAllowed 13 = .ok (.iload_n 2, 1) := by decide +kernel
theorem xd_Z_isAllowed_14 : decode xb_Z_isAllowed 14 = .ok (.iconst 2, 1) := by decide +kernel
theorem xd_Z_isAllowed_15 : decode xb_Z_isAllowed 15 = .ok (.iand, 1) := by decide +kernel
theorem xd_Z_isAllowed_16 : decode xb_Z_isAllowed 16 = .ok (.ifCond .eq 7, 3) := by decide +kernel
theorem xd_Z_isAllowed_19 : decode xb_Z_isAllowed 19 = .ok (.iconst 1, 1) := by decide +kernel
theorem xd_Z_isAllowed_20 : decode xb_Z_isAllowed 20 = .ok (.goto 4, 3) := by decide +kernel
theorem xd_Z_isAllowed_23 : decode xb_Z_isAllowed 23 = .ok (.iconst 0, 1) := by decide +kernel
theorem xd_Z_isAllowed_24 : decode xb_Z_isAllowed 24 = .ok (.istore 5, 2) := by decide +kernel
theorem xd_Z_isAllowed_26 : decode xb_Z_isAllowed 26 = .ok (.iload_n 2, 1) := by decide +kernel
theorem xd_Z_isAllowed_27 : decode xb_Z_isAllowed 27 = .ok (.iconst 4, 1) := by decide +kernel
theorem xd_Z_isAllowed_28 : decode xb_Z_isAllowed 28 = .ok (.iand, 1) := by decide +kernel
theorem xd_Z_isAllowed_29 : decode xb_Z_isAllowed 29 = .ok (.ifCond .eq 7, 3) := by decide +kernel
theorem xd_Z_isAllowed_32 : decode xb_Z_isAllowed 32 = .ok (.iconst 1, 1) := by decide +kernel
theorem xd_Z_isAllowed_33 : decode xb_Z_isAllowed 33 = .ok (.goto 4, 3) := by decide +kernel
theorem xd_Z_isAllowed_36 : decode xb_Z_isAllowed 36 = .ok (.iconst 0, 1) := by decide +kernel
theorem xd_Z_isAllowed_37 : decode xb_Z_isAllowed 37 = .ok (.istore 6, 2) := by decide +kernel
theorem xd_Z_isAllowed_39 : decode xb_Z_isAllowed 39 = .ok (.iload_n 2, 1) := by decide +kernel
theorem xd_Z_isAllowed_40 : decode xb_Z_isAllowed 40 = .ok (.bipush 8, 2) := by decide +kernel
theorem xd_Z_isAllowed_42 : decode xb_Z_isAllowed 42 = .ok (.iand, 1) := by decide +kernel
theorem xd_Z_isAllowed_43 : decode xb_Z_isAllowed 43 = .ok (.ifCond .eq 7, 3) := by decide +kernel
theorem xd_Z_isAllowed_46 : decode xb_Z_isAllowed 46 = .ok (.iconst 1, 1) := by decide +kernel
theorem xd_Z_isAllowed_47 : decode xb_Z_isAllowed 47 = .ok (.goto 4, 3) := by decide +kernel
theorem xd_Z_isAllowed_50 : decode xb_Z_isAllowed 50 = .ok (.iconst 0, 1) := by decide +kernel
theorem xd_Z_isAllowed_51 : decode xb_Z_isAllowed 51 = .ok (.istore 7, 2) := by decide +kernel
theorem xd_Z_isAllowed_53 : decode xb_Z_isAllowed 53 = .ok (.iload_n 2, 1) := by decide +kernel
theorem xd_Z_isAllowed_54 : decode xb_Z_isAllowed 54 = .ok (.bipush 16, 2) := by decide +kernel
theorem xd_Z_isAllowed_56 : decode xb_Z_isAllowed 56 = .ok (.iand, 1) := by decide +kernel
theorem xd_Z_isAllowed_57 : decode xb_Z_isAllowed 57 = .ok (.ifCond .eq 7, 3) := by decide +kernel
theorem xd_Z_isAllowed_60 : decode xb_Z_isAllowed 60 = .ok (.iconst 1, 1) := by decide +kernel
theorem xd_Z_isAllowed_61 : decode xb_Z_isAllowed 61 = .ok (.goto 4, 3) := by decide +kernel
theorem xd_Z_isAllowed_64 : decode xb_Z_isAllowed 64 = .ok (.iconst 0, 1) := by decide +kernel
theorem xd_Z_isAllowed_65 : decode xb_Z_isAllowed 65 = .ok (.istore 8, 2) := by decide +kernel
theorem xd_Z_isAllowed_67 : decode xb_Z_isAllowed 67 = .ok (.iload 5, 2) := by decide +kernel
theorem xd_Z_isAllowed_69 : decode xb_Z_isAllowed 69 = .ok (.ifCond .ne 13, 3) := by decide +kernel
theorem xd_Z_isAllowed_72 : decode xb_Z_isAllowed 72 = .ok (.iload 6, 2) := by decide +kernel
theorem xd_Z_isAllowed_74 : decode xb_Z_isAllowed 74 = .ok (.ifCond .ne 8, 3) := by decide +kernel
theorem xd_Z_isAllowed_77 : decode xb_Z_isAllowed 77 = .ok (.iload 7, 2) := by decide +kernel
theorem xd_Z_isAllowed_79 : decode xb_Z_isAllowed 79 = .ok (.ifCond .eq 7, 3) := by decide +kernel
theorem xd_Z_isAllowed_82 : decode xb_Z_isAllowed 82 = .ok (.iconst 1, 1) := by decide +kernel
theorem xd_Z_isAllowed_83 : decode xb_Z_isAllowed 83 = .ok (.goto 4, 3) := by decide +kernel
theorem xd_Z_isAllowed_86 : decode xb_Z_isAllowed 86 = .ok (.iconst 0, 1) := by decide +kernel
theorem xd_Z_isAllowed_87 : decode xb_Z_isAllowed 87 = .ok (.istore 9, 2) := by decide +kernel
theorem xd_Z_isAllowed_89 : decode xb_Z_isAllowed 89 = .ok (.aload_n 0, 1) := by decide +kernel
theorem xd_Z_isAllowed_90 : decode xb_Z_isAllowed 90 = .ok (.getfield 112, 3) := by decide +kernel
theorem xd_Z_isAllowed_93 : decode xb_Z_isAllowed 93 = .ok (.iconst 2, 1) := by decide +kernel
theorem xd_Z_isAllowed_94 : decode xb_Z_isAllowed 94 = .ok (.if_icmp .ne 11, 3) := by decide +kernel
theorem xd_Z_isAllowed_97 : decode xb_Z_isAllowed 97 = .ok (.iload_n 3, 1) := by decide +kernel
theorem xd_Z_isAllowed_98 : decode xb_Z_isAllowed 98 = .ok (.ifCond .ne 7, 3) := by decide +kernel
theorem xd_Z_isAllowed_101 : decode xb_Z_isAllowed 101 = .ok (.iconst 1, 1) := by decide +kernel
theorem xd_Z_isAllowed_102 : decode xb_Z_isAllowed 102 = .ok (.goto 4, 3) := by decide +kernel
theorem xd_Z_isAllowed_105 : decode xb_Z_isAllowed 105 = .ok (.iconst 0, 1) := by decide +kernel
theorem xd_Z_isAllowed_106 : decode xb_Z_isAllowed 106 = .ok (.istore 10, 2) := by decide +kernel
theorem xd_Z_isAllowed_108 : decode xb_Z_isAllowed 108 = .ok (.aload_n 0, 1) := by decide +kernel
theorem xd_Z_isAllowed_109 : decode xb_Z_isAllowed 109 = .ok (.getfield 112, 3) := by decide +kernel
theorem xd_Z_isAllowed_112 : decode xb_Z_isAllowed 112 = .ok (.ifCond .ne 11, 3) := by decide +kernel
theorem xd_Z_isAllowed_115 : decode xb_Z_isAllowed 115 = .ok (.iload_n 3, 1) := by decide +kernel
theorem xd_Z_isAllowed_116 : decode xb_Z_isAllowed 116 = .ok (.ifCond .ne 7, 3) := by decide +kernel
theorem xd_Z_isAllowed_119 : decode xb_Z_isAllowed 119 = .ok (.iconst 1, 1) := by decide +kernel
theorem xd_Z_isAllowed_120 : decode xb_Z_isAllowed 120 = .ok (.goto 4, 3) := by decide +kernel
theorem xd_Z_isAllowed_123 : decode xb_Z_isAllowed 123 = .ok (.iconst 0, 1) := by decide +kernel
theorem xd_Z_isAllowed_124 : decode xb_Z_isAllowed 124 = .ok (.istore 11, 2) := by decide +kernel
theorem xd_Z_isAllowed_126 : decode xb_Z_isAllowed 126 = .ok (.iload_n 3, 1) := by decide +kernel
theorem xd_Z_isAllowed_127 : decode xb_Z_isAllowed 127 = .ok (.ifCond .ne 36, 3) := by decide +kernel
theorem xd_Z_isAllowed_130 : decode xb_Z_isAllowed 130 = .ok (.aload_n 0, 1) := by decide +kernel
theorem xd_Z_isAllowed_131 : decode xb_Z_isAllowed 131 = .ok (.sipush 256, 3) := by decide +kernel
theorem xd_Z_isAllowed_134 : decode xb_Z_isAllowed 134 = .ok (.bipush 19, 2) := by decide +kernel
theorem xd_Z_isAllowed_136 : decode xb_Z_isAllowed 136 = .ok (.invokevirtual 74, 3) := by decide +kernel
theorem xd_Z_isAllowed_139 : decode xb_Z_isAllowed 139 = .ok (.ifCond .ne 20, 3) := by decide +kernel
theorem xd_Z_isAllowed_142 : decode xb_Z_isAllowed 142 = .ok (.iload_n 1, 1) := by decide +kernel
theorem xd_Z_isAllowed_143 : decode xb_Z_isAllowed 143 = .ok (.iconst 1, 1) := by decide +kernel
theorem xd_Z_isAllowed_144 : decode xb_Z_isAllowed 144 = .ok (.if_icmp .ne 19, 3) := by decide +kernel
theorem xd_Z_isAllowed_147 : decode xb_Z_isAllowed 147 = .ok (.aload_n 0, 1) := by decide +kernel
theorem xd_Z_isAllowed_148 : decode xb_Z_isAllowed 148 = .ok (.sipush 512, 3) := by decide +kernel
theorem xd_Z_isAllowed_151 : decode xb_Z_isAllowed 151 = .ok (.bipush 19, 2) := by decide +kernel
theorem xd_Z_isAllowed_153 : decode xb_Z_isAllowed 153 = .ok (.invokevirtual 74, 3) := by decide +kernel
theorem xd_Z_isAllowed_156 : decode xb_Z_isAllowed 156 = .ok (.ifCond .eq 7, 3) := by decide +kernel
theorem xd_Z_isAllowed_159 : decode xb_Z_isAllowed 159 = .ok (.iconst 1, 1) := by decide +kernel
theorem xd_Z_isAllowed_160 : decode xb_Z_isAllowed 160 = .ok (.goto 4, 3) := by decide +kernel
theorem xd_Z_isAllowed_163 : decode xb_Z_isAllowed 163 = .ok (.iconst 0, 1) := by decide +kernel
theorem xd_Z_isAllowed_164 : decode xb_Z_isAllowed 164 = .ok (.istore 12, 2) := by decide +kernel
theorem xd_Z_isAllowed_166 : decode xb_Z_isAllowed 166 = .ok (.iload 10, 2) := by decide +kernel
theorem xd_Z_isAllowed_168 : decode xb_Z_isAllowed 168 = .ok (.ifCond .eq 8, 3) := by decide +kernel
theorem xd_Z_isAllowed_171 : decode xb_Z_isAllowed 171 = .ok (.iload 6, 2) := by decide +kernel
theorem xd_Z_isAllowed_173 : decode xb_Z_isAllowed 173 = .ok (.goto 44, 3) := by decide +kernel
theorem xd_Z_isAllowed_176 : decode xb_Z_isAllowed 176 = .ok (.iload 11, 2) := by decide +kernel
theorem xd_Z_isAllowed_178 : decode xb_Z_isAllowed 178 = .ok (.ifCond .ne 14, 3) := by decide +kernel
theorem xd_Z_isAllowed_181 : decode xb_Z_isAllowed 181 = .ok (.aload_n 0, 1) := by decide +kernel
theorem xd_Z_isAllowed_182 : decode xb_Z_isAllowed 182 = .ok (.getfield 172, 3) := by decide +kernel
theorem xd_Z_isAllowed_185 : decode xb_Z_isAllowed 185 = .ok (.ifCond .eq 12, 3) := by decide +kernel
theorem xd_Z_isAllowed_188 : decode xb_Z_isAllowed 188 = .ok (.iload_n 3, 1) := by decide +kernel
theorem xd_Z_isAllowed_189 : decode xb_Z_isAllowed 189 = .ok (.ifCond .ne 8, 3) := by decide +kernel
theorem xd_Z_isAllowed_192 : decode xb_Z_isAllowed 192 = .ok (.iload 7, 2) := by decide +kernel
theorem xd_Z_isAllowed_194 : decode xb_Z_isAllowed 194 = .ok (.goto 23, 3) := by decide +kernel
theorem xd_Z_isAllowed_197 : decode xb_Z_isAllowed 197 = .ok (.iload 5, 2) := by decide +kernel
theorem xd_Z_isAllowed_199 : decode xb_Z_isAllowed 199 = .ok (.ifCond .ne 13, 3) := by decide +kernel
theorem xd_Z_isAllowed_202 : decode xb_Z_isAllowed 202 = .ok (.iload 12, 2) := by decide +kernel
theorem xd_Z_isAllowed_204 : decode xb_Z_isAllowed 204 = .ok (.ifCond .eq 12, 3) := by decide +kernel
theorem xd_Z_isAllowed_207 : decode xb_Z_isAllowed 207 = .ok (.iload 7, 2) := by decide +kernel
theorem xd_Z_isAllowed_209 : decode xb_Z_isAllowed 209 = .ok (.ifCond .eq 7, 3) := by decide +kernel
theorem xd_Z_isAllowed_212 : decode xb_Z_isAllowed 212 = .ok (.iconst 1, 1) := by decide +kernel
theorem xd_Z_isAllowed_213 : decode xb_Z_isAllowed 213 = .ok (.goto 4, 3) := by decide +kernel
theorem xd_Z_isAllowed_216 : decode xb_Z_isAllowed 216 = .ok (.iconst 0, 1) := by decide +kernel
theorem xd_Z_isAllowed_217 : decode xb_Z_isAllowed 217 = .ok (.istore 13, 2) := by decide +kernel
theorem xd_Z_isAllowed_219 : decode xb_Z_isAllowed 219 = .ok (.aload_n 0, 1) := by decide +kernel
theorem xd_Z_isAllowed_220 : decode xb_Z_isAllowed 220 = .ok (.getfield 112, 3) := by decide +kernel
theorem xd_Z_isAllowed_223 : decode xb_Z_isAllowed 223 = .ok (.ifCond .eq 30, 3) := by decide +kernel
theorem xd_Z_isAllowed_226 : decode xb_Z_isAllowed 226 = .ok (.aload_n 0, 1) := by decide +kernel
theorem xd_Z_isAllowed_227 : decode xb_Z_isAllowed 227 = .ok (.iload_n 1, 1) := by decide +kernel
theorem xd_Z_isAllowed_228 : decode xb_Z_isAllowed 228 = .ok (.iconst 1, 1) := by decide +kernel
theorem xd_Z_isAllowed_229 : decode xb_Z_isAllowed 229 = .ok (.if_icmp .ne 9, 3) := by decide +kernel
theorem xd_Z_isAllowed_232 : decode xb_Z_isAllowed 232 = .ok (.sipush 512, 3) := by decide +kernel
theorem xd_Z_isAllowed_235 : decode xb_Z_isAllowed 235 = .ok (.goto 6, 3) := by decide +kernel
theorem xd_Z_isAllowed_238 : decode xb_Z_isAllowed 238 = .ok (.sipush 256, 3) := by decide +kernel
theorem xd_Z_isAllowed_241 : decode xb_Z_isAllowed 241 = .ok (.bipush 18, 2) := by decide +kernel
theorem xd_Z_isAllowed_243 : decode xb_Z_isAllowed 243 = .ok (.invokevirtual 74, 3) := by decide +kernel
theorem xd_Z_isAllowed_246 : decode xb_Z_isAllowed 246 = .ok (.ifCond .eq 7, 3) := by decide +kernel
theorem xd_Z_isAllowed_249 : decode xb_Z_isAllowed 249 = .ok (.iconst 1, 1) := by decide +kernel
theorem xd_Z_isAllowed_250 : decode xb_Z_isAllowed 250 = .ok (.goto 4, 3) := by decide +kernel
theorem xd_Z_isAllowed_253 : decode xb_Z_isAllowed 253 = .ok (.iconst 0, 1) := by decide +kernel
theorem xd_Z_isAllowed_254 : decode xb_Z_isAllowed 254 = .ok (.istore 14, 2) := by decide +kernel
theorem xd_Z_isAllowed_256 : decode xb_Z_isAllowed 256 = .ok (.iload_n 1, 1) := by decide +kernel
theorem xd_Z_isAllowed_257 : decode xb_Z_isAllowed 257 = .ok (.iconst 2, 1) := by decide +kernel
theorem xd_Z_isAllowed_258 : decode xb_Z_isAllowed 258 = .ok (.if_icmp .eq 10, 3) := by decide +kernel
theorem xd_Z_isAllowed_261 : decode xb_Z_isAllowed 261 = .ok (.aload_n 0, 1) := by decide +kernel
theorem xd_Z_isAllowed_262 : decode xb_Z_isAllowed 262 = .ok (.getfield 175, 3) := by decide +kernel
theorem xd_Z_isAllowed_265 : decode xb_Z_isAllowed 265 = .ok (.ifCond .eq 8, 3) := by decide +kernel
theorem xd_Z_isAllowed_268 : decode xb_Z_isAllowed 268 = .ok (.iload 8, 2) := by decide +kernel
theorem xd_Z_isAllowed_270 : decode xb_Z_isAllowed 270 = .ok (.goto 18, 3) := by decide +kernel
theorem xd_Z_isAllowed_273 : decode xb_Z_isAllowed 273 = .ok (.iload 8, 2) := by decide +kernel
theorem xd_Z_isAllowed_275 : decode xb_Z_isAllowed 275 = .ok (.ifCond .eq 8, 3) := by decide +kernel
theorem xd_Z_isAllowed_278 : decode xb_Z_isAllowed 278 = .ok (.iload 14, 2) := by decide +kernel
theorem xd_Z_isAllowed_280 : decode xb_Z_isAllowed 280 = .ok (.ifCond .eq 7, 3) := by decide +kernel
theorem xd_Z_isAllowed_283 : decode xb_Z_isAllowed 283 = .ok (.iconst 1, 1) := by decide +kernel
theorem xd_Z_isAllowed_284 : decode xb_Z_isAllowed 284 = .ok (.goto 4, 3) := by decide +kernel
theorem xd_Z_isAllowed_287 : decode xb_Z_isAllowed 287 = .ok (.iconst 0, 1) := by decide +kernel
theorem xd_Z_isAllowed_288 : decode xb_Z_isAllowed 288 = .ok (.istore 15, 2) := by decide +kernel
theorem xd_Z_isAllowed_290 : decode xb_Z_isAllowed 290 = .ok (.iload 4, 2) := by decide +kernel
theorem xd_Z_isAllowed_292 : decode xb_Z_isAllowed 292 = .ok (.ifCond .eq 52, 3) := by decide +kernel
theorem xd_Z_isAllowed_295 : decode xb_Z_isAllowed 295 = .ok (.iload 9, 2) := by decide +kernel
theorem xd_Z_isAllowed_297 : decode xb_Z_isAllowed 297 = .ok (.ifCond .eq 47, 3) := by decide +kernel
theorem xd_Z_isAllowed_300 : decode xb_Z_isAllowed 300 = .ok (.iload 6, 2) := by decide +kernel
theorem xd_Z_isAllowed_302 : decode xb_Z_isAllowed 302 = .ok (.ifCond .eq 8, 3) := by decide +kernel
theorem xd_Z_isAllowed_305 : decode xb_Z_isAllowed 305 = .ok (.iload 5, 2) := by decide +kernel
theorem xd_Z_isAllowed_307 : decode xb_Z_isAllowed 307 = .ok (.ifCond .eq 37, 3) := by decide +kernel
theorem xd_Z_isAllowed_310 : decode xb_Z_isAllowed 310 = .ok (.iload 13, 2) := by decide +kernel
theorem xd_Z_isAllowed_312 : decode xb_Z_isAllowed 312 = .ok (.ifCond .eq 32, 3) := by decide +kernel
theorem xd_Z_isAllowed_315 : decode xb_Z_isAllowed 315 = .ok (.iload 15, 2) := by decide +kernel
theorem xd_Z_isAllowed_317 : decode xb_Z_isAllowed 317 = .ok (.ifCond .eq 27, 3) := by decide +kernel
theorem xd_Z_isAllowed_320 : decode xb_Z_isAllowed 320 = .ok (.iload_n 2, 1) := by decide +kernel
theorem xd_Z_isAllowed_321 : decode xb_Z_isAllowed 321 = .ok (.bipush 64, 2) := by decide +kernel
theorem xd_Z_isAllowed_323 : decode xb_Z_isAllowed 323 = .ok (.iand, 1) := by decide +kernel
theorem xd_Z_isAllowed_324 : decode xb_Z_isAllowed 324 = .ok (.ifCond .eq 20, 3) := by decide +kernel
theorem xd_Z_isAllowed_327 : decode xb_Z_isAllowed 327 = .ok (.iload 10, 2) := by decide +kernel
theorem xd_Z_isAllowed_329 : decode xb_Z_isAllowed 329 = .ok (.ifCond .eq 11, 3) := by decide +kernel
theorem xd_Z_isAllowed_332 : decode xb_Z_isAllowed 332 = .ok (.iload_n 2, 1) := by decide +kernel
theorem xd_Z_isAllowed_333 : decode xb_Z_isAllowed 333 = .ok (.sipush 128, 3) := by decide +kernel
theorem xd_Z_isAllowed_336 : decode xb_Z_isAllowed 336 = .ok (.iand, 1) := by decide +kernel
theorem xd_Z_isAllowed_337 : decode xb_Z_isAllowed 337 = .ok (.ifCond .eq 7, 3) := by decide +kernel
theorem xd_Z_isAllowed_340 : decode xb_Z_isAllowed 340 = .ok (.iconst 1, 1) := by decide +kernel
theorem xd_Z_isAllowed_341 : decode xb_Z_isAllowed 341 = .ok (.goto 4, 3) := by decide +kernel
theorem xd_Z_isAllowed_344 : decode xb_Z_isAllowed 344 = .ok (.iconst 0, 1) := by decide +kernel
theorem xd_Z_isAllowed_345 : decode xb_Z_isAllowed 345 = .ok (.ireturn, 1) := by decide +kernel
theorem xd_Z_lead_0 : decode xb_Z_lead 0 = .ok (.aload_n 0, 1) := by decide +kernel
theorem xd_Z_lead_1 : decode xb_Z_lead 1 = .ok (.iload_n 1, 1) := by decide +kernel
theorem xd_Z_lead_2 : decode xb_Z_lead 2 = .ok (.putfield 115, 3) := by decide +kernel
theorem xd_Z_lead_5 : decode xb_Z_lead 5 = .ok (.aload_n 0, 1) := by decide +kernel
theorem xd_Z_lead_6 : decode xb_Z_lead 6 = .ok (.aload_n 0, 1) := by decide +kernel
theorem xd_Z_lead_7 : decode xb_Z_lead 7 = .ok (.getfield 178, 3) := by decide +kernel
theorem xd_Z_lead_10 : decode xb_Z_lead 10 = .ok (.putfield 118, 3) := by decide +kernel
theorem xd_Z_lead_13 : decode xb_Z_lead 13 = .ok (.aload_n 0, 1) := by decide +kernel
theorem xd_Z_lead_14 : decode xb_Z_lead 14 = .ok (.getfield 112, 3) := by decide +kernel
theorem xd_Z_lead_17 : decode xb_Z_lead 17 = .ok (.ifCond .eq 37, 3) := by decide +kernel
theorem xd_Z_lead_20 : decode xb_Z_lead 20 = .ok (.iload_n 1, 1) := by decide +kernel
theorem xd_Z_lead_21 : decode xb_Z_lead 21 = .ok (.iload_n 2, 1) := by decide +kernel
theorem xd_Z_lead_22 : decode xb_Z_lead 22 = .ok (.irem, 1) := by decide +kernel
theorem xd_Z_lead_23 : decode xb_Z_lead 23 = .ok (.ifCond .eq 31, 3) := by decide +kernel
theorem xd_Z_lead_26 : decode xb_Z_lead 26 = .ok (.aload_n 0, 1) := by decide +kernel
theorem xd_Z_lead_27 : decode xb_Z_lead 27 = .ok (.aload_n 0, 1) := by decide +kernel
theorem xd_Z_lead_28 : decode xb_Z_lead 28 = .ok (.getfield 112, 3) := by decide +kernel
