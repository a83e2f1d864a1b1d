theorem xd_Z_branch_72 : decode xb_Z_branch 72 = .ok (.iload_n 2, 1) := by decide +kernel
theorem xd_Z_branch_73 : decode xb_Z_branch 73 = .ok (.iconst 5, 1) := by decide +kernel
theorem xd_Z_branch_74 : decode xb_Z_branch 74 = .ok (.if_icmp .ne 17, 3) := by decide +kernel
theorem xd_Z_branch_77 : decode xb_Z_branch 77 = .ok (.iload_n 3, 1) := by decide +kernel
theorem xd_Z_branch_78 : decode xb_Z_branch 78 = .ok (.iload 4, 2) := by decide +kernel
theorem xd_Z_branch_80 : decode xb_Z_branch 80 = .ok (.if_icmp .lt 7, 3) := by decide +kernel
theorem xd_Z_branch_83 : decode xb_Z_branch 83 = .ok (.iconst 1, 1) := by decide +kernel
theorem xd_Z_branch_84 : decode xb_Z_branch 84 = .ok (.goto 36, 3) := by decide +kernel
theorem xd_Z_branch_87 : decode xb_Z_branch 87 = .ok (.iconst 0, 1) := by decide +kernel
theorem xd_Z_branch_88 : decode xb_Z_branch 88 = .ok (.goto 32, 3) := by decide +kernel
theorem xd_Z_branch_91 : decode xb_Z_branch 91 = .ok (.iload_n 2, 1) := by decide +kernel
theorem xd_Z_branch_92 : decode xb_Z_branch 92 = .ok (.bipush 6, 2) := by decide +kernel
theorem xd_Z_branch_94 : decode xb_Z_branch 94 = .ok (.if_icmp .ne 12, 3) := by decide +kernel
theorem xd_Z_branch_97 : decode xb_Z_branch 97 = .ok (.iload_n 3, 1) := by decide +kernel
theorem xd_Z_branch_98 : decode xb_Z_branch 98 = .ok (.iload 4, 2) := by decide +kernel
theorem xd_Z_branch_100 : decode xb_Z_branch 100 = .ok (.invokestatic 223, 3) := by decide +kernel
theorem xd_Z_branch_103 : decode xb_Z_branch 103 = .ok (.goto 17, 3) := by decide +kernel
theorem xd_Z_branch_106 : decode xb_Z_branch 106 = .ok (.iload_n 3, 1) := by decide +kernel
theorem xd_Z_branch_107 : decode xb_Z_branch 107 = .ok (.iload 4, 2) := by decide +kernel
theorem xd_Z_branch_109 : decode xb_Z_branch 109 = .ok (.invokestatic 223, 3) := by decide +kernel
theorem xd_Z_branch_112 : decode xb_Z_branch 112 = .ok (.ifCond .ne 7, 3) := by decide +kernel
theorem xd_Z_branch_115 : decode xb_Z_branch 115 = .ok (.iconst 1, 1) := by decide +kernel
theorem xd_Z_branch_116 : decode xb_Z_branch 116 = .ok (.goto 4, 3) := by decide +kernel
theorem xd_Z_branch_119 : decode xb_Z_branch 119 = .ok (.iconst 0, 1) := by decide +kernel
theorem xd_Z_branch_120 : decode xb_Z_branch 120 = .ok (.istore 5, 2) := by decide +kernel
theorem xd_Z_branch_122 : decode xb_Z_branch 122 = .ok (.iload_n 1, 1) := by decide +kernel
theorem xd_Z_branch_123 : decode xb_Z_branch 123 = .ok (.bipush 31, 2) := by decide +kernel
theorem xd_Z_branch_125 : decode xb_Z_branch 125 = .ok (.ishr, 1) := by decide +kernel
theorem xd_Z_branch_126 : decode xb_Z_branch 126 = .ok (.iconst 1, 1) := by decide +kernel
theorem xd_Z_branch_127 : decode xb_Z_branch 127 = .ok (.iand, 1) := by decide +kernel
theorem xd_Z_branch_128 : decode xb_Z_branch 128 = .ok (.bipush 12, 2) := by decide +kernel
theorem xd_Z_branch_130 : decode xb_Z_branch 130 = .ok (.ishl, 1) := by decide +kernel
theorem xd_Z_branch_131 : decode xb_Z_branch 131 = .ok (.iload_n 1, 1) := by decide +kernel
theorem xd_Z_branch_132 : decode xb_Z_branch 132 = .ok (.bipush 7, 2) := by decide +kernel
theorem xd_Z_branch_134 : decode xb_Z_branch 134 = .ok (.ishr, 1) := by decide +kernel
theorem xd_Z_branch_135 : decode xb_Z_branch 135 = .ok (.iconst 1, 1) := by decide +kernel
theorem xd_Z_branch_136 : decode xb_Z_branch 136 = .ok (.iand, 1) := by decide +kernel
theorem xd_Z_branch_137 : decode xb_Z_branch 137 = .ok (.bipush 11, 2) := by decide +kernel
theorem xd_Z_branch_139 : decode xb_Z_branch 139 = .ok (.ishl, 1) := by decide +kernel
theorem xd_Z_branch_140 : decode xb_Z_branch 140 = .ok (.ior, 1) := by decide +kernel
theorem xd_Z_branch_141 : decode xb_Z_branch 141 = .ok (.iload_n 1, 1) := by decide +kernel
theorem xd_Z_branch_142 : decode xb_Z_branch 142 = .ok (.bipush 25, 2) := by decide +kernel
theorem xd_Z_branch_144 : decode xb_Z_branch 144 = .ok (.ishr, 1) := by decide +kernel
theorem xd_Z_branch_145 : decode xb_Z_branch 145 = .ok (.bipush 63, 2) := by decide +kernel
theorem xd_Z_branch_147 : decode xb_Z_branch 147 = .ok (.iand, 1) := by decide +kernel
theorem xd_Z_branch_148 : decode xb_Z_branch 148 = .ok (.iconst 5, 1) := by decide +kernel
theorem xd_Z_branch_149 : decode xb_Z_branch 149 = .ok (.ishl, 1) := by decide +kernel
theorem xd_Z_branch_150 : decode xb_Z_branch 150 = .ok (.ior, 1) := by decide +kernel
theorem xd_Z_branch_151 : decode xb_Z_branch 151 = .ok (.iload_n 1, 1) := by decide +kernel
theorem xd_Z_branch_152 : decode xb_Z_branch 152 = .ok (.bipush 8, 2) := by decide +kernel
theorem xd_Z_branch_154 : decode xb_Z_branch 154 = .ok (.ishr, 1) := by decide +kernel
theorem xd_Z_branch_155 : decode xb_Z_branch 155 = .ok (.bipush 15, 2) := by decide +kernel
theorem xd_Z_branch_157 : decode xb_Z_branch 157 = .ok (.iand, 1) := by decide +kernel
theorem xd_Z_branch_158 : decode xb_Z_branch 158 = .ok (.iconst 1, 1) := by decide +kernel
theorem xd_Z_branch_159 : decode xb_Z_branch 159 = .ok (.ishl, 1) := by decide +kernel
theorem xd_Z_branch_160 : decode xb_Z_branch 160 = .ok (.ior, 1) := by decide +kernel
theorem xd_Z_branch_161 : decode xb_Z_branch 161 = .ok (.bipush 13, 2) := by decide +kernel
theorem xd_Z_branch_163 : decode xb_Z_branch 163 = .ok (.invokestatic 219, 3) := by decide +kernel
theorem xd_Z_branch_166 : decode xb_Z_branch 166 = .ok (.istore 6, 2) := by decide +kernel
theorem xd_Z_branch_168 : decode xb_Z_branch 168 = .ok (.iload 5, 2) := by decide +kernel
theorem xd_Z_branch_170 : decode xb_Z_branch 170 = .ok (.ifCond .eq 17, 3) := by decide +kernel
theorem xd_Z_branch_173 : decode xb_Z_branch 173 = .ok (.aload_n 0, 1) := by decide +kernel
theorem xd_Z_branch_174 : decode xb_Z_branch 174 = .ok (.aload_n 0, 1) := by decide +kernel
theorem xd_Z_branch_175 : decode xb_Z_branch 175 = .ok (.getfield 14, 3) := by decide +kernel
theorem xd_Z_branch_178 : decode xb_Z_branch 178 = .ok (.iload 6, 2) := by decide +kernel
theorem xd_Z_branch_180 : decode xb_Z_branch 180 = .ok (.iadd, 1) := by decide +kernel
theorem xd_Z_branch_181 : decode xb_Z_branch 181 = .ok (.invokevirtual 191, 3) := by decide +kernel
theorem xd_Z_branch_184 : decode xb_Z_branch 184 = .ok (.ifCond .eq 7, 3) := by decide +kernel
theorem xd_Z_branch_187 : decode xb_Z_branch 187 = .ok (.iconst 1, 1) := by decide +kernel
theorem xd_Z_branch_188 : decode xb_Z_branch 188 = .ok (.goto 4, 3) := by decide +kernel
theorem xd_Z_branch_191 : decode xb_Z_branch 191 = .ok (.iconst 0, 1) := by decide +kernel
theorem xd_Z_branch_192 : decode xb_Z_branch 192 = .ok (.ireturn, 1) := by decide +kernel
theorem xd_Z_load_0 : decode xb_Z_load 0 = .ok (.aload_n 0, 1) := by decide +kernel
theorem xd_Z_load_1 : decode xb_Z_load 1 = .ok (.iconst 1, 1) := by decide +kernel
theorem xd_Z_load_2 : decode xb_Z_load 2 = .ok (.aload_n 0, 1) := by decide +kernel
theorem xd_Z_load_3 : decode xb_Z_load 3 = .ok (.invokevirtual 96, 3) := by decide +kernel
theorem xd_Z_load_6 : decode xb_Z_load 6 = .ok (.aload_n 0, 1) := by decide +kernel
theorem xd_Z_load_7 : decode xb_Z_load 7 = .ok (.getfield 18, 3) := by decide +kernel
theorem xd_Z_load_10 : decode xb_Z_load 10 = .ok (.ifCond .eq 11, 3) := by decide +kernel
theorem xd_Z_load_13 : decode xb_Z_load 13 = .ok (.aload_n 0, 1) := by decide +kernel
theorem xd_Z_load_14 : decode xb_Z_load 14 = .ok (.getfield 18, 3) := by decide +kernel
theorem xd_Z_load_17 : decode xb_Z_load 17 = .ok (.iconst 2, 1) := by decide +kernel
theorem xd_Z_load_18 : decode xb_Z_load 18 = .ok (.if_icmp .ne 7, 3) := by decide +kernel
theorem xd_Z_load_21 : decode xb_Z_load 21 = .ok (.iconst 1, 1) := by decide +kernel
theorem xd_Z_load_22 : decode xb_Z_load 22 = .ok (.goto 4, 3) := by decide +kernel
theorem xd_Z_load_25 : decode xb_Z_load 25 = .ok (.iconst 0, 1) := by decide +kernel
theorem xd_Z_load_26 : decode xb_Z_load 26 = .ok (.iconst 0, 1) := by decide +kernel
theorem xd_Z_load_27 : decode xb_Z_load 27 = .ok (.invokevirtual 226, 3) := by decide +kernel
theorem xd_Z_load_30 : decode xb_Z_load 30 = .ok (.aload_n 0, 1) := by decide +kernel
theorem xd_Z_load_31 : decode xb_Z_load 31 = .ok (.iload_n 1, 1) := by decide +kernel
theorem xd_Z_load_32 : decode xb_Z_load 32 = .ok (.iconst 1, 1) := by decide +kernel
theorem xd_Z_load_33 : decode xb_Z_load 33 = .ok (.iload_n 2, 1) := by decide +kernel
theorem xd_Z_load_34 : decode xb_Z_load 34 = .ok (.iconst 4, 1) := by decide +kernel
theorem xd_Z_load_35 : decode xb_Z_load 35 = .ok (.irem, 1) := by decide +kernel
theorem xd_Z_load_36 : decode xb_Z_load 36 = .ok (.ishl, 1) := by decide +kernel
theorem xd_Z_load_37 : decode xb_Z_load 37 = .ok (.iload_n 2, 1) := by decide +kernel
theorem xd_Z_load_38 : decode xb_Z_load 38 = .ok (.iconst 3, 1) := by decide +kernel
theorem xd_Z_load_39 : decode xb_Z_load 39 = .ok (.if_icmp .le 7, 3) := by decide +kernel
theorem xd_Z_load_42 : decode xb_Z_load 42 = .ok (.iconst 1, 1) := by decide +kernel
theorem xd_Z_load_43 : decode xb_Z_load 43 = .ok (.goto 4, 3) := by decide +kernel
theorem xd_Z_load_46 : decode xb_Z_load 46 = .ok (.iconst 0, 1) := by decide +kernel
theorem xd_Z_load_47 : decode xb_Z_load 47 = .ok (.iload_n 3, 1) := by decide +kernel
theorem xd_Z_load_48 : decode xb_Z_load 48 = .ok (.invokevirtual 230, 3) := by decide +kernel
theorem xd_Z_load_51 : decode xb_Z_load 51 = .ok (.ireturn, 1) := by decide +kernel
theorem xd_Z_take_0 : decode xb_Z_take 0 = .ok (.aload_n 0, 1) := by decide +kernel
theorem xd_Z_take_1 : decode xb_Z_take 1 = .ok (.iload 4, 2) := by decide +kernel
theorem xd_Z_take_3 : decode xb_Z_take 3 = .ok (.iload_n 2, 1) := by decide +kernel
theorem xd_Z_take_4 : decode xb_Z_take 4 = .ok (.invokevirtual 234, 3) := by decide +kernel
theorem xd_Z_take_7 : decode xb_Z_take 7 = .ok (.lstore 5, 2) := by decide +kernel
theorem xd_Z_take_9 : decode xb_Z_take 9 = .ok (.lload 5, 2) := by decide +kernel
theorem xd_Z_take_11 : decode xb_Z_take 11 = .ok (.lconst 0, 1) := by decide +kernel
theorem xd_Z_take_12 : decode xb_Z_take 12 = .ok (.lcmp, 1) := by decide +kernel
theorem xd_Z_take_13 : decode xb_Z_take 13 = .ok (.ifCond .ge 5, 3) := by decide +kernel
theorem xd_Z_take_16 : decode xb_Z_take 16 = .ok (.iconst 0, 1) := by decide +kernel
theorem xd_Z_take_17 : decode xb_Z_take 17 = .ok (.ireturn, 1) := by decide +kernel
theorem xd_Z_take_18 : decode xb_Z_take 18 = .ok (.aload_n 0, 1) := by decide +kernel
theorem xd_Z_take_19 : decode xb_Z_take 19 = .ok (.lload 5, 2) := by decide +kernel
theorem xd_Z_take_21 : decode xb_Z_take 21 = .ok (.iload_n 2, 1) := by decide +kernel
theorem xd_Z_take_22 : decode xb_Z_take 22 = .ok (.invokevirtual 238, 3) := by decide +kernel
theorem xd_Z_take_25 : decode xb_Z_take 25 = .ok (.istore 7, 2) := by decide +kernel
theorem xd_Z_take_27 : decode xb_Z_take 27 = .ok (.aload_n 0, 1) := by decide +kernel
theorem xd_Z_take_28 : decode xb_Z_take 28 = .ok (.iload_n 1, 1) := by decide +kernel
theorem xd_Z_take_29 : decode xb_Z_take 29 = .ok (.iload_n 3, 1) := by decide +kernel
theorem xd_Z_take_30 : decode xb_Z_take 30 = .ok (.ifCond .eq 8, 3) := by decide +kernel
theorem xd_Z_take_33 : decode xb_Z_take 33 = .ok (.iload 7, 2) := by decide +kernel
theorem xd_Z_take_35 : decode xb_Z_take 35 = .ok (.goto 12, 3) := by decide +kernel
theorem xd_Z_take_38 : decode xb_Z_take 38 = .ok (.iload 7, 2) := by decide +kernel
theorem xd_Z_take_40 : decode xb_Z_take 40 = .ok (.bipush 8, 2) := by decide +kernel
theorem xd_Z_take_42 : decode xb_Z_take 42 = .ok (.iload_n 2, 1) := by decide +kernel
theorem xd_Z_take_43 : decode xb_Z_take 43 = .ok (.imul, 1) := by decide +kernel
theorem xd_Z_take_44 : decode xb_Z_take 44 = .ok (.invokestatic 219, 3) := by decide +kernel
theorem xd_Z_take_47 : decode xb_Z_take 47 = .ok (.invokevirtual 185, 3) := by decide +kernel
theorem xd_Z_take_50 : decode xb_Z_take 50 = .ok (.ireturn, 1) := by decide +kernel
theorem xd_Z_store_0 : decode xb_Z_store 0 = .ok (.aload_n 0, 1) := by decide +kernel
theorem xd_Z_store_1 : decode xb_Z_store 1 = .ok (.iconst 2, 1) := by decide +kernel
theorem xd_Z_store_2 : decode xb_Z_store 2 = .ok (.aload_n 0, 1) := by decide +kernel
theorem xd_Z_store_3 : decode xb_Z_store 3 = .ok (.invokevirtual 96, 3) := by decide +kernel
theorem xd_Z_store_6 : decode xb_Z_store 6 = .ok (.aload_n 0, 1) := by decide +kernel
theorem xd_Z_store_7 : decode xb_Z_store 7 = .ok (.getfield 18, 3) := by decide +kernel
theorem xd_Z_store_10 : decode xb_Z_store 10 = .ok (.ifCond .eq 11, 3) := by decide +kernel
theorem xd_Z_store_13 : decode xb_Z_store 13 = .ok (.aload_n 0, 1) := by decide +kernel
theorem xd_Z_store_14 : decode xb_Z_store 14 = .ok (.getfield 18, 3) := by decide +kernel
theorem xd_Z_store_17 : decode xb_Z_store 17 = .ok (.iconst 2, 1) := by decide +kernel
theorem xd_Z_store_18 : decode xb_Z_store 18 = .ok (.if_icmp .ne 7, 3) := by decide +kernel
theorem xd_Z_store_21 : decode xb_Z_store 21 = .ok (.iconst 1, 1) := by decide +kernel
theorem xd_Z_store_22 : decode xb_Z_store 22 = .ok (.goto 4, 3) := by decide +kernel
theorem xd_Z_store_25 : decode xb_Z_store 25 = .ok (.iconst 0, 1) := by decide +kernel
theorem xd_Z_store_26 : decode xb_Z_store 26 = .ok (.iconst 0, 1) := by decide +kernel
theorem xd_Z_store_27 : decode xb_Z_store 27 = .ok (.invokevirtual 226, 3) := by decide +kernel
theorem xd_Z_store_30 : decode xb_Z_store 30 = .ok (.aload_n 0, 1) := by decide +kernel
theorem xd_Z_store_31 : decode xb_Z_store 31 = .ok (.iload_n 1, 1) := by decide +kernel
theorem xd_Z_store_32 : decode xb_Z_store 32 = .ok (.iload_n 2, 1) := by decide +kernel
theorem xd_Z_store_33 : decode xb_Z_store 33 = .ok (.iload_n 3, 1) := by decide +kernel
theorem xd_Z_store_34 : decode xb_Z_store 34 = .ok (.invokevirtual 242, 3) := by decide +kernel
theorem xd_Z_store_37 : decode xb_Z_store 37 = .ok (.ireturn, 1) := by decide +kernel
theorem xd_Z_give_0 : decode xb_Z_give 0 = .ok (.aload_n 0, 1) := by decide +kernel
theorem xd_Z_give_1 : decode xb_Z_give 1 = .ok (.iload_n 2, 1) := by decide +kernel
theorem xd_Z_give_2 : decode xb_Z_give 2 = .ok (.iload_n 1, 1) := by decide +kernel
theorem xd_Z_give_3 : decode xb_Z_give 3 = .ok (.invokevirtual 234, 3) := by decide +kernel
theorem xd_Z_give_6 : decode xb_Z_give 6 = .ok (.lstore 4, 2) := by decide +kernel
theorem xd_Z_give_8 : decode xb_Z_give 8 = .ok (.lload 4, 2) := by decide +kernel
theorem xd_Z_give_10 : decode xb_Z_give 10 = .ok (.lconst 0, 1) := by decide +kernel
theorem xd_Z_give_11 : decode xb_Z_give 11 = .ok (.lcmp, 1) := by decide +kernel
theorem xd_Z_give_12 : decode xb_Z_give 12 = .ok (.ifCond .ge 5, 3) := by decide +kernel
theorem xd_Z_give_15 : decode xb_Z_give 15 = .ok (.iconst 0, 1) := by decide +kernel
theorem xd_Z_give_16 : decode xb_Z_give 16 = .ok (.ireturn, 1) := by decide +kernel
theorem xd_Z_give_17 : decode xb_Z_give 17 = .ok (.aload_n 0, 1) := by decide +kernel
theorem xd_Z_give_18 : decode xb_Z_give 18 = .ok (.lload 4, 2) := by decide +kernel
theorem xd_Z_give_20 : decode xb_Z_give 20 = .ok (.iload_n 1, 1) := by decide +kernel
theorem xd_Z_give_21 : decode xb_Z_give 21 = .ok (.iload_n 3, 1) := by decide +kernel
theorem xd_Z_give_22 : decode xb_Z_give 22 = .ok (.invokevirtual 245, 3) := by decide +kernel
theorem xd_Z_give_25 : decode xb_Z_give 25 = .ok (.iconst 1, 1) := by decide +kernel
theorem xd_Z_give_26 : decode xb_Z_give 26 = .ok (.ireturn, 1) := by decide +kernel
theorem xd_Z_small_0 : decode xb_Z_small 0 = .ok (.iload_n 1, 1) := by decide +kernel
theorem xd_Z_small_1 : decode xb_Z_small 1 = .ok (.bipush 20, 2) := by decide +kernel
theorem xd_Z_small_3 : decode xb_Z_small 3 = .ok (.ishr, 1) := by decide +kernel
theorem xd_Z_small_4 : decode xb_Z_small 4 = .ok (.istore 5, 2) := by decide +kernel
theorem xd_Z_small_6 : decode xb_Z_small 6 = .ok (.iload_n 1, 1) := by decide +kernel
theorem xd_Z_small_7 : decode xb_Z_small 7 = .ok (.bipush 25, 2) := by decide +kernel
theorem xd_Z_small_9 : decode xb_Z_small 9 = .ok (.iushr, 1) := by decide +kernel
theorem xd_Z_small_10 : decode xb_Z_small 10 = .ok (.istore 6, 2) := by decide +kernel
theorem xd_Z_small_12 : decode xb_Z_small 12 = .ok (.iload_n 3, 1) := by decide +kernel
theorem xd_Z_small_13 : decode xb_Z_small 13 = .ok (.tableswitch 189 0 6 #[43, 54, 78, 96, 117, 128, 178], 43) := by decide +kernel
theorem xd_Z_small_56 : decode xb_Z_small 56 = .ok (.aload_n 0, 1) := by decide +kernel
theorem xd_Z_small_57 : decode xb_Z_small 57 = .ok (.iload_n 2, 1) := by decide +kernel
theorem xd_Z_small_58 : decode xb_Z_small 58 = .ok (.iload 4, 2) := by decide +kernel
theorem xd_Z_small_60 : decode xb_Z_small 60 = .ok (.iload 5, 2) := by decide +kernel
theorem xd_Z_small_62 : decode xb_Z_small 62 = .ok (.iadd, 1) := by decide +kernel
theorem xd_Z_small_63 : decode xb_Z_small 63 = .ok (.invokevirtual 185, 3) := by decide +kernel
theorem xd_Z_small_66 : decode xb_Z_small 66 = .ok (.ireturn, 1) := by decide +kernel
theorem xd_Z_small_67 : decode xb_Z_small 67 = .ok (.iload 6, 2) := by decide +kernel
theorem xd_Z_small_69 : decode xb_Z_small 69 = .ok (.ifCond .ne 16, 3) := by decide +kernel
theorem xd_Z_small_72 : decode xb_Z_small 72 = .ok (.aload_n 0, 1) := by decide +kernel
theorem xd_Z_small_73 : decode xb_Z_small 73 = .ok (.iload_n 2, 1) := by decide +kernel
theorem xd_Z_small_74 : decode xb_Z_small 74 = .ok (.iload 4, 2) := by decide +kernel
theorem xd_Z_small_76 : decode xb_Z_small 76 = .ok (.iload 5, 2) := by decide +kernel
theorem xd_Z_small_78 : decode xb_Z_small 78 = .ok (.ishl, 1) := by decide +kernel
theorem xd_Z_small_79 : decode xb_Z_small 79 = .ok (.invokevirtual 185, 3) := by decide +kernel
theorem xd_Z_small_82 : decode xb_Z_small 82 = .ok (.goto 8, 3) := by decide +kernel
theorem xd_Z_small_85 : decode xb_Z_small 85 = .ok (.aload_n 0, 1) := by decide +kernel
theorem xd_Z_small_86 : decode xb_Z_small 86 = .ok (.iload_n 1, 1) := by decide +kernel
theorem xd_Z_small_87 : decode xb_Z_small 87 = .ok (.invokevirtual 195, 3) := by decide +kernel
theorem xd_Z_small_90 : decode xb_Z_small 90 = .ok (.ireturn, 1) := by decide +kernel
theorem xd_Z_small_91 : decode xb_Z_small 91 = .ok (.aload_n 0, 1) := by decide +kernel
theorem xd_Z_small_92 : decode xb_Z_small 92 = .ok (.iload_n 2, 1) := by decide +kernel
theorem xd_Z_small_93 : decode xb_Z_small 93 = .ok (.iload 4, 2) := by decide +kernel
theorem xd_Z_small_95 : decode xb_Z_small 95 = .ok (.iload 5, 2) := by decide +kernel
theorem xd_Z_small_97 : decode xb_Z_small 97 = .ok (.if_icmp .ge 7, 3) := by decide +kernel
theorem xd_Z_small_100 : decode xb_Z_small 100 = .ok (.iconst 1, 1) := by decide +kernel
theorem xd_Z_small_101 : decode xb_Z_small 101 = .ok (.goto 4, 3) := by decide +kernel
theorem xd_Z_small_104 : decode xb_Z_small 104 = .ok (.iconst 0, 1) := by decide +kernel
theorem xd_Z_small_105 : decode xb_Z_small 105 = .ok (.invokevirtual 185, 3) := by decide +kernel
theorem xd_Z_small_108 : decode xb_Z_small 108 = .ok (.ireturn, 1) := by decide +kernel
theorem xd_Z_small_109 : decode xb_Z_small 109 = .ok (.aload_n 0, 1) := by decide +kernel
theorem xd_Z_small_110 : decode xb_Z_small 110 = .ok (.iload_n 2, 1) := by decide +kernel
theorem xd_Z_small_111 : decode xb_Z_small 111 = .ok (.iload 4, 2) := by decide +kernel
theorem xd_Z_small_113 : decode xb_Z_small 113 = .ok (.iload 5, 2) := by decide +kernel
theorem xd_Z_small_115 : decode xb_Z_small 115 = .ok (.invokestatic 223, 3) := by decide +kernel
theorem xd_Z_small_118 : decode xb_Z_small 118 = .ok (.ifCond .eq 7, 3) := by decide +kernel
theorem xd_Z_small_121 : decode xb_Z_small 121 = .ok (.iconst 1, 1) := by decide +kernel
theorem xd_Z_small_122 : decode xb_Z_small 122 = .ok (.goto 4, 3) := by decide +kernel
theorem xd_Z_small_125 : decode xb_Z_small 125 = .ok (.iconst 0, 1) := by decide +kernel
theorem xd_Z_small_126 : decode xb_Z_small 126 = .ok (.invokevirtual 185, 3) := by decide +kernel
theorem xd_Z_small_129 : decode xb_Z_small 129 = .ok (.ireturn, 1) := by decide +kernel
theorem xd_Z_small_130 : decode xb_Z_small 130 = .ok (.aload_n 0, 1) := by decide +kernel
theorem xd_Z_small_131 : decode xb_Z_small 131 = .ok (.iload_n 2, 1) := by decide +kernel
theorem xd_Z_small_132 : decode xb_Z_small 132 = .ok (.iload 4, 2) := by decide +kernel
theorem xd_Z_small_134 : decode xb_Z_small 134 = .ok (.iload 5, 2) := by decide +kernel
theorem xd_Z_small_136 : decode xb_Z_small 136 = .ok (.ixor, 1) := by decide +kernel
theorem xd_Z_small_137 : decode xb_Z_small 137 = .ok (.invokevirtual 185, 3) := by decide +kernel
theorem xd_Z_small_140 : decode xb_Z_small 140 = .ok (.ireturn, 1) := by decide +kernel
theorem xd_Z_small_141 : decode xb_Z_small 141 = .ok (.iload 6, 2) := by decide +kernel
theorem xd_Z_small_143 : decode xb_Z_small 143 = .ok (.ifCond .ne 19, 3) := by decide +kernel
theorem xd_Z_small_146 : decode xb_Z_small 146 = .ok (.aload_n 0, 1) := by decide +kernel
theorem xd_Z_small_147 : decode xb_Z_small 147 = .ok (.iload_n 2, 1) := by decide +kernel
theorem xd_Z_small_148 : decode xb_Z_small 148 = .ok (.iload 4, 2) := by decide +kernel
theorem xd_Z_small_150 : decode xb_Z_small 150 = .ok (.iload 5, 2) := by decide +kernel
theorem xd_Z_small_152 : decode xb_Z_small 152 = .ok (.bipush 31, 2) := by decide +kernel
theorem xd_Z_small_154 : decode xb_Z_small 154 = .ok (.iand, 1) := by decide +kernel
theorem xd_Z_small_155 : decode xb_Z_small 155 = .ok (.iushr, 1) := by decide +kernel
theorem xd_Z_small_156 : decode xb_Z_small 156 = .ok (.invokevirtual 185, 3) := by decide +kernel
theorem xd_Z_small_159 : decode xb_Z_small 159 = .ok (.goto 31, 3) := by decide +kernel
theorem xd_Z_small_162 : decode xb_Z_small 162 = .ok (.iload 6, 2) := by decide +kernel
theorem xd_Z_small_164 : decode xb_Z_small 164 = .ok (.bipush 32, 2) := by decide +kernel
theorem xd_Z_small_166 : decode xb_Z_small 166 = .ok (.if_icmp .ne 19, 3) := by decide +kernel
theorem xd_Z_small_169 : decode xb_Z_small 169 = .ok (.aload_n 0, 1) := by decide +kernel
theorem xd_Z_small_170 : decode xb_Z_small 170 = .ok (.iload_n 2, 1) := by decide +kernel
theorem xd_Z_small_171 : decode xb_Z_small 171 = .ok (.iload 4, 2) := by decide +kernel
theorem xd_Z_small_173 : decode xb_Z_small 173 = .ok (.iload 5, 2) := by decide +kernel
theorem xd_Z_small_175 : decode xb_Z_small 175 = .ok (.bipush 31, 2) := by decide +kernel
theorem xd_Z_small_177 : decode xb_Z_small 177 = .ok (.iand, 1) := by decide +kernel
theorem xd_Z_small_178 : decode xb_Z_small 178 = .ok (.ishr, 1) := by decide +kernel
theorem xd_Z_small_179 : decode xb_Z_small 179 = .ok (.invokevirtual 185, 3) := by decide +kernel
theorem xd_Z_small_182 : decode xb_Z_small 182 = .ok (.goto 8, 3) := by decide +kernel
theorem xd_Z_small_185 : decode xb_Z_small 185 = .ok (.aload_n 0, 1) := by decide +kernel
theorem xd_Z_small_186 : decode xb_Z_small 186 = .ok (.iload_n 1, 1) := by decide +kernel
theorem xd_Z_small_187 : decode xb_Z_small 187 = .ok (.invokevirtual 195, 3) := by decide +kernel
theorem xd_Z_small_190 : decode xb_Z_small 190 = .ok (.ireturn, 1) := by decide +kernel
theorem xd_Z_small_191 : decode xb_Z_small 191 = .ok (.aload_n 0, 1) := by decide +kernel
theorem xd_Z_small_192 : decode xb_Z_small 192 = .ok (.iload_n 2, 1) := by decide +kernel
theorem xd_Z_small_193 : decode xb_Z_small 193 = .ok (.iload 4, 2) := by decide +kernel
theorem xd_Z_small_195 : decode xb_Z_small 195 = .ok (.iload 5, 2) := by decide +kernel
theorem xd_Z_small_197 : decode xb_Z_small 197 = .ok (.ior, 1) := by decide +kernel
theorem xd_Z_small_198 : decode xb_Z_small 198 = .ok (.invokevirtual 185, 3) := by decide +kernel
theorem xd_Z_small_201 : decode xb_Z_small 201 = .ok (.ireturn, 1) := by decide +kernel
theorem xd_Z_small_202 : decode xb_Z_small 202 = .ok (.aload_n 0, 1) := by decide +kernel
theorem xd_Z_small_203 : decode xb_Z_small 203 = .ok (.iload_n 2, 1) := by decide +kernel
theorem xd_Z_small_204 : decode xb_Z_small 204 = .ok (.iload 4, 2) := by decide +kernel
theorem xd_Z_small_206 : decode xb_Z_small 206 = .ok (.iload 5, 2) := by decide +kernel
theorem xd_Z_small_208 : decode xb_Z_small 208 = .ok (.iand, 1) := by decide +kernel
theorem xd_Z_small_209 : decode xb_Z_small 209 = .ok (.invokevirtual 185, 3) := by decide +kernel
theorem xd_Z_small_212 : decode xb_Z_small 212 = .ok (.ireturn, 1) := by decide +kernel
theorem xd_Z_pair_0 : decode xb_Z_pair 0 = .ok (.iload_n 1, 1) := by decide +kernel
theorem xd_Z_pair_1 : decode xb_Z_pair 1 = .ok (.bipush 25, 2) := by decide +kernel
theorem xd_Z_pair_3 : decode xb_Z_pair 3 = .ok (.iushr, 1) := by decide +kernel
theorem xd_Z_pair_4 : decode xb_Z_pair 4 = .ok (.istore 6, 2) := by decide +kernel
theorem xd_Z_pair_6 : decode xb_Z_pair 6 = .ok (.iload 6, 2) := by decide +kernel
theorem xd_Z_pair_8 : decode xb_Z_pair 8 = .ok (.iconst 1, 1) := by decide +kernel
theorem xd_Z_pair_9 : decode xb_Z_pair 9 = .ok (.if_icmp .ne 17, 3) := by decide +kernel
theorem xd_Z_pair_12 : decode xb_Z_pair 12 = .ok (.aload_n 0, 1) := by decide +kernel
theorem xd_Z_pair_13 : decode xb_Z_pair 13 = .ok (.iload_n 2, 1) := by decide +kernel
theorem xd_Z_pair_14 : decode xb_Z_pair 14 = .ok (.iload_n 3, 1) := by decide +kernel
theorem xd_Z_pair_15 : decode xb_Z_pair 15 = .ok (.iload 4, 2) := by decide +kernel
theorem xd_Z_pair_17 : decode xb_Z_pair 17 = .ok (.iload 5, 2) := by decide +kernel
theorem xd_Z_pair_19 : decode xb_Z_pair 19 = .ok (.invokestatic 249, 3) := by decide +kernel
theorem xd_Z_pair_22 : decode xb_Z_pair 22 = .ok (.invokevirtual 185, 3) := by decide +kernel
theorem xd_Z_pair_25 : decode xb_Z_pair 25 = .ok (.ireturn, 1) := by decide +kernel
theorem xd_Z_pair_26 : decode xb_Z_pair 26 = .ok (.iload 6, 2) := by decide +kernel
theorem xd_Z_pair_28 : decode xb_Z_pair 28 = .ok (.bipush 32, 2) := by decide +kernel
theorem xd_Z_pair_30 : decode xb_Z_pair 30 = .ok (.if_icmp .ne 47, 3) := by decide +kernel
theorem xd_Z_pair_33 : decode xb_Z_pair 33 = .ok (.iload_n 3, 1) := by decide +kernel
theorem xd_Z_pair_34 : decode xb_Z_pair 34 = .ok (.ifCond .ne 16, 3) := by decide +kernel
theorem xd_Z_pair_37 : decode xb_Z_pair 37 = .ok (.aload_n 0, 1) := by decide +kernel
theorem xd_Z_pair_38 : decode xb_Z_pair 38 = .ok (.iload_n 2, 1) := by decide +kernel
theorem xd_Z_pair_39 : decode xb_Z_pair 39 = .ok (.iload 4, 2) := by decide +kernel
theorem xd_Z_pair_41 : decode xb_Z_pair 41 = .ok (.iload 5, 2) := by decide +kernel
theorem xd_Z_pair_43 : decode xb_Z_pair 43 = .ok (.isub, 1) := by decide +kernel
theorem xd_Z_pair_44 : decode xb_Z_pair 44 = .ok (.invokevirtual 185, 3) := by decide +kernel
theorem xd_Z_pair_47 : decode xb_Z_pair 47 = .ok (.goto 29, 3) := by decide +kernel
theorem xd_Z_pair_50 : decode xb_Z_pair 50 = .ok (.iload_n 3, 1) := by decide +kernel
theorem xd_Z_pair_51 : decode xb_Z_pair 51 = .ok (.iconst 5, 1) := by decide +kernel
theorem xd_Z_pair_52 : decode xb_Z_pair 52 = .ok (.if_icmp .ne 19, 3) := by decide +kernel
theorem xd_Z_pair_55 : decode xb_Z_pair 55 = .ok (.aload_n 0, 1) := by decide +kernel
theorem xd_Z_pair_56 : decode xb_Z_pair 56 = .ok (.iload_n 2, 1) := by decide +kernel
theorem xd_Z_pair_57 : decode xb_Z_pair 57 = .ok (.iload 4, 2) := by decide +kernel
theorem xd_Z_pair_59 : decode xb_Z_pair 59 = .ok (.iload 5, 2) := by decide +kernel
theorem xd_Z_pair_61 : decode xb_Z_pair 61 = .ok (.bipush 31, 2) := by decide +kernel
theorem xd_Z_pair_63 : decode xb_Z_pair 63 = .ok (.iand, 1) := by decide +kernel
theorem xd_Z_pair_64 : decode xb_Z_pair 64 = .ok (.ishr, 1) := by decide +kernel
theorem xd_Z_pair_65 : decode xb_Z_pair 65 = .ok (.invokevirtual 185, 3) := by decide +kernel
theorem xd_Z_pair_68 : decode xb_Z_pair 68 = .ok (.goto 8, 3) := by decide +kernel
theorem xd_Z_pair_71 : decode xb_Z_pair 71 = .ok (.aload_n 0, 1) := by decide +kernel
theorem xd_Z_pair_72 : decode xb_Z_pair 72 = .ok (.iload_n 1, 1) := by decide +kernel
theorem xd_Z_pair_73 : decode xb_Z_pair 73 = .ok (.invokevirtual 195, 3) := by decide +kernel
theorem xd_Z_pair_76 : decode xb_Z_pair 76 = .ok (.ireturn, 1) := by decide +kernel
theorem xd_Z_pair_77 : decode xb_Z_pair 77 = .ok (.iload 6, 2) := by decide +kernel
theorem xd_Z_pair_79 : decode xb_Z_pair 79 = .ok (.ifCond .eq 9, 3) := by decide +kernel
theorem xd_Z_pair_82 : decode xb_Z_pair 82 = .ok (.aload_n 0, 1) := by decide +kernel
theorem xd_Z_pair_83 : decode xb_Z_pair 83 = .ok (.iload_n 1, 1) := by decide +kernel
theorem xd_Z_pair_84 : decode xb_Z_pair 84 = .ok (.invokevirtual 195, 3) := by decide +kernel
theorem xd_Z_pair_87 : decode xb_Z_pair 87 = .ok (.ireturn, 1) := by decide +kernel
theorem xd_Z_pair_88 : decode xb_Z_pair 88 = .ok (.iload_n 3, 1) := by decide +kernel
theorem xd_Z_pair_89 : decode xb_Z_pair 89 = .ok (.tableswitch 143 0 6 #[43, 54, 68, 86, 107, 118, 132], 43) := by decide +kernel
theorem xd_Z_pair_132 : decode xb_Z_pair 132 = .ok (.aload_n 0, 1) := by decide +kernel
theorem xd_Z_pair_133 : decode xb_Z_pair 133 = .ok (.iload_n 2, 1) := by decide +kernel
theorem xd_Z_pair_134 : decode xb_Z_pair 134 = .ok (.iload 4, 2) := by decide +kernel
theorem xd_Z_pair_136 : decode xb_Z_pair 136 = .ok (.iload 5, 2) := by decide +kernel
theorem xd_Z_pair_138 : decode xb_Z_pair 138 = .ok (.iadd, 1) := by decide +kernel
theorem xd_Z_pair_139 : decode xb_Z_pair 139 = .ok (.invokevirtual 185, 3) := by decide +kernel
theorem xd_Z_pair_142 : decode xb_Z_pair 142 = .ok (.ireturn, 1) := by decide +kernel
theorem xd_Z_pair_143 : decode xb_Z_pair 143 = .ok (.aload_n 0, 1) := by decide +kernel
theorem xd_Z_pair_144 : decode xb_Z_pair 144 = .ok (.iload_n 2, 1) := by decide +kernel
theorem xd_Z_pair_145 : decode xb_Z_pair 145 = .ok (.iload 4, 2) := by decide +kernel
theorem xd_Z_pair_147 : decode xb_Z_pair 147 = .ok (.iload 5, 2) := by decide +kernel
theorem xd_Z_pair_149 : decode xb_Z_pair 149 = .ok (.bipush 31, 2) := by decide +kernel
theorem xd_Z_pair_151 : decode xb_Z_pair 151 = .ok (.iand, 1) := by decide +kernel
theorem xd_Z_pair_152 : decode xb_Z_pair 152 = .ok (.ishl, 1) := by decide +kernel
theorem xd_Z_pair_153 : decode xb_Z_pair 153 = .ok (.invokevirtual 185, 3) := by decide +kernel
theorem xd_Z_pair_156 : decode xb_Z_pair 156 = .ok (.ireturn, 1) := by decide +kernel
theorem xd_Z_pair_157 : decode xb_Z_pair 157 = .ok (.aload_n 0, 1) := by decide +kernel
theorem xd_Z_pair_158 : decode xb_Z_pair 158 = .ok (.iload_n 2, 1) := by decide +kernel
theorem xd_Z_pair_159 : decode xb_Z_pair 159 = .ok (.iload 4, 2) := by decide +kernel
theorem xd_Z_pair_161 : decode xb_Z_pair 161 = .ok (.iload 5, 2) := by decide +kernel
theorem xd_Z_pair_163 : decode xb_Z_pair 163 = .ok (.if_icmp .ge 7, 3) := by decide +kernel
theorem xd_Z_pair_166 : decode xb_Z_pair 166 = .ok (.iconst 1, 1) := by decide +kernel
theorem xd_Z_pair_167 : decode xb_Z_pair 167 = .ok (.goto 4, 3) := by decide +kernel
theorem xd_Z_pair_170 : decode xb_Z_pair 170 = .ok (.iconst 0, 1) := by decide +kernel
theorem xd_Z_pair_171 : decode xb_Z_pair 171 = .ok (.invokevirtual 185, 3) := by decide +kernel
theorem xd_Z_pair_174 : decode xb_Z_pair 174 = .ok (.ireturn, 1) := by decide +kernel
theorem xd_Z_pair_175 : decode xb_Z_pair 175 = .ok (.aload_n 0, 1) := by decide +kernel
theorem xd_Z_pair_176 : decode xb_Z_pair 176 = .ok (.iload_n 2, 1) := by decide +kernel
theorem xd_Z_pair_177 : decode xb_Z_pair 177 = .ok (.iload 4, 2) := by decide +kernel
theorem xd_Z_pair_179 : decode xb_Z_pair 179 = .ok (.iload 5, 2) := by decide +kernel
theorem xd_Z_pair_181 : decode xb_Z_pair 181 = .ok (.invokestatic 223, 3) := by decide +kernel
theorem xd_Z_pair_184 : decode xb_Z_pair 184 = .ok (.ifCond .eq 7, 3) := by decide +kernel
theorem xd_Z_pair_187 : decode xb_Z_pair 187 = .ok (.iconst 1, 1) := by decide +kernel
theorem xd_Z_pair_188 : decode xb_Z_pair 188 = .ok (.goto 4, 3) := by decide +kernel
theorem xd_Z_pair_191 : decode xb_Z_pair 191 = .ok (.iconst 0, 1) := by decide +kernel
theorem xd_Z_pair_192 : decode xb_Z_pair 192 = .ok (.invokevirtual 185, 3) := by decide +kernel
theorem xd_Z_pair_195 : decode xb_Z_pair 195 = .ok (.ireturn, 1) := by decide +kernel
theorem xd_Z_pair_196 : decode xb_Z_pair 196 = .ok (.aload_n 0, 1) := by decide +kernel
theorem xd_Z_pair_197 : decode xb_Z_pair 197 = .ok (.iload_n 2, 1) := by decide +kernel
theorem xd_Z_pair_198 : decode xb_Z_pair 198 = .ok (.iload 4, 2) := by decide +kernel
theorem xd_Z_pair_200 : decode xb_Z_pair 200 = .ok (.iload 5, 2) := by decide +kernel
theorem xd_Z_pair_202 : decode xb_Z_pair 202 = .ok (.ixor, 1) := by decide +kernel
theorem xd_Z_pair_203 : decode xb_Z_pair 203 = .ok (.invokevirtual 185, 3) := by decide +kernel
theorem xd_Z_pair_206 : decode xb_Z_pair 206 = .ok (.ireturn, 1) := by decide +kernel
theorem xd_Z_pair_207 : decode xb_Z_pair 207 = .ok (.aload_n 0, 1) := by decide +kernel
theorem xd_Z_pair_208 : decode xb_Z_pair 208 = .ok (.iload_n 2, 1) := by decide +kernel
theorem xd_Z_pair_209 : decode xb_Z_pair 209 = .ok (.iload 4, 2) := by decide +kernel
theorem xd_Z_pair_211 : decode xb_Z_pair 211 = .ok (.iload 5, 2) := by decide +kernel
theorem xd_Z_pair_213 : decode xb_Z_pair 213 = .ok (.bipush 31, 2) := by decide +kernel
theorem xd_Z_pair_215 : decode xb_Z_pair 215 = .ok (.iand, 1) := by decide +kernel
theorem xd_Z_pair_216 : decode xb_Z_pair 216 = .ok (.iushr, 1) := by decide +kernel
theorem xd_Z_pair_217 : decode xb_Z_pair 217 = .ok (.invokevirtual 185, 3) := by decide +kernel
theorem xd_Z_pair_220 : decode xb_Z_pair 220 = .ok (.ireturn, 1) := by decide +kernel
theorem xd_Z_pair_221 : decode xb_Z_pair 221 = .ok (.aload_n 0, 1) := by decide +kernel
theorem xd_Z_pair_222 : decode xb_Z_pair 222 = .ok (.iload_n 2, 1) := by decide +kernel
theorem xd_Z_pair_223 : decode xb_Z_pair 223 = .ok (.iload 4, 2) := by decide +kernel
theorem xd_Z_pair_225 : decode xb_Z_pair 225 = .ok (.iload 5, 2) := by decide +kernel
theorem xd_Z_pair_227 : decode xb_Z_pair 227 = .ok (.ior, 1) := by decide +kernel
theorem xd_Z_pair_228 : decode xb_Z_pair 228 = .ok (.invokevirtual 185, 3) := by decide +kernel
theorem xd_Z_pair_231 : decode xb_Z_pair 231 = .ok (.ireturn, 1) := by decide +kernel
theorem xd_Z_pair_232 : decode xb_Z_pair 232 = .ok (.aload_n 0, 1) := by decide +kernel
theorem xd_Z_pair_233 : decode xb_Z_pair 233 = .ok (.iload_n 2, 1) := by decide +kernel
theorem xd_Z_pair_234 : decode xb_Z_pair 234 = .ok (.iload 4, 2) := by decide +kernel
theorem xd_Z_pair_236 : decode xb_Z_pair 236 = .ok (.iload 5, 2) := by decide +kernel
theorem xd_Z_pair_238 : decode xb_Z_pair 238 = .ok (.iand, 1) := by decide +kernel
theorem xd_Z_pair_239 : decode xb_Z_pair 239 = .ok (.invokevirtual 185, 3) := by decide +kernel
theorem xd_Z_pair_242 : decode xb_Z_pair 242 = .ok (.ireturn, 1) := by decide +kernel
theorem xd_Z_product_0 : decode xb_Z_product 0 = .ok (.iload_n 1, 1) := by decide +kernel
theorem xd_Z_product_1 : decode xb_Z_product 1 = .ok (.i2l, 1) := by decide +kernel
theorem xd_Z_product_2 : decode xb_Z_product 2 = .ok (.lstore_n 3, 1) := by decide +kernel
theorem xd_Z_product_3 : decode xb_Z_product 3 = .ok (.iload_n 2, 1) := by decide +kernel
theorem xd_Z_product_4 : decode xb_Z_product 4 = .ok (.i2l, 1) := by decide +kernel
theorem xd_Z_product_5 : decode xb_Z_product 5 = .ok (.lstore 5, 2) := by decide +kernel
theorem xd_Z_product_7 : decode xb_Z_product 7 = .ok (.iload_n 1, 1) := by decide +kernel
theorem xd_Z_product_8 : decode xb_Z_product 8 = .ok (.i2l, 1) := by decide +kernel
theorem xd_Z_product_9 : decode xb_Z_product 9 = .ok (.ldc2_w 68, 3) := by decide +kernel
theorem xd_Z_product_12 : decode xb_Z_product 12 = .ok (.land, 1) := by decide +kernel
theorem xd_Z_product_13 : decode xb_Z_product 13 = .ok (.lstore 7, 2) := by decide +kernel
theorem xd_Z_product_15 : decode xb_Z_product 15 = .ok (.iload_n 2, 1) := by decide +kernel
theorem xd_Z_product_16 : decode xb_Z_product 16 = .ok (.i2l, 1) := by decide +kernel
theorem xd_Z_product_17 : decode xb_Z_product 17 = .ok (.ldc2_w 68, 3) := by decide +kernel
theorem xd_Z_product_20 : decode xb_Z_product 20 = .ok (.land, 1) := by decide +kernel
theorem xd_Z_product_21 : decode xb_Z_product 21 = .ok (.lstore 9, 2) := by decide +kernel
theorem xd_Z_product_23 : decode xb_Z_product 23 = .ok (.iload_n 0, 1) := by decide +kernel
theorem xd_Z_product_24 : decode xb_Z_product 24 = .ok (.tableswitch 121 0 6 #[44, 50, 59, 68, 78, 92, 107], 44) := by decide +kernel
theorem xd_Z_product_68 : decode xb_Z_product 68 = .ok (.lload_n 3, 1) := by decide +kernel
theorem xd_Z_product_69 : decode xb_Z_product 69 = .ok (.lload 5, 2) := by decide +kernel
theorem xd_Z_product_71 : decode xb_Z_product 71 = .ok (.lmul, 1) := by decide +kernel
theorem xd_Z_product_72 : decode xb_Z_product 72 = .ok (.l2i, 1) := by decide +kernel
theorem xd_Z_product_73 : decode xb_Z_product 73 = .ok (.ireturn, 1) := by decide +kernel
theorem xd_Z_product_74 : decode xb_Z_product 74 = .ok (.lload_n 3, 1) := by decide +kernel
theorem xd_Z_product_75 : decode xb_Z_product 75 = .ok (.lload 5, 2) := by decide +kernel
theorem xd_Z_product_77 : decode xb_Z_product 77 = .ok (.lmul, 1) := by decide +kernel
theorem xd_Z_product_78 : decode xb_Z_product 78 = .ok (.bipush 32, 2) := by decide +kernel
theorem xd_Z_product_80 : decode xb_Z_product 80 = .ok (.lshr, 1) := by decide +kernel
theorem xd_Z_product_81 : decode xb_Z_product 81 = .ok (.l2i, 1) := by decide +kernel
theorem xd_Z_product_82 : decode xb_Z_product 82 = .ok (.ireturn, 1) := by decide +kernel
theorem xd_Z_product_83 : decode xb_Z_product 83 = .ok (.lload_n 3, 1) := by decide +kernel
theorem xd_Z_product_84 : decode xb_Z_product 84 = .ok (.lload 9, 2) := by decide +kernel
theorem xd_Z_product_86 : decode xb_Z_product 86 = .ok (.lmul, 1) := by decide +kernel
theorem xd_Z_product_87 : decode xb_Z_product 87 = .ok (.bipush 32, 2) := by decide +kernel
theorem xd_Z_product_89 : decode xb_Z_product 89 = .ok (.lshr, 1) := by decide +kernel
theorem xd_Z_product_90 : decode xb_Z_product 90 = .ok (.l2i, 1) := by decide +kernel
theorem xd_Z_product_91 : decode xb_Z_product 91 = .ok (.ireturn, 1) := by decide +kernel
theorem xd_Z_product_92 : decode xb_Z_product 92 = .ok (.lload 7, 2) := by decide +kernel
theorem xd_Z_product_94 : decode xb_Z_product 94 = .ok (.lload 9, 2) := by decide +kernel
theorem xd_Z_product_96 : decode xb_Z_product 96 = .ok (.lmul, 1) := by decide +kernel
theorem xd_Z_product_97 : decode xb_Z_product 97 = .ok (.bipush 32, 2) := by decide +kernel
theorem xd_Z_product_99 : decode xb_Z_product 99 = .ok (.lushr, 1) := by decide +kernel
theorem xd_Z_product_100 : decode xb_Z_product 100 = .ok (.l2i, 1) := by decide +kernel
theorem xd_Z_product_101 : decode xb_Z_product 101 = .ok (.ireturn, 1) := by decide +kernel
theorem xd_Z_product_102 : decode xb_Z_product 102 = .ok (.iload_n 2, 1) := by decide +kernel
theorem xd_Z_product_103 : decode xb_Z_product 103 = .ok (.ifCond .ne 7, 3) := by decide +kernel
theorem xd_Z_product_106 : decode xb_Z_product 106 = .ok (.iconst (-1), 1) := by decide +kernel
theorem xd_Z_product_107 : decode xb_Z_product 107 = .ok (.goto 8, 3) := by decide +kernel
theorem xd_Z_product_110 : decode xb_Z_product 110 = .ok (.lload_n 3, 1) := by decide +kernel
theorem xd_Z_product_111 : decode xb_Z_product 111 = .ok (.lload 5, 2) := by decide +kernel
theorem xd_Z_product_113 : decode xb_Z_product 113 = .ok (.ldiv, 1) := by decide +kernel
theorem xd_Z_product_114 : decode xb_Z_product 114 = .ok (.l2i, 1) := by decide +kernel
theorem xd_Z_product_115 : decode xb_Z_product 115 = .ok (.ireturn, 1) := by decide +kernel
theorem xd_Z_product_116 : decode xb_Z_product 116 = .ok (.iload_n 2, 1) := by decide +kernel
theorem xd_Z_product_117 : decode xb_Z_product 117 = .ok (.ifCond .ne 7, 3) := by decide +kernel
theorem xd_Z_product_120 : decode xb_Z_product 120 = .ok (.iconst (-1), 1) := by decide +kernel
theorem xd_Z_product_121 : decode xb_Z_product 121 = .ok (.goto 9, 3) := by decide +kernel
theorem xd_Z_product_124 : decode xb_Z_product 124 = .ok (.lload 7, 2) := by decide +kernel
theorem xd_Z_product_126 : decode xb_Z_product 126 = .ok (.lload 9, 2) := by decide +kernel
theorem xd_Z_product_128 : decode xb_Z_product 128 = .ok (.ldiv, 1) := by decide +kernel
theorem xd_Z_product_129 : decode xb_Z_product 129 = .ok (.l2i, 1) := by decide +kernel
theorem xd_Z_product_130 : decode xb_Z_product 130 = .ok (.ireturn, 1) := by decide +kernel
theorem xd_Z_product_131 : decode xb_Z_product 131 = .ok (.iload_n 2, 1) := by decide +kernel
theorem xd_Z_product_132 : decode xb_Z_product 132 = .ok (.ifCond .ne 7, 3) := by decide +kernel
theorem xd_Z_product_135 : decode xb_Z_product 135 = .ok (.iload_n 1, 1) := by decide +kernel
theorem xd_Z_product_136 : decode xb_Z_product 136 = .ok (.goto 8, 3) := by decide +kernel
theorem xd_Z_product_139 : decode xb_Z_product 139 = .ok (.lload_n 3, 1) := by decide +kernel
theorem xd_Z_product_140 : decode xb_Z_product 140 = .ok (.lload 5, 2) := by decide +kernel
theorem xd_Z_product_142 : decode xb_Z_product 142 = .ok (.lrem, 1) := by decide +kernel
theorem xd_Z_product_143 : decode xb_Z_product 143 = .ok (.l2i, 1) := by decide +kernel
theorem xd_Z_product_144 : decode xb_Z_product 144 = .ok (.ireturn, 1) := by decide +kernel
theorem xd_Z_product_145 : decode xb_Z_product 145 = .ok (.iload_n 2, 1) := by decide +kernel
theorem xd_Z_product_146 : decode xb_Z_product 146 = .ok (.ifCond .ne 7, 3) := by decide +kernel
theorem xd_Z_product_149 : decode xb_Z_product 149 = .ok (.iload_n 1, 1) := by decide +kernel
theorem xd_Z_product_150 : decode xb_Z_product 150 = .ok (.goto 9, 3) := by decide +kernel
theorem xd_Z_product_153 : decode xb_Z_product 153 = .ok (.lload 7, 2) := by decide +kernel
theorem xd_Z_product_155 : decode xb_Z_product 155 = .ok (.lload 9, 2) := by decide +kernel
theorem xd_Z_product_157 : decode xb_Z_product 157 = .ok (.lrem, 1) := by decide +kernel
theorem xd_Z_product_158 : decode xb_Z_product 158 = .ok (.l2i, 1) := by decide +kernel
theorem xd_Z_product_159 : decode xb_Z_product 159 = .ok (.ireturn, 1) := by decide +kernel
theorem xd_Z_system_0 : decode xb_Z_system 0 = .ok (.iload_n 3, 1) := by decide +kernel
theorem xd_Z_system_1 : decode xb_Z_system 1 = .ok (.iconst 4, 1) := by decide +kernel
theorem xd_Z_system_2 : decode xb_Z_system 2 = .ok (.if_icmp .ne 14, 3) := by decide +kernel
theorem xd_Z_system_5 : decode xb_Z_system 5 = .ok (.aload_n 0, 1) := by decide +kernel
theorem xd_Z_system_6 : decode xb_Z_system 6 = .ok (.iload_n 1, 1) := by decide +kernel
theorem xd_Z_system_7 : decode xb_Z_system 7 = .ok (.iload_n 2, 1) := by decide +kernel
theorem xd_Z_system_8 : decode xb_Z_system 8 = .ok (.iload 4, 2) := by decide +kernel
theorem xd_Z_system_10 : decode xb_Z_system 10 = .ok (.iload 5, 2) := by decide +kernel
theorem xd_Z_system_12 : decode xb_Z_system 12 = .ok (.invokevirtual 253, 3) := by decide +kernel
theorem xd_Z_system_15 : decode xb_Z_system 15 = .ok (.ireturn, 1) := by decide +kernel
theorem xd_Z_system_16 : decode xb_Z_system 16 = .ok (.iload_n 3, 1) := by decide +kernel
theorem xd_Z_system_17 : decode xb_Z_system 17 = .ok (.ifCond .eq 13, 3) := by decide +kernel
theorem xd_Z_system_20 : decode xb_Z_system 20 = .ok (.aload_n 0, 1) := by decide +kernel
theorem xd_Z_system_21 : decode xb_Z_system 21 = .ok (.iload_n 1, 1) := by decide +kernel
theorem xd_Z_system_22 : decode xb_Z_system 22 = .ok (.iload_n 2, 1) := by decide +kernel
theorem xd_Z_system_23 : decode xb_Z_system 23 = .ok (.iload_n 3, 1) := by decide +kernel
theorem xd_Z_system_24 : decode xb_Z_system 24 = .ok (.iload 4, 2) := by decide +kernel
theorem xd_Z_system_26 : decode xb_Z_system 26 = .ok (.invokevirtual 256, 3) := by decide +kernel
theorem xd_Z_system_29 : decode xb_Z_system 29 = .ok (.ireturn, 1) := by decide +kernel
theorem xd_Z_system_30 : decode xb_Z_system 30 = .ok (.iload_n 1, 1) := by decide +kernel
theorem xd_Z_system_31 : decode xb_Z_system 31 = .ok (.bipush 25, 2) := by decide +kernel
theorem xd_Z_system_33 : decode xb_Z_system 33 = .ok (.iushr, 1) := by decide +kernel
theorem xd_Z_system_34 : decode xb_Z_system 34 = .ok (.istore 6, 2) := by decide +kernel
theorem xd_Z_system_36 : decode xb_Z_system 36 = .ok (.iload_n 1, 1) := by decide +kernel
theorem xd_Z_system_37 : decode xb_Z_system 37 = .ok (.bipush 20, 2) := by decide +kernel
theorem xd_Z_system_39 : decode xb_Z_system 39 = .ok (.iushr, 1) := by decide +kernel
theorem xd_Z_system_40 : decode xb_Z_system 40 = .ok (.istore 7, 2) := by decide +kernel
theorem xd_Z_system_42 : decode xb_Z_system 42 = .ok (.iload_n 2, 1) := by decide +kernel
theorem xd_Z_system_43 : decode xb_Z_system 43 = .ok (.ifCond .eq 9, 3) := by decide +kernel
theorem xd_Z_system_46 : decode xb_Z_system 46 = .ok (.aload_n 0, 1) := by decide +kernel
