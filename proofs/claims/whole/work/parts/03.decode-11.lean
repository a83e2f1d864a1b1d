theorem xd_C_store_9 : decode xb_C_store 9 = .ok (.iload_n 3, 1) := by decide +kernel
theorem xd_C_store_10 : decode xb_C_store 10 = .ok (.invokevirtual 93, 3) := by decide +kernel
theorem xd_C_store_13 : decode xb_C_store 13 = .ok (.istore 4, 2) := by decide +kernel
theorem xd_C_store_15 : decode xb_C_store 15 = .ok (.iload 4, 2) := by decide +kernel
theorem xd_C_store_17 : decode xb_C_store 17 = .ok (.ifCond .lt 25, 3) := by decide +kernel
theorem xd_C_store_20 : decode xb_C_store 20 = .ok (.aload_n 0, 1) := by decide +kernel
theorem xd_C_store_21 : decode xb_C_store 21 = .ok (.getfield 34, 3) := by decide +kernel
theorem xd_C_store_24 : decode xb_C_store 24 = .ok (.iload 4, 2) := by decide +kernel
theorem xd_C_store_26 : decode xb_C_store 26 = .ok (.iload_n 2, 1) := by decide +kernel
theorem xd_C_store_27 : decode xb_C_store 27 = .ok (.aload_n 0, 1) := by decide +kernel
theorem xd_C_store_28 : decode xb_C_store 28 = .ok (.getfield 9, 3) := by decide +kernel
theorem xd_C_store_31 : decode xb_C_store 31 = .ok (.aload_n 0, 1) := by decide +kernel
theorem xd_C_store_32 : decode xb_C_store 32 = .ok (.getfield 101, 3) := by decide +kernel
theorem xd_C_store_35 : decode xb_C_store 35 = .ok (.invokestatic 229, 3) := by decide +kernel
theorem xd_C_store_38 : decode xb_C_store 38 = .ok (.iaload, 1) := by decide +kernel
theorem xd_C_store_39 : decode xb_C_store 39 = .ok (.invokevirtual 274, 3) := by decide +kernel
theorem xd_C_store_42 : decode xb_C_store 42 = .ok (.return_, 1) := by decide +kernel
theorem xd_C_controlOp_0 : decode xb_C_controlOp 0 = .ok (.aload_n 0, 1) := by decide +kernel
theorem xd_C_controlOp_1 : decode xb_C_controlOp 1 = .ok (.getfield 101, 3) := by decide +kernel
theorem xd_C_controlOp_4 : decode xb_C_controlOp 4 = .ok (.invokestatic 218, 3) := by decide +kernel
theorem xd_C_controlOp_7 : decode xb_C_controlOp 7 = .ok (.istore_n 2, 1) := by decide +kernel
theorem xd_C_controlOp_8 : decode xb_C_controlOp 8 = .ok (.aload_n 0, 1) := by decide +kernel
theorem xd_C_controlOp_9 : decode xb_C_controlOp 9 = .ok (.getfield 101, 3) := by decide +kernel
theorem xd_C_controlOp_12 : decode xb_C_controlOp 12 = .ok (.bipush 20, 2) := by decide +kernel
theorem xd_C_controlOp_14 : decode xb_C_controlOp 14 = .ok (.iushr, 1) := by decide +kernel
theorem xd_C_controlOp_15 : decode xb_C_controlOp 15 = .ok (.istore_n 3, 1) := by decide +kernel
theorem xd_C_controlOp_16 : decode xb_C_controlOp 16 = .ok (.iload_n 1, 1) := by decide +kernel
theorem xd_C_controlOp_17 : decode xb_C_controlOp 17 = .ok (.iconst 3, 1) := by decide +kernel
theorem xd_C_controlOp_18 : decode xb_C_controlOp 18 = .ok (.iand, 1) := by decide +kernel
theorem xd_C_controlOp_19 : decode xb_C_controlOp 19 = .ok (.iconst 1, 1) := by decide +kernel
theorem xd_C_controlOp_20 : decode xb_C_controlOp 20 = .ok (.if_icmp .eq 7, 3) := by decide +kernel
theorem xd_C_controlOp_23 : decode xb_C_controlOp 23 = .ok (.iload_n 2, 1) := by decide +kernel
theorem xd_C_controlOp_24 : decode xb_C_controlOp 24 = .ok (.ifCond .eq 7, 3) := by decide +kernel
theorem xd_C_controlOp_27 : decode xb_C_controlOp 27 = .ok (.iconst 1, 1) := by decide +kernel
theorem xd_C_controlOp_28 : decode xb_C_controlOp 28 = .ok (.goto 4, 3) := by decide +kernel
theorem xd_C_controlOp_31 : decode xb_C_controlOp 31 = .ok (.iconst 0, 1) := by decide +kernel
theorem xd_C_controlOp_32 : decode xb_C_controlOp 32 = .ok (.istore 4, 2) := by decide +kernel
theorem xd_C_controlOp_34 : decode xb_C_controlOp 34 = .ok (.aload_n 0, 1) := by decide +kernel
theorem xd_C_controlOp_35 : decode xb_C_controlOp 35 = .ok (.getfield 39, 3) := by decide +kernel
theorem xd_C_controlOp_38 : decode xb_C_controlOp 38 = .ok (.iload_n 3, 1) := by decide +kernel
theorem xd_C_controlOp_39 : decode xb_C_controlOp 39 = .ok (.iload 4, 2) := by decide +kernel
theorem xd_C_controlOp_41 : decode xb_C_controlOp 41 = .ok (.aload_n 0, 1) := by decide +kernel
theorem xd_C_controlOp_42 : decode xb_C_controlOp 42 = .ok (.getfield 64, 3) := by decide +kernel
theorem xd_C_controlOp_45 : decode xb_C_controlOp 45 = .ok (.invokevirtual 277, 3) := by decide +kernel
theorem xd_C_controlOp_48 : decode xb_C_controlOp 48 = .ok (.istore 5, 2) := by decide +kernel
theorem xd_C_controlOp_50 : decode xb_C_controlOp 50 = .ok (.iload 5, 2) := by decide +kernel
theorem xd_C_controlOp_52 : decode xb_C_controlOp 52 = .ok (.iconst (-1), 1) := by decide +kernel
theorem xd_C_controlOp_53 : decode xb_C_controlOp 53 = .ok (.if_icmp .eq 10, 3) := by decide +kernel
theorem xd_C_controlOp_56 : decode xb_C_controlOp 56 = .ok (.aload_n 0, 1) := by decide +kernel
theorem xd_C_controlOp_57 : decode xb_C_controlOp 57 = .ok (.iload 5, 2) := by decide +kernel
theorem xd_C_controlOp_59 : decode xb_C_controlOp 59 = .ok (.invokevirtual 215, 3) := by decide +kernel
theorem xd_C_controlOp_62 : decode xb_C_controlOp 62 = .ok (.return_, 1) := by decide +kernel
theorem xd_C_controlOp_63 : decode xb_C_controlOp 63 = .ok (.iload_n 3, 1) := by decide +kernel
theorem xd_C_controlOp_64 : decode xb_C_controlOp 64 = .ok (.aload_n 0, 1) := by decide +kernel
theorem xd_C_controlOp_65 : decode xb_C_controlOp 65 = .ok (.getfield 64, 3) := by decide +kernel
theorem xd_C_controlOp_68 : decode xb_C_controlOp 68 = .ok (.invokestatic 281, 3) := by decide +kernel
theorem xd_C_controlOp_71 : decode xb_C_controlOp 71 = .ok (.istore 6, 2) := by decide +kernel
theorem xd_C_controlOp_73 : decode xb_C_controlOp 73 = .ok (.aload_n 0, 1) := by decide +kernel
theorem xd_C_controlOp_74 : decode xb_C_controlOp 74 = .ok (.getfield 39, 3) := by decide +kernel
theorem xd_C_controlOp_77 : decode xb_C_controlOp 77 = .ok (.iload 6, 2) := by decide +kernel
theorem xd_C_controlOp_79 : decode xb_C_controlOp 79 = .ok (.invokevirtual 284, 3) := by decide +kernel
theorem xd_C_controlOp_82 : decode xb_C_controlOp 82 = .ok (.istore 7, 2) := by decide +kernel
theorem xd_C_controlOp_84 : decode xb_C_controlOp 84 = .ok (.iload_n 1, 1) := by decide +kernel
theorem xd_C_controlOp_85 : decode xb_C_controlOp 85 = .ok (.iconst 4, 1) := by decide +kernel
theorem xd_C_controlOp_86 : decode xb_C_controlOp 86 = .ok (.if_icmp .le 7, 3) := by decide +kernel
theorem xd_C_controlOp_89 : decode xb_C_controlOp 89 = .ok (.iload_n 2, 1) := by decide +kernel
theorem xd_C_controlOp_90 : decode xb_C_controlOp 90 = .ok (.goto 9, 3) := by decide +kernel
theorem xd_C_controlOp_93 : decode xb_C_controlOp 93 = .ok (.aload_n 0, 1) := by decide +kernel
theorem xd_C_controlOp_94 : decode xb_C_controlOp 94 = .ok (.getfield 9, 3) := by decide +kernel
theorem xd_C_controlOp_97 : decode xb_C_controlOp 97 = .ok (.iload_n 2, 1) := by decide +kernel
theorem xd_C_controlOp_98 : decode xb_C_controlOp 98 = .ok (.iaload, 1) := by decide +kernel
theorem xd_C_controlOp_99 : decode xb_C_controlOp 99 = .ok (.istore 8, 2) := by decide +kernel
theorem xd_C_controlOp_101 : decode xb_C_controlOp 101 = .ok (.iload 4, 2) := by decide +kernel
theorem xd_C_controlOp_103 : decode xb_C_controlOp 103 = .ok (.ifCond .eq 22, 3) := by decide +kernel
theorem xd_C_controlOp_106 : decode xb_C_controlOp 106 = .ok (.aload_n 0, 1) := by decide +kernel
theorem xd_C_controlOp_107 : decode xb_C_controlOp 107 = .ok (.getfield 39, 3) := by decide +kernel
theorem xd_C_controlOp_110 : decode xb_C_controlOp 110 = .ok (.iload 6, 2) := by decide +kernel
theorem xd_C_controlOp_112 : decode xb_C_controlOp 112 = .ok (.iload_n 1, 1) := by decide +kernel
theorem xd_C_controlOp_113 : decode xb_C_controlOp 113 = .ok (.iconst 3, 1) := by decide +kernel
theorem xd_C_controlOp_114 : decode xb_C_controlOp 114 = .ok (.iand, 1) := by decide +kernel
theorem xd_C_controlOp_115 : decode xb_C_controlOp 115 = .ok (.iload 7, 2) := by decide +kernel
theorem xd_C_controlOp_117 : decode xb_C_controlOp 117 = .ok (.iload 8, 2) := by decide +kernel
theorem xd_C_controlOp_119 : decode xb_C_controlOp 119 = .ok (.invokestatic 287, 3) := by decide +kernel
theorem xd_C_controlOp_122 : decode xb_C_controlOp 122 = .ok (.invokevirtual 290, 3) := by decide +kernel
theorem xd_C_controlOp_125 : decode xb_C_controlOp 125 = .ok (.aload_n 0, 1) := by decide +kernel
theorem xd_C_controlOp_126 : decode xb_C_controlOp 126 = .ok (.aload_n 0, 1) := by decide +kernel
theorem xd_C_controlOp_127 : decode xb_C_controlOp 127 = .ok (.getfield 101, 3) := by decide +kernel
theorem xd_C_controlOp_130 : decode xb_C_controlOp 130 = .ok (.invokestatic 179, 3) := by decide +kernel
theorem xd_C_controlOp_133 : decode xb_C_controlOp 133 = .ok (.iload 7, 2) := by decide +kernel
theorem xd_C_controlOp_135 : decode xb_C_controlOp 135 = .ok (.invokevirtual 185, 3) := by decide +kernel
theorem xd_C_controlOp_138 : decode xb_C_controlOp 138 = .ok (.return_, 1) := by decide +kernel
theorem xd_C_changed_0 : decode xb_C_changed 0 = .ok (.iload_n 0, 1) := by decide +kernel
theorem xd_C_changed_1 : decode xb_C_changed 1 = .ok (.iconst 1, 1) := by decide +kernel
theorem xd_C_changed_2 : decode xb_C_changed 2 = .ok (.if_icmp .ne 5, 3) := by decide +kernel
theorem xd_C_changed_5 : decode xb_C_changed 5 = .ok (.iload_n 2, 1) := by decide +kernel
theorem xd_C_changed_6 : decode xb_C_changed 6 = .ok (.ireturn, 1) := by decide +kernel
theorem xd_C_changed_7 : decode xb_C_changed 7 = .ok (.iload_n 0, 1) := by decide +kernel
theorem xd_C_changed_8 : decode xb_C_changed 8 = .ok (.iconst 2, 1) := by decide +kernel
theorem xd_C_changed_9 : decode xb_C_changed 9 = .ok (.if_icmp .ne 9, 3) := by decide +kernel
theorem xd_C_changed_12 : decode xb_C_changed 12 = .ok (.iload_n 1, 1) := by decide +kernel
theorem xd_C_changed_13 : decode xb_C_changed 13 = .ok (.iload_n 2, 1) := by decide +kernel
theorem xd_C_changed_14 : decode xb_C_changed 14 = .ok (.ior, 1) := by decide +kernel
theorem xd_C_changed_15 : decode xb_C_changed 15 = .ok (.goto 8, 3) := by decide +kernel
theorem xd_C_changed_18 : decode xb_C_changed 18 = .ok (.iload_n 1, 1) := by decide +kernel
theorem xd_C_changed_19 : decode xb_C_changed 19 = .ok (.iload_n 2, 1) := by decide +kernel
theorem xd_C_changed_20 : decode xb_C_changed 20 = .ok (.iconst (-1), 1) := by decide +kernel
theorem xd_C_changed_21 : decode xb_C_changed 21 = .ok (.ixor, 1) := by decide +kernel
theorem xd_C_changed_22 : decode xb_C_changed 22 = .ok (.iand, 1) := by decide +kernel
theorem xd_C_changed_23 : decode xb_C_changed 23 = .ok (.ireturn, 1) := by decide +kernel
theorem xd_C_systemOp_0 : decode xb_C_systemOp 0 = .ok (.aload_n 0, 1) := by decide +kernel
theorem xd_C_systemOp_1 : decode xb_C_systemOp 1 = .ok (.getfield 101, 3) := by decide +kernel
theorem xd_C_systemOp_4 : decode xb_C_systemOp 4 = .ok (.invokestatic 239, 3) := by decide +kernel
theorem xd_C_systemOp_7 : decode xb_C_systemOp 7 = .ok (.istore_n 1, 1) := by decide +kernel
theorem xd_C_systemOp_8 : decode xb_C_systemOp 8 = .ok (.aload_n 0, 1) := by decide +kernel
theorem xd_C_systemOp_9 : decode xb_C_systemOp 9 = .ok (.getfield 101, 3) := by decide +kernel
theorem xd_C_systemOp_12 : decode xb_C_systemOp 12 = .ok (.invokestatic 179, 3) := by decide +kernel
theorem xd_C_systemOp_15 : decode xb_C_systemOp 15 = .ok (.ifCond .eq 11, 3) := by decide +kernel
theorem xd_C_systemOp_18 : decode xb_C_systemOp 18 = .ok (.aload_n 0, 1) := by decide +kernel
theorem xd_C_systemOp_19 : decode xb_C_systemOp 19 = .ok (.iconst 2, 1) := by decide +kernel
theorem xd_C_systemOp_20 : decode xb_C_systemOp 20 = .ok (.invokevirtual 215, 3) := by decide +kernel
theorem xd_C_systemOp_23 : decode xb_C_systemOp 23 = .ok (.goto 162, 3) := by decide +kernel
theorem xd_C_systemOp_26 : decode xb_C_systemOp 26 = .ok (.iload_n 1, 1) := by decide +kernel
theorem xd_C_systemOp_27 : decode xb_C_systemOp 27 = .ok (.bipush 9, 2) := by decide +kernel
theorem xd_C_systemOp_29 : decode xb_C_systemOp 29 = .ok (.if_icmp .ne 18, 3) := by decide +kernel
theorem xd_C_systemOp_32 : decode xb_C_systemOp 32 = .ok (.aload_n 0, 1) := by decide +kernel
theorem xd_C_systemOp_33 : decode xb_C_systemOp 33 = .ok (.aload_n 0, 1) := by decide +kernel
theorem xd_C_systemOp_34 : decode xb_C_systemOp 34 = .ok (.ldc_w 292, 3) := by decide +kernel
theorem xd_C_systemOp_37 : decode xb_C_systemOp 37 = .ok (.invokevirtual 293, 3) := by decide +kernel
theorem xd_C_systemOp_40 : decode xb_C_systemOp 40 = .ok (.invokevirtual 296, 3) := by decide +kernel
theorem xd_C_systemOp_43 : decode xb_C_systemOp 43 = .ok (.pop, 1) := by decide +kernel
theorem xd_C_systemOp_44 : decode xb_C_systemOp 44 = .ok (.goto 141, 3) := by decide +kernel
theorem xd_C_systemOp_47 : decode xb_C_systemOp 47 = .ok (.iload_n 1, 1) := by decide +kernel
theorem xd_C_systemOp_48 : decode xb_C_systemOp 48 = .ok (.bipush 17, 2) := by decide +kernel
theorem xd_C_systemOp_50 : decode xb_C_systemOp 50 = .ok (.if_icmp .eq 9, 3) := by decide +kernel
theorem xd_C_systemOp_53 : decode xb_C_systemOp 53 = .ok (.iload_n 1, 1) := by decide +kernel
theorem xd_C_systemOp_54 : decode xb_C_systemOp 54 = .ok (.bipush 49, 2) := by decide +kernel
theorem xd_C_systemOp_56 : decode xb_C_systemOp 56 = .ok (.if_icmp .ne 12, 3) := by decide +kernel
theorem xd_C_systemOp_59 : decode xb_C_systemOp 59 = .ok (.aload_n 0, 1) := by decide +kernel
theorem xd_C_systemOp_60 : decode xb_C_systemOp 60 = .ok (.iconst 1, 1) := by decide +kernel
theorem xd_C_systemOp_61 : decode xb_C_systemOp 61 = .ok (.invokevirtual 296, 3) := by decide +kernel
theorem xd_C_systemOp_64 : decode xb_C_systemOp 64 = .ok (.pop, 1) := by decide +kernel
theorem xd_C_systemOp_65 : decode xb_C_systemOp 65 = .ok (.goto 120, 3) := by decide +kernel
theorem xd_C_systemOp_68 : decode xb_C_systemOp 68 = .ok (.aload_n 0, 1) := by decide +kernel
theorem xd_C_systemOp_69 : decode xb_C_systemOp 69 = .ok (.getfield 101, 3) := by decide +kernel
theorem xd_C_systemOp_72 : decode xb_C_systemOp 72 = .ok (.invokestatic 218, 3) := by decide +kernel
theorem xd_C_systemOp_75 : decode xb_C_systemOp 75 = .ok (.ifCond .eq 11, 3) := by decide +kernel
theorem xd_C_systemOp_78 : decode xb_C_systemOp 78 = .ok (.aload_n 0, 1) := by decide +kernel
theorem xd_C_systemOp_79 : decode xb_C_systemOp 79 = .ok (.iconst 2, 1) := by decide +kernel
theorem xd_C_systemOp_80 : decode xb_C_systemOp 80 = .ok (.invokevirtual 215, 3) := by decide +kernel
theorem xd_C_systemOp_83 : decode xb_C_systemOp 83 = .ok (.goto 102, 3) := by decide +kernel
theorem xd_C_systemOp_86 : decode xb_C_systemOp 86 = .ok (.aload_n 0, 1) := by decide +kernel
theorem xd_C_systemOp_87 : decode xb_C_systemOp 87 = .ok (.getfield 101, 3) := by decide +kernel
theorem xd_C_systemOp_90 : decode xb_C_systemOp 90 = .ok (.bipush 20, 2) := by decide +kernel
theorem xd_C_systemOp_92 : decode xb_C_systemOp 92 = .ok (.iushr, 1) := by decide +kernel
theorem xd_C_systemOp_93 : decode xb_C_systemOp 93 = .ok (.lookupswitch 87 #[(0, 43), (1, 50), (258, 65), (261, 72)], 43) := by decide +kernel
theorem xd_C_systemOp_136 : decode xb_C_systemOp 136 = .ok (.aload_n 0, 1) := by decide +kernel
theorem xd_C_systemOp_137 : decode xb_C_systemOp 137 = .ok (.invokevirtual 300, 3) := by decide +kernel
theorem xd_C_systemOp_140 : decode xb_C_systemOp 140 = .ok (.goto 45, 3) := by decide +kernel
theorem xd_C_systemOp_143 : decode xb_C_systemOp 143 = .ok (.aload_n 0, 1) := by decide +kernel
theorem xd_C_systemOp_144 : decode xb_C_systemOp 144 = .ok (.getfield 44, 3) := by decide +kernel
theorem xd_C_systemOp_147 : decode xb_C_systemOp 147 = .ok (.iconst 3, 1) := by decide +kernel
theorem xd_C_systemOp_148 : decode xb_C_systemOp 148 = .ok (.aload_n 0, 1) := by decide +kernel
theorem xd_C_systemOp_149 : decode xb_C_systemOp 149 = .ok (.getfield 61, 3) := by decide +kernel
theorem xd_C_systemOp_152 : decode xb_C_systemOp 152 = .ok (.invokevirtual 111, 3) := by decide +kernel
theorem xd_C_systemOp_155 : decode xb_C_systemOp 155 = .ok (.goto 30, 3) := by decide +kernel
theorem xd_C_systemOp_158 : decode xb_C_systemOp 158 = .ok (.aload_n 0, 1) := by decide +kernel
theorem xd_C_systemOp_159 : decode xb_C_systemOp 159 = .ok (.invokevirtual 303, 3) := by decide +kernel
theorem xd_C_systemOp_162 : decode xb_C_systemOp 162 = .ok (.goto 23, 3) := by decide +kernel
theorem xd_C_systemOp_165 : decode xb_C_systemOp 165 = .ok (.aload_n 0, 1) := by decide +kernel
theorem xd_C_systemOp_166 : decode xb_C_systemOp 166 = .ok (.aload_n 0, 1) := by decide +kernel
theorem xd_C_systemOp_167 : decode xb_C_systemOp 167 = .ok (.ldc_w 306, 3) := by decide +kernel
theorem xd_C_systemOp_170 : decode xb_C_systemOp 170 = .ok (.invokevirtual 293, 3) := by decide +kernel
theorem xd_C_systemOp_173 : decode xb_C_systemOp 173 = .ok (.invokevirtual 296, 3) := by decide +kernel
theorem xd_C_systemOp_176 : decode xb_C_systemOp 176 = .ok (.pop, 1) := by decide +kernel
theorem xd_C_systemOp_177 : decode xb_C_systemOp 177 = .ok (.goto 8, 3) := by decide +kernel
theorem xd_C_systemOp_180 : decode xb_C_systemOp 180 = .ok (.aload_n 0, 1) := by decide +kernel
theorem xd_C_systemOp_181 : decode xb_C_systemOp 181 = .ok (.iconst 2, 1) := by decide +kernel
theorem xd_C_systemOp_182 : decode xb_C_systemOp 182 = .ok (.invokevirtual 215, 3) := by decide +kernel
theorem xd_C_systemOp_185 : decode xb_C_systemOp 185 = .ok (.return_, 1) := by decide +kernel
theorem xd_C_isSet_0 : decode xb_C_isSet 0 = .ok (.aload_n 0, 1) := by decide +kernel
theorem xd_C_isSet_1 : decode xb_C_isSet 1 = .ok (.getfield 39, 3) := by decide +kernel
theorem xd_C_isSet_4 : decode xb_C_isSet 4 = .ok (.getfield 307, 3) := by decide +kernel
theorem xd_C_isSet_7 : decode xb_C_isSet 7 = .ok (.iload_n 1, 1) := by decide +kernel
theorem xd_C_isSet_8 : decode xb_C_isSet 8 = .ok (.iand, 1) := by decide +kernel
theorem xd_C_isSet_9 : decode xb_C_isSet 9 = .ok (.ifCond .eq 7, 3) := by decide +kernel
theorem xd_C_isSet_12 : decode xb_C_isSet 12 = .ok (.iconst 1, 1) := by decide +kernel
theorem xd_C_isSet_13 : decode xb_C_isSet 13 = .ok (.goto 4, 3) := by decide +kernel
theorem xd_C_isSet_16 : decode xb_C_isSet 16 = .ok (.iconst 0, 1) := by decide +kernel
theorem xd_C_isSet_17 : decode xb_C_isSet 17 = .ok (.ireturn, 1) := by decide +kernel
theorem xd_C_mayDo_0 : decode xb_C_mayDo 0 = .ok (.aload_n 0, 1) := by decide +kernel
theorem xd_C_mayDo_1 : decode xb_C_mayDo 1 = .ok (.getfield 64, 3) := by decide +kernel
theorem xd_C_mayDo_4 : decode xb_C_mayDo 4 = .ok (.iconst 1, 1) := by decide +kernel
theorem xd_C_mayDo_5 : decode xb_C_mayDo 5 = .ok (.if_icmp .eq 15, 3) := by decide +kernel
theorem xd_C_mayDo_8 : decode xb_C_mayDo 8 = .ok (.aload_n 0, 1) := by decide +kernel
theorem xd_C_mayDo_9 : decode xb_C_mayDo 9 = .ok (.getfield 64, 3) := by decide +kernel
theorem xd_C_mayDo_12 : decode xb_C_mayDo 12 = .ok (.iconst 3, 1) := by decide +kernel
theorem xd_C_mayDo_13 : decode xb_C_mayDo 13 = .ok (.if_icmp .ne 9, 3) := by decide +kernel
theorem xd_C_mayDo_16 : decode xb_C_mayDo 16 = .ok (.iload_n 1, 1) := by decide +kernel
theorem xd_C_mayDo_17 : decode xb_C_mayDo 17 = .ok (.ifCond .ne 5, 3) := by decide +kernel
theorem xd_C_mayDo_20 : decode xb_C_mayDo 20 = .ok (.iconst 1, 1) := by decide +kernel
theorem xd_C_mayDo_21 : decode xb_C_mayDo 21 = .ok (.ireturn, 1) := by decide +kernel
theorem xd_C_mayDo_22 : decode xb_C_mayDo 22 = .ok (.aload_n 0, 1) := by decide +kernel
theorem xd_C_mayDo_23 : decode xb_C_mayDo 23 = .ok (.aload_n 0, 1) := by decide +kernel
theorem xd_C_mayDo_24 : decode xb_C_mayDo 24 = .ok (.getfield 64, 3) := by decide +kernel
theorem xd_C_mayDo_27 : decode xb_C_mayDo 27 = .ok (.ifCond .ne 7, 3) := by decide +kernel
theorem xd_C_mayDo_30 : decode xb_C_mayDo 30 = .ok (.iconst 2, 1) := by decide +kernel
theorem xd_C_mayDo_31 : decode xb_C_mayDo 31 = .ok (.goto 5, 3) := by decide +kernel
theorem xd_C_mayDo_34 : decode xb_C_mayDo 34 = .ok (.bipush 22, 2) := by decide +kernel
theorem xd_C_mayDo_36 : decode xb_C_mayDo 36 = .ok (.invokevirtual 215, 3) := by decide +kernel
theorem xd_C_mayDo_39 : decode xb_C_mayDo 39 = .ok (.iconst 0, 1) := by decide +kernel
theorem xd_C_mayDo_40 : decode xb_C_mayDo 40 = .ok (.ireturn, 1) := by decide +kernel
theorem xd_C_environmentCall_0 : decode xb_C_environmentCall 0 = .ok (.aload_n 0, 1) := by decide +kernel
theorem xd_C_environmentCall_1 : decode xb_C_environmentCall 1 = .ok (.getfield 64, 3) := by decide +kernel
theorem xd_C_environmentCall_4 : decode xb_C_environmentCall 4 = .ok (.iconst 1, 1) := by decide +kernel
theorem xd_C_environmentCall_5 : decode xb_C_environmentCall 5 = .ok (.if_icmp .eq 27, 3) := by decide +kernel
theorem xd_C_environmentCall_8 : decode xb_C_environmentCall 8 = .ok (.aload_n 0, 1) := by decide +kernel
theorem xd_C_environmentCall_9 : decode xb_C_environmentCall 9 = .ok (.getfield 44, 3) := by decide +kernel
theorem xd_C_environmentCall_12 : decode xb_C_environmentCall 12 = .ok (.aload_n 0, 1) := by decide +kernel
theorem xd_C_environmentCall_13 : decode xb_C_environmentCall 13 = .ok (.getfield 64, 3) := by decide +kernel
theorem xd_C_environmentCall_16 : decode xb_C_environmentCall 16 = .ok (.iconst 3, 1) := by decide +kernel
theorem xd_C_environmentCall_17 : decode xb_C_environmentCall 17 = .ok (.if_icmp .ne 8, 3) := by decide +kernel
theorem xd_C_environmentCall_20 : decode xb_C_environmentCall 20 = .ok (.bipush 10, 2) := by decide +kernel
theorem xd_C_environmentCall_22 : decode xb_C_environmentCall 22 = .ok (.goto 5, 3) := by decide +kernel
theorem xd_C_environmentCall_25 : decode xb_C_environmentCall 25 = .ok (.bipush 8, 2) := by decide +kernel
theorem xd_C_environmentCall_27 : decode xb_C_environmentCall 27 = .ok (.iconst 0, 1) := by decide +kernel
theorem xd_C_environmentCall_28 : decode xb_C_environmentCall 28 = .ok (.invokevirtual 111, 3) := by decide +kernel
theorem xd_C_environmentCall_31 : decode xb_C_environmentCall 31 = .ok (.return_, 1) := by decide +kernel
theorem xd_C_environmentCall_32 : decode xb_C_environmentCall 32 = .ok (.iconst 0, 1) := by decide +kernel
theorem xd_C_environmentCall_33 : decode xb_C_environmentCall 33 = .ok (.istore_n 1, 1) := by decide +kernel
theorem xd_C_environmentCall_34 : decode xb_C_environmentCall 34 = .ok (.aload_n 0, 1) := by decide +kernel
theorem xd_C_environmentCall_35 : decode xb_C_environmentCall 35 = .ok (.getfield 9, 3) := by decide +kernel
theorem xd_C_environmentCall_38 : decode xb_C_environmentCall 38 = .ok (.bipush 17, 2) := by decide +kernel
theorem xd_C_environmentCall_40 : decode xb_C_environmentCall 40 = .ok (.iaload, 1) := by decide +kernel
theorem xd_C_environmentCall_41 : decode xb_C_environmentCall 41 = .ok (.lookupswitch 78 #[(0, 35), (1, 56), (8, 70)], 35) := by decide +kernel
theorem xd_C_environmentCall_76 : decode xb_C_environmentCall 76 = .ok (.aload_n 0, 1) := by decide +kernel
theorem xd_C_environmentCall_77 : decode xb_C_environmentCall 77 = .ok (.aload_n 0, 1) := by decide +kernel
theorem xd_C_environmentCall_78 : decode xb_C_environmentCall 78 = .ok (.getfield 9, 3) := by decide +kernel
theorem xd_C_environmentCall_81 : decode xb_C_environmentCall 81 = .ok (.bipush 11, 2) := by decide +kernel
theorem xd_C_environmentCall_83 : decode xb_C_environmentCall 83 = .ok (.iaload, 1) := by decide +kernel
theorem xd_C_environmentCall_84 : decode xb_C_environmentCall 84 = .ok (.aload_n 0, 1) := by decide +kernel
theorem xd_C_environmentCall_85 : decode xb_C_environmentCall 85 = .ok (.getfield 9, 3) := by decide +kernel
theorem xd_C_environmentCall_88 : decode xb_C_environmentCall 88 = .ok (.bipush 10, 2) := by decide +kernel
theorem xd_C_environmentCall_90 : decode xb_C_environmentCall 90 = .ok (.iaload, 1) := by decide +kernel
theorem xd_C_environmentCall_91 : decode xb_C_environmentCall 91 = .ok (.invokevirtual 310, 3) := by decide +kernel
theorem xd_C_environmentCall_94 : decode xb_C_environmentCall 94 = .ok (.goto 28, 3) := by decide +kernel
theorem xd_C_environmentCall_97 : decode xb_C_environmentCall 97 = .ok (.aload_n 0, 1) := by decide +kernel
theorem xd_C_environmentCall_98 : decode xb_C_environmentCall 98 = .ok (.aload_n 0, 1) := by decide +kernel
theorem xd_C_environmentCall_99 : decode xb_C_environmentCall 99 = .ok (.getfield 9, 3) := by decide +kernel
theorem xd_C_environmentCall_102 : decode xb_C_environmentCall 102 = .ok (.bipush 10, 2) := by decide +kernel
theorem xd_C_environmentCall_104 : decode xb_C_environmentCall 104 = .ok (.iaload, 1) := by decide +kernel
theorem xd_C_environmentCall_105 : decode xb_C_environmentCall 105 = .ok (.invokevirtual 313, 3) := by decide +kernel
theorem xd_C_environmentCall_108 : decode xb_C_environmentCall 108 = .ok (.goto 14, 3) := by decide +kernel
theorem xd_C_environmentCall_111 : decode xb_C_environmentCall 111 = .ok (.aload_n 0, 1) := by decide +kernel
theorem xd_C_environmentCall_112 : decode xb_C_environmentCall 112 = .ok (.iconst 1, 1) := by decide +kernel
theorem xd_C_environmentCall_113 : decode xb_C_environmentCall 113 = .ok (.putfield 67, 3) := by decide +kernel
theorem xd_C_environmentCall_116 : decode xb_C_environmentCall 116 = .ok (.goto 6, 3) := by decide +kernel
theorem xd_C_environmentCall_119 : decode xb_C_environmentCall 119 = .ok (.bipush (-2), 2) := by decide +kernel
theorem xd_C_environmentCall_121 : decode xb_C_environmentCall 121 = .ok (.istore_n 1, 1) := by decide +kernel
theorem xd_C_environmentCall_122 : decode xb_C_environmentCall 122 = .ok (.aload_n 0, 1) := by decide +kernel
theorem xd_C_environmentCall_123 : decode xb_C_environmentCall 123 = .ok (.getfield 9, 3) := by decide +kernel
theorem xd_C_environmentCall_126 : decode xb_C_environmentCall 126 = .ok (.bipush 10, 2) := by decide +kernel
theorem xd_C_environmentCall_128 : decode xb_C_environmentCall 128 = .ok (.iload_n 1, 1) := by decide +kernel
theorem xd_C_environmentCall_129 : decode xb_C_environmentCall 129 = .ok (.iastore, 1) := by decide +kernel
theorem xd_C_environmentCall_130 : decode xb_C_environmentCall 130 = .ok (.return_, 1) := by decide +kernel
theorem xd_C_setAlarm_0 : decode xb_C_setAlarm 0 = .ok (.iload_n 1, 1) := by decide +kernel
theorem xd_C_setAlarm_1 : decode xb_C_setAlarm 1 = .ok (.i2l, 1) := by decide +kernel
theorem xd_C_setAlarm_2 : decode xb_C_setAlarm 2 = .ok (.bipush 32, 2) := by decide +kernel
theorem xd_C_setAlarm_4 : decode xb_C_setAlarm 4 = .ok (.lshl, 1) := by decide +kernel
theorem xd_C_setAlarm_5 : decode xb_C_setAlarm 5 = .ok (.iload_n 2, 1) := by decide +kernel
theorem xd_C_setAlarm_6 : decode xb_C_setAlarm 6 = .ok (.i2l, 1) := by decide +kernel
theorem xd_C_setAlarm_7 : decode xb_C_setAlarm 7 = .ok (.ldc2_w 316, 3) := by decide +kernel
theorem xd_C_setAlarm_10 : decode xb_C_setAlarm 10 = .ok (.land, 1) := by decide +kernel
theorem xd_C_setAlarm_11 : decode xb_C_setAlarm 11 = .ok (.lor, 1) := by decide +kernel
theorem xd_C_setAlarm_12 : decode xb_C_setAlarm 12 = .ok (.lstore_n 3, 1) := by decide +kernel
theorem xd_C_setAlarm_13 : decode xb_C_setAlarm 13 = .ok (.aload_n 0, 1) := by decide +kernel
theorem xd_C_setAlarm_14 : decode xb_C_setAlarm 14 = .ok (.getfield 39, 3) := by decide +kernel
theorem xd_C_setAlarm_17 : decode xb_C_setAlarm 17 = .ok (.lload_n 3, 1) := by decide +kernel
theorem xd_C_setAlarm_18 : decode xb_C_setAlarm 18 = .ok (.lconst 0, 1) := by decide +kernel
theorem xd_C_setAlarm_19 : decode xb_C_setAlarm 19 = .ok (.lcmp, 1) := by decide +kernel
theorem xd_C_setAlarm_20 : decode xb_C_setAlarm 20 = .ok (.ifCond .ge 9, 3) := by decide +kernel
theorem xd_C_setAlarm_23 : decode xb_C_setAlarm 23 = .ok (.ldc2_w 318, 3) := by decide +kernel
theorem xd_C_setAlarm_26 : decode xb_C_setAlarm 26 = .ok (.goto 4, 3) := by decide +kernel
theorem xd_C_setAlarm_29 : decode xb_C_setAlarm 29 = .ok (.lload_n 3, 1) := by decide +kernel
theorem xd_C_setAlarm_30 : decode xb_C_setAlarm 30 = .ok (.putfield 320, 3) := by decide +kernel
theorem xd_C_setAlarm_33 : decode xb_C_setAlarm 33 = .ok (.return_, 1) := by decide +kernel
theorem xd_C_print_0 : decode xb_C_print 0 = .ok (.aload_n 0, 1) := by decide +kernel
theorem xd_C_print_1 : decode xb_C_print 1 = .ok (.getfield 57, 3) := by decide +kernel
theorem xd_C_print_4 : decode xb_C_print 4 = .ok (.sipush 4096, 3) := by decide +kernel
theorem xd_C_print_7 : decode xb_C_print 7 = .ok (.if_icmp .ge 26, 3) := by decide +kernel
theorem xd_C_print_10 : decode xb_C_print 10 = .ok (.aload_n 0, 1) := by decide +kernel
theorem xd_C_print_11 : decode xb_C_print 11 = .ok (.getfield 20, 3) := by decide +kernel
theorem xd_C_print_14 : decode xb_C_print 14 = .ok (.aload_n 0, 1) := by decide +kernel
theorem xd_C_print_15 : decode xb_C_print 15 = .ok (.getfield 57, 3) := by decide +kernel
theorem xd_C_print_18 : decode xb_C_print 18 = .ok (.iconst 0, 1) := by decide +kernel
theorem xd_C_print_19 : decode xb_C_print 19 = .ok (.iload_n 1, 1) := by decide +kernel
theorem xd_C_print_20 : decode xb_C_print 20 = .ok (.invokevirtual 274, 3) := by decide +kernel
theorem xd_C_print_23 : decode xb_C_print 23 = .ok (.aload_n 0, 1) := by decide +kernel
theorem xd_C_print_24 : decode xb_C_print 24 = .ok (.dup, 1) := by decide +kernel
theorem xd_C_print_25 : decode xb_C_print 25 = .ok (.getfield 57, 3) := by decide +kernel
theorem xd_C_print_28 : decode xb_C_print 28 = .ok (.iconst 1, 1) := by decide +kernel
theorem xd_C_print_29 : decode xb_C_print 29 = .ok (.iadd, 1) := by decide +kernel
theorem xd_C_print_30 : decode xb_C_print 30 = .ok (.putfield 57, 3) := by decide +kernel
theorem xd_C_print_33 : decode xb_C_print 33 = .ok (.return_, 1) := by decide +kernel
theorem xd_C_returnFromTrap_0 : decode xb_C_returnFromTrap 0 = .ok (.aload_n 0, 1) := by decide +kernel
theorem xd_C_returnFromTrap_1 : decode xb_C_returnFromTrap 1 = .ok (.aload_n 0, 1) := by decide +kernel
theorem xd_C_returnFromTrap_2 : decode xb_C_returnFromTrap 2 = .ok (.ldc_w 323, 3) := by decide +kernel
theorem xd_C_returnFromTrap_5 : decode xb_C_returnFromTrap 5 = .ok (.invokevirtual 293, 3) := by decide +kernel
theorem xd_C_returnFromTrap_8 : decode xb_C_returnFromTrap 8 = .ok (.invokevirtual 296, 3) := by decide +kernel
theorem xd_C_returnFromTrap_11 : decode xb_C_returnFromTrap 11 = .ok (.ifCond .ne 4, 3) := by decide +kernel
theorem xd_C_returnFromTrap_14 : decode xb_C_returnFromTrap 14 = .ok (.return_, 1) := by decide +kernel
theorem xd_C_returnFromTrap_15 : decode xb_C_returnFromTrap 15 = .ok (.aload_n 0, 1) := by decide +kernel
theorem xd_C_returnFromTrap_16 : decode xb_C_returnFromTrap 16 = .ok (.getfield 64, 3) := by decide +kernel
theorem xd_C_returnFromTrap_19 : decode xb_C_returnFromTrap 19 = .ok (.iconst 3, 1) := by decide +kernel
theorem xd_C_returnFromTrap_20 : decode xb_C_returnFromTrap 20 = .ok (.if_icmp .eq 13, 3) := by decide +kernel
theorem xd_C_returnFromTrap_23 : decode xb_C_returnFromTrap 23 = .ok (.aload_n 0, 1) := by decide +kernel
theorem xd_C_returnFromTrap_24 : decode xb_C_returnFromTrap 24 = .ok (.sipush 128, 3) := by decide +kernel
theorem xd_C_returnFromTrap_27 : decode xb_C_returnFromTrap 27 = .ok (.invokevirtual 293, 3) := by decide +kernel
theorem xd_C_returnFromTrap_30 : decode xb_C_returnFromTrap 30 = .ok (.ifCond .eq 7, 3) := by decide +kernel
theorem xd_C_returnFromTrap_33 : decode xb_C_returnFromTrap 33 = .ok (.iconst 1, 1) := by decide +kernel
theorem xd_C_returnFromTrap_34 : decode xb_C_returnFromTrap 34 = .ok (.goto 4, 3) := by decide +kernel
theorem xd_C_returnFromTrap_37 : decode xb_C_returnFromTrap 37 = .ok (.iconst 0, 1) := by decide +kernel
theorem xd_C_returnFromTrap_38 : decode xb_C_returnFromTrap 38 = .ok (.istore_n 1, 1) := by decide +kernel
theorem xd_C_returnFromTrap_39 : decode xb_C_returnFromTrap 39 = .ok (.aload_n 0, 1) := by decide +kernel
theorem xd_C_returnFromTrap_40 : decode xb_C_returnFromTrap 40 = .ok (.getfield 64, 3) := by decide +kernel
theorem xd_C_returnFromTrap_43 : decode xb_C_returnFromTrap 43 = .ok (.iconst 3, 1) := by decide +kernel
theorem xd_C_returnFromTrap_44 : decode xb_C_returnFromTrap 44 = .ok (.if_icmp .ne 13, 3) := by decide +kernel
theorem xd_C_returnFromTrap_47 : decode xb_C_returnFromTrap 47 = .ok (.aload_n 0, 1) := by decide +kernel
theorem xd_C_returnFromTrap_48 : decode xb_C_returnFromTrap 48 = .ok (.getfield 39, 3) := by decide +kernel
theorem xd_C_returnFromTrap_51 : decode xb_C_returnFromTrap 51 = .ok (.getfield 142, 3) := by decide +kernel
theorem xd_C_returnFromTrap_54 : decode xb_C_returnFromTrap 54 = .ok (.goto 10, 3) := by decide +kernel
theorem xd_C_returnFromTrap_57 : decode xb_C_returnFromTrap 57 = .ok (.aload_n 0, 1) := by decide +kernel
theorem xd_C_returnFromTrap_58 : decode xb_C_returnFromTrap 58 = .ok (.getfield 39, 3) := by decide +kernel
theorem xd_C_returnFromTrap_61 : decode xb_C_returnFromTrap 61 = .ok (.getfield 159, 3) := by decide +kernel
theorem xd_C_returnFromTrap_64 : decode xb_C_returnFromTrap 64 = .ok (.astore_n 2, 1) := by decide +kernel
theorem xd_C_returnFromTrap_65 : decode xb_C_returnFromTrap 65 = .ok (.aload_n 0, 1) := by decide +kernel
theorem xd_C_returnFromTrap_66 : decode xb_C_returnFromTrap 66 = .ok (.getfield 64, 3) := by decide +kernel
theorem xd_C_returnFromTrap_69 : decode xb_C_returnFromTrap 69 = .ok (.iconst 1, 1) := by decide +kernel
theorem xd_C_returnFromTrap_70 : decode xb_C_returnFromTrap 70 = .ok (.if_icmp .ne 18, 3) := by decide +kernel
theorem xd_C_returnFromTrap_73 : decode xb_C_returnFromTrap 73 = .ok (.aload_n 0, 1) := by decide +kernel
theorem xd_C_returnFromTrap_74 : decode xb_C_returnFromTrap 74 = .ok (.getfield 39, 3) := by decide +kernel
theorem xd_C_returnFromTrap_77 : decode xb_C_returnFromTrap 77 = .ok (.dup, 1) := by decide +kernel
theorem xd_C_returnFromTrap_78 : decode xb_C_returnFromTrap 78 = .ok (.getfield 307, 3) := by decide +kernel
theorem xd_C_returnFromTrap_81 : decode xb_C_returnFromTrap 81 = .ok (.sipush (-129), 3) := by decide +kernel
theorem xd_C_returnFromTrap_84 : decode xb_C_returnFromTrap 84 = .ok (.iand, 1) := by decide +kernel
theorem xd_C_returnFromTrap_85 : decode xb_C_returnFromTrap 85 = .ok (.putfield 307, 3) := by decide +kernel
theorem xd_C_returnFromTrap_88 : decode xb_C_returnFromTrap 88 = .ok (.aload_n 2, 1) := by decide +kernel
theorem xd_C_returnFromTrap_89 : decode xb_C_returnFromTrap 89 = .ok (.invokevirtual 324, 3) := by decide +kernel
theorem xd_C_returnFromTrap_92 : decode xb_C_returnFromTrap 92 = .ok (.istore_n 3, 1) := by decide +kernel
theorem xd_C_returnFromTrap_93 : decode xb_C_returnFromTrap 93 = .ok (.aload_n 0, 1) := by decide +kernel
theorem xd_C_returnFromTrap_94 : decode xb_C_returnFromTrap 94 = .ok (.aload_n 2, 1) := by decide +kernel
theorem xd_C_returnFromTrap_95 : decode xb_C_returnFromTrap 95 = .ok (.getfield 327, 3) := by decide +kernel
theorem xd_C_returnFromTrap_98 : decode xb_C_returnFromTrap 98 = .ok (.putfield 104, 3) := by decide +kernel
theorem xd_C_returnFromTrap_101 : decode xb_C_returnFromTrap 101 = .ok (.aload_n 0, 1) := by decide +kernel
theorem xd_C_returnFromTrap_102 : decode xb_C_returnFromTrap 102 = .ok (.iload_n 1, 1) := by decide +kernel
theorem xd_C_returnFromTrap_103 : decode xb_C_returnFromTrap 103 = .ok (.ifCond .eq 7, 3) := by decide +kernel
theorem xd_C_returnFromTrap_106 : decode xb_C_returnFromTrap 106 = .ok (.iconst 2, 1) := by decide +kernel
theorem xd_C_returnFromTrap_107 : decode xb_C_returnFromTrap 107 = .ok (.goto 4, 3) := by decide +kernel
theorem xd_C_returnFromTrap_110 : decode xb_C_returnFromTrap 110 = .ok (.iconst 0, 1) := by decide +kernel
theorem xd_C_returnFromTrap_111 : decode xb_C_returnFromTrap 111 = .ok (.iload_n 3, 1) := by decide +kernel
theorem xd_C_returnFromTrap_112 : decode xb_C_returnFromTrap 112 = .ok (.ifCond .eq 7, 3) := by decide +kernel
theorem xd_C_returnFromTrap_115 : decode xb_C_returnFromTrap 115 = .ok (.iconst 1, 1) := by decide +kernel
theorem xd_C_returnFromTrap_116 : decode xb_C_returnFromTrap 116 = .ok (.goto 4, 3) := by decide +kernel
theorem xd_C_returnFromTrap_119 : decode xb_C_returnFromTrap 119 = .ok (.iconst 0, 1) := by decide +kernel
theorem xd_C_returnFromTrap_120 : decode xb_C_returnFromTrap 120 = .ok (.iadd, 1) := by decide +kernel
theorem xd_C_returnFromTrap_121 : decode xb_C_returnFromTrap 121 = .ok (.putfield 64, 3) := by decide +kernel
theorem xd_C_returnFromTrap_124 : decode xb_C_returnFromTrap 124 = .ok (.return_, 1) := by decide +kernel
theorem xd_C_guestOp_0 : decode xb_C_guestOp 0 = .ok (.aload_n 0, 1) := by decide +kernel
theorem xd_C_guestOp_1 : decode xb_C_guestOp 1 = .ok (.getfield 101, 3) := by decide +kernel
theorem xd_C_guestOp_4 : decode xb_C_guestOp 4 = .ok (.invokestatic 239, 3) := by decide +kernel
theorem xd_C_guestOp_7 : decode xb_C_guestOp 7 = .ok (.istore_n 1, 1) := by decide +kernel
theorem xd_C_guestOp_8 : decode xb_C_guestOp 8 = .ok (.aload_n 0, 1) := by decide +kernel
theorem xd_C_guestOp_9 : decode xb_C_guestOp 9 = .ok (.getfield 101, 3) := by decide +kernel
theorem xd_C_guestOp_12 : decode xb_C_guestOp 12 = .ok (.invokestatic 229, 3) := by decide +kernel
theorem xd_C_guestOp_15 : decode xb_C_guestOp 15 = .ok (.istore_n 2, 1) := by decide +kernel
theorem xd_C_guestOp_16 : decode xb_C_guestOp 16 = .ok (.iload_n 1, 1) := by decide +kernel
theorem xd_C_guestOp_17 : decode xb_C_guestOp 17 = .ok (.iload_n 2, 1) := by decide +kernel
theorem xd_C_guestOp_18 : decode xb_C_guestOp 18 = .ok (.aload_n 0, 1) := by decide +kernel
theorem xd_C_guestOp_19 : decode xb_C_guestOp 19 = .ok (.getfield 101, 3) := by decide +kernel
theorem xd_C_guestOp_22 : decode xb_C_guestOp 22 = .ok (.invokestatic 179, 3) := by decide +kernel
theorem xd_C_guestOp_25 : decode xb_C_guestOp 25 = .ok (.invokestatic 330, 3) := by decide +kernel
theorem xd_C_guestOp_28 : decode xb_C_guestOp 28 = .ok (.ifCond .eq 20, 3) := by decide +kernel
theorem xd_C_guestOp_31 : decode xb_C_guestOp 31 = .ok (.aload_n 0, 1) := by decide +kernel
theorem xd_C_guestOp_32 : decode xb_C_guestOp 32 = .ok (.getfield 64, 3) := by decide +kernel
theorem xd_C_guestOp_35 : decode xb_C_guestOp 35 = .ok (.ifCond .ne 21, 3) := by decide +kernel
theorem xd_C_guestOp_38 : decode xb_C_guestOp 38 = .ok (.aload_n 0, 1) := by decide +kernel
theorem xd_C_guestOp_39 : decode xb_C_guestOp 39 = .ok (.sipush 512, 3) := by decide +kernel
theorem xd_C_guestOp_42 : decode xb_C_guestOp 42 = .ok (.invokevirtual 293, 3) := by decide +kernel
theorem xd_C_guestOp_45 : decode xb_C_guestOp 45 = .ok (.ifCond .ne 11, 3) := by decide +kernel
theorem xd_C_guestOp_48 : decode xb_C_guestOp 48 = .ok (.aload_n 0, 1) := by decide +kernel
theorem xd_C_guestOp_49 : decode xb_C_guestOp 49 = .ok (.iconst 2, 1) := by decide +kernel
theorem xd_C_guestOp_50 : decode xb_C_guestOp 50 = .ok (.invokevirtual 215, 3) := by decide +kernel
theorem xd_C_guestOp_53 : decode xb_C_guestOp 53 = .ok (.goto 118, 3) := by decide +kernel
theorem xd_C_guestOp_56 : decode xb_C_guestOp 56 = .ok (.aload_n 0, 1) := by decide +kernel
theorem xd_C_guestOp_57 : decode xb_C_guestOp 57 = .ok (.getfield 64, 3) := by decide +kernel
theorem xd_C_guestOp_60 : decode xb_C_guestOp 60 = .ok (.invokestatic 333, 3) := by decide +kernel
theorem xd_C_guestOp_63 : decode xb_C_guestOp 63 = .ok (.ifCond .eq 12, 3) := by decide +kernel
theorem xd_C_guestOp_66 : decode xb_C_guestOp 66 = .ok (.aload_n 0, 1) := by decide +kernel
theorem xd_C_guestOp_67 : decode xb_C_guestOp 67 = .ok (.bipush 22, 2) := by decide +kernel
theorem xd_C_guestOp_69 : decode xb_C_guestOp 69 = .ok (.invokevirtual 215, 3) := by decide +kernel
theorem xd_C_guestOp_72 : decode xb_C_guestOp 72 = .ok (.goto 99, 3) := by decide +kernel
theorem xd_C_guestOp_75 : decode xb_C_guestOp 75 = .ok (.aload_n 0, 1) := by decide +kernel
theorem xd_C_guestOp_76 : decode xb_C_guestOp 76 = .ok (.getfield 44, 3) := by decide +kernel
theorem xd_C_guestOp_79 : decode xb_C_guestOp 79 = .ok (.iconst 1, 1) := by decide +kernel
theorem xd_C_guestOp_80 : decode xb_C_guestOp 80 = .ok (.putfield 336, 3) := by decide +kernel
theorem xd_C_guestOp_83 : decode xb_C_guestOp 83 = .ok (.aload_n 0, 1) := by decide +kernel
theorem xd_C_guestOp_84 : decode xb_C_guestOp 84 = .ok (.sipush 256, 3) := by decide +kernel
theorem xd_C_guestOp_87 : decode xb_C_guestOp 87 = .ok (.invokevirtual 293, 3) := by decide +kernel
theorem xd_C_guestOp_90 : decode xb_C_guestOp 90 = .ok (.ifCond .eq 7, 3) := by decide +kernel
theorem xd_C_guestOp_93 : decode xb_C_guestOp 93 = .ok (.iconst 3, 1) := by decide +kernel
theorem xd_C_guestOp_94 : decode xb_C_guestOp 94 = .ok (.goto 4, 3) := by decide +kernel
theorem xd_C_guestOp_97 : decode xb_C_guestOp 97 = .ok (.iconst 2, 1) := by decide +kernel
theorem xd_C_guestOp_98 : decode xb_C_guestOp 98 = .ok (.istore_n 3, 1) := by decide +kernel
theorem xd_C_guestOp_99 : decode xb_C_guestOp 99 = .ok (.iload_n 1, 1) := by decide +kernel
theorem xd_C_guestOp_100 : decode xb_C_guestOp 100 = .ok (.bipush 48, 2) := by decide +kernel
theorem xd_C_guestOp_102 : decode xb_C_guestOp 102 = .ok (.isub, 1) := by decide +kernel
theorem xd_C_guestOp_103 : decode xb_C_guestOp 103 = .ok (.iconst 1, 1) := by decide +kernel
theorem xd_C_guestOp_104 : decode xb_C_guestOp 104 = .ok (.ishr, 1) := by decide +kernel
theorem xd_C_guestOp_105 : decode xb_C_guestOp 105 = .ok (.istore 4, 2) := by decide +kernel
theorem xd_C_guestOp_107 : decode xb_C_guestOp 107 = .ok (.aload_n 0, 1) := by decide +kernel
theorem xd_C_guestOp_108 : decode xb_C_guestOp 108 = .ok (.getfield 9, 3) := by decide +kernel
theorem xd_C_guestOp_111 : decode xb_C_guestOp 111 = .ok (.aload_n 0, 1) := by decide +kernel
theorem xd_C_guestOp_112 : decode xb_C_guestOp 112 = .ok (.getfield 101, 3) := by decide +kernel
theorem xd_C_guestOp_115 : decode xb_C_guestOp 115 = .ok (.invokestatic 218, 3) := by decide +kernel
theorem xd_C_guestOp_118 : decode xb_C_guestOp 118 = .ok (.iaload, 1) := by decide +kernel
theorem xd_C_guestOp_119 : decode xb_C_guestOp 119 = .ok (.istore 5, 2) := by decide +kernel
theorem xd_C_guestOp_121 : decode xb_C_guestOp 121 = .ok (.iload_n 1, 1) := by decide +kernel
theorem xd_C_guestOp_122 : decode xb_C_guestOp 122 = .ok (.iconst 1, 1) := by decide +kernel
theorem xd_C_guestOp_123 : decode xb_C_guestOp 123 = .ok (.iand, 1) := by decide +kernel
theorem xd_C_guestOp_124 : decode xb_C_guestOp 124 = .ok (.ifCond .eq 15, 3) := by decide +kernel
theorem xd_C_guestOp_127 : decode xb_C_guestOp 127 = .ok (.aload_n 0, 1) := by decide +kernel
theorem xd_C_guestOp_128 : decode xb_C_guestOp 128 = .ok (.iload 5, 2) := by decide +kernel
theorem xd_C_guestOp_130 : decode xb_C_guestOp 130 = .ok (.iload 4, 2) := by decide +kernel
theorem xd_C_guestOp_132 : decode xb_C_guestOp 132 = .ok (.iload_n 3, 1) := by decide +kernel
theorem xd_C_guestOp_133 : decode xb_C_guestOp 133 = .ok (.invokevirtual 262, 3) := by decide +kernel
theorem xd_C_guestOp_136 : decode xb_C_guestOp 136 = .ok (.goto 35, 3) := by decide +kernel
theorem xd_C_guestOp_139 : decode xb_C_guestOp 139 = .ok (.aload_n 0, 1) := by decide +kernel
theorem xd_C_guestOp_140 : decode xb_C_guestOp 140 = .ok (.iload 5, 2) := by decide +kernel
theorem xd_C_guestOp_142 : decode xb_C_guestOp 142 = .ok (.iload 4, 2) := by decide +kernel
theorem xd_C_guestOp_144 : decode xb_C_guestOp 144 = .ok (.iload_n 2, 1) := by decide +kernel
theorem xd_C_guestOp_145 : decode xb_C_guestOp 145 = .ok (.ifCond .eq 7, 3) := by decide +kernel
theorem xd_C_guestOp_148 : decode xb_C_guestOp 148 = .ok (.iconst 1, 1) := by decide +kernel
theorem xd_C_guestOp_149 : decode xb_C_guestOp 149 = .ok (.goto 4, 3) := by decide +kernel
theorem xd_C_guestOp_152 : decode xb_C_guestOp 152 = .ok (.iconst 0, 1) := by decide +kernel
theorem xd_C_guestOp_153 : decode xb_C_guestOp 153 = .ok (.iload_n 2, 1) := by decide +kernel
theorem xd_C_guestOp_154 : decode xb_C_guestOp 154 = .ok (.iconst 3, 1) := by decide +kernel
theorem xd_C_guestOp_155 : decode xb_C_guestOp 155 = .ok (.if_icmp .ne 9, 3) := by decide +kernel
theorem xd_C_guestOp_158 : decode xb_C_guestOp 158 = .ok (.getstatic 339, 3) := by decide +kernel
theorem xd_C_guestOp_161 : decode xb_C_guestOp 161 = .ok (.goto 6, 3) := by decide +kernel
theorem xd_C_guestOp_164 : decode xb_C_guestOp 164 = .ok (.getstatic 252, 3) := by decide +kernel
theorem xd_C_guestOp_167 : decode xb_C_guestOp 167 = .ok (.iload_n 3, 1) := by decide +kernel
theorem xd_C_guestOp_168 : decode xb_C_guestOp 168 = .ok (.invokevirtual 255, 3) := by decide +kernel
theorem xd_C_guestOp_171 : decode xb_C_guestOp 171 = .ok (.return_, 1) := by decide +kernel
theorem xd_C_isGuestForm_0 : decode xb_C_isGuestForm 0 = .ok (.iload_n 0, 1) := by decide +kernel
theorem xd_C_isGuestForm_1 : decode xb_C_isGuestForm 1 = .ok (.tableswitch 99 48 53 #[39, 89, 54, 89, 74, 89], 39) := by decide +kernel
theorem xd_C_isGuestForm_40 : decode xb_C_isGuestForm 40 = .ok (.iload_n 1, 1) := by decide +kernel
theorem xd_C_isGuestForm_41 : decode xb_C_isGuestForm 41 = .ok (.ifCond .eq 8, 3) := by decide +kernel
theorem xd_C_isGuestForm_44 : decode xb_C_isGuestForm 44 = .ok (.iload_n 1, 1) := by decide +kernel
theorem xd_C_isGuestForm_45 : decode xb_C_isGuestForm 45 = .ok (.iconst 1, 1) := by decide +kernel
theorem xd_C_isGuestForm_46 : decode xb_C_isGuestForm 46 = .ok (.if_icmp .ne 7, 3) := by decide +kernel
theorem xd_C_isGuestForm_49 : decode xb_C_isGuestForm 49 = .ok (.iconst 1, 1) := by decide +kernel
theorem xd_C_isGuestForm_50 : decode xb_C_isGuestForm 50 = .ok (.goto 4, 3) := by decide +kernel
theorem xd_C_isGuestForm_53 : decode xb_C_isGuestForm 53 = .ok (.iconst 0, 1) := by decide +kernel
theorem xd_C_isGuestForm_54 : decode xb_C_isGuestForm 54 = .ok (.ireturn, 1) := by decide +kernel
theorem xd_C_isGuestForm_55 : decode xb_C_isGuestForm 55 = .ok (.iload_n 1, 1) := by decide +kernel
theorem xd_C_isGuestForm_56 : decode xb_C_isGuestForm 56 = .ok (.ifCond .eq 13, 3) := by decide +kernel
theorem xd_C_isGuestForm_59 : decode xb_C_isGuestForm 59 = .ok (.iload_n 1, 1) := by decide +kernel
theorem xd_C_isGuestForm_60 : decode xb_C_isGuestForm 60 = .ok (.iconst 1, 1) := by decide +kernel
theorem xd_C_isGuestForm_61 : decode xb_C_isGuestForm 61 = .ok (.if_icmp .eq 8, 3) := by decide +kernel
theorem xd_C_isGuestForm_64 : decode xb_C_isGuestForm 64 = .ok (.iload_n 1, 1) := by decide +kernel
theorem xd_C_isGuestForm_65 : decode xb_C_isGuestForm 65 = .ok (.iconst 3, 1) := by decide +kernel
theorem xd_C_isGuestForm_66 : decode xb_C_isGuestForm 66 = .ok (.if_icmp .ne 7, 3) := by decide +kernel
theorem xd_C_isGuestForm_69 : decode xb_C_isGuestForm 69 = .ok (.iconst 1, 1) := by decide +kernel
theorem xd_C_isGuestForm_70 : decode xb_C_isGuestForm 70 = .ok (.goto 4, 3) := by decide +kernel
theorem xd_C_isGuestForm_73 : decode xb_C_isGuestForm 73 = .ok (.iconst 0, 1) := by decide +kernel
theorem xd_C_isGuestForm_74 : decode xb_C_isGuestForm 74 = .ok (.ireturn, 1) := by decide +kernel
theorem xd_C_isGuestForm_75 : decode xb_C_isGuestForm 75 = .ok (.iload_n 1, 1) := by decide +kernel
theorem xd_C_isGuestForm_76 : decode xb_C_isGuestForm 76 = .ok (.ifCond .eq 8, 3) := by decide +kernel
theorem xd_C_isGuestForm_79 : decode xb_C_isGuestForm 79 = .ok (.iload_n 1, 1) := by decide +kernel
theorem xd_C_isGuestForm_80 : decode xb_C_isGuestForm 80 = .ok (.iconst 3, 1) := by decide +kernel
theorem xd_C_isGuestForm_81 : decode xb_C_isGuestForm 81 = .ok (.if_icmp .ne 7, 3) := by decide +kernel
theorem xd_C_isGuestForm_84 : decode xb_C_isGuestForm 84 = .ok (.iconst 1, 1) := by decide +kernel
theorem xd_C_isGuestForm_85 : decode xb_C_isGuestForm 85 = .ok (.goto 4, 3) := by decide +kernel
theorem xd_C_isGuestForm_88 : decode xb_C_isGuestForm 88 = .ok (.iconst 0, 1) := by decide +kernel
theorem xd_C_isGuestForm_89 : decode xb_C_isGuestForm 89 = .ok (.ireturn, 1) := by decide +kernel
theorem xd_C_isGuestForm_90 : decode xb_C_isGuestForm 90 = .ok (.iload_n 2, 1) := by decide +kernel
theorem xd_C_isGuestForm_91 : decode xb_C_isGuestForm 91 = .ok (.ifCond .ne 7, 3) := by decide +kernel
theorem xd_C_isGuestForm_94 : decode xb_C_isGuestForm 94 = .ok (.iconst 1, 1) := by decide +kernel
theorem xd_C_isGuestForm_95 : decode xb_C_isGuestForm 95 = .ok (.goto 4, 3) := by decide +kernel
theorem xd_C_isGuestForm_98 : decode xb_C_isGuestForm 98 = .ok (.iconst 0, 1) := by decide +kernel
theorem xd_C_isGuestForm_99 : decode xb_C_isGuestForm 99 = .ok (.ireturn, 1) := by decide +kernel
theorem xd_C_isGuestForm_100 : decode xb_C_isGuestForm 100 = .ok (.iconst 0, 1) := by decide +kernel
theorem xd_C_isGuestForm_101 : decode xb_C_isGuestForm 101 = .ok (.ireturn, 1) := by decide +kernel
theorem xd_D_op_0 : decode xb_D_op 0 = .ok (.iload_n 0, 1) := by decide +kernel
theorem xd_D_op_1 : decode xb_D_op 1 = .ok (.bipush 127, 2) := by decide +kernel
theorem xd_D_op_3 : decode xb_D_op 3 = .ok (.iand, 1) := by decide +kernel
theorem xd_D_op_4 : decode xb_D_op 4 = .ok (.ireturn, 1) := by decide +kernel
theorem xd_D_d_0 : decode xb_D_d 0 = .ok (.iload_n 0, 1) := by decide +kernel
theorem xd_D_d_1 : decode xb_D_d 1 = .ok (.bipush 7, 2) := by decide +kernel
theorem xd_D_d_3 : decode xb_D_d 3 = .ok (.iushr, 1) := by decide +kernel
theorem xd_D_d_4 : decode xb_D_d 4 = .ok (.bipush 31, 2) := by decide +kernel
