theorem xd_Z_kept_146 : decode xb_Z_kept 146 = .ok (.ireturn, 1) := by decide +kernel
theorem xd_Z_kept_147 : decode xb_Z_kept 147 = .ok (.bipush (-3), 2) := by decide +kernel
theorem xd_Z_kept_149 : decode xb_Z_kept 149 = .ok (.ireturn, 1) := by decide +kernel
theorem xd_Z_kept_150 : decode xb_Z_kept 150 = .ok (.bipush (-4), 2) := by decide +kernel
theorem xd_Z_kept_152 : decode xb_Z_kept 152 = .ok (.ireturn, 1) := by decide +kernel
theorem xd_Z_kept_153 : decode xb_Z_kept 153 = .ok (.iconst 2, 1) := by decide +kernel
theorem xd_Z_kept_154 : decode xb_Z_kept 154 = .ok (.ireturn, 1) := by decide +kernel
theorem xd_Z_kept_155 : decode xb_Z_kept 155 = .ok (.ldc 64, 2) := by decide +kernel
theorem xd_Z_kept_157 : decode xb_Z_kept 157 = .ok (.ireturn, 1) := by decide +kernel
theorem xd_Z_kept_158 : decode xb_Z_kept 158 = .ok (.ldc 65, 2) := by decide +kernel
theorem xd_Z_kept_160 : decode xb_Z_kept 160 = .ok (.ireturn, 1) := by decide +kernel
theorem xd_Z_kept_161 : decode xb_Z_kept 161 = .ok (.ldc 66, 2) := by decide +kernel
theorem xd_Z_kept_163 : decode xb_Z_kept 163 = .ok (.ireturn, 1) := by decide +kernel
theorem xd_Z_kept_164 : decode xb_Z_kept 164 = .ok (.sipush 1092, 3) := by decide +kernel
theorem xd_Z_kept_167 : decode xb_Z_kept 167 = .ok (.ireturn, 1) := by decide +kernel
theorem xd_Z_kept_168 : decode xb_Z_kept 168 = .ok (.ldc 67, 2) := by decide +kernel
theorem xd_Z_kept_170 : decode xb_Z_kept 170 = .ok (.ireturn, 1) := by decide +kernel
theorem xd_Z_kept_171 : decode xb_Z_kept 171 = .ok (.iconst (-1), 1) := by decide +kernel
theorem xd_Z_kept_172 : decode xb_Z_kept 172 = .ok (.ireturn, 1) := by decide +kernel
theorem xd_Z_tells_0 : decode xb_Z_tells 0 = .ok (.iload_n 1, 1) := by decide +kernel
theorem xd_Z_tells_1 : decode xb_Z_tells 1 = .ok (.lookupswitch 162 #[(324, 59), (516, 125), (580, 107), (1604, 99), (3073, 143), (3201, 153)], 59) := by decide +kernel
theorem xd_Z_tells_60 : decode xb_Z_tells 60 = .ok (.aload_n 0, 1) := by decide +kernel
theorem xd_Z_tells_61 : decode xb_Z_tells 61 = .ok (.iload_n 1, 1) := by decide +kernel
theorem xd_Z_tells_62 : decode xb_Z_tells 62 = .ok (.invokevirtual 56, 3) := by decide +kernel
theorem xd_Z_tells_65 : decode xb_Z_tells 65 = .ok (.aload_n 0, 1) := by decide +kernel
theorem xd_Z_tells_66 : decode xb_Z_tells 66 = .ok (.getfield 21, 3) := by decide +kernel
theorem xd_Z_tells_69 : decode xb_Z_tells 69 = .ok (.aload_n 0, 1) := by decide +kernel
theorem xd_Z_tells_70 : decode xb_Z_tells 70 = .ok (.getfield 27, 3) := by decide +kernel
theorem xd_Z_tells_73 : decode xb_Z_tells 73 = .ok (.lcmp, 1) := by decide +kernel
theorem xd_Z_tells_74 : decode xb_Z_tells 74 = .ok (.ifCond .lt 8, 3) := by decide +kernel
theorem xd_Z_tells_77 : decode xb_Z_tells 77 = .ok (.bipush 32, 2) := by decide +kernel
theorem xd_Z_tells_79 : decode xb_Z_tells 79 = .ok (.goto 4, 3) := by decide +kernel
theorem xd_Z_tells_82 : decode xb_Z_tells 82 = .ok (.iconst 0, 1) := by decide +kernel
theorem xd_Z_tells_83 : decode xb_Z_tells 83 = .ok (.ior, 1) := by decide +kernel
theorem xd_Z_tells_84 : decode xb_Z_tells 84 = .ok (.aload_n 0, 1) := by decide +kernel
theorem xd_Z_tells_85 : decode xb_Z_tells 85 = .ok (.getfield 30, 3) := by decide +kernel
theorem xd_Z_tells_88 : decode xb_Z_tells 88 = .ok (.ifCond .eq 9, 3) := by decide +kernel
theorem xd_Z_tells_91 : decode xb_Z_tells 91 = .ok (.sipush 512, 3) := by decide +kernel
theorem xd_Z_tells_94 : decode xb_Z_tells 94 = .ok (.goto 4, 3) := by decide +kernel
theorem xd_Z_tells_97 : decode xb_Z_tells 97 = .ok (.iconst 0, 1) := by decide +kernel
theorem xd_Z_tells_98 : decode xb_Z_tells 98 = .ok (.ior, 1) := by decide +kernel
theorem xd_Z_tells_99 : decode xb_Z_tells 99 = .ok (.ireturn, 1) := by decide +kernel
theorem xd_Z_tells_100 : decode xb_Z_tells 100 = .ok (.aload_n 0, 1) := by decide +kernel
theorem xd_Z_tells_101 : decode xb_Z_tells 101 = .ok (.sipush 1605, 3) := by decide +kernel
theorem xd_Z_tells_104 : decode xb_Z_tells 104 = .ok (.invokevirtual 56, 3) := by decide +kernel
theorem xd_Z_tells_107 : decode xb_Z_tells 107 = .ok (.ireturn, 1) := by decide +kernel
theorem xd_Z_tells_108 : decode xb_Z_tells 108 = .ok (.aload_n 0, 1) := by decide +kernel
theorem xd_Z_tells_109 : decode xb_Z_tells 109 = .ok (.sipush 1605, 3) := by decide +kernel
theorem xd_Z_tells_112 : decode xb_Z_tells 112 = .ok (.invokevirtual 56, 3) := by decide +kernel
theorem xd_Z_tells_115 : decode xb_Z_tells 115 = .ok (.aload_n 0, 1) := by decide +kernel
theorem xd_Z_tells_116 : decode xb_Z_tells 116 = .ok (.sipush 1539, 3) := by decide +kernel
theorem xd_Z_tells_119 : decode xb_Z_tells 119 = .ok (.invokevirtual 56, 3) := by decide +kernel
theorem xd_Z_tells_122 : decode xb_Z_tells 122 = .ok (.iand, 1) := by decide +kernel
theorem xd_Z_tells_123 : decode xb_Z_tells 123 = .ok (.iconst 1, 1) := by decide +kernel
theorem xd_Z_tells_124 : decode xb_Z_tells 124 = .ok (.ishr, 1) := by decide +kernel
theorem xd_Z_tells_125 : decode xb_Z_tells 125 = .ok (.ireturn, 1) := by decide +kernel
theorem xd_Z_tells_126 : decode xb_Z_tells 126 = .ok (.aload_n 0, 1) := by decide +kernel
theorem xd_Z_tells_127 : decode xb_Z_tells 127 = .ok (.sipush 1540, 3) := by decide +kernel
theorem xd_Z_tells_130 : decode xb_Z_tells 130 = .ok (.invokevirtual 56, 3) := by decide +kernel
theorem xd_Z_tells_133 : decode xb_Z_tells 133 = .ok (.aload_n 0, 1) := by decide +kernel
theorem xd_Z_tells_134 : decode xb_Z_tells 134 = .ok (.sipush 1539, 3) := by decide +kernel
theorem xd_Z_tells_137 : decode xb_Z_tells 137 = .ok (.invokevirtual 56, 3) := by decide +kernel
theorem xd_Z_tells_140 : decode xb_Z_tells 140 = .ok (.iand, 1) := by decide +kernel
theorem xd_Z_tells_141 : decode xb_Z_tells 141 = .ok (.iconst 1, 1) := by decide +kernel
theorem xd_Z_tells_142 : decode xb_Z_tells 142 = .ok (.ishr, 1) := by decide +kernel
theorem xd_Z_tells_143 : decode xb_Z_tells 143 = .ok (.ireturn, 1) := by decide +kernel
theorem xd_Z_tells_144 : decode xb_Z_tells 144 = .ok (.aload_n 0, 1) := by decide +kernel
theorem xd_Z_tells_145 : decode xb_Z_tells 145 = .ok (.getfield 21, 3) := by decide +kernel
theorem xd_Z_tells_148 : decode xb_Z_tells 148 = .ok (.ldc2_w 68, 3) := by decide +kernel
theorem xd_Z_tells_151 : decode xb_Z_tells 151 = .ok (.land, 1) := by decide +kernel
theorem xd_Z_tells_152 : decode xb_Z_tells 152 = .ok (.l2i, 1) := by decide +kernel
theorem xd_Z_tells_153 : decode xb_Z_tells 153 = .ok (.ireturn, 1) := by decide +kernel
theorem xd_Z_tells_154 : decode xb_Z_tells 154 = .ok (.aload_n 0, 1) := by decide +kernel
theorem xd_Z_tells_155 : decode xb_Z_tells 155 = .ok (.getfield 21, 3) := by decide +kernel
theorem xd_Z_tells_158 : decode xb_Z_tells 158 = .ok (.bipush 32, 2) := by decide +kernel
theorem xd_Z_tells_160 : decode xb_Z_tells 160 = .ok (.lshr, 1) := by decide +kernel
theorem xd_Z_tells_161 : decode xb_Z_tells 161 = .ok (.l2i, 1) := by decide +kernel
theorem xd_Z_tells_162 : decode xb_Z_tells 162 = .ok (.ireturn, 1) := by decide +kernel
theorem xd_Z_tells_163 : decode xb_Z_tells 163 = .ok (.aload_n 0, 1) := by decide +kernel
theorem xd_Z_tells_164 : decode xb_Z_tells 164 = .ok (.iload_n 1, 1) := by decide +kernel
theorem xd_Z_tells_165 : decode xb_Z_tells 165 = .ok (.invokevirtual 56, 3) := by decide +kernel
theorem xd_Z_tells_168 : decode xb_Z_tells 168 = .ok (.ireturn, 1) := by decide +kernel
theorem xd_Z_write_0 : decode xb_Z_write 0 = .ok (.iload_n 1, 1) := by decide +kernel
theorem xd_Z_write_1 : decode xb_Z_write 1 = .ok (.sipush 1604, 3) := by decide +kernel
theorem xd_Z_write_4 : decode xb_Z_write 4 = .ok (.if_icmp .ne 28, 3) := by decide +kernel
theorem xd_Z_write_7 : decode xb_Z_write 7 = .ok (.aload_n 0, 1) := by decide +kernel
theorem xd_Z_write_8 : decode xb_Z_write 8 = .ok (.sipush 1605, 3) := by decide +kernel
theorem xd_Z_write_11 : decode xb_Z_write 11 = .ok (.iconst 2, 1) := by decide +kernel
theorem xd_Z_write_12 : decode xb_Z_write 12 = .ok (.iload_n 2, 1) := by decide +kernel
theorem xd_Z_write_13 : decode xb_Z_write 13 = .ok (.iconst 2, 1) := by decide +kernel
theorem xd_Z_write_14 : decode xb_Z_write 14 = .ok (.ishr, 1) := by decide +kernel
theorem xd_Z_write_15 : decode xb_Z_write 15 = .ok (.iconst 1, 1) := by decide +kernel
theorem xd_Z_write_16 : decode xb_Z_write 16 = .ok (.iand, 1) := by decide +kernel
theorem xd_Z_write_17 : decode xb_Z_write 17 = .ok (.iconst 1, 1) := by decide +kernel
theorem xd_Z_write_18 : decode xb_Z_write 18 = .ok (.if_icmp .ne 7, 3) := by decide +kernel
theorem xd_Z_write_21 : decode xb_Z_write 21 = .ok (.iconst 1, 1) := by decide +kernel
theorem xd_Z_write_22 : decode xb_Z_write 22 = .ok (.goto 4, 3) := by decide +kernel
theorem xd_Z_write_25 : decode xb_Z_write 25 = .ok (.iconst 0, 1) := by decide +kernel
theorem xd_Z_write_26 : decode xb_Z_write 26 = .ok (.invokevirtual 70, 3) := by decide +kernel
theorem xd_Z_write_29 : decode xb_Z_write 29 = .ok (.goto 138, 3) := by decide +kernel
theorem xd_Z_write_32 : decode xb_Z_write 32 = .ok (.iload_n 1, 1) := by decide +kernel
theorem xd_Z_write_33 : decode xb_Z_write 33 = .ok (.sipush 580, 3) := by decide +kernel
theorem xd_Z_write_36 : decode xb_Z_write 36 = .ok (.if_icmp .ne 50, 3) := by decide +kernel
theorem xd_Z_write_39 : decode xb_Z_write 39 = .ok (.aload_n 0, 1) := by decide +kernel
theorem xd_Z_write_40 : decode xb_Z_write 40 = .ok (.sipush 1605, 3) := by decide +kernel
theorem xd_Z_write_43 : decode xb_Z_write 43 = .ok (.iconst 2, 1) := by decide +kernel
theorem xd_Z_write_44 : decode xb_Z_write 44 = .ok (.aload_n 0, 1) := by decide +kernel
theorem xd_Z_write_45 : decode xb_Z_write 45 = .ok (.sipush 1539, 3) := by decide +kernel
theorem xd_Z_write_48 : decode xb_Z_write 48 = .ok (.iconst 2, 1) := by decide +kernel
theorem xd_Z_write_49 : decode xb_Z_write 49 = .ok (.invokevirtual 74, 3) := by decide +kernel
theorem xd_Z_write_52 : decode xb_Z_write 52 = .ok (.ifCond .eq 20, 3) := by decide +kernel
theorem xd_Z_write_55 : decode xb_Z_write 55 = .ok (.iload_n 2, 1) := by decide +kernel
theorem xd_Z_write_56 : decode xb_Z_write 56 = .ok (.iconst 1, 1) := by decide +kernel
theorem xd_Z_write_57 : decode xb_Z_write 57 = .ok (.ishr, 1) := by decide +kernel
theorem xd_Z_write_58 : decode xb_Z_write 58 = .ok (.iconst 1, 1) := by decide +kernel
theorem xd_Z_write_59 : decode xb_Z_write 59 = .ok (.iand, 1) := by decide +kernel
theorem xd_Z_write_60 : decode xb_Z_write 60 = .ok (.iconst 1, 1) := by decide +kernel
theorem xd_Z_write_61 : decode xb_Z_write 61 = .ok (.if_icmp .ne 7, 3) := by decide +kernel
theorem xd_Z_write_64 : decode xb_Z_write 64 = .ok (.iconst 1, 1) := by decide +kernel
theorem xd_Z_write_65 : decode xb_Z_write 65 = .ok (.goto 15, 3) := by decide +kernel
theorem xd_Z_write_68 : decode xb_Z_write 68 = .ok (.iconst 0, 1) := by decide +kernel
theorem xd_Z_write_69 : decode xb_Z_write 69 = .ok (.goto 11, 3) := by decide +kernel
theorem xd_Z_write_72 : decode xb_Z_write 72 = .ok (.aload_n 0, 1) := by decide +kernel
theorem xd_Z_write_73 : decode xb_Z_write 73 = .ok (.sipush 1605, 3) := by decide +kernel
theorem xd_Z_write_76 : decode xb_Z_write 76 = .ok (.iconst 2, 1) := by decide +kernel
theorem xd_Z_write_77 : decode xb_Z_write 77 = .ok (.invokevirtual 74, 3) := by decide +kernel
theorem xd_Z_write_80 : decode xb_Z_write 80 = .ok (.invokevirtual 70, 3) := by decide +kernel
theorem xd_Z_write_83 : decode xb_Z_write 83 = .ok (.goto 84, 3) := by decide +kernel
theorem xd_Z_write_86 : decode xb_Z_write 86 = .ok (.iload_n 1, 1) := by decide +kernel
theorem xd_Z_write_87 : decode xb_Z_write 87 = .ok (.sipush 516, 3) := by decide +kernel
theorem xd_Z_write_90 : decode xb_Z_write 90 = .ok (.if_icmp .ne 66, 3) := by decide +kernel
theorem xd_Z_write_93 : decode xb_Z_write 93 = .ok (.iconst 2, 1) := by decide +kernel
theorem xd_Z_write_94 : decode xb_Z_write 94 = .ok (.istore_n 3, 1) := by decide +kernel
theorem xd_Z_write_95 : decode xb_Z_write 95 = .ok (.iload_n 3, 1) := by decide +kernel
theorem xd_Z_write_96 : decode xb_Z_write 96 = .ok (.bipush 11, 2) := by decide +kernel
theorem xd_Z_write_98 : decode xb_Z_write 98 = .ok (.if_icmp .ge 55, 3) := by decide +kernel
theorem xd_Z_write_101 : decode xb_Z_write 101 = .ok (.aload_n 0, 1) := by decide +kernel
theorem xd_Z_write_102 : decode xb_Z_write 102 = .ok (.sipush 1540, 3) := by decide +kernel
theorem xd_Z_write_105 : decode xb_Z_write 105 = .ok (.iload_n 3, 1) := by decide +kernel
theorem xd_Z_write_106 : decode xb_Z_write 106 = .ok (.aload_n 0, 1) := by decide +kernel
theorem xd_Z_write_107 : decode xb_Z_write 107 = .ok (.sipush 1539, 3) := by decide +kernel
theorem xd_Z_write_110 : decode xb_Z_write 110 = .ok (.iload_n 3, 1) := by decide +kernel
theorem xd_Z_write_111 : decode xb_Z_write 111 = .ok (.invokevirtual 74, 3) := by decide +kernel
theorem xd_Z_write_114 : decode xb_Z_write 114 = .ok (.ifCond .eq 22, 3) := by decide +kernel
theorem xd_Z_write_117 : decode xb_Z_write 117 = .ok (.iload_n 2, 1) := by decide +kernel
theorem xd_Z_write_118 : decode xb_Z_write 118 = .ok (.iload_n 3, 1) := by decide +kernel
theorem xd_Z_write_119 : decode xb_Z_write 119 = .ok (.iconst 1, 1) := by decide +kernel
theorem xd_Z_write_120 : decode xb_Z_write 120 = .ok (.isub, 1) := by decide +kernel
theorem xd_Z_write_121 : decode xb_Z_write 121 = .ok (.ishr, 1) := by decide +kernel
theorem xd_Z_write_122 : decode xb_Z_write 122 = .ok (.iconst 1, 1) := by decide +kernel
theorem xd_Z_write_123 : decode xb_Z_write 123 = .ok (.iand, 1) := by decide +kernel
theorem xd_Z_write_124 : decode xb_Z_write 124 = .ok (.iconst 1, 1) := by decide +kernel
theorem xd_Z_write_125 : decode xb_Z_write 125 = .ok (.if_icmp .ne 7, 3) := by decide +kernel
theorem xd_Z_write_128 : decode xb_Z_write 128 = .ok (.iconst 1, 1) := by decide +kernel
theorem xd_Z_write_129 : decode xb_Z_write 129 = .ok (.goto 15, 3) := by decide +kernel
theorem xd_Z_write_132 : decode xb_Z_write 132 = .ok (.iconst 0, 1) := by decide +kernel
theorem xd_Z_write_133 : decode xb_Z_write 133 = .ok (.goto 11, 3) := by decide +kernel
theorem xd_Z_write_136 : decode xb_Z_write 136 = .ok (.aload_n 0, 1) := by decide +kernel
theorem xd_Z_write_137 : decode xb_Z_write 137 = .ok (.sipush 1540, 3) := by decide +kernel
theorem xd_Z_write_140 : decode xb_Z_write 140 = .ok (.iload_n 3, 1) := by decide +kernel
theorem xd_Z_write_141 : decode xb_Z_write 141 = .ok (.invokevirtual 74, 3) := by decide +kernel
theorem xd_Z_write_144 : decode xb_Z_write 144 = .ok (.invokevirtual 70, 3) := by decide +kernel
theorem xd_Z_write_147 : decode xb_Z_write 147 = .ok (.iinc 3 4, 3) := by decide +kernel
theorem xd_Z_write_150 : decode xb_Z_write 150 = .ok (.goto (-55), 3) := by decide +kernel
theorem xd_Z_write_153 : decode xb_Z_write 153 = .ok (.goto 14, 3) := by decide +kernel
theorem xd_Z_write_156 : decode xb_Z_write 156 = .ok (.aload_n 0, 1) := by decide +kernel
theorem xd_Z_write_157 : decode xb_Z_write 157 = .ok (.iload_n 1, 1) := by decide +kernel
theorem xd_Z_write_158 : decode xb_Z_write 158 = .ok (.iload_n 2, 1) := by decide +kernel
theorem xd_Z_write_159 : decode xb_Z_write 159 = .ok (.iload_n 1, 1) := by decide +kernel
theorem xd_Z_write_160 : decode xb_Z_write 160 = .ok (.invokestatic 78, 3) := by decide +kernel
theorem xd_Z_write_163 : decode xb_Z_write 163 = .ok (.iand, 1) := by decide +kernel
theorem xd_Z_write_164 : decode xb_Z_write 164 = .ok (.invokevirtual 59, 3) := by decide +kernel
theorem xd_Z_write_167 : decode xb_Z_write 167 = .ok (.return_, 1) := by decide +kernel
theorem xd_Z_refusal_0 : decode xb_Z_refusal 0 = .ok (.iload_n 1, 1) := by decide +kernel
theorem xd_Z_refusal_1 : decode xb_Z_refusal 1 = .ok (.sipush 3073, 3) := by decide +kernel
theorem xd_Z_refusal_4 : decode xb_Z_refusal 4 = .ok (.if_icmp .eq 10, 3) := by decide +kernel
theorem xd_Z_refusal_7 : decode xb_Z_refusal 7 = .ok (.iload_n 1, 1) := by decide +kernel
theorem xd_Z_refusal_8 : decode xb_Z_refusal 8 = .ok (.sipush 3201, 3) := by decide +kernel
theorem xd_Z_refusal_11 : decode xb_Z_refusal 11 = .ok (.if_icmp .ne 7, 3) := by decide +kernel
theorem xd_Z_refusal_14 : decode xb_Z_refusal 14 = .ok (.iconst 1, 1) := by decide +kernel
theorem xd_Z_refusal_15 : decode xb_Z_refusal 15 = .ok (.goto 4, 3) := by decide +kernel
theorem xd_Z_refusal_18 : decode xb_Z_refusal 18 = .ok (.iconst 0, 1) := by decide +kernel
theorem xd_Z_refusal_19 : decode xb_Z_refusal 19 = .ok (.istore_n 3, 1) := by decide +kernel
theorem xd_Z_refusal_20 : decode xb_Z_refusal 20 = .ok (.iload_n 1, 1) := by decide +kernel
theorem xd_Z_refusal_21 : decode xb_Z_refusal 21 = .ok (.invokestatic 52, 3) := by decide +kernel
theorem xd_Z_refusal_24 : decode xb_Z_refusal 24 = .ok (.ifCond .lt 11, 3) := by decide +kernel
theorem xd_Z_refusal_27 : decode xb_Z_refusal 27 = .ok (.iload_n 2, 1) := by decide +kernel
theorem xd_Z_refusal_28 : decode xb_Z_refusal 28 = .ok (.ifCond .eq 9, 3) := by decide +kernel
theorem xd_Z_refusal_31 : decode xb_Z_refusal 31 = .ok (.iload_n 3, 1) := by decide +kernel
theorem xd_Z_refusal_32 : decode xb_Z_refusal 32 = .ok (.ifCond .eq 5, 3) := by decide +kernel
theorem xd_Z_refusal_35 : decode xb_Z_refusal 35 = .ok (.iconst 2, 1) := by decide +kernel
theorem xd_Z_refusal_36 : decode xb_Z_refusal 36 = .ok (.ireturn, 1) := by decide +kernel
theorem xd_Z_refusal_37 : decode xb_Z_refusal 37 = .ok (.iload_n 3, 1) := by decide +kernel
theorem xd_Z_refusal_38 : decode xb_Z_refusal 38 = .ok (.ifCond .ne 11, 3) := by decide +kernel
theorem xd_Z_refusal_41 : decode xb_Z_refusal 41 = .ok (.aload_n 0, 1) := by decide +kernel
theorem xd_Z_refusal_42 : decode xb_Z_refusal 42 = .ok (.getfield 18, 3) := by decide +kernel
theorem xd_Z_refusal_45 : decode xb_Z_refusal 45 = .ok (.iconst 1, 1) := by decide +kernel
theorem xd_Z_refusal_46 : decode xb_Z_refusal 46 = .ok (.if_icmp .ne 5, 3) := by decide +kernel
theorem xd_Z_refusal_49 : decode xb_Z_refusal 49 = .ok (.iconst 0, 1) := by decide +kernel
theorem xd_Z_refusal_50 : decode xb_Z_refusal 50 = .ok (.ireturn, 1) := by decide +kernel
theorem xd_Z_refusal_51 : decode xb_Z_refusal 51 = .ok (.aload_n 0, 1) := by decide +kernel
theorem xd_Z_refusal_52 : decode xb_Z_refusal 52 = .ok (.getfield 18, 3) := by decide +kernel
theorem xd_Z_refusal_55 : decode xb_Z_refusal 55 = .ok (.ifCond .ne 5, 3) := by decide +kernel
theorem xd_Z_refusal_58 : decode xb_Z_refusal 58 = .ok (.iconst 2, 1) := by decide +kernel
theorem xd_Z_refusal_59 : decode xb_Z_refusal 59 = .ok (.ireturn, 1) := by decide +kernel
theorem xd_Z_refusal_60 : decode xb_Z_refusal 60 = .ok (.aload_n 0, 1) := by decide +kernel
theorem xd_Z_refusal_61 : decode xb_Z_refusal 61 = .ok (.getfield 18, 3) := by decide +kernel
theorem xd_Z_refusal_64 : decode xb_Z_refusal 64 = .ok (.iconst 2, 1) := by decide +kernel
theorem xd_Z_refusal_65 : decode xb_Z_refusal 65 = .ok (.if_icmp .eq 29, 3) := by decide +kernel
theorem xd_Z_refusal_68 : decode xb_Z_refusal 68 = .ok (.iload_n 1, 1) := by decide +kernel
theorem xd_Z_refusal_69 : decode xb_Z_refusal 69 = .ok (.sipush 512, 3) := by decide +kernel
theorem xd_Z_refusal_72 : decode xb_Z_refusal 72 = .ok (.if_icmp .ge 22, 3) := by decide +kernel
theorem xd_Z_refusal_75 : decode xb_Z_refusal 75 = .ok (.iload_n 1, 1) := by decide +kernel
theorem xd_Z_refusal_76 : decode xb_Z_refusal 76 = .ok (.sipush 384, 3) := by decide +kernel
theorem xd_Z_refusal_79 : decode xb_Z_refusal 79 = .ok (.if_icmp .ne 20, 3) := by decide +kernel
theorem xd_Z_refusal_82 : decode xb_Z_refusal 82 = .ok (.aload_n 0, 1) := by decide +kernel
theorem xd_Z_refusal_83 : decode xb_Z_refusal 83 = .ok (.sipush 1536, 3) := by decide +kernel
theorem xd_Z_refusal_86 : decode xb_Z_refusal 86 = .ok (.bipush 20, 2) := by decide +kernel
theorem xd_Z_refusal_88 : decode xb_Z_refusal 88 = .ok (.invokevirtual 74, 3) := by decide +kernel
theorem xd_Z_refusal_91 : decode xb_Z_refusal 91 = .ok (.ifCond .eq 8, 3) := by decide +kernel
theorem xd_Z_refusal_94 : decode xb_Z_refusal 94 = .ok (.bipush 22, 2) := by decide +kernel
theorem xd_Z_refusal_96 : decode xb_Z_refusal 96 = .ok (.goto 4, 3) := by decide +kernel
theorem xd_Z_refusal_99 : decode xb_Z_refusal 99 = .ok (.iconst 0, 1) := by decide +kernel
theorem xd_Z_refusal_100 : decode xb_Z_refusal 100 = .ok (.ireturn, 1) := by decide +kernel
theorem xd_Z_fails_0 : decode xb_Z_fails 0 = .ok (.aload_n 0, 1) := by decide +kernel
theorem xd_Z_fails_1 : decode xb_Z_fails 1 = .ok (.iload_n 1, 1) := by decide +kernel
theorem xd_Z_fails_2 : decode xb_Z_fails 2 = .ok (.putfield 81, 3) := by decide +kernel
theorem xd_Z_fails_5 : decode xb_Z_fails 5 = .ok (.aload_n 0, 1) := by decide +kernel
theorem xd_Z_fails_6 : decode xb_Z_fails 6 = .ok (.iload_n 2, 1) := by decide +kernel
theorem xd_Z_fails_7 : decode xb_Z_fails 7 = .ok (.putfield 84, 3) := by decide +kernel
theorem xd_Z_fails_10 : decode xb_Z_fails 10 = .ok (.aload_n 0, 1) := by decide +kernel
theorem xd_Z_fails_11 : decode xb_Z_fails 11 = .ok (.iload_n 3, 1) := by decide +kernel
theorem xd_Z_fails_12 : decode xb_Z_fails 12 = .ok (.putfield 87, 3) := by decide +kernel
theorem xd_Z_fails_15 : decode xb_Z_fails 15 = .ok (.aload_n 0, 1) := by decide +kernel
theorem xd_Z_fails_16 : decode xb_Z_fails 16 = .ok (.lconst 0, 1) := by decide +kernel
theorem xd_Z_fails_17 : decode xb_Z_fails 17 = .ok (.putfield 90, 3) := by decide +kernel
theorem xd_Z_fails_20 : decode xb_Z_fails 20 = .ok (.aload_n 0, 1) := by decide +kernel
theorem xd_Z_fails_21 : decode xb_Z_fails 21 = .ok (.iconst 0, 1) := by decide +kernel
theorem xd_Z_fails_22 : decode xb_Z_fails 22 = .ok (.putfield 93, 3) := by decide +kernel
theorem xd_Z_fails_25 : decode xb_Z_fails 25 = .ok (.iconst 0, 1) := by decide +kernel
theorem xd_Z_fails_26 : decode xb_Z_fails 26 = .ok (.ireturn, 1) := by decide +kernel
theorem xd_Z_isVirtual_0 : decode xb_Z_isVirtual 0 = .ok (.aload_n 0, 1) := by decide +kernel
theorem xd_Z_isVirtual_1 : decode xb_Z_isVirtual 1 = .ok (.getfield 18, 3) := by decide +kernel
theorem xd_Z_isVirtual_4 : decode xb_Z_isVirtual 4 = .ok (.iconst 1, 1) := by decide +kernel
theorem xd_Z_isVirtual_5 : decode xb_Z_isVirtual 5 = .ok (.if_icmp .le 7, 3) := by decide +kernel
theorem xd_Z_isVirtual_8 : decode xb_Z_isVirtual 8 = .ok (.iconst 1, 1) := by decide +kernel
theorem xd_Z_isVirtual_9 : decode xb_Z_isVirtual 9 = .ok (.goto 4, 3) := by decide +kernel
theorem xd_Z_isVirtual_12 : decode xb_Z_isVirtual 12 = .ok (.iconst 0, 1) := by decide +kernel
theorem xd_Z_isVirtual_13 : decode xb_Z_isVirtual 13 = .ok (.ireturn, 1) := by decide +kernel
theorem xd_Z_trap_0 : decode xb_Z_trap 0 = .ok (.aload_n 0, 1) := by decide +kernel
theorem xd_Z_trap_1 : decode xb_Z_trap 1 = .ok (.invokevirtual 96, 3) := by decide +kernel
theorem xd_Z_trap_4 : decode xb_Z_trap 4 = .ok (.ifCond .eq 48, 3) := by decide +kernel
theorem xd_Z_trap_7 : decode xb_Z_trap 7 = .ok (.aload_n 0, 1) := by decide +kernel
theorem xd_Z_trap_8 : decode xb_Z_trap 8 = .ok (.sipush 1538, 3) := by decide +kernel
theorem xd_Z_trap_11 : decode xb_Z_trap 11 = .ok (.invokevirtual 56, 3) := by decide +kernel
theorem xd_Z_trap_14 : decode xb_Z_trap 14 = .ok (.aload_n 0, 1) := by decide +kernel
theorem xd_Z_trap_15 : decode xb_Z_trap 15 = .ok (.getfield 81, 3) := by decide +kernel
theorem xd_Z_trap_18 : decode xb_Z_trap 18 = .ok (.ishr, 1) := by decide +kernel
theorem xd_Z_trap_19 : decode xb_Z_trap 19 = .ok (.iconst 1, 1) := by decide +kernel
theorem xd_Z_trap_20 : decode xb_Z_trap 20 = .ok (.iand, 1) := by decide +kernel
theorem xd_Z_trap_21 : decode xb_Z_trap 21 = .ok (.iconst 1, 1) := by decide +kernel
theorem xd_Z_trap_22 : decode xb_Z_trap 22 = .ok (.if_icmp .ne 30, 3) := by decide +kernel
theorem xd_Z_trap_25 : decode xb_Z_trap 25 = .ok (.aload_n 0, 1) := by decide +kernel
theorem xd_Z_trap_26 : decode xb_Z_trap 26 = .ok (.sipush 512, 3) := by decide +kernel
theorem xd_Z_trap_29 : decode xb_Z_trap 29 = .ok (.aload_n 0, 1) := by decide +kernel
theorem xd_Z_trap_30 : decode xb_Z_trap 30 = .ok (.getfield 81, 3) := by decide +kernel
theorem xd_Z_trap_33 : decode xb_Z_trap 33 = .ok (.aload_n 0, 1) := by decide +kernel
theorem xd_Z_trap_34 : decode xb_Z_trap 34 = .ok (.getfield 84, 3) := by decide +kernel
theorem xd_Z_trap_37 : decode xb_Z_trap 37 = .ok (.iconst 3, 1) := by decide +kernel
theorem xd_Z_trap_38 : decode xb_Z_trap 38 = .ok (.invokevirtual 100, 3) := by decide +kernel
theorem xd_Z_trap_41 : decode xb_Z_trap 41 = .ok (.aload_n 0, 1) := by decide +kernel
theorem xd_Z_trap_42 : decode xb_Z_trap 42 = .ok (.dup, 1) := by decide +kernel
theorem xd_Z_trap_43 : decode xb_Z_trap 43 = .ok (.getfield 43, 3) := by decide +kernel
theorem xd_Z_trap_46 : decode xb_Z_trap 46 = .ok (.iconst 1, 1) := by decide +kernel
theorem xd_Z_trap_47 : decode xb_Z_trap 47 = .ok (.iadd, 1) := by decide +kernel
theorem xd_Z_trap_48 : decode xb_Z_trap 48 = .ok (.putfield 43, 3) := by decide +kernel
theorem xd_Z_trap_51 : decode xb_Z_trap 51 = .ok (.return_, 1) := by decide +kernel
theorem xd_Z_trap_52 : decode xb_Z_trap 52 = .ok (.aload_n 0, 1) := by decide +kernel
theorem xd_Z_trap_53 : decode xb_Z_trap 53 = .ok (.aload_n 0, 1) := by decide +kernel
theorem xd_Z_trap_54 : decode xb_Z_trap 54 = .ok (.getfield 81, 3) := by decide +kernel
theorem xd_Z_trap_57 : decode xb_Z_trap 57 = .ok (.aload_n 0, 1) := by decide +kernel
theorem xd_Z_trap_58 : decode xb_Z_trap 58 = .ok (.getfield 84, 3) := by decide +kernel
theorem xd_Z_trap_61 : decode xb_Z_trap 61 = .ok (.aload_n 0, 1) := by decide +kernel
theorem xd_Z_trap_62 : decode xb_Z_trap 62 = .ok (.getfield 87, 3) := by decide +kernel
theorem xd_Z_trap_65 : decode xb_Z_trap 65 = .ok (.invokevirtual 104, 3) := by decide +kernel
theorem xd_Z_trap_68 : decode xb_Z_trap 68 = .ok (.aload_n 0, 1) := by decide +kernel
theorem xd_Z_trap_69 : decode xb_Z_trap 69 = .ok (.sipush 1603, 3) := by decide +kernel
theorem xd_Z_trap_72 : decode xb_Z_trap 72 = .ok (.aload_n 0, 1) := by decide +kernel
theorem xd_Z_trap_73 : decode xb_Z_trap 73 = .ok (.getfield 90, 3) := by decide +kernel
theorem xd_Z_trap_76 : decode xb_Z_trap 76 = .ok (.ldc2_w 107, 3) := by decide +kernel
theorem xd_Z_trap_79 : decode xb_Z_trap 79 = .ok (.ldiv, 1) := by decide +kernel
theorem xd_Z_trap_80 : decode xb_Z_trap 80 = .ok (.l2i, 1) := by decide +kernel
theorem xd_Z_trap_81 : decode xb_Z_trap 81 = .ok (.invokevirtual 59, 3) := by decide +kernel
theorem xd_Z_trap_84 : decode xb_Z_trap 84 = .ok (.aload_n 0, 1) := by decide +kernel
theorem xd_Z_trap_85 : decode xb_Z_trap 85 = .ok (.sipush 1610, 3) := by decide +kernel
theorem xd_Z_trap_88 : decode xb_Z_trap 88 = .ok (.aload_n 0, 1) := by decide +kernel
theorem xd_Z_trap_89 : decode xb_Z_trap 89 = .ok (.getfield 93, 3) := by decide +kernel
theorem xd_Z_trap_92 : decode xb_Z_trap 92 = .ok (.ifCond .eq 9, 3) := by decide +kernel
theorem xd_Z_trap_95 : decode xb_Z_trap 95 = .ok (.sipush 8192, 3) := by decide +kernel
theorem xd_Z_trap_98 : decode xb_Z_trap 98 = .ok (.goto 4, 3) := by decide +kernel
theorem xd_Z_trap_101 : decode xb_Z_trap 101 = .ok (.iconst 0, 1) := by decide +kernel
theorem xd_Z_trap_102 : decode xb_Z_trap 102 = .ok (.invokevirtual 59, 3) := by decide +kernel
theorem xd_Z_trap_105 : decode xb_Z_trap 105 = .ok (.return_, 1) := by decide +kernel
theorem xd_Z_enterS_0 : decode xb_Z_enterS 0 = .ok (.aload_n 0, 1) := by decide +kernel
theorem xd_Z_enterS_1 : decode xb_Z_enterS 1 = .ok (.dup, 1) := by decide +kernel
theorem xd_Z_enterS_2 : decode xb_Z_enterS 2 = .ok (.getfield 40, 3) := by decide +kernel
theorem xd_Z_enterS_5 : decode xb_Z_enterS 5 = .ok (.iconst 1, 1) := by decide +kernel
theorem xd_Z_enterS_6 : decode xb_Z_enterS 6 = .ok (.iadd, 1) := by decide +kernel
theorem xd_Z_enterS_7 : decode xb_Z_enterS 7 = .ok (.putfield 40, 3) := by decide +kernel
theorem xd_Z_enterS_10 : decode xb_Z_enterS 10 = .ok (.aload_n 0, 1) := by decide +kernel
theorem xd_Z_enterS_11 : decode xb_Z_enterS 11 = .ok (.sipush 1536, 3) := by decide +kernel
theorem xd_Z_enterS_14 : decode xb_Z_enterS 14 = .ok (.bipush 6, 2) := by decide +kernel
theorem xd_Z_enterS_16 : decode xb_Z_enterS 16 = .ok (.iload_n 3, 1) := by decide +kernel
theorem xd_Z_enterS_17 : decode xb_Z_enterS 17 = .ok (.invokevirtual 70, 3) := by decide +kernel
theorem xd_Z_enterS_20 : decode xb_Z_enterS 20 = .ok (.aload_n 0, 1) := by decide +kernel
theorem xd_Z_enterS_21 : decode xb_Z_enterS 21 = .ok (.sipush 1536, 3) := by decide +kernel
theorem xd_Z_enterS_24 : decode xb_Z_enterS 24 = .ok (.bipush 7, 2) := by decide +kernel
theorem xd_Z_enterS_26 : decode xb_Z_enterS 26 = .ok (.aload_n 0, 1) := by decide +kernel
theorem xd_Z_enterS_27 : decode xb_Z_enterS 27 = .ok (.invokevirtual 96, 3) := by decide +kernel
theorem xd_Z_enterS_30 : decode xb_Z_enterS 30 = .ok (.invokevirtual 70, 3) := by decide +kernel
theorem xd_Z_enterS_33 : decode xb_Z_enterS 33 = .ok (.aload_n 0, 1) := by decide +kernel
theorem xd_Z_enterS_34 : decode xb_Z_enterS 34 = .ok (.sipush 1536, 3) := by decide +kernel
theorem xd_Z_enterS_37 : decode xb_Z_enterS 37 = .ok (.bipush 8, 2) := by decide +kernel
theorem xd_Z_enterS_39 : decode xb_Z_enterS 39 = .ok (.aload_n 0, 1) := by decide +kernel
theorem xd_Z_enterS_40 : decode xb_Z_enterS 40 = .ok (.invokevirtual 96, 3) := by decide +kernel
theorem xd_Z_enterS_43 : decode xb_Z_enterS 43 = .ok (.ifCond .eq 19, 3) := by decide +kernel
theorem xd_Z_enterS_46 : decode xb_Z_enterS 46 = .ok (.aload_n 0, 1) := by decide +kernel
theorem xd_Z_enterS_47 : decode xb_Z_enterS 47 = .ok (.getfield 18, 3) := by decide +kernel
theorem xd_Z_enterS_50 : decode xb_Z_enterS 50 = .ok (.iconst 3, 1) := by decide +kernel
theorem xd_Z_enterS_51 : decode xb_Z_enterS 51 = .ok (.if_icmp .ne 7, 3) := by decide +kernel
theorem xd_Z_enterS_54 : decode xb_Z_enterS 54 = .ok (.iconst 1, 1) := by decide +kernel
theorem xd_Z_enterS_55 : decode xb_Z_enterS 55 = .ok (.goto 16, 3) := by decide +kernel
theorem xd_Z_enterS_58 : decode xb_Z_enterS 58 = .ok (.iconst 0, 1) := by decide +kernel
theorem xd_Z_enterS_59 : decode xb_Z_enterS 59 = .ok (.goto 12, 3) := by decide +kernel
theorem xd_Z_enterS_62 : decode xb_Z_enterS 62 = .ok (.aload_n 0, 1) := by decide +kernel
theorem xd_Z_enterS_63 : decode xb_Z_enterS 63 = .ok (.sipush 1536, 3) := by decide +kernel
theorem xd_Z_enterS_66 : decode xb_Z_enterS 66 = .ok (.bipush 8, 2) := by decide +kernel
theorem xd_Z_enterS_68 : decode xb_Z_enterS 68 = .ok (.invokevirtual 74, 3) := by decide +kernel
theorem xd_Z_enterS_71 : decode xb_Z_enterS 71 = .ok (.invokevirtual 70, 3) := by decide +kernel
theorem xd_Z_enterS_74 : decode xb_Z_enterS 74 = .ok (.aload_n 0, 1) := by decide +kernel
theorem xd_Z_enterS_75 : decode xb_Z_enterS 75 = .ok (.sipush 256, 3) := by decide +kernel
theorem xd_Z_enterS_78 : decode xb_Z_enterS 78 = .ok (.iload_n 1, 1) := by decide +kernel
theorem xd_Z_enterS_79 : decode xb_Z_enterS 79 = .ok (.iload_n 2, 1) := by decide +kernel
theorem xd_Z_enterS_80 : decode xb_Z_enterS 80 = .ok (.iconst 1, 1) := by decide +kernel
theorem xd_Z_enterS_81 : decode xb_Z_enterS 81 = .ok (.invokevirtual 100, 3) := by decide +kernel
theorem xd_Z_enterS_84 : decode xb_Z_enterS 84 = .ok (.aload_n 0, 1) := by decide +kernel
theorem xd_Z_enterS_85 : decode xb_Z_enterS 85 = .ok (.sipush 1603, 3) := by decide +kernel
theorem xd_Z_enterS_88 : decode xb_Z_enterS 88 = .ok (.iconst 0, 1) := by decide +kernel
theorem xd_Z_enterS_89 : decode xb_Z_enterS 89 = .ok (.invokevirtual 59, 3) := by decide +kernel
theorem xd_Z_enterS_92 : decode xb_Z_enterS 92 = .ok (.aload_n 0, 1) := by decide +kernel
theorem xd_Z_enterS_93 : decode xb_Z_enterS 93 = .ok (.sipush 1610, 3) := by decide +kernel
theorem xd_Z_enterS_96 : decode xb_Z_enterS 96 = .ok (.iconst 0, 1) := by decide +kernel
theorem xd_Z_enterS_97 : decode xb_Z_enterS 97 = .ok (.invokevirtual 59, 3) := by decide +kernel
theorem xd_Z_enterS_100 : decode xb_Z_enterS 100 = .ok (.return_, 1) := by decide +kernel
theorem xd_Z_enter_0 : decode xb_Z_enter 0 = .ok (.aload_n 0, 1) := by decide +kernel
theorem xd_Z_enter_1 : decode xb_Z_enter 1 = .ok (.iload_n 1, 1) := by decide +kernel
theorem xd_Z_enter_2 : decode xb_Z_enter 2 = .ok (.bipush 65, 2) := by decide +kernel
theorem xd_Z_enter_4 : decode xb_Z_enter 4 = .ok (.iadd, 1) := by decide +kernel
theorem xd_Z_enter_5 : decode xb_Z_enter 5 = .ok (.aload_n 0, 1) := by decide +kernel
theorem xd_Z_enter_6 : decode xb_Z_enter 6 = .ok (.getfield 14, 3) := by decide +kernel
theorem xd_Z_enter_9 : decode xb_Z_enter 9 = .ok (.invokevirtual 59, 3) := by decide +kernel
theorem xd_Z_enter_12 : decode xb_Z_enter 12 = .ok (.aload_n 0, 1) := by decide +kernel
theorem xd_Z_enter_13 : decode xb_Z_enter 13 = .ok (.iload_n 1, 1) := by decide +kernel
theorem xd_Z_enter_14 : decode xb_Z_enter 14 = .ok (.bipush 66, 2) := by decide +kernel
theorem xd_Z_enter_16 : decode xb_Z_enter 16 = .ok (.iadd, 1) := by decide +kernel
theorem xd_Z_enter_17 : decode xb_Z_enter 17 = .ok (.iload_n 2, 1) := by decide +kernel
theorem xd_Z_enter_18 : decode xb_Z_enter 18 = .ok (.invokevirtual 59, 3) := by decide +kernel
theorem xd_Z_enter_21 : decode xb_Z_enter 21 = .ok (.aload_n 0, 1) := by decide +kernel
theorem xd_Z_enter_22 : decode xb_Z_enter 22 = .ok (.iload_n 1, 1) := by decide +kernel
theorem xd_Z_enter_23 : decode xb_Z_enter 23 = .ok (.bipush 67, 2) := by decide +kernel
theorem xd_Z_enter_25 : decode xb_Z_enter 25 = .ok (.iadd, 1) := by decide +kernel
theorem xd_Z_enter_26 : decode xb_Z_enter 26 = .ok (.iload_n 3, 1) := by decide +kernel
theorem xd_Z_enter_27 : decode xb_Z_enter 27 = .ok (.invokevirtual 59, 3) := by decide +kernel
theorem xd_Z_enter_30 : decode xb_Z_enter 30 = .ok (.aload_n 0, 1) := by decide +kernel
theorem xd_Z_enter_31 : decode xb_Z_enter 31 = .ok (.iload_n 1, 1) := by decide +kernel
theorem xd_Z_enter_32 : decode xb_Z_enter 32 = .ok (.iconst 5, 1) := by decide +kernel
theorem xd_Z_enter_33 : decode xb_Z_enter 33 = .ok (.aload_n 0, 1) := by decide +kernel
theorem xd_Z_enter_34 : decode xb_Z_enter 34 = .ok (.iload_n 1, 1) := by decide +kernel
theorem xd_Z_enter_35 : decode xb_Z_enter 35 = .ok (.iconst 1, 1) := by decide +kernel
theorem xd_Z_enter_36 : decode xb_Z_enter 36 = .ok (.invokevirtual 74, 3) := by decide +kernel
theorem xd_Z_enter_39 : decode xb_Z_enter 39 = .ok (.invokevirtual 70, 3) := by decide +kernel
theorem xd_Z_enter_42 : decode xb_Z_enter 42 = .ok (.aload_n 0, 1) := by decide +kernel
theorem xd_Z_enter_43 : decode xb_Z_enter 43 = .ok (.iload_n 1, 1) := by decide +kernel
theorem xd_Z_enter_44 : decode xb_Z_enter 44 = .ok (.iconst 1, 1) := by decide +kernel
theorem xd_Z_enter_45 : decode xb_Z_enter 45 = .ok (.iconst 0, 1) := by decide +kernel
theorem xd_Z_enter_46 : decode xb_Z_enter 46 = .ok (.invokevirtual 70, 3) := by decide +kernel
theorem xd_Z_enter_49 : decode xb_Z_enter 49 = .ok (.aload_n 0, 1) := by decide +kernel
theorem xd_Z_enter_50 : decode xb_Z_enter 50 = .ok (.iload_n 1, 1) := by decide +kernel
theorem xd_Z_enter_51 : decode xb_Z_enter 51 = .ok (.bipush 8, 2) := by decide +kernel
theorem xd_Z_enter_53 : decode xb_Z_enter 53 = .ok (.aload_n 0, 1) := by decide +kernel
theorem xd_Z_enter_54 : decode xb_Z_enter 54 = .ok (.getfield 18, 3) := by decide +kernel
theorem xd_Z_enter_57 : decode xb_Z_enter 57 = .ok (.iconst 1, 1) := by decide +kernel
theorem xd_Z_enter_58 : decode xb_Z_enter 58 = .ok (.if_icmp .eq 11, 3) := by decide +kernel
theorem xd_Z_enter_61 : decode xb_Z_enter 61 = .ok (.aload_n 0, 1) := by decide +kernel
theorem xd_Z_enter_62 : decode xb_Z_enter 62 = .ok (.getfield 18, 3) := by decide +kernel
theorem xd_Z_enter_65 : decode xb_Z_enter 65 = .ok (.iconst 3, 1) := by decide +kernel
theorem xd_Z_enter_66 : decode xb_Z_enter 66 = .ok (.if_icmp .ne 7, 3) := by decide +kernel
theorem xd_Z_enter_69 : decode xb_Z_enter 69 = .ok (.iconst 1, 1) := by decide +kernel
theorem xd_Z_enter_70 : decode xb_Z_enter 70 = .ok (.goto 4, 3) := by decide +kernel
theorem xd_Z_enter_73 : decode xb_Z_enter 73 = .ok (.iconst 0, 1) := by decide +kernel
theorem xd_Z_enter_74 : decode xb_Z_enter 74 = .ok (.invokevirtual 70, 3) := by decide +kernel
theorem xd_Z_enter_77 : decode xb_Z_enter 77 = .ok (.aload_n 0, 1) := by decide +kernel
theorem xd_Z_enter_78 : decode xb_Z_enter 78 = .ok (.iload 4, 2) := by decide +kernel
theorem xd_Z_enter_80 : decode xb_Z_enter 80 = .ok (.putfield 18, 3) := by decide +kernel
theorem xd_Z_enter_83 : decode xb_Z_enter 83 = .ok (.aload_n 0, 1) := by decide +kernel
theorem xd_Z_enter_84 : decode xb_Z_enter 84 = .ok (.iload_n 1, 1) := by decide +kernel
theorem xd_Z_enter_85 : decode xb_Z_enter 85 = .ok (.iconst 5, 1) := by decide +kernel
theorem xd_Z_enter_86 : decode xb_Z_enter 86 = .ok (.iadd, 1) := by decide +kernel
theorem xd_Z_enter_87 : decode xb_Z_enter 87 = .ok (.invokevirtual 56, 3) := by decide +kernel
theorem xd_Z_enter_90 : decode xb_Z_enter 90 = .ok (.istore 5, 2) := by decide +kernel
theorem xd_Z_enter_92 : decode xb_Z_enter 92 = .ok (.aload_n 0, 1) := by decide +kernel
theorem xd_Z_enter_93 : decode xb_Z_enter 93 = .ok (.iload 5, 2) := by decide +kernel
theorem xd_Z_enter_95 : decode xb_Z_enter 95 = .ok (.bipush (-4), 2) := by decide +kernel
theorem xd_Z_enter_97 : decode xb_Z_enter 97 = .ok (.iand, 1) := by decide +kernel
theorem xd_Z_enter_98 : decode xb_Z_enter 98 = .ok (.iload_n 2, 1) := by decide +kernel
theorem xd_Z_enter_99 : decode xb_Z_enter 99 = .ok (.ifCond .ge 20, 3) := by decide +kernel
theorem xd_Z_enter_102 : decode xb_Z_enter 102 = .ok (.iload 5, 2) := by decide +kernel
theorem xd_Z_enter_104 : decode xb_Z_enter 104 = .ok (.iconst 1, 1) := by decide +kernel
theorem xd_Z_enter_105 : decode xb_Z_enter 105 = .ok (.iand, 1) := by decide +kernel
theorem xd_Z_enter_106 : decode xb_Z_enter 106 = .ok (.iconst 1, 1) := by decide +kernel
theorem xd_Z_enter_107 : decode xb_Z_enter 107 = .ok (.if_icmp .ne 12, 3) := by decide +kernel
theorem xd_Z_enter_110 : decode xb_Z_enter 110 = .ok (.iconst 4, 1) := by decide +kernel
theorem xd_Z_enter_111 : decode xb_Z_enter 111 = .ok (.iload_n 2, 1) := by decide +kernel
theorem xd_Z_enter_112 : decode xb_Z_enter 112 = .ok (.bipush 31, 2) := by decide +kernel
theorem xd_Z_enter_114 : decode xb_Z_enter 114 = .ok (.iand, 1) := by decide +kernel
theorem xd_Z_enter_115 : decode xb_Z_enter 115 = .ok (.imul, 1) := by decide +kernel
theorem xd_Z_enter_116 : decode xb_Z_enter 116 = .ok (.goto 4, 3) := by decide +kernel
theorem xd_Z_enter_119 : decode xb_Z_enter 119 = .ok (.iconst 0, 1) := by decide +kernel
theorem xd_Z_enter_120 : decode xb_Z_enter 120 = .ok (.iadd, 1) := by decide +kernel
theorem xd_Z_enter_121 : decode xb_Z_enter 121 = .ok (.putfield 14, 3) := by decide +kernel
theorem xd_Z_enter_124 : decode xb_Z_enter 124 = .ok (.return_, 1) := by decide +kernel
theorem xd_Z_due_0 : decode xb_Z_due 0 = .ok (.aload_n 0, 1) := by decide +kernel
theorem xd_Z_due_1 : decode xb_Z_due 1 = .ok (.sipush 324, 3) := by decide +kernel
theorem xd_Z_due_4 : decode xb_Z_due 4 = .ok (.invokevirtual 109, 3) := by decide +kernel
theorem xd_Z_due_7 : decode xb_Z_due 7 = .ok (.aload_n 0, 1) := by decide +kernel
theorem xd_Z_due_8 : decode xb_Z_due 8 = .ok (.sipush 260, 3) := by decide +kernel
theorem xd_Z_due_11 : decode xb_Z_due 11 = .ok (.invokevirtual 56, 3) := by decide +kernel
theorem xd_Z_due_14 : decode xb_Z_due 14 = .ok (.iand, 1) := by decide +kernel
theorem xd_Z_due_15 : decode xb_Z_due 15 = .ok (.istore_n 1, 1) := by decide +kernel
theorem xd_Z_due_16 : decode xb_Z_due 16 = .ok (.aload_n 0, 1) := by decide +kernel
theorem xd_Z_due_17 : decode xb_Z_due 17 = .ok (.sipush 1605, 3) := by decide +kernel
theorem xd_Z_due_20 : decode xb_Z_due 20 = .ok (.invokevirtual 56, 3) := by decide +kernel
theorem xd_Z_due_23 : decode xb_Z_due 23 = .ok (.aload_n 0, 1) := by decide +kernel
theorem xd_Z_due_24 : decode xb_Z_due 24 = .ok (.sipush 1540, 3) := by decide +kernel
theorem xd_Z_due_27 : decode xb_Z_due 27 = .ok (.invokevirtual 56, 3) := by decide +kernel
theorem xd_Z_due_30 : decode xb_Z_due 30 = .ok (.iand, 1) := by decide +kernel
theorem xd_Z_due_31 : decode xb_Z_due 31 = .ok (.istore_n 2, 1) := by decide +kernel
theorem xd_Z_due_32 : decode xb_Z_due 32 = .ok (.aload_n 0, 1) := by decide +kernel
theorem xd_Z_due_33 : decode xb_Z_due 33 = .ok (.getfield 18, 3) := by decide +kernel
theorem xd_Z_due_36 : decode xb_Z_due 36 = .ok (.iconst 1, 1) := by decide +kernel
theorem xd_Z_due_37 : decode xb_Z_due 37 = .ok (.if_icmp .ne 14, 3) := by decide +kernel
theorem xd_Z_due_40 : decode xb_Z_due 40 = .ok (.aload_n 0, 1) := by decide +kernel
theorem xd_Z_due_41 : decode xb_Z_due 41 = .ok (.sipush 256, 3) := by decide +kernel
theorem xd_Z_due_44 : decode xb_Z_due 44 = .ok (.iconst 1, 1) := by decide +kernel
theorem xd_Z_due_45 : decode xb_Z_due 45 = .ok (.invokevirtual 74, 3) := by decide +kernel
theorem xd_Z_due_48 : decode xb_Z_due 48 = .ok (.ifCond .eq 95, 3) := by decide +kernel
theorem xd_Z_due_51 : decode xb_Z_due 51 = .ok (.iload_n 2, 1) := by decide +kernel
theorem xd_Z_due_52 : decode xb_Z_due 52 = .ok (.aload_n 0, 1) := by decide +kernel
theorem xd_Z_due_53 : decode xb_Z_due 53 = .ok (.sipush 1539, 3) := by decide +kernel
theorem xd_Z_due_56 : decode xb_Z_due 56 = .ok (.invokevirtual 56, 3) := by decide +kernel
theorem xd_Z_due_59 : decode xb_Z_due 59 = .ok (.iconst (-1), 1) := by decide +kernel
theorem xd_Z_due_60 : decode xb_Z_due 60 = .ok (.ixor, 1) := by decide +kernel
theorem xd_Z_due_61 : decode xb_Z_due 61 = .ok (.iand, 1) := by decide +kernel
theorem xd_Z_due_62 : decode xb_Z_due 62 = .ok (.istore_n 3, 1) := by decide +kernel
theorem xd_Z_due_63 : decode xb_Z_due 63 = .ok (.iload_n 1, 1) := by decide +kernel
theorem xd_Z_due_64 : decode xb_Z_due 64 = .ok (.sipush 512, 3) := by decide +kernel
theorem xd_Z_due_67 : decode xb_Z_due 67 = .ok (.iand, 1) := by decide +kernel
theorem xd_Z_due_68 : decode xb_Z_due 68 = .ok (.ifCond .le 8, 3) := by decide +kernel
theorem xd_Z_due_71 : decode xb_Z_due 71 = .ok (.bipush 9, 2) := by decide +kernel
theorem xd_Z_due_73 : decode xb_Z_due 73 = .ok (.goto 60, 3) := by decide +kernel
theorem xd_Z_due_76 : decode xb_Z_due 76 = .ok (.iload_n 1, 1) := by decide +kernel
theorem xd_Z_due_77 : decode xb_Z_due 77 = .ok (.iconst 2, 1) := by decide +kernel
theorem xd_Z_due_78 : decode xb_Z_due 78 = .ok (.iand, 1) := by decide +kernel
theorem xd_Z_due_79 : decode xb_Z_due 79 = .ok (.ifCond .le 7, 3) := by decide +kernel
theorem xd_Z_due_82 : decode xb_Z_due 82 = .ok (.iconst 1, 1) := by decide +kernel
theorem xd_Z_due_83 : decode xb_Z_due 83 = .ok (.goto 50, 3) := by decide +kernel
theorem xd_Z_due_86 : decode xb_Z_due 86 = .ok (.iload_n 1, 1) := by decide +kernel
theorem xd_Z_due_87 : decode xb_Z_due 87 = .ok (.bipush 32, 2) := by decide +kernel
theorem xd_Z_due_89 : decode xb_Z_due 89 = .ok (.iand, 1) := by decide +kernel
theorem xd_Z_due_90 : decode xb_Z_due 90 = .ok (.ifCond .le 7, 3) := by decide +kernel
theorem xd_Z_due_93 : decode xb_Z_due 93 = .ok (.iconst 5, 1) := by decide +kernel
theorem xd_Z_due_94 : decode xb_Z_due 94 = .ok (.goto 39, 3) := by decide +kernel
theorem xd_Z_due_97 : decode xb_Z_due 97 = .ok (.iload_n 3, 1) := by decide +kernel
theorem xd_Z_due_98 : decode xb_Z_due 98 = .ok (.sipush 1024, 3) := by decide +kernel
theorem xd_Z_due_101 : decode xb_Z_due 101 = .ok (.iand, 1) := by decide +kernel
theorem xd_Z_due_102 : decode xb_Z_due 102 = .ok (.ifCond .le 8, 3) := by decide +kernel
theorem xd_Z_due_105 : decode xb_Z_due 105 = .ok (.bipush 10, 2) := by decide +kernel
theorem xd_Z_due_107 : decode xb_Z_due 107 = .ok (.goto 26, 3) := by decide +kernel
theorem xd_Z_due_110 : decode xb_Z_due 110 = .ok (.iload_n 3, 1) := by decide +kernel
theorem xd_Z_due_111 : decode xb_Z_due 111 = .ok (.iconst 4, 1) := by decide +kernel
theorem xd_Z_due_112 : decode xb_Z_due 112 = .ok (.iand, 1) := by decide +kernel
theorem xd_Z_due_113 : decode xb_Z_due 113 = .ok (.ifCond .le 7, 3) := by decide +kernel
theorem xd_Z_due_116 : decode xb_Z_due 116 = .ok (.iconst 2, 1) := by decide +kernel
theorem xd_Z_due_117 : decode xb_Z_due 117 = .ok (.goto 16, 3) := by decide +kernel
theorem xd_Z_due_120 : decode xb_Z_due 120 = .ok (.iload_n 3, 1) := by decide +kernel
theorem xd_Z_due_121 : decode xb_Z_due 121 = .ok (.bipush 64, 2) := by decide +kernel
theorem xd_Z_due_123 : decode xb_Z_due 123 = .ok (.iand, 1) := by decide +kernel
theorem xd_Z_due_124 : decode xb_Z_due 124 = .ok (.ifCond .le 8, 3) := by decide +kernel
theorem xd_Z_due_127 : decode xb_Z_due 127 = .ok (.bipush 6, 2) := by decide +kernel
theorem xd_Z_due_129 : decode xb_Z_due 129 = .ok (.goto 4, 3) := by decide +kernel
