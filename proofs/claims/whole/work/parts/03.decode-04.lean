theorem xd_Z_lead_31 : decode xb_Z_lead 31 = .ok (.iconst 1, 1) := by decide +kernel
theorem xd_Z_lead_32 : decode xb_Z_lead 32 = .ok (.if_icmp .ne 7, 3) := by decide +kernel
theorem xd_Z_lead_35 : decode xb_Z_lead 35 = .ok (.iconst 4, 1) := by decide +kernel
theorem xd_Z_lead_36 : decode xb_Z_lead 36 = .ok (.goto 5, 3) := by decide +kernel
theorem xd_Z_lead_39 : decode xb_Z_lead 39 = .ok (.bipush 6, 2) := by decide +kernel
theorem xd_Z_lead_41 : decode xb_Z_lead 41 = .ok (.iload_n 1, 1) := by decide +kernel
theorem xd_Z_lead_42 : decode xb_Z_lead 42 = .ok (.aload_n 0, 1) := by decide +kernel
theorem xd_Z_lead_43 : decode xb_Z_lead 43 = .ok (.getfield 118, 3) := by decide +kernel
theorem xd_Z_lead_46 : decode xb_Z_lead 46 = .ok (.invokevirtual 121, 3) := by decide +kernel
theorem xd_Z_lead_49 : decode xb_Z_lead 49 = .ok (.istore_n 3, 1) := by decide +kernel
theorem xd_Z_lead_50 : decode xb_Z_lead 50 = .ok (.ldc2_w 125, 3) := by decide +kernel
theorem xd_Z_lead_53 : decode xb_Z_lead 53 = .ok (.lreturn, 1) := by decide +kernel
theorem xd_Z_lead_54 : decode xb_Z_lead 54 = .ok (.iload_n 1, 1) := by decide +kernel
theorem xd_Z_lead_55 : decode xb_Z_lead 55 = .ok (.i2l, 1) := by decide +kernel
theorem xd_Z_lead_56 : decode xb_Z_lead 56 = .ok (.ldc2_w 68, 3) := by decide +kernel
theorem xd_Z_lead_59 : decode xb_Z_lead 59 = .ok (.land, 1) := by decide +kernel
theorem xd_Z_lead_60 : decode xb_Z_lead 60 = .ok (.lstore_n 3, 1) := by decide +kernel
theorem xd_Z_lead_61 : decode xb_Z_lead 61 = .ok (.aload_n 0, 1) := by decide +kernel
theorem xd_Z_lead_62 : decode xb_Z_lead 62 = .ok (.getfield 178, 3) := by decide +kernel
theorem xd_Z_lead_65 : decode xb_Z_lead 65 = .ok (.ifCond .ne 47, 3) := by decide +kernel
theorem xd_Z_lead_68 : decode xb_Z_lead 68 = .ok (.aload_n 0, 1) := by decide +kernel
theorem xd_Z_lead_69 : decode xb_Z_lead 69 = .ok (.sipush 384, 3) := by decide +kernel
theorem xd_Z_lead_72 : decode xb_Z_lead 72 = .ok (.bipush 31, 2) := by decide +kernel
theorem xd_Z_lead_74 : decode xb_Z_lead 74 = .ok (.invokevirtual 74, 3) := by decide +kernel
theorem xd_Z_lead_77 : decode xb_Z_lead 77 = .ok (.ifCond .eq 29, 3) := by decide +kernel
theorem xd_Z_lead_80 : decode xb_Z_lead 80 = .ok (.aload_n 0, 1) := by decide +kernel
theorem xd_Z_lead_81 : decode xb_Z_lead 81 = .ok (.iconst 0, 1) := by decide +kernel
theorem xd_Z_lead_82 : decode xb_Z_lead 82 = .ok (.aload_n 0, 1) := by decide +kernel
theorem xd_Z_lead_83 : decode xb_Z_lead 83 = .ok (.sipush 384, 3) := by decide +kernel
theorem xd_Z_lead_86 : decode xb_Z_lead 86 = .ok (.invokevirtual 56, 3) := by decide +kernel
theorem xd_Z_lead_89 : decode xb_Z_lead 89 = .ok (.i2l, 1) := by decide +kernel
theorem xd_Z_lead_90 : decode xb_Z_lead 90 = .ok (.ldc2_w 168, 3) := by decide +kernel
theorem xd_Z_lead_93 : decode xb_Z_lead 93 = .ok (.land, 1) := by decide +kernel
theorem xd_Z_lead_94 : decode xb_Z_lead 94 = .ok (.ldc2_w 131, 3) := by decide +kernel
theorem xd_Z_lead_97 : decode xb_Z_lead 97 = .ok (.lmul, 1) := by decide +kernel
theorem xd_Z_lead_98 : decode xb_Z_lead 98 = .ok (.lload_n 3, 1) := by decide +kernel
theorem xd_Z_lead_99 : decode xb_Z_lead 99 = .ok (.iconst 0, 1) := by decide +kernel
theorem xd_Z_lead_100 : decode xb_Z_lead 100 = .ok (.invokevirtual 133, 3) := by decide +kernel
theorem xd_Z_lead_103 : decode xb_Z_lead 103 = .ok (.goto 8, 3) := by decide +kernel
theorem xd_Z_lead_106 : decode xb_Z_lead 106 = .ok (.aload_n 0, 1) := by decide +kernel
theorem xd_Z_lead_107 : decode xb_Z_lead 107 = .ok (.lload_n 3, 1) := by decide +kernel
theorem xd_Z_lead_108 : decode xb_Z_lead 108 = .ok (.invokevirtual 137, 3) := by decide +kernel
theorem xd_Z_lead_111 : decode xb_Z_lead 111 = .ok (.lreturn, 1) := by decide +kernel
theorem xd_Z_lead_112 : decode xb_Z_lead 112 = .ok (.aload_n 0, 1) := by decide +kernel
theorem xd_Z_lead_113 : decode xb_Z_lead 113 = .ok (.sipush 640, 3) := by decide +kernel
theorem xd_Z_lead_116 : decode xb_Z_lead 116 = .ok (.bipush 31, 2) := by decide +kernel
theorem xd_Z_lead_118 : decode xb_Z_lead 118 = .ok (.invokevirtual 74, 3) := by decide +kernel
theorem xd_Z_lead_121 : decode xb_Z_lead 121 = .ok (.ifCond .eq 29, 3) := by decide +kernel
theorem xd_Z_lead_124 : decode xb_Z_lead 124 = .ok (.aload_n 0, 1) := by decide +kernel
theorem xd_Z_lead_125 : decode xb_Z_lead 125 = .ok (.iconst 1, 1) := by decide +kernel
theorem xd_Z_lead_126 : decode xb_Z_lead 126 = .ok (.aload_n 0, 1) := by decide +kernel
theorem xd_Z_lead_127 : decode xb_Z_lead 127 = .ok (.sipush 640, 3) := by decide +kernel
theorem xd_Z_lead_130 : decode xb_Z_lead 130 = .ok (.invokevirtual 56, 3) := by decide +kernel
theorem xd_Z_lead_133 : decode xb_Z_lead 133 = .ok (.i2l, 1) := by decide +kernel
theorem xd_Z_lead_134 : decode xb_Z_lead 134 = .ok (.ldc2_w 168, 3) := by decide +kernel
theorem xd_Z_lead_137 : decode xb_Z_lead 137 = .ok (.land, 1) := by decide +kernel
theorem xd_Z_lead_138 : decode xb_Z_lead 138 = .ok (.ldc2_w 131, 3) := by decide +kernel
theorem xd_Z_lead_141 : decode xb_Z_lead 141 = .ok (.lmul, 1) := by decide +kernel
theorem xd_Z_lead_142 : decode xb_Z_lead 142 = .ok (.lload_n 3, 1) := by decide +kernel
theorem xd_Z_lead_143 : decode xb_Z_lead 143 = .ok (.iconst 0, 1) := by decide +kernel
theorem xd_Z_lead_144 : decode xb_Z_lead 144 = .ok (.invokevirtual 133, 3) := by decide +kernel
theorem xd_Z_lead_147 : decode xb_Z_lead 147 = .ok (.goto 4, 3) := by decide +kernel
theorem xd_Z_lead_150 : decode xb_Z_lead 150 = .ok (.lload_n 3, 1) := by decide +kernel
theorem xd_Z_lead_151 : decode xb_Z_lead 151 = .ok (.lstore 5, 2) := by decide +kernel
theorem xd_Z_lead_153 : decode xb_Z_lead 153 = .ok (.lload 5, 2) := by decide +kernel
theorem xd_Z_lead_155 : decode xb_Z_lead 155 = .ok (.lconst 0, 1) := by decide +kernel
theorem xd_Z_lead_156 : decode xb_Z_lead 156 = .ok (.lcmp, 1) := by decide +kernel
theorem xd_Z_lead_157 : decode xb_Z_lead 157 = .ok (.ifCond .ge 9, 3) := by decide +kernel
theorem xd_Z_lead_160 : decode xb_Z_lead 160 = .ok (.ldc2_w 125, 3) := by decide +kernel
theorem xd_Z_lead_163 : decode xb_Z_lead 163 = .ok (.goto 10, 3) := by decide +kernel
theorem xd_Z_lead_166 : decode xb_Z_lead 166 = .ok (.aload_n 0, 1) := by decide +kernel
theorem xd_Z_lead_167 : decode xb_Z_lead 167 = .ok (.lload 5, 2) := by decide +kernel
theorem xd_Z_lead_169 : decode xb_Z_lead 169 = .ok (.iconst 0, 1) := by decide +kernel
theorem xd_Z_lead_170 : decode xb_Z_lead 170 = .ok (.invokevirtual 141, 3) := by decide +kernel
theorem xd_Z_lead_173 : decode xb_Z_lead 173 = .ok (.lreturn, 1) := by decide +kernel
theorem xd_Z_asMode_0 : decode xb_Z_asMode 0 = .ok (.aload_n 0, 1) := by decide +kernel
theorem xd_Z_asMode_1 : decode xb_Z_asMode 1 = .ok (.iload_n 1, 1) := by decide +kernel
theorem xd_Z_asMode_2 : decode xb_Z_asMode 2 = .ok (.putfield 112, 3) := by decide +kernel
theorem xd_Z_asMode_5 : decode xb_Z_asMode 5 = .ok (.aload_n 0, 1) := by decide +kernel
theorem xd_Z_asMode_6 : decode xb_Z_asMode 6 = .ok (.iload_n 2, 1) := by decide +kernel
theorem xd_Z_asMode_7 : decode xb_Z_asMode 7 = .ok (.putfield 178, 3) := by decide +kernel
theorem xd_Z_asMode_10 : decode xb_Z_asMode 10 = .ok (.aload_n 0, 1) := by decide +kernel
theorem xd_Z_asMode_11 : decode xb_Z_asMode 11 = .ok (.iload_n 3, 1) := by decide +kernel
theorem xd_Z_asMode_12 : decode xb_Z_asMode 12 = .ok (.putfield 175, 3) := by decide +kernel
theorem xd_Z_asMode_15 : decode xb_Z_asMode 15 = .ok (.aload_n 0, 1) := by decide +kernel
theorem xd_Z_asMode_16 : decode xb_Z_asMode 16 = .ok (.iload 4, 2) := by decide +kernel
theorem xd_Z_asMode_18 : decode xb_Z_asMode 18 = .ok (.putfield 172, 3) := by decide +kernel
theorem xd_Z_asMode_21 : decode xb_Z_asMode 21 = .ok (.return_, 1) := by decide +kernel
theorem xd_Z_bytes_0 : decode xb_Z_bytes 0 = .ok (.bipush 8, 2) := by decide +kernel
theorem xd_Z_bytes_2 : decode xb_Z_bytes 2 = .ok (.lload_n 1, 1) := by decide +kernel
theorem xd_Z_bytes_3 : decode xb_Z_bytes 3 = .ok (.ldc2_w 107, 3) := by decide +kernel
theorem xd_Z_bytes_6 : decode xb_Z_bytes 6 = .ok (.lrem, 1) := by decide +kernel
theorem xd_Z_bytes_7 : decode xb_Z_bytes 7 = .ok (.l2i, 1) := by decide +kernel
theorem xd_Z_bytes_8 : decode xb_Z_bytes 8 = .ok (.imul, 1) := by decide +kernel
theorem xd_Z_bytes_9 : decode xb_Z_bytes 9 = .ok (.istore 4, 2) := by decide +kernel
theorem xd_Z_bytes_11 : decode xb_Z_bytes 11 = .ok (.aload_n 0, 1) := by decide +kernel
theorem xd_Z_bytes_12 : decode xb_Z_bytes 12 = .ok (.lload_n 1, 1) := by decide +kernel
theorem xd_Z_bytes_13 : decode xb_Z_bytes 13 = .ok (.invokevirtual 145, 3) := by decide +kernel
theorem xd_Z_bytes_16 : decode xb_Z_bytes 16 = .ok (.iload 4, 2) := by decide +kernel
theorem xd_Z_bytes_18 : decode xb_Z_bytes 18 = .ok (.iushr, 1) := by decide +kernel
theorem xd_Z_bytes_19 : decode xb_Z_bytes 19 = .ok (.istore 5, 2) := by decide +kernel
theorem xd_Z_bytes_21 : decode xb_Z_bytes 21 = .ok (.iload_n 3, 1) := by decide +kernel
theorem xd_Z_bytes_22 : decode xb_Z_bytes 22 = .ok (.iconst 4, 1) := by decide +kernel
theorem xd_Z_bytes_23 : decode xb_Z_bytes 23 = .ok (.if_icmp .ne 8, 3) := by decide +kernel
theorem xd_Z_bytes_26 : decode xb_Z_bytes 26 = .ok (.iload 5, 2) := by decide +kernel
theorem xd_Z_bytes_28 : decode xb_Z_bytes 28 = .ok (.goto 22, 3) := by decide +kernel
theorem xd_Z_bytes_31 : decode xb_Z_bytes 31 = .ok (.iload_n 3, 1) := by decide +kernel
theorem xd_Z_bytes_32 : decode xb_Z_bytes 32 = .ok (.iconst 2, 1) := by decide +kernel
theorem xd_Z_bytes_33 : decode xb_Z_bytes 33 = .ok (.if_icmp .ne 11, 3) := by decide +kernel
theorem xd_Z_bytes_36 : decode xb_Z_bytes 36 = .ok (.iload 5, 2) := by decide +kernel
theorem xd_Z_bytes_38 : decode xb_Z_bytes 38 = .ok (.ldc 181, 2) := by decide +kernel
theorem xd_Z_bytes_40 : decode xb_Z_bytes 40 = .ok (.iand, 1) := by decide +kernel
theorem xd_Z_bytes_41 : decode xb_Z_bytes 41 = .ok (.goto 9, 3) := by decide +kernel
theorem xd_Z_bytes_44 : decode xb_Z_bytes 44 = .ok (.iload 5, 2) := by decide +kernel
theorem xd_Z_bytes_46 : decode xb_Z_bytes 46 = .ok (.sipush 255, 3) := by decide +kernel
theorem xd_Z_bytes_49 : decode xb_Z_bytes 49 = .ok (.iand, 1) := by decide +kernel
theorem xd_Z_bytes_50 : decode xb_Z_bytes 50 = .ok (.ireturn, 1) := by decide +kernel
theorem xd_Z_putBytes_0 : decode xb_Z_putBytes 0 = .ok (.bipush 8, 2) := by decide +kernel
theorem xd_Z_putBytes_2 : decode xb_Z_putBytes 2 = .ok (.lload_n 1, 1) := by decide +kernel
theorem xd_Z_putBytes_3 : decode xb_Z_putBytes 3 = .ok (.ldc2_w 107, 3) := by decide +kernel
theorem xd_Z_putBytes_6 : decode xb_Z_putBytes 6 = .ok (.lrem, 1) := by decide +kernel
theorem xd_Z_putBytes_7 : decode xb_Z_putBytes 7 = .ok (.l2i, 1) := by decide +kernel
theorem xd_Z_putBytes_8 : decode xb_Z_putBytes 8 = .ok (.imul, 1) := by decide +kernel
theorem xd_Z_putBytes_9 : decode xb_Z_putBytes 9 = .ok (.istore 5, 2) := by decide +kernel
theorem xd_Z_putBytes_11 : decode xb_Z_putBytes 11 = .ok (.iload_n 3, 1) := by decide +kernel
theorem xd_Z_putBytes_12 : decode xb_Z_putBytes 12 = .ok (.iconst 4, 1) := by decide +kernel
theorem xd_Z_putBytes_13 : decode xb_Z_putBytes 13 = .ok (.if_icmp .ne 7, 3) := by decide +kernel
theorem xd_Z_putBytes_16 : decode xb_Z_putBytes 16 = .ok (.iconst (-1), 1) := by decide +kernel
theorem xd_Z_putBytes_17 : decode xb_Z_putBytes 17 = .ok (.goto 16, 3) := by decide +kernel
theorem xd_Z_putBytes_20 : decode xb_Z_putBytes 20 = .ok (.iload_n 3, 1) := by decide +kernel
theorem xd_Z_putBytes_21 : decode xb_Z_putBytes 21 = .ok (.iconst 2, 1) := by decide +kernel
theorem xd_Z_putBytes_22 : decode xb_Z_putBytes 22 = .ok (.if_icmp .ne 8, 3) := by decide +kernel
theorem xd_Z_putBytes_25 : decode xb_Z_putBytes 25 = .ok (.ldc 181, 2) := by decide +kernel
theorem xd_Z_putBytes_27 : decode xb_Z_putBytes 27 = .ok (.goto 6, 3) := by decide +kernel
theorem xd_Z_putBytes_30 : decode xb_Z_putBytes 30 = .ok (.sipush 255, 3) := by decide +kernel
theorem xd_Z_putBytes_33 : decode xb_Z_putBytes 33 = .ok (.iload 5, 2) := by decide +kernel
theorem xd_Z_putBytes_35 : decode xb_Z_putBytes 35 = .ok (.ishl, 1) := by decide +kernel
theorem xd_Z_putBytes_36 : decode xb_Z_putBytes 36 = .ok (.istore 6, 2) := by decide +kernel
theorem xd_Z_putBytes_38 : decode xb_Z_putBytes 38 = .ok (.lload_n 1, 1) := by decide +kernel
theorem xd_Z_putBytes_39 : decode xb_Z_putBytes 39 = .ok (.ldc2_w 107, 3) := by decide +kernel
theorem xd_Z_putBytes_42 : decode xb_Z_putBytes 42 = .ok (.ldiv, 1) := by decide +kernel
theorem xd_Z_putBytes_43 : decode xb_Z_putBytes 43 = .ok (.l2i, 1) := by decide +kernel
theorem xd_Z_putBytes_44 : decode xb_Z_putBytes 44 = .ok (.istore 7, 2) := by decide +kernel
theorem xd_Z_putBytes_46 : decode xb_Z_putBytes 46 = .ok (.aload_n 0, 1) := by decide +kernel
theorem xd_Z_putBytes_47 : decode xb_Z_putBytes 47 = .ok (.getfield 2, 3) := by decide +kernel
theorem xd_Z_putBytes_50 : decode xb_Z_putBytes 50 = .ok (.iload 7, 2) := by decide +kernel
theorem xd_Z_putBytes_52 : decode xb_Z_putBytes 52 = .ok (.aload_n 0, 1) := by decide +kernel
theorem xd_Z_putBytes_53 : decode xb_Z_putBytes 53 = .ok (.getfield 2, 3) := by decide +kernel
theorem xd_Z_putBytes_56 : decode xb_Z_putBytes 56 = .ok (.iload 7, 2) := by decide +kernel
theorem xd_Z_putBytes_58 : decode xb_Z_putBytes 58 = .ok (.iaload, 1) := by decide +kernel
theorem xd_Z_putBytes_59 : decode xb_Z_putBytes 59 = .ok (.iload 6, 2) := by decide +kernel
theorem xd_Z_putBytes_61 : decode xb_Z_putBytes 61 = .ok (.iconst (-1), 1) := by decide +kernel
theorem xd_Z_putBytes_62 : decode xb_Z_putBytes 62 = .ok (.ixor, 1) := by decide +kernel
theorem xd_Z_putBytes_63 : decode xb_Z_putBytes 63 = .ok (.iand, 1) := by decide +kernel
theorem xd_Z_putBytes_64 : decode xb_Z_putBytes 64 = .ok (.iload 4, 2) := by decide +kernel
theorem xd_Z_putBytes_66 : decode xb_Z_putBytes 66 = .ok (.iload 5, 2) := by decide +kernel
theorem xd_Z_putBytes_68 : decode xb_Z_putBytes 68 = .ok (.ishl, 1) := by decide +kernel
theorem xd_Z_putBytes_69 : decode xb_Z_putBytes 69 = .ok (.iload 6, 2) := by decide +kernel
theorem xd_Z_putBytes_71 : decode xb_Z_putBytes 71 = .ok (.iand, 1) := by decide +kernel
theorem xd_Z_putBytes_72 : decode xb_Z_putBytes 72 = .ok (.ior, 1) := by decide +kernel
theorem xd_Z_putBytes_73 : decode xb_Z_putBytes 73 = .ok (.iastore, 1) := by decide +kernel
theorem xd_Z_putBytes_74 : decode xb_Z_putBytes 74 = .ok (.return_, 1) := by decide +kernel
theorem xd_Z_signed_0 : decode xb_Z_signed 0 = .ok (.bipush 32, 2) := by decide +kernel
theorem xd_Z_signed_2 : decode xb_Z_signed 2 = .ok (.iload_n 1, 1) := by decide +kernel
theorem xd_Z_signed_3 : decode xb_Z_signed 3 = .ok (.isub, 1) := by decide +kernel
theorem xd_Z_signed_4 : decode xb_Z_signed 4 = .ok (.istore_n 2, 1) := by decide +kernel
theorem xd_Z_signed_5 : decode xb_Z_signed 5 = .ok (.iload_n 0, 1) := by decide +kernel
theorem xd_Z_signed_6 : decode xb_Z_signed 6 = .ok (.iload_n 2, 1) := by decide +kernel
theorem xd_Z_signed_7 : decode xb_Z_signed 7 = .ok (.ishl, 1) := by decide +kernel
theorem xd_Z_signed_8 : decode xb_Z_signed 8 = .ok (.iload_n 2, 1) := by decide +kernel
theorem xd_Z_signed_9 : decode xb_Z_signed 9 = .ok (.ishr, 1) := by decide +kernel
theorem xd_Z_signed_10 : decode xb_Z_signed 10 = .ok (.ireturn, 1) := by decide +kernel
theorem xd_Z_perform_0 : decode xb_Z_perform 0 = .ok (.iload_n 1, 1) := by decide +kernel
theorem xd_Z_perform_1 : decode xb_Z_perform 1 = .ok (.bipush 7, 2) := by decide +kernel
theorem xd_Z_perform_3 : decode xb_Z_perform 3 = .ok (.ishr, 1) := by decide +kernel
theorem xd_Z_perform_4 : decode xb_Z_perform 4 = .ok (.bipush 31, 2) := by decide +kernel
theorem xd_Z_perform_6 : decode xb_Z_perform 6 = .ok (.iand, 1) := by decide +kernel
theorem xd_Z_perform_7 : decode xb_Z_perform 7 = .ok (.istore_n 2, 1) := by decide +kernel
theorem xd_Z_perform_8 : decode xb_Z_perform 8 = .ok (.iload_n 1, 1) := by decide +kernel
theorem xd_Z_perform_9 : decode xb_Z_perform 9 = .ok (.bipush 12, 2) := by decide +kernel
theorem xd_Z_perform_11 : decode xb_Z_perform 11 = .ok (.ishr, 1) := by decide +kernel
theorem xd_Z_perform_12 : decode xb_Z_perform 12 = .ok (.bipush 7, 2) := by decide +kernel
theorem xd_Z_perform_14 : decode xb_Z_perform 14 = .ok (.iand, 1) := by decide +kernel
theorem xd_Z_perform_15 : decode xb_Z_perform 15 = .ok (.istore_n 3, 1) := by decide +kernel
theorem xd_Z_perform_16 : decode xb_Z_perform 16 = .ok (.aload_n 0, 1) := by decide +kernel
theorem xd_Z_perform_17 : decode xb_Z_perform 17 = .ok (.getfield 8, 3) := by decide +kernel
theorem xd_Z_perform_20 : decode xb_Z_perform 20 = .ok (.iload_n 1, 1) := by decide +kernel
theorem xd_Z_perform_21 : decode xb_Z_perform 21 = .ok (.bipush 15, 2) := by decide +kernel
theorem xd_Z_perform_23 : decode xb_Z_perform 23 = .ok (.ishr, 1) := by decide +kernel
theorem xd_Z_perform_24 : decode xb_Z_perform 24 = .ok (.bipush 31, 2) := by decide +kernel
theorem xd_Z_perform_26 : decode xb_Z_perform 26 = .ok (.iand, 1) := by decide +kernel
theorem xd_Z_perform_27 : decode xb_Z_perform 27 = .ok (.iaload, 1) := by decide +kernel
theorem xd_Z_perform_28 : decode xb_Z_perform 28 = .ok (.istore 4, 2) := by decide +kernel
theorem xd_Z_perform_30 : decode xb_Z_perform 30 = .ok (.aload_n 0, 1) := by decide +kernel
theorem xd_Z_perform_31 : decode xb_Z_perform 31 = .ok (.getfield 8, 3) := by decide +kernel
theorem xd_Z_perform_34 : decode xb_Z_perform 34 = .ok (.iload_n 1, 1) := by decide +kernel
theorem xd_Z_perform_35 : decode xb_Z_perform 35 = .ok (.bipush 20, 2) := by decide +kernel
theorem xd_Z_perform_37 : decode xb_Z_perform 37 = .ok (.ishr, 1) := by decide +kernel
theorem xd_Z_perform_38 : decode xb_Z_perform 38 = .ok (.bipush 31, 2) := by decide +kernel
theorem xd_Z_perform_40 : decode xb_Z_perform 40 = .ok (.iand, 1) := by decide +kernel
theorem xd_Z_perform_41 : decode xb_Z_perform 41 = .ok (.iaload, 1) := by decide +kernel
theorem xd_Z_perform_42 : decode xb_Z_perform 42 = .ok (.istore 5, 2) := by decide +kernel
theorem xd_Z_perform_44 : decode xb_Z_perform 44 = .ok (.aload_n 0, 1) := by decide +kernel
theorem xd_Z_perform_45 : decode xb_Z_perform 45 = .ok (.aload_n 0, 1) := by decide +kernel
theorem xd_Z_perform_46 : decode xb_Z_perform 46 = .ok (.getfield 14, 3) := by decide +kernel
theorem xd_Z_perform_49 : decode xb_Z_perform 49 = .ok (.iconst 4, 1) := by decide +kernel
theorem xd_Z_perform_50 : decode xb_Z_perform 50 = .ok (.iadd, 1) := by decide +kernel
theorem xd_Z_perform_51 : decode xb_Z_perform 51 = .ok (.putfield 182, 3) := by decide +kernel
theorem xd_Z_perform_54 : decode xb_Z_perform 54 = .ok (.iload_n 1, 1) := by decide +kernel
theorem xd_Z_perform_55 : decode xb_Z_perform 55 = .ok (.bipush 127, 2) := by decide +kernel
theorem xd_Z_perform_57 : decode xb_Z_perform 57 = .ok (.iand, 1) := by decide +kernel
theorem xd_Z_perform_58 : decode xb_Z_perform 58 = .ok (.lookupswitch 347 #[(3, 221), (15, 294), (19, 313), (23, 109), (35, 253), (51, 323), (55, 98), (99, 210), (103, 161), (111, 125), (115, 335)], 98) := by decide +kernel
theorem xd_Z_perform_156 : decode xb_Z_perform 156 = .ok (.aload_n 0, 1) := by decide +kernel
theorem xd_Z_perform_157 : decode xb_Z_perform 157 = .ok (.iload_n 2, 1) := by decide +kernel
theorem xd_Z_perform_158 : decode xb_Z_perform 158 = .ok (.iload_n 1, 1) := by decide +kernel
theorem xd_Z_perform_159 : decode xb_Z_perform 159 = .ok (.sipush (-4096), 3) := by decide +kernel
theorem xd_Z_perform_162 : decode xb_Z_perform 162 = .ok (.iand, 1) := by decide +kernel
theorem xd_Z_perform_163 : decode xb_Z_perform 163 = .ok (.invokevirtual 185, 3) := by decide +kernel
theorem xd_Z_perform_166 : decode xb_Z_perform 166 = .ok (.ireturn, 1) := by decide +kernel
theorem xd_Z_perform_167 : decode xb_Z_perform 167 = .ok (.aload_n 0, 1) := by decide +kernel
theorem xd_Z_perform_168 : decode xb_Z_perform 168 = .ok (.iload_n 2, 1) := by decide +kernel
theorem xd_Z_perform_169 : decode xb_Z_perform 169 = .ok (.aload_n 0, 1) := by decide +kernel
theorem xd_Z_perform_170 : decode xb_Z_perform 170 = .ok (.getfield 14, 3) := by decide +kernel
theorem xd_Z_perform_173 : decode xb_Z_perform 173 = .ok (.iload_n 1, 1) := by decide +kernel
theorem xd_Z_perform_174 : decode xb_Z_perform 174 = .ok (.sipush (-4096), 3) := by decide +kernel
theorem xd_Z_perform_177 : decode xb_Z_perform 177 = .ok (.iand, 1) := by decide +kernel
theorem xd_Z_perform_178 : decode xb_Z_perform 178 = .ok (.iadd, 1) := by decide +kernel
theorem xd_Z_perform_179 : decode xb_Z_perform 179 = .ok (.invokevirtual 185, 3) := by decide +kernel
theorem xd_Z_perform_182 : decode xb_Z_perform 182 = .ok (.ireturn, 1) := by decide +kernel
theorem xd_Z_perform_183 : decode xb_Z_perform 183 = .ok (.aload_n 0, 1) := by decide +kernel
theorem xd_Z_perform_184 : decode xb_Z_perform 184 = .ok (.aload_n 0, 1) := by decide +kernel
theorem xd_Z_perform_185 : decode xb_Z_perform 185 = .ok (.getfield 14, 3) := by decide +kernel
theorem xd_Z_perform_188 : decode xb_Z_perform 188 = .ok (.iload_n 1, 1) := by decide +kernel
theorem xd_Z_perform_189 : decode xb_Z_perform 189 = .ok (.invokestatic 188, 3) := by decide +kernel
theorem xd_Z_perform_192 : decode xb_Z_perform 192 = .ok (.iadd, 1) := by decide +kernel
theorem xd_Z_perform_193 : decode xb_Z_perform 193 = .ok (.invokevirtual 191, 3) := by decide +kernel
theorem xd_Z_perform_196 : decode xb_Z_perform 196 = .ok (.ifCond .eq 21, 3) := by decide +kernel
theorem xd_Z_perform_199 : decode xb_Z_perform 199 = .ok (.aload_n 0, 1) := by decide +kernel
theorem xd_Z_perform_200 : decode xb_Z_perform 200 = .ok (.iload_n 2, 1) := by decide +kernel
theorem xd_Z_perform_201 : decode xb_Z_perform 201 = .ok (.aload_n 0, 1) := by decide +kernel
theorem xd_Z_perform_202 : decode xb_Z_perform 202 = .ok (.getfield 14, 3) := by decide +kernel
theorem xd_Z_perform_205 : decode xb_Z_perform 205 = .ok (.iconst 4, 1) := by decide +kernel
theorem xd_Z_perform_206 : decode xb_Z_perform 206 = .ok (.iadd, 1) := by decide +kernel
theorem xd_Z_perform_207 : decode xb_Z_perform 207 = .ok (.invokevirtual 185, 3) := by decide +kernel
theorem xd_Z_perform_210 : decode xb_Z_perform 210 = .ok (.ifCond .eq 7, 3) := by decide +kernel
theorem xd_Z_perform_213 : decode xb_Z_perform 213 = .ok (.iconst 1, 1) := by decide +kernel
theorem xd_Z_perform_214 : decode xb_Z_perform 214 = .ok (.goto 4, 3) := by decide +kernel
theorem xd_Z_perform_217 : decode xb_Z_perform 217 = .ok (.iconst 0, 1) := by decide +kernel
theorem xd_Z_perform_218 : decode xb_Z_perform 218 = .ok (.ireturn, 1) := by decide +kernel
theorem xd_Z_perform_219 : decode xb_Z_perform 219 = .ok (.iload_n 3, 1) := by decide +kernel
theorem xd_Z_perform_220 : decode xb_Z_perform 220 = .ok (.ifCond .ne 42, 3) := by decide +kernel
theorem xd_Z_perform_223 : decode xb_Z_perform 223 = .ok (.aload_n 0, 1) := by decide +kernel
theorem xd_Z_perform_224 : decode xb_Z_perform 224 = .ok (.iload 4, 2) := by decide +kernel
theorem xd_Z_perform_226 : decode xb_Z_perform 226 = .ok (.iload_n 1, 1) := by decide +kernel
theorem xd_Z_perform_227 : decode xb_Z_perform 227 = .ok (.bipush 20, 2) := by decide +kernel
theorem xd_Z_perform_229 : decode xb_Z_perform 229 = .ok (.ishr, 1) := by decide +kernel
theorem xd_Z_perform_230 : decode xb_Z_perform 230 = .ok (.iadd, 1) := by decide +kernel
theorem xd_Z_perform_231 : decode xb_Z_perform 231 = .ok (.bipush (-2), 2) := by decide +kernel
theorem xd_Z_perform_233 : decode xb_Z_perform 233 = .ok (.iand, 1) := by decide +kernel
theorem xd_Z_perform_234 : decode xb_Z_perform 234 = .ok (.invokevirtual 191, 3) := by decide +kernel
theorem xd_Z_perform_237 : decode xb_Z_perform 237 = .ok (.ifCond .eq 21, 3) := by decide +kernel
theorem xd_Z_perform_240 : decode xb_Z_perform 240 = .ok (.aload_n 0, 1) := by decide +kernel
theorem xd_Z_perform_241 : decode xb_Z_perform 241 = .ok (.iload_n 2, 1) := by decide +kernel
theorem xd_Z_perform_242 : decode xb_Z_perform 242 = .ok (.aload_n 0, 1) := by decide +kernel
theorem xd_Z_perform_243 : decode xb_Z_perform 243 = .ok (.getfield 14, 3) := by decide +kernel
theorem xd_Z_perform_246 : decode xb_Z_perform 246 = .ok (.iconst 4, 1) := by decide +kernel
theorem xd_Z_perform_247 : decode xb_Z_perform 247 = .ok (.iadd, 1) := by decide +kernel
theorem xd_Z_perform_248 : decode xb_Z_perform 248 = .ok (.invokevirtual 185, 3) := by decide +kernel
theorem xd_Z_perform_251 : decode xb_Z_perform 251 = .ok (.ifCond .eq 7, 3) := by decide +kernel
theorem xd_Z_perform_254 : decode xb_Z_perform 254 = .ok (.iconst 1, 1) := by decide +kernel
theorem xd_Z_perform_255 : decode xb_Z_perform 255 = .ok (.goto 12, 3) := by decide +kernel
theorem xd_Z_perform_258 : decode xb_Z_perform 258 = .ok (.iconst 0, 1) := by decide +kernel
theorem xd_Z_perform_259 : decode xb_Z_perform 259 = .ok (.goto 8, 3) := by decide +kernel
theorem xd_Z_perform_262 : decode xb_Z_perform 262 = .ok (.aload_n 0, 1) := by decide +kernel
theorem xd_Z_perform_263 : decode xb_Z_perform 263 = .ok (.iload_n 1, 1) := by decide +kernel
theorem xd_Z_perform_264 : decode xb_Z_perform 264 = .ok (.invokevirtual 195, 3) := by decide +kernel
theorem xd_Z_perform_267 : decode xb_Z_perform 267 = .ok (.ireturn, 1) := by decide +kernel
theorem xd_Z_perform_268 : decode xb_Z_perform 268 = .ok (.aload_n 0, 1) := by decide +kernel
theorem xd_Z_perform_269 : decode xb_Z_perform 269 = .ok (.iload_n 1, 1) := by decide +kernel
theorem xd_Z_perform_270 : decode xb_Z_perform 270 = .ok (.iload_n 3, 1) := by decide +kernel
theorem xd_Z_perform_271 : decode xb_Z_perform 271 = .ok (.iload 4, 2) := by decide +kernel
theorem xd_Z_perform_273 : decode xb_Z_perform 273 = .ok (.iload 5, 2) := by decide +kernel
theorem xd_Z_perform_275 : decode xb_Z_perform 275 = .ok (.invokevirtual 198, 3) := by decide +kernel
theorem xd_Z_perform_278 : decode xb_Z_perform 278 = .ok (.ireturn, 1) := by decide +kernel
theorem xd_Z_perform_279 : decode xb_Z_perform 279 = .ok (.iload_n 3, 1) := by decide +kernel
theorem xd_Z_perform_280 : decode xb_Z_perform 280 = .ok (.iconst 3, 1) := by decide +kernel
theorem xd_Z_perform_281 : decode xb_Z_perform 281 = .ok (.if_icmp .eq 8, 3) := by decide +kernel
theorem xd_Z_perform_284 : decode xb_Z_perform 284 = .ok (.iload_n 3, 1) := by decide +kernel
theorem xd_Z_perform_285 : decode xb_Z_perform 285 = .ok (.iconst 5, 1) := by decide +kernel
theorem xd_Z_perform_286 : decode xb_Z_perform 286 = .ok (.if_icmp .le 11, 3) := by decide +kernel
theorem xd_Z_perform_289 : decode xb_Z_perform 289 = .ok (.aload_n 0, 1) := by decide +kernel
theorem xd_Z_perform_290 : decode xb_Z_perform 290 = .ok (.iload_n 1, 1) := by decide +kernel
theorem xd_Z_perform_291 : decode xb_Z_perform 291 = .ok (.invokevirtual 195, 3) := by decide +kernel
theorem xd_Z_perform_294 : decode xb_Z_perform 294 = .ok (.goto 16, 3) := by decide +kernel
theorem xd_Z_perform_297 : decode xb_Z_perform 297 = .ok (.aload_n 0, 1) := by decide +kernel
theorem xd_Z_perform_298 : decode xb_Z_perform 298 = .ok (.iload_n 2, 1) := by decide +kernel
theorem xd_Z_perform_299 : decode xb_Z_perform 299 = .ok (.iload_n 3, 1) := by decide +kernel
theorem xd_Z_perform_300 : decode xb_Z_perform 300 = .ok (.iload 4, 2) := by decide +kernel
theorem xd_Z_perform_302 : decode xb_Z_perform 302 = .ok (.iload_n 1, 1) := by decide +kernel
theorem xd_Z_perform_303 : decode xb_Z_perform 303 = .ok (.bipush 20, 2) := by decide +kernel
theorem xd_Z_perform_305 : decode xb_Z_perform 305 = .ok (.ishr, 1) := by decide +kernel
theorem xd_Z_perform_306 : decode xb_Z_perform 306 = .ok (.iadd, 1) := by decide +kernel
theorem xd_Z_perform_307 : decode xb_Z_perform 307 = .ok (.invokevirtual 202, 3) := by decide +kernel
theorem xd_Z_perform_310 : decode xb_Z_perform 310 = .ok (.ireturn, 1) := by decide +kernel
theorem xd_Z_perform_311 : decode xb_Z_perform 311 = .ok (.iload_n 3, 1) := by decide +kernel
theorem xd_Z_perform_312 : decode xb_Z_perform 312 = .ok (.iconst 2, 1) := by decide +kernel
theorem xd_Z_perform_313 : decode xb_Z_perform 313 = .ok (.if_icmp .le 11, 3) := by decide +kernel
theorem xd_Z_perform_316 : decode xb_Z_perform 316 = .ok (.aload_n 0, 1) := by decide +kernel
theorem xd_Z_perform_317 : decode xb_Z_perform 317 = .ok (.iload_n 1, 1) := by decide +kernel
theorem xd_Z_perform_318 : decode xb_Z_perform 318 = .ok (.invokevirtual 195, 3) := by decide +kernel
theorem xd_Z_perform_321 : decode xb_Z_perform 321 = .ok (.goto 30, 3) := by decide +kernel
theorem xd_Z_perform_324 : decode xb_Z_perform 324 = .ok (.aload_n 0, 1) := by decide +kernel
theorem xd_Z_perform_325 : decode xb_Z_perform 325 = .ok (.iconst 1, 1) := by decide +kernel
theorem xd_Z_perform_326 : decode xb_Z_perform 326 = .ok (.iload_n 3, 1) := by decide +kernel
theorem xd_Z_perform_327 : decode xb_Z_perform 327 = .ok (.ishl, 1) := by decide +kernel
theorem xd_Z_perform_328 : decode xb_Z_perform 328 = .ok (.iload 4, 2) := by decide +kernel
theorem xd_Z_perform_330 : decode xb_Z_perform 330 = .ok (.iload_n 1, 1) := by decide +kernel
theorem xd_Z_perform_331 : decode xb_Z_perform 331 = .ok (.bipush 25, 2) := by decide +kernel
theorem xd_Z_perform_333 : decode xb_Z_perform 333 = .ok (.ishr, 1) := by decide +kernel
theorem xd_Z_perform_334 : decode xb_Z_perform 334 = .ok (.bipush 32, 2) := by decide +kernel
theorem xd_Z_perform_336 : decode xb_Z_perform 336 = .ok (.imul, 1) := by decide +kernel
theorem xd_Z_perform_337 : decode xb_Z_perform 337 = .ok (.iadd, 1) := by decide +kernel
theorem xd_Z_perform_338 : decode xb_Z_perform 338 = .ok (.iload_n 1, 1) := by decide +kernel
theorem xd_Z_perform_339 : decode xb_Z_perform 339 = .ok (.bipush 7, 2) := by decide +kernel
theorem xd_Z_perform_341 : decode xb_Z_perform 341 = .ok (.ishr, 1) := by decide +kernel
theorem xd_Z_perform_342 : decode xb_Z_perform 342 = .ok (.bipush 31, 2) := by decide +kernel
theorem xd_Z_perform_344 : decode xb_Z_perform 344 = .ok (.iand, 1) := by decide +kernel
theorem xd_Z_perform_345 : decode xb_Z_perform 345 = .ok (.iadd, 1) := by decide +kernel
theorem xd_Z_perform_346 : decode xb_Z_perform 346 = .ok (.iload 5, 2) := by decide +kernel
theorem xd_Z_perform_348 : decode xb_Z_perform 348 = .ok (.invokevirtual 206, 3) := by decide +kernel
theorem xd_Z_perform_351 : decode xb_Z_perform 351 = .ok (.ireturn, 1) := by decide +kernel
theorem xd_Z_perform_352 : decode xb_Z_perform 352 = .ok (.iload_n 3, 1) := by decide +kernel
theorem xd_Z_perform_353 : decode xb_Z_perform 353 = .ok (.iconst 2, 1) := by decide +kernel
theorem xd_Z_perform_354 : decode xb_Z_perform 354 = .ok (.if_icmp .lt 11, 3) := by decide +kernel
theorem xd_Z_perform_357 : decode xb_Z_perform 357 = .ok (.aload_n 0, 1) := by decide +kernel
theorem xd_Z_perform_358 : decode xb_Z_perform 358 = .ok (.iload_n 1, 1) := by decide +kernel
theorem xd_Z_perform_359 : decode xb_Z_perform 359 = .ok (.invokevirtual 195, 3) := by decide +kernel
theorem xd_Z_perform_362 : decode xb_Z_perform 362 = .ok (.ifCond .eq 7, 3) := by decide +kernel
theorem xd_Z_perform_365 : decode xb_Z_perform 365 = .ok (.iconst 1, 1) := by decide +kernel
theorem xd_Z_perform_366 : decode xb_Z_perform 366 = .ok (.goto 4, 3) := by decide +kernel
theorem xd_Z_perform_369 : decode xb_Z_perform 369 = .ok (.iconst 0, 1) := by decide +kernel
theorem xd_Z_perform_370 : decode xb_Z_perform 370 = .ok (.ireturn, 1) := by decide +kernel
theorem xd_Z_perform_371 : decode xb_Z_perform 371 = .ok (.aload_n 0, 1) := by decide +kernel
theorem xd_Z_perform_372 : decode xb_Z_perform 372 = .ok (.iload_n 1, 1) := by decide +kernel
theorem xd_Z_perform_373 : decode xb_Z_perform 373 = .ok (.iload_n 2, 1) := by decide +kernel
theorem xd_Z_perform_374 : decode xb_Z_perform 374 = .ok (.iload_n 3, 1) := by decide +kernel
theorem xd_Z_perform_375 : decode xb_Z_perform 375 = .ok (.iload 4, 2) := by decide +kernel
theorem xd_Z_perform_377 : decode xb_Z_perform 377 = .ok (.invokevirtual 209, 3) := by decide +kernel
theorem xd_Z_perform_380 : decode xb_Z_perform 380 = .ok (.ireturn, 1) := by decide +kernel
theorem xd_Z_perform_381 : decode xb_Z_perform 381 = .ok (.aload_n 0, 1) := by decide +kernel
theorem xd_Z_perform_382 : decode xb_Z_perform 382 = .ok (.iload_n 1, 1) := by decide +kernel
theorem xd_Z_perform_383 : decode xb_Z_perform 383 = .ok (.iload_n 2, 1) := by decide +kernel
theorem xd_Z_perform_384 : decode xb_Z_perform 384 = .ok (.iload_n 3, 1) := by decide +kernel
theorem xd_Z_perform_385 : decode xb_Z_perform 385 = .ok (.iload 4, 2) := by decide +kernel
theorem xd_Z_perform_387 : decode xb_Z_perform 387 = .ok (.iload 5, 2) := by decide +kernel
theorem xd_Z_perform_389 : decode xb_Z_perform 389 = .ok (.invokevirtual 212, 3) := by decide +kernel
theorem xd_Z_perform_392 : decode xb_Z_perform 392 = .ok (.ireturn, 1) := by decide +kernel
theorem xd_Z_perform_393 : decode xb_Z_perform 393 = .ok (.aload_n 0, 1) := by decide +kernel
theorem xd_Z_perform_394 : decode xb_Z_perform 394 = .ok (.iload_n 1, 1) := by decide +kernel
theorem xd_Z_perform_395 : decode xb_Z_perform 395 = .ok (.iload_n 2, 1) := by decide +kernel
theorem xd_Z_perform_396 : decode xb_Z_perform 396 = .ok (.iload_n 3, 1) := by decide +kernel
theorem xd_Z_perform_397 : decode xb_Z_perform 397 = .ok (.iload 4, 2) := by decide +kernel
theorem xd_Z_perform_399 : decode xb_Z_perform 399 = .ok (.iload 5, 2) := by decide +kernel
theorem xd_Z_perform_401 : decode xb_Z_perform 401 = .ok (.invokevirtual 216, 3) := by decide +kernel
theorem xd_Z_perform_404 : decode xb_Z_perform 404 = .ok (.ireturn, 1) := by decide +kernel
theorem xd_Z_perform_405 : decode xb_Z_perform 405 = .ok (.aload_n 0, 1) := by decide +kernel
theorem xd_Z_perform_406 : decode xb_Z_perform 406 = .ok (.iload_n 1, 1) := by decide +kernel
theorem xd_Z_perform_407 : decode xb_Z_perform 407 = .ok (.invokevirtual 195, 3) := by decide +kernel
theorem xd_Z_perform_410 : decode xb_Z_perform 410 = .ok (.ireturn, 1) := by decide +kernel
theorem xd_Z_illegal_0 : decode xb_Z_illegal 0 = .ok (.aload_n 0, 1) := by decide +kernel
theorem xd_Z_illegal_1 : decode xb_Z_illegal 1 = .ok (.iconst 2, 1) := by decide +kernel
theorem xd_Z_illegal_2 : decode xb_Z_illegal 2 = .ok (.iload_n 1, 1) := by decide +kernel
theorem xd_Z_illegal_3 : decode xb_Z_illegal 3 = .ok (.iconst 0, 1) := by decide +kernel
theorem xd_Z_illegal_4 : decode xb_Z_illegal 4 = .ok (.invokevirtual 121, 3) := by decide +kernel
theorem xd_Z_illegal_7 : decode xb_Z_illegal 7 = .ok (.ireturn, 1) := by decide +kernel
theorem xd_Z_notThere_0 : decode xb_Z_notThere 0 = .ok (.aload_n 0, 1) := by decide +kernel
theorem xd_Z_notThere_1 : decode xb_Z_notThere 1 = .ok (.aload_n 0, 1) := by decide +kernel
theorem xd_Z_notThere_2 : decode xb_Z_notThere 2 = .ok (.invokevirtual 96, 3) := by decide +kernel
theorem xd_Z_notThere_5 : decode xb_Z_notThere 5 = .ok (.ifCond .eq 8, 3) := by decide +kernel
theorem xd_Z_notThere_8 : decode xb_Z_notThere 8 = .ok (.bipush 22, 2) := by decide +kernel
theorem xd_Z_notThere_10 : decode xb_Z_notThere 10 = .ok (.goto 4, 3) := by decide +kernel
theorem xd_Z_notThere_13 : decode xb_Z_notThere 13 = .ok (.iconst 2, 1) := by decide +kernel
theorem xd_Z_notThere_14 : decode xb_Z_notThere 14 = .ok (.iload_n 1, 1) := by decide +kernel
theorem xd_Z_notThere_15 : decode xb_Z_notThere 15 = .ok (.iconst 0, 1) := by decide +kernel
theorem xd_Z_notThere_16 : decode xb_Z_notThere 16 = .ok (.invokevirtual 121, 3) := by decide +kernel
theorem xd_Z_notThere_19 : decode xb_Z_notThere 19 = .ok (.ireturn, 1) := by decide +kernel
theorem xd_Z_put_0 : decode xb_Z_put 0 = .ok (.aload_n 0, 1) := by decide +kernel
theorem xd_Z_put_1 : decode xb_Z_put 1 = .ok (.getfield 8, 3) := by decide +kernel
theorem xd_Z_put_4 : decode xb_Z_put 4 = .ok (.iload_n 1, 1) := by decide +kernel
theorem xd_Z_put_5 : decode xb_Z_put 5 = .ok (.iload_n 1, 1) := by decide +kernel
theorem xd_Z_put_6 : decode xb_Z_put 6 = .ok (.ifCond .ne 7, 3) := by decide +kernel
theorem xd_Z_put_9 : decode xb_Z_put 9 = .ok (.iconst 0, 1) := by decide +kernel
theorem xd_Z_put_10 : decode xb_Z_put 10 = .ok (.goto 4, 3) := by decide +kernel
theorem xd_Z_put_13 : decode xb_Z_put 13 = .ok (.iload_n 2, 1) := by decide +kernel
theorem xd_Z_put_14 : decode xb_Z_put 14 = .ok (.iastore, 1) := by decide +kernel
theorem xd_Z_put_15 : decode xb_Z_put 15 = .ok (.iconst 1, 1) := by decide +kernel
theorem xd_Z_put_16 : decode xb_Z_put 16 = .ok (.ireturn, 1) := by decide +kernel
theorem xd_Z_go_0 : decode xb_Z_go 0 = .ok (.iload_n 1, 1) := by decide +kernel
theorem xd_Z_go_1 : decode xb_Z_go 1 = .ok (.iconst 4, 1) := by decide +kernel
theorem xd_Z_go_2 : decode xb_Z_go 2 = .ok (.irem, 1) := by decide +kernel
theorem xd_Z_go_3 : decode xb_Z_go 3 = .ok (.ifCond .eq 14, 3) := by decide +kernel
theorem xd_Z_go_6 : decode xb_Z_go 6 = .ok (.aload_n 0, 1) := by decide +kernel
theorem xd_Z_go_7 : decode xb_Z_go 7 = .ok (.iconst 0, 1) := by decide +kernel
theorem xd_Z_go_8 : decode xb_Z_go 8 = .ok (.iload_n 1, 1) := by decide +kernel
theorem xd_Z_go_9 : decode xb_Z_go 9 = .ok (.aload_n 0, 1) := by decide +kernel
theorem xd_Z_go_10 : decode xb_Z_go 10 = .ok (.invokevirtual 96, 3) := by decide +kernel
theorem xd_Z_go_13 : decode xb_Z_go 13 = .ok (.invokevirtual 121, 3) := by decide +kernel
theorem xd_Z_go_16 : decode xb_Z_go 16 = .ok (.ireturn, 1) := by decide +kernel
theorem xd_Z_go_17 : decode xb_Z_go 17 = .ok (.aload_n 0, 1) := by decide +kernel
theorem xd_Z_go_18 : decode xb_Z_go 18 = .ok (.iload_n 1, 1) := by decide +kernel
theorem xd_Z_go_19 : decode xb_Z_go 19 = .ok (.putfield 182, 3) := by decide +kernel
theorem xd_Z_go_22 : decode xb_Z_go 22 = .ok (.iconst 1, 1) := by decide +kernel
theorem xd_Z_go_23 : decode xb_Z_go 23 = .ok (.ireturn, 1) := by decide +kernel
theorem xd_Z_jump_0 : decode xb_Z_jump 0 = .ok (.iload_n 0, 1) := by decide +kernel
theorem xd_Z_jump_1 : decode xb_Z_jump 1 = .ok (.bipush 31, 2) := by decide +kernel
theorem xd_Z_jump_3 : decode xb_Z_jump 3 = .ok (.ishr, 1) := by decide +kernel
theorem xd_Z_jump_4 : decode xb_Z_jump 4 = .ok (.iconst 1, 1) := by decide +kernel
theorem xd_Z_jump_5 : decode xb_Z_jump 5 = .ok (.iand, 1) := by decide +kernel
theorem xd_Z_jump_6 : decode xb_Z_jump 6 = .ok (.bipush 20, 2) := by decide +kernel
theorem xd_Z_jump_8 : decode xb_Z_jump 8 = .ok (.ishl, 1) := by decide +kernel
theorem xd_Z_jump_9 : decode xb_Z_jump 9 = .ok (.iload_n 0, 1) := by decide +kernel
theorem xd_Z_jump_10 : decode xb_Z_jump 10 = .ok (.bipush 12, 2) := by decide +kernel
theorem xd_Z_jump_12 : decode xb_Z_jump 12 = .ok (.ishr, 1) := by decide +kernel
theorem xd_Z_jump_13 : decode xb_Z_jump 13 = .ok (.sipush 255, 3) := by decide +kernel
theorem xd_Z_jump_16 : decode xb_Z_jump 16 = .ok (.iand, 1) := by decide +kernel
theorem xd_Z_jump_17 : decode xb_Z_jump 17 = .ok (.bipush 12, 2) := by decide +kernel
theorem xd_Z_jump_19 : decode xb_Z_jump 19 = .ok (.ishl, 1) := by decide +kernel
theorem xd_Z_jump_20 : decode xb_Z_jump 20 = .ok (.ior, 1) := by decide +kernel
theorem xd_Z_jump_21 : decode xb_Z_jump 21 = .ok (.iload_n 0, 1) := by decide +kernel
theorem xd_Z_jump_22 : decode xb_Z_jump 22 = .ok (.bipush 20, 2) := by decide +kernel
theorem xd_Z_jump_24 : decode xb_Z_jump 24 = .ok (.ishr, 1) := by decide +kernel
theorem xd_Z_jump_25 : decode xb_Z_jump 25 = .ok (.iconst 1, 1) := by decide +kernel
theorem xd_Z_jump_26 : decode xb_Z_jump 26 = .ok (.iand, 1) := by decide +kernel
theorem xd_Z_jump_27 : decode xb_Z_jump 27 = .ok (.bipush 11, 2) := by decide +kernel
theorem xd_Z_jump_29 : decode xb_Z_jump 29 = .ok (.ishl, 1) := by decide +kernel
theorem xd_Z_jump_30 : decode xb_Z_jump 30 = .ok (.ior, 1) := by decide +kernel
theorem xd_Z_jump_31 : decode xb_Z_jump 31 = .ok (.iload_n 0, 1) := by decide +kernel
theorem xd_Z_jump_32 : decode xb_Z_jump 32 = .ok (.bipush 21, 2) := by decide +kernel
theorem xd_Z_jump_34 : decode xb_Z_jump 34 = .ok (.ishr, 1) := by decide +kernel
theorem xd_Z_jump_35 : decode xb_Z_jump 35 = .ok (.sipush 1023, 3) := by decide +kernel
theorem xd_Z_jump_38 : decode xb_Z_jump 38 = .ok (.iand, 1) := by decide +kernel
theorem xd_Z_jump_39 : decode xb_Z_jump 39 = .ok (.iconst 1, 1) := by decide +kernel
theorem xd_Z_jump_40 : decode xb_Z_jump 40 = .ok (.ishl, 1) := by decide +kernel
theorem xd_Z_jump_41 : decode xb_Z_jump 41 = .ok (.ior, 1) := by decide +kernel
theorem xd_Z_jump_42 : decode xb_Z_jump 42 = .ok (.bipush 21, 2) := by decide +kernel
theorem xd_Z_jump_44 : decode xb_Z_jump 44 = .ok (.invokestatic 219, 3) := by decide +kernel
theorem xd_Z_jump_47 : decode xb_Z_jump 47 = .ok (.ireturn, 1) := by decide +kernel
theorem xd_Z_lessPlain_0 : decode xb_Z_lessPlain 0 = .ok (.iload_n 0, 1) := by decide +kernel
theorem xd_Z_lessPlain_1 : decode xb_Z_lessPlain 1 = .ok (.i2l, 1) := by decide +kernel
theorem xd_Z_lessPlain_2 : decode xb_Z_lessPlain 2 = .ok (.ldc2_w 68, 3) := by decide +kernel
theorem xd_Z_lessPlain_5 : decode xb_Z_lessPlain 5 = .ok (.land, 1) := by decide +kernel
theorem xd_Z_lessPlain_6 : decode xb_Z_lessPlain 6 = .ok (.iload_n 1, 1) := by decide +kernel
theorem xd_Z_lessPlain_7 : decode xb_Z_lessPlain 7 = .ok (.i2l, 1) := by decide +kernel
theorem xd_Z_lessPlain_8 : decode xb_Z_lessPlain 8 = .ok (.ldc2_w 68, 3) := by decide +kernel
theorem xd_Z_lessPlain_11 : decode xb_Z_lessPlain 11 = .ok (.land, 1) := by decide +kernel
theorem xd_Z_lessPlain_12 : decode xb_Z_lessPlain 12 = .ok (.lcmp, 1) := by decide +kernel
theorem xd_Z_lessPlain_13 : decode xb_Z_lessPlain 13 = .ok (.ifCond .ge 7, 3) := by decide +kernel
theorem xd_Z_lessPlain_16 : decode xb_Z_lessPlain 16 = .ok (.iconst 1, 1) := by decide +kernel
theorem xd_Z_lessPlain_17 : decode xb_Z_lessPlain 17 = .ok (.goto 4, 3) := by decide +kernel
theorem xd_Z_lessPlain_20 : decode xb_Z_lessPlain 20 = .ok (.iconst 0, 1) := by decide +kernel
theorem xd_Z_lessPlain_21 : decode xb_Z_lessPlain 21 = .ok (.ireturn, 1) := by decide +kernel
theorem xd_Z_branch_0 : decode xb_Z_branch 0 = .ok (.iload_n 2, 1) := by decide +kernel
theorem xd_Z_branch_1 : decode xb_Z_branch 1 = .ok (.iconst 2, 1) := by decide +kernel
theorem xd_Z_branch_2 : decode xb_Z_branch 2 = .ok (.if_icmp .eq 8, 3) := by decide +kernel
theorem xd_Z_branch_5 : decode xb_Z_branch 5 = .ok (.iload_n 2, 1) := by decide +kernel
theorem xd_Z_branch_6 : decode xb_Z_branch 6 = .ok (.iconst 3, 1) := by decide +kernel
theorem xd_Z_branch_7 : decode xb_Z_branch 7 = .ok (.if_icmp .ne 9, 3) := by decide +kernel
theorem xd_Z_branch_10 : decode xb_Z_branch 10 = .ok (.aload_n 0, 1) := by decide +kernel
theorem xd_Z_branch_11 : decode xb_Z_branch 11 = .ok (.iload_n 1, 1) := by decide +kernel
theorem xd_Z_branch_12 : decode xb_Z_branch 12 = .ok (.invokevirtual 195, 3) := by decide +kernel
theorem xd_Z_branch_15 : decode xb_Z_branch 15 = .ok (.ireturn, 1) := by decide +kernel
theorem xd_Z_branch_16 : decode xb_Z_branch 16 = .ok (.iload_n 2, 1) := by decide +kernel
theorem xd_Z_branch_17 : decode xb_Z_branch 17 = .ok (.ifCond .ne 17, 3) := by decide +kernel
theorem xd_Z_branch_20 : decode xb_Z_branch 20 = .ok (.iload_n 3, 1) := by decide +kernel
theorem xd_Z_branch_21 : decode xb_Z_branch 21 = .ok (.iload 4, 2) := by decide +kernel
theorem xd_Z_branch_23 : decode xb_Z_branch 23 = .ok (.if_icmp .ne 7, 3) := by decide +kernel
theorem xd_Z_branch_26 : decode xb_Z_branch 26 = .ok (.iconst 1, 1) := by decide +kernel
theorem xd_Z_branch_27 : decode xb_Z_branch 27 = .ok (.goto 93, 3) := by decide +kernel
theorem xd_Z_branch_30 : decode xb_Z_branch 30 = .ok (.iconst 0, 1) := by decide +kernel
theorem xd_Z_branch_31 : decode xb_Z_branch 31 = .ok (.goto 89, 3) := by decide +kernel
theorem xd_Z_branch_34 : decode xb_Z_branch 34 = .ok (.iload_n 2, 1) := by decide +kernel
theorem xd_Z_branch_35 : decode xb_Z_branch 35 = .ok (.iconst 1, 1) := by decide +kernel
theorem xd_Z_branch_36 : decode xb_Z_branch 36 = .ok (.if_icmp .ne 17, 3) := by decide +kernel
theorem xd_Z_branch_39 : decode xb_Z_branch 39 = .ok (.iload_n 3, 1) := by decide +kernel
theorem xd_Z_branch_40 : decode xb_Z_branch 40 = .ok (.iload 4, 2) := by decide +kernel
theorem xd_Z_branch_42 : decode xb_Z_branch 42 = .ok (.if_icmp .eq 7, 3) := by decide +kernel
theorem xd_Z_branch_45 : decode xb_Z_branch 45 = .ok (.iconst 1, 1) := by decide +kernel
theorem xd_Z_branch_46 : decode xb_Z_branch 46 = .ok (.goto 74, 3) := by decide +kernel
theorem xd_Z_branch_49 : decode xb_Z_branch 49 = .ok (.iconst 0, 1) := by decide +kernel
theorem xd_Z_branch_50 : decode xb_Z_branch 50 = .ok (.goto 70, 3) := by decide +kernel
theorem xd_Z_branch_53 : decode xb_Z_branch 53 = .ok (.iload_n 2, 1) := by decide +kernel
theorem xd_Z_branch_54 : decode xb_Z_branch 54 = .ok (.iconst 4, 1) := by decide +kernel
theorem xd_Z_branch_55 : decode xb_Z_branch 55 = .ok (.if_icmp .ne 17, 3) := by decide +kernel
theorem xd_Z_branch_58 : decode xb_Z_branch 58 = .ok (.iload_n 3, 1) := by decide +kernel
theorem xd_Z_branch_59 : decode xb_Z_branch 59 = .ok (.iload 4, 2) := by decide +kernel
theorem xd_Z_branch_61 : decode xb_Z_branch 61 = .ok (.if_icmp .ge 7, 3) := by decide +kernel
theorem xd_Z_branch_64 : decode xb_Z_branch 64 = .ok (.iconst 1, 1) := by decide +kernel
theorem xd_Z_branch_65 : decode xb_Z_branch 65 = .ok (.goto 55, 3) := by decide +kernel
theorem xd_Z_branch_68 : decode xb_Z_branch 68 = .ok (.iconst 0, 1) := by decide +kernel
theorem xd_Z_branch_69 : decode xb_Z_branch 69 = .ok (.goto 51, 3) := by decide +kernel
