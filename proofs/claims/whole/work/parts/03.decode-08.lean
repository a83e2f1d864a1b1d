theorem xd_R_multiply_30 : decode xb_R_multiply 30 = .ok (.imul, 1) := by decide +kernel
theorem xd_R_multiply_31 : decode xb_R_multiply 31 = .ok (.ireturn, 1) := by decide +kernel
theorem xd_R_multiply_32 : decode xb_R_multiply 32 = .ok (.iload_n 1, 1) := by decide +kernel
theorem xd_R_multiply_33 : decode xb_R_multiply 33 = .ok (.i2l, 1) := by decide +kernel
theorem xd_R_multiply_34 : decode xb_R_multiply 34 = .ok (.iload_n 2, 1) := by decide +kernel
theorem xd_R_multiply_35 : decode xb_R_multiply 35 = .ok (.i2l, 1) := by decide +kernel
theorem xd_R_multiply_36 : decode xb_R_multiply 36 = .ok (.lmul, 1) := by decide +kernel
theorem xd_R_multiply_37 : decode xb_R_multiply 37 = .ok (.bipush 32, 2) := by decide +kernel
theorem xd_R_multiply_39 : decode xb_R_multiply 39 = .ok (.lshr, 1) := by decide +kernel
theorem xd_R_multiply_40 : decode xb_R_multiply 40 = .ok (.l2i, 1) := by decide +kernel
theorem xd_R_multiply_41 : decode xb_R_multiply 41 = .ok (.ireturn, 1) := by decide +kernel
theorem xd_R_multiply_42 : decode xb_R_multiply 42 = .ok (.iload_n 1, 1) := by decide +kernel
theorem xd_R_multiply_43 : decode xb_R_multiply 43 = .ok (.i2l, 1) := by decide +kernel
theorem xd_R_multiply_44 : decode xb_R_multiply 44 = .ok (.iload_n 2, 1) := by decide +kernel
theorem xd_R_multiply_45 : decode xb_R_multiply 45 = .ok (.i2l, 1) := by decide +kernel
theorem xd_R_multiply_46 : decode xb_R_multiply 46 = .ok (.ldc2_w 9, 3) := by decide +kernel
theorem xd_R_multiply_49 : decode xb_R_multiply 49 = .ok (.land, 1) := by decide +kernel
theorem xd_R_multiply_50 : decode xb_R_multiply 50 = .ok (.lmul, 1) := by decide +kernel
theorem xd_R_multiply_51 : decode xb_R_multiply 51 = .ok (.bipush 32, 2) := by decide +kernel
theorem xd_R_multiply_53 : decode xb_R_multiply 53 = .ok (.lshr, 1) := by decide +kernel
theorem xd_R_multiply_54 : decode xb_R_multiply 54 = .ok (.l2i, 1) := by decide +kernel
theorem xd_R_multiply_55 : decode xb_R_multiply 55 = .ok (.ireturn, 1) := by decide +kernel
theorem xd_R_multiply_56 : decode xb_R_multiply 56 = .ok (.iload_n 1, 1) := by decide +kernel
theorem xd_R_multiply_57 : decode xb_R_multiply 57 = .ok (.i2l, 1) := by decide +kernel
theorem xd_R_multiply_58 : decode xb_R_multiply 58 = .ok (.ldc2_w 9, 3) := by decide +kernel
theorem xd_R_multiply_61 : decode xb_R_multiply 61 = .ok (.land, 1) := by decide +kernel
theorem xd_R_multiply_62 : decode xb_R_multiply 62 = .ok (.iload_n 2, 1) := by decide +kernel
theorem xd_R_multiply_63 : decode xb_R_multiply 63 = .ok (.i2l, 1) := by decide +kernel
theorem xd_R_multiply_64 : decode xb_R_multiply 64 = .ok (.ldc2_w 9, 3) := by decide +kernel
theorem xd_R_multiply_67 : decode xb_R_multiply 67 = .ok (.land, 1) := by decide +kernel
theorem xd_R_multiply_68 : decode xb_R_multiply 68 = .ok (.lmul, 1) := by decide +kernel
theorem xd_R_multiply_69 : decode xb_R_multiply 69 = .ok (.bipush 32, 2) := by decide +kernel
theorem xd_R_multiply_71 : decode xb_R_multiply 71 = .ok (.lushr, 1) := by decide +kernel
theorem xd_R_multiply_72 : decode xb_R_multiply 72 = .ok (.l2i, 1) := by decide +kernel
theorem xd_R_multiply_73 : decode xb_R_multiply 73 = .ok (.ireturn, 1) := by decide +kernel
theorem xd_R_divide_0 : decode xb_R_divide 0 = .ok (.iload_n 0, 1) := by decide +kernel
theorem xd_R_divide_1 : decode xb_R_divide 1 = .ok (.bipush 6, 2) := by decide +kernel
theorem xd_R_divide_3 : decode xb_R_divide 3 = .ok (.if_icmp .lt 7, 3) := by decide +kernel
theorem xd_R_divide_6 : decode xb_R_divide 6 = .ok (.iconst 1, 1) := by decide +kernel
theorem xd_R_divide_7 : decode xb_R_divide 7 = .ok (.goto 4, 3) := by decide +kernel
theorem xd_R_divide_10 : decode xb_R_divide 10 = .ok (.iconst 0, 1) := by decide +kernel
theorem xd_R_divide_11 : decode xb_R_divide 11 = .ok (.istore_n 3, 1) := by decide +kernel
theorem xd_R_divide_12 : decode xb_R_divide 12 = .ok (.iload_n 2, 1) := by decide +kernel
theorem xd_R_divide_13 : decode xb_R_divide 13 = .ok (.ifCond .ne 13, 3) := by decide +kernel
theorem xd_R_divide_16 : decode xb_R_divide 16 = .ok (.iload_n 3, 1) := by decide +kernel
theorem xd_R_divide_17 : decode xb_R_divide 17 = .ok (.ifCond .eq 7, 3) := by decide +kernel
theorem xd_R_divide_20 : decode xb_R_divide 20 = .ok (.iload_n 1, 1) := by decide +kernel
theorem xd_R_divide_21 : decode xb_R_divide 21 = .ok (.goto 4, 3) := by decide +kernel
theorem xd_R_divide_24 : decode xb_R_divide 24 = .ok (.iconst (-1), 1) := by decide +kernel
theorem xd_R_divide_25 : decode xb_R_divide 25 = .ok (.ireturn, 1) := by decide +kernel
theorem xd_R_divide_26 : decode xb_R_divide 26 = .ok (.iload_n 0, 1) := by decide +kernel
theorem xd_R_divide_27 : decode xb_R_divide 27 = .ok (.iconst 1, 1) := by decide +kernel
theorem xd_R_divide_28 : decode xb_R_divide 28 = .ok (.iand, 1) := by decide +kernel
theorem xd_R_divide_29 : decode xb_R_divide 29 = .ok (.ifCond .eq 7, 3) := by decide +kernel
theorem xd_R_divide_32 : decode xb_R_divide 32 = .ok (.iconst 1, 1) := by decide +kernel
theorem xd_R_divide_33 : decode xb_R_divide 33 = .ok (.goto 4, 3) := by decide +kernel
theorem xd_R_divide_36 : decode xb_R_divide 36 = .ok (.iconst 0, 1) := by decide +kernel
theorem xd_R_divide_37 : decode xb_R_divide 37 = .ok (.istore 4, 2) := by decide +kernel
theorem xd_R_divide_39 : decode xb_R_divide 39 = .ok (.iload 4, 2) := by decide +kernel
theorem xd_R_divide_41 : decode xb_R_divide 41 = .ok (.ifCond .eq 12, 3) := by decide +kernel
theorem xd_R_divide_44 : decode xb_R_divide 44 = .ok (.iload_n 1, 1) := by decide +kernel
theorem xd_R_divide_45 : decode xb_R_divide 45 = .ok (.i2l, 1) := by decide +kernel
theorem xd_R_divide_46 : decode xb_R_divide 46 = .ok (.ldc2_w 9, 3) := by decide +kernel
theorem xd_R_divide_49 : decode xb_R_divide 49 = .ok (.land, 1) := by decide +kernel
theorem xd_R_divide_50 : decode xb_R_divide 50 = .ok (.goto 5, 3) := by decide +kernel
theorem xd_R_divide_53 : decode xb_R_divide 53 = .ok (.iload_n 1, 1) := by decide +kernel
theorem xd_R_divide_54 : decode xb_R_divide 54 = .ok (.i2l, 1) := by decide +kernel
theorem xd_R_divide_55 : decode xb_R_divide 55 = .ok (.lstore 5, 2) := by decide +kernel
theorem xd_R_divide_57 : decode xb_R_divide 57 = .ok (.iload 4, 2) := by decide +kernel
theorem xd_R_divide_59 : decode xb_R_divide 59 = .ok (.ifCond .eq 12, 3) := by decide +kernel
theorem xd_R_divide_62 : decode xb_R_divide 62 = .ok (.iload_n 2, 1) := by decide +kernel
theorem xd_R_divide_63 : decode xb_R_divide 63 = .ok (.i2l, 1) := by decide +kernel
theorem xd_R_divide_64 : decode xb_R_divide 64 = .ok (.ldc2_w 9, 3) := by decide +kernel
theorem xd_R_divide_67 : decode xb_R_divide 67 = .ok (.land, 1) := by decide +kernel
theorem xd_R_divide_68 : decode xb_R_divide 68 = .ok (.goto 5, 3) := by decide +kernel
theorem xd_R_divide_71 : decode xb_R_divide 71 = .ok (.iload_n 2, 1) := by decide +kernel
theorem xd_R_divide_72 : decode xb_R_divide 72 = .ok (.i2l, 1) := by decide +kernel
theorem xd_R_divide_73 : decode xb_R_divide 73 = .ok (.lstore 7, 2) := by decide +kernel
theorem xd_R_divide_75 : decode xb_R_divide 75 = .ok (.iload_n 3, 1) := by decide +kernel
theorem xd_R_divide_76 : decode xb_R_divide 76 = .ok (.ifCond .eq 11, 3) := by decide +kernel
theorem xd_R_divide_79 : decode xb_R_divide 79 = .ok (.lload 5, 2) := by decide +kernel
theorem xd_R_divide_81 : decode xb_R_divide 81 = .ok (.lload 7, 2) := by decide +kernel
theorem xd_R_divide_83 : decode xb_R_divide 83 = .ok (.lrem, 1) := by decide +kernel
theorem xd_R_divide_84 : decode xb_R_divide 84 = .ok (.goto 8, 3) := by decide +kernel
theorem xd_R_divide_87 : decode xb_R_divide 87 = .ok (.lload 5, 2) := by decide +kernel
theorem xd_R_divide_89 : decode xb_R_divide 89 = .ok (.lload 7, 2) := by decide +kernel
theorem xd_R_divide_91 : decode xb_R_divide 91 = .ok (.ldiv, 1) := by decide +kernel
theorem xd_R_divide_92 : decode xb_R_divide 92 = .ok (.l2i, 1) := by decide +kernel
theorem xd_R_divide_93 : decode xb_R_divide 93 = .ok (.ireturn, 1) := by decide +kernel
theorem xd_R_isComparison_0 : decode xb_R_isComparison 0 = .ok (.iload_n 0, 1) := by decide +kernel
theorem xd_R_isComparison_1 : decode xb_R_isComparison 1 = .ok (.iconst 2, 1) := by decide +kernel
theorem xd_R_isComparison_2 : decode xb_R_isComparison 2 = .ok (.if_icmp .eq 12, 3) := by decide +kernel
theorem xd_R_isComparison_5 : decode xb_R_isComparison 5 = .ok (.iload_n 0, 1) := by decide +kernel
theorem xd_R_isComparison_6 : decode xb_R_isComparison 6 = .ok (.iconst 3, 1) := by decide +kernel
theorem xd_R_isComparison_7 : decode xb_R_isComparison 7 = .ok (.if_icmp .eq 7, 3) := by decide +kernel
theorem xd_R_isComparison_10 : decode xb_R_isComparison 10 = .ok (.iconst 1, 1) := by decide +kernel
theorem xd_R_isComparison_11 : decode xb_R_isComparison 11 = .ok (.goto 4, 3) := by decide +kernel
theorem xd_R_isComparison_14 : decode xb_R_isComparison 14 = .ok (.iconst 0, 1) := by decide +kernel
theorem xd_R_isComparison_15 : decode xb_R_isComparison 15 = .ok (.ireturn, 1) := by decide +kernel
theorem xd_R_holds_0 : decode xb_R_holds 0 = .ok (.iload_n 0, 1) := by decide +kernel
theorem xd_R_holds_1 : decode xb_R_holds 1 = .ok (.iconst 1, 1) := by decide +kernel
theorem xd_R_holds_2 : decode xb_R_holds 2 = .ok (.iand, 1) := by decide +kernel
theorem xd_R_holds_3 : decode xb_R_holds 3 = .ok (.ifCond .eq 7, 3) := by decide +kernel
theorem xd_R_holds_6 : decode xb_R_holds 6 = .ok (.iconst 1, 1) := by decide +kernel
theorem xd_R_holds_7 : decode xb_R_holds 7 = .ok (.goto 4, 3) := by decide +kernel
theorem xd_R_holds_10 : decode xb_R_holds 10 = .ok (.iconst 0, 1) := by decide +kernel
theorem xd_R_holds_11 : decode xb_R_holds 11 = .ok (.istore_n 3, 1) := by decide +kernel
theorem xd_R_holds_12 : decode xb_R_holds 12 = .ok (.iload_n 0, 1) := by decide +kernel
theorem xd_R_holds_13 : decode xb_R_holds 13 = .ok (.iconst 4, 1) := by decide +kernel
theorem xd_R_holds_14 : decode xb_R_holds 14 = .ok (.if_icmp .ge 23, 3) := by decide +kernel
theorem xd_R_holds_17 : decode xb_R_holds 17 = .ok (.iload_n 1, 1) := by decide +kernel
theorem xd_R_holds_18 : decode xb_R_holds 18 = .ok (.iload_n 2, 1) := by decide +kernel
theorem xd_R_holds_19 : decode xb_R_holds 19 = .ok (.if_icmp .ne 7, 3) := by decide +kernel
theorem xd_R_holds_22 : decode xb_R_holds 22 = .ok (.iconst 1, 1) := by decide +kernel
theorem xd_R_holds_23 : decode xb_R_holds 23 = .ok (.goto 4, 3) := by decide +kernel
theorem xd_R_holds_26 : decode xb_R_holds 26 = .ok (.iconst 0, 1) := by decide +kernel
theorem xd_R_holds_27 : decode xb_R_holds 27 = .ok (.iload_n 3, 1) := by decide +kernel
theorem xd_R_holds_28 : decode xb_R_holds 28 = .ok (.if_icmp .eq 7, 3) := by decide +kernel
theorem xd_R_holds_31 : decode xb_R_holds 31 = .ok (.iconst 1, 1) := by decide +kernel
theorem xd_R_holds_32 : decode xb_R_holds 32 = .ok (.goto 4, 3) := by decide +kernel
theorem xd_R_holds_35 : decode xb_R_holds 35 = .ok (.iconst 0, 1) := by decide +kernel
theorem xd_R_holds_36 : decode xb_R_holds 36 = .ok (.ireturn, 1) := by decide +kernel
theorem xd_R_holds_37 : decode xb_R_holds 37 = .ok (.iload_n 0, 1) := by decide +kernel
theorem xd_R_holds_38 : decode xb_R_holds 38 = .ok (.bipush 6, 2) := by decide +kernel
theorem xd_R_holds_40 : decode xb_R_holds 40 = .ok (.if_icmp .ge 16, 3) := by decide +kernel
theorem xd_R_holds_43 : decode xb_R_holds 43 = .ok (.iload_n 1, 1) := by decide +kernel
theorem xd_R_holds_44 : decode xb_R_holds 44 = .ok (.iload_n 2, 1) := by decide +kernel
theorem xd_R_holds_45 : decode xb_R_holds 45 = .ok (.if_icmp .ge 7, 3) := by decide +kernel
theorem xd_R_holds_48 : decode xb_R_holds 48 = .ok (.iconst 1, 1) := by decide +kernel
theorem xd_R_holds_49 : decode xb_R_holds 49 = .ok (.goto 12, 3) := by decide +kernel
theorem xd_R_holds_52 : decode xb_R_holds 52 = .ok (.iconst 0, 1) := by decide +kernel
theorem xd_R_holds_53 : decode xb_R_holds 53 = .ok (.goto 8, 3) := by decide +kernel
theorem xd_R_holds_56 : decode xb_R_holds 56 = .ok (.iload_n 1, 1) := by decide +kernel
theorem xd_R_holds_57 : decode xb_R_holds 57 = .ok (.iload_n 2, 1) := by decide +kernel
theorem xd_R_holds_58 : decode xb_R_holds 58 = .ok (.invokestatic 11, 3) := by decide +kernel
theorem xd_R_holds_61 : decode xb_R_holds 61 = .ok (.iload_n 3, 1) := by decide +kernel
theorem xd_R_holds_62 : decode xb_R_holds 62 = .ok (.if_icmp .eq 7, 3) := by decide +kernel
theorem xd_R_holds_65 : decode xb_R_holds 65 = .ok (.iconst 1, 1) := by decide +kernel
theorem xd_R_holds_66 : decode xb_R_holds 66 = .ok (.goto 4, 3) := by decide +kernel
theorem xd_R_holds_69 : decode xb_R_holds 69 = .ok (.iconst 0, 1) := by decide +kernel
theorem xd_R_holds_70 : decode xb_R_holds 70 = .ok (.ireturn, 1) := by decide +kernel
theorem xd_B_init_0 : decode xb_B_init 0 = .ok (.aload_n 0, 1) := by decide +kernel
theorem xd_B_init_1 : decode xb_B_init 1 = .ok (.invokespecial 3, 3) := by decide +kernel
theorem xd_B_init_4 : decode xb_B_init 4 = .ok (.return_, 1) := by decide +kernel
theorem xd_B_clear_0 : decode xb_B_clear 0 = .ok (.aload_n 0, 1) := by decide +kernel
theorem xd_B_clear_1 : decode xb_B_clear 1 = .ok (.iconst 0, 1) := by decide +kernel
theorem xd_B_clear_2 : decode xb_B_clear 2 = .ok (.putfield 9, 3) := by decide +kernel
theorem xd_B_clear_5 : decode xb_B_clear 5 = .ok (.aload_n 0, 1) := by decide +kernel
theorem xd_B_clear_6 : decode xb_B_clear 6 = .ok (.iconst 0, 1) := by decide +kernel
theorem xd_B_clear_7 : decode xb_B_clear 7 = .ok (.putfield 15, 3) := by decide +kernel
theorem xd_B_clear_10 : decode xb_B_clear 10 = .ok (.aload_n 0, 1) := by decide +kernel
theorem xd_B_clear_11 : decode xb_B_clear 11 = .ok (.iconst 0, 1) := by decide +kernel
theorem xd_B_clear_12 : decode xb_B_clear 12 = .ok (.putfield 18, 3) := by decide +kernel
theorem xd_B_clear_15 : decode xb_B_clear 15 = .ok (.aload_n 0, 1) := by decide +kernel
theorem xd_B_clear_16 : decode xb_B_clear 16 = .ok (.iconst 0, 1) := by decide +kernel
theorem xd_B_clear_17 : decode xb_B_clear 17 = .ok (.putfield 21, 3) := by decide +kernel
theorem xd_B_clear_20 : decode xb_B_clear 20 = .ok (.aload_n 0, 1) := by decide +kernel
theorem xd_B_clear_21 : decode xb_B_clear 21 = .ok (.iconst 0, 1) := by decide +kernel
theorem xd_B_clear_22 : decode xb_B_clear 22 = .ok (.putfield 24, 3) := by decide +kernel
theorem xd_B_clear_25 : decode xb_B_clear 25 = .ok (.aload_n 0, 1) := by decide +kernel
theorem xd_B_clear_26 : decode xb_B_clear 26 = .ok (.iconst 0, 1) := by decide +kernel
theorem xd_B_clear_27 : decode xb_B_clear 27 = .ok (.putfield 27, 3) := by decide +kernel
theorem xd_B_clear_30 : decode xb_B_clear 30 = .ok (.aload_n 0, 1) := by decide +kernel
theorem xd_B_clear_31 : decode xb_B_clear 31 = .ok (.iconst 0, 1) := by decide +kernel
theorem xd_B_clear_32 : decode xb_B_clear 32 = .ok (.putfield 30, 3) := by decide +kernel
theorem xd_B_clear_35 : decode xb_B_clear 35 = .ok (.aload_n 0, 1) := by decide +kernel
theorem xd_B_clear_36 : decode xb_B_clear 36 = .ok (.iconst 0, 1) := by decide +kernel
theorem xd_B_clear_37 : decode xb_B_clear 37 = .ok (.putfield 33, 3) := by decide +kernel
theorem xd_B_clear_40 : decode xb_B_clear 40 = .ok (.aload_n 0, 1) := by decide +kernel
theorem xd_B_clear_41 : decode xb_B_clear 41 = .ok (.iconst 0, 1) := by decide +kernel
theorem xd_B_clear_42 : decode xb_B_clear 42 = .ok (.putfield 36, 3) := by decide +kernel
theorem xd_B_clear_45 : decode xb_B_clear 45 = .ok (.return_, 1) := by decide +kernel
theorem xd_B_tell_0 : decode xb_B_tell 0 = .ok (.iload_n 1, 1) := by decide +kernel
theorem xd_B_tell_1 : decode xb_B_tell 1 = .ok (.lookupswitch 128 #[(256, 83), (260, 88), (261, 93), (320, 98), (321, 103), (322, 108), (323, 113), (324, 118), (384, 123)], 83) := by decide +kernel
theorem xd_B_tell_84 : decode xb_B_tell 84 = .ok (.aload_n 0, 1) := by decide +kernel
theorem xd_B_tell_85 : decode xb_B_tell 85 = .ok (.getfield 9, 3) := by decide +kernel
theorem xd_B_tell_88 : decode xb_B_tell 88 = .ok (.ireturn, 1) := by decide +kernel
theorem xd_B_tell_89 : decode xb_B_tell 89 = .ok (.aload_n 0, 1) := by decide +kernel
theorem xd_B_tell_90 : decode xb_B_tell 90 = .ok (.getfield 15, 3) := by decide +kernel
theorem xd_B_tell_93 : decode xb_B_tell 93 = .ok (.ireturn, 1) := by decide +kernel
theorem xd_B_tell_94 : decode xb_B_tell 94 = .ok (.aload_n 0, 1) := by decide +kernel
theorem xd_B_tell_95 : decode xb_B_tell 95 = .ok (.getfield 18, 3) := by decide +kernel
theorem xd_B_tell_98 : decode xb_B_tell 98 = .ok (.ireturn, 1) := by decide +kernel
theorem xd_B_tell_99 : decode xb_B_tell 99 = .ok (.aload_n 0, 1) := by decide +kernel
theorem xd_B_tell_100 : decode xb_B_tell 100 = .ok (.getfield 21, 3) := by decide +kernel
theorem xd_B_tell_103 : decode xb_B_tell 103 = .ok (.ireturn, 1) := by decide +kernel
theorem xd_B_tell_104 : decode xb_B_tell 104 = .ok (.aload_n 0, 1) := by decide +kernel
theorem xd_B_tell_105 : decode xb_B_tell 105 = .ok (.getfield 24, 3) := by decide +kernel
theorem xd_B_tell_108 : decode xb_B_tell 108 = .ok (.ireturn, 1) := by decide +kernel
theorem xd_B_tell_109 : decode xb_B_tell 109 = .ok (.aload_n 0, 1) := by decide +kernel
theorem xd_B_tell_110 : decode xb_B_tell 110 = .ok (.getfield 27, 3) := by decide +kernel
theorem xd_B_tell_113 : decode xb_B_tell 113 = .ok (.ireturn, 1) := by decide +kernel
theorem xd_B_tell_114 : decode xb_B_tell 114 = .ok (.aload_n 0, 1) := by decide +kernel
theorem xd_B_tell_115 : decode xb_B_tell 115 = .ok (.getfield 30, 3) := by decide +kernel
theorem xd_B_tell_118 : decode xb_B_tell 118 = .ok (.ireturn, 1) := by decide +kernel
theorem xd_B_tell_119 : decode xb_B_tell 119 = .ok (.aload_n 0, 1) := by decide +kernel
theorem xd_B_tell_120 : decode xb_B_tell 120 = .ok (.getfield 33, 3) := by decide +kernel
theorem xd_B_tell_123 : decode xb_B_tell 123 = .ok (.ireturn, 1) := by decide +kernel
theorem xd_B_tell_124 : decode xb_B_tell 124 = .ok (.aload_n 0, 1) := by decide +kernel
theorem xd_B_tell_125 : decode xb_B_tell 125 = .ok (.getfield 36, 3) := by decide +kernel
theorem xd_B_tell_128 : decode xb_B_tell 128 = .ok (.ireturn, 1) := by decide +kernel
theorem xd_B_tell_129 : decode xb_B_tell 129 = .ok (.iconst 0, 1) := by decide +kernel
theorem xd_B_tell_130 : decode xb_B_tell 130 = .ok (.ireturn, 1) := by decide +kernel
theorem xd_B_write_0 : decode xb_B_write 0 = .ok (.iload_n 1, 1) := by decide +kernel
theorem xd_B_write_1 : decode xb_B_write 1 = .ok (.lookupswitch 173 #[(256, 83), (260, 94), (261, 106), (320, 117), (321, 125), (322, 136), (323, 144), (324, 152), (384, 162)], 83) := by decide +kernel
theorem xd_B_write_84 : decode xb_B_write 84 = .ok (.aload_n 0, 1) := by decide +kernel
theorem xd_B_write_85 : decode xb_B_write 85 = .ok (.iload_n 2, 1) := by decide +kernel
theorem xd_B_write_86 : decode xb_B_write 86 = .ok (.ldc 39, 2) := by decide +kernel
theorem xd_B_write_88 : decode xb_B_write 88 = .ok (.iand, 1) := by decide +kernel
theorem xd_B_write_89 : decode xb_B_write 89 = .ok (.putfield 9, 3) := by decide +kernel
theorem xd_B_write_92 : decode xb_B_write 92 = .ok (.goto 82, 3) := by decide +kernel
theorem xd_B_write_95 : decode xb_B_write 95 = .ok (.aload_n 0, 1) := by decide +kernel
theorem xd_B_write_96 : decode xb_B_write 96 = .ok (.iload_n 2, 1) := by decide +kernel
theorem xd_B_write_97 : decode xb_B_write 97 = .ok (.sipush 546, 3) := by decide +kernel
theorem xd_B_write_100 : decode xb_B_write 100 = .ok (.iand, 1) := by decide +kernel
theorem xd_B_write_101 : decode xb_B_write 101 = .ok (.putfield 15, 3) := by decide +kernel
theorem xd_B_write_104 : decode xb_B_write 104 = .ok (.goto 70, 3) := by decide +kernel
theorem xd_B_write_107 : decode xb_B_write 107 = .ok (.aload_n 0, 1) := by decide +kernel
theorem xd_B_write_108 : decode xb_B_write 108 = .ok (.iload_n 2, 1) := by decide +kernel
theorem xd_B_write_109 : decode xb_B_write 109 = .ok (.bipush (-3), 2) := by decide +kernel
theorem xd_B_write_111 : decode xb_B_write 111 = .ok (.iand, 1) := by decide +kernel
theorem xd_B_write_112 : decode xb_B_write 112 = .ok (.putfield 18, 3) := by decide +kernel
theorem xd_B_write_115 : decode xb_B_write 115 = .ok (.goto 59, 3) := by decide +kernel
theorem xd_B_write_118 : decode xb_B_write 118 = .ok (.aload_n 0, 1) := by decide +kernel
theorem xd_B_write_119 : decode xb_B_write 119 = .ok (.iload_n 2, 1) := by decide +kernel
theorem xd_B_write_120 : decode xb_B_write 120 = .ok (.putfield 21, 3) := by decide +kernel
theorem xd_B_write_123 : decode xb_B_write 123 = .ok (.goto 51, 3) := by decide +kernel
theorem xd_B_write_126 : decode xb_B_write 126 = .ok (.aload_n 0, 1) := by decide +kernel
theorem xd_B_write_127 : decode xb_B_write 127 = .ok (.iload_n 2, 1) := by decide +kernel
theorem xd_B_write_128 : decode xb_B_write 128 = .ok (.bipush (-4), 2) := by decide +kernel
theorem xd_B_write_130 : decode xb_B_write 130 = .ok (.iand, 1) := by decide +kernel
theorem xd_B_write_131 : decode xb_B_write 131 = .ok (.putfield 24, 3) := by decide +kernel
theorem xd_B_write_134 : decode xb_B_write 134 = .ok (.goto 40, 3) := by decide +kernel
theorem xd_B_write_137 : decode xb_B_write 137 = .ok (.aload_n 0, 1) := by decide +kernel
theorem xd_B_write_138 : decode xb_B_write 138 = .ok (.iload_n 2, 1) := by decide +kernel
theorem xd_B_write_139 : decode xb_B_write 139 = .ok (.putfield 27, 3) := by decide +kernel
theorem xd_B_write_142 : decode xb_B_write 142 = .ok (.goto 32, 3) := by decide +kernel
theorem xd_B_write_145 : decode xb_B_write 145 = .ok (.aload_n 0, 1) := by decide +kernel
theorem xd_B_write_146 : decode xb_B_write 146 = .ok (.iload_n 2, 1) := by decide +kernel
theorem xd_B_write_147 : decode xb_B_write 147 = .ok (.putfield 30, 3) := by decide +kernel
theorem xd_B_write_150 : decode xb_B_write 150 = .ok (.goto 24, 3) := by decide +kernel
theorem xd_B_write_153 : decode xb_B_write 153 = .ok (.aload_n 0, 1) := by decide +kernel
theorem xd_B_write_154 : decode xb_B_write 154 = .ok (.iload_n 2, 1) := by decide +kernel
theorem xd_B_write_155 : decode xb_B_write 155 = .ok (.iconst 2, 1) := by decide +kernel
theorem xd_B_write_156 : decode xb_B_write 156 = .ok (.iand, 1) := by decide +kernel
theorem xd_B_write_157 : decode xb_B_write 157 = .ok (.putfield 33, 3) := by decide +kernel
theorem xd_B_write_160 : decode xb_B_write 160 = .ok (.goto 14, 3) := by decide +kernel
theorem xd_B_write_163 : decode xb_B_write 163 = .ok (.aload_n 0, 1) := by decide +kernel
theorem xd_B_write_164 : decode xb_B_write 164 = .ok (.iload_n 2, 1) := by decide +kernel
theorem xd_B_write_165 : decode xb_B_write 165 = .ok (.ldc 40, 2) := by decide +kernel
theorem xd_B_write_167 : decode xb_B_write 167 = .ok (.iand, 1) := by decide +kernel
theorem xd_B_write_168 : decode xb_B_write 168 = .ok (.putfield 36, 3) := by decide +kernel
theorem xd_B_write_171 : decode xb_B_write 171 = .ok (.goto 3, 3) := by decide +kernel
theorem xd_B_write_174 : decode xb_B_write 174 = .ok (.return_, 1) := by decide +kernel
theorem xd_B_enter_0 : decode xb_B_enter 0 = .ok (.aload_n 0, 1) := by decide +kernel
theorem xd_B_enter_1 : decode xb_B_enter 1 = .ok (.iload_n 1, 1) := by decide +kernel
theorem xd_B_enter_2 : decode xb_B_enter 2 = .ok (.putfield 24, 3) := by decide +kernel
theorem xd_B_enter_5 : decode xb_B_enter 5 = .ok (.aload_n 0, 1) := by decide +kernel
theorem xd_B_enter_6 : decode xb_B_enter 6 = .ok (.iload_n 2, 1) := by decide +kernel
theorem xd_B_enter_7 : decode xb_B_enter 7 = .ok (.putfield 27, 3) := by decide +kernel
theorem xd_B_enter_10 : decode xb_B_enter 10 = .ok (.aload_n 0, 1) := by decide +kernel
theorem xd_B_enter_11 : decode xb_B_enter 11 = .ok (.iload_n 3, 1) := by decide +kernel
theorem xd_B_enter_12 : decode xb_B_enter 12 = .ok (.putfield 30, 3) := by decide +kernel
theorem xd_B_enter_15 : decode xb_B_enter 15 = .ok (.aload_n 0, 1) := by decide +kernel
theorem xd_B_enter_16 : decode xb_B_enter 16 = .ok (.getfield 9, 3) := by decide +kernel
theorem xd_B_enter_19 : decode xb_B_enter 19 = .ok (.iconst 2, 1) := by decide +kernel
theorem xd_B_enter_20 : decode xb_B_enter 20 = .ok (.iand, 1) := by decide +kernel
theorem xd_B_enter_21 : decode xb_B_enter 21 = .ok (.ifCond .eq 8, 3) := by decide +kernel
theorem xd_B_enter_24 : decode xb_B_enter 24 = .ok (.bipush 32, 2) := by decide +kernel
theorem xd_B_enter_26 : decode xb_B_enter 26 = .ok (.goto 4, 3) := by decide +kernel
theorem xd_B_enter_29 : decode xb_B_enter 29 = .ok (.iconst 0, 1) := by decide +kernel
theorem xd_B_enter_30 : decode xb_B_enter 30 = .ok (.istore 5, 2) := by decide +kernel
theorem xd_B_enter_32 : decode xb_B_enter 32 = .ok (.iload 4, 2) := by decide +kernel
theorem xd_B_enter_34 : decode xb_B_enter 34 = .ok (.ifCond .eq 9, 3) := by decide +kernel
theorem xd_B_enter_37 : decode xb_B_enter 37 = .ok (.sipush 256, 3) := by decide +kernel
theorem xd_B_enter_40 : decode xb_B_enter 40 = .ok (.goto 4, 3) := by decide +kernel
theorem xd_B_enter_43 : decode xb_B_enter 43 = .ok (.iconst 0, 1) := by decide +kernel
theorem xd_B_enter_44 : decode xb_B_enter 44 = .ok (.istore 6, 2) := by decide +kernel
theorem xd_B_enter_46 : decode xb_B_enter 46 = .ok (.aload_n 0, 1) := by decide +kernel
theorem xd_B_enter_47 : decode xb_B_enter 47 = .ok (.aload_n 0, 1) := by decide +kernel
theorem xd_B_enter_48 : decode xb_B_enter 48 = .ok (.getfield 9, 3) := by decide +kernel
theorem xd_B_enter_51 : decode xb_B_enter 51 = .ok (.sipush (-291), 3) := by decide +kernel
theorem xd_B_enter_54 : decode xb_B_enter 54 = .ok (.iand, 1) := by decide +kernel
theorem xd_B_enter_55 : decode xb_B_enter 55 = .ok (.iload 5, 2) := by decide +kernel
theorem xd_B_enter_57 : decode xb_B_enter 57 = .ok (.ior, 1) := by decide +kernel
theorem xd_B_enter_58 : decode xb_B_enter 58 = .ok (.iload 6, 2) := by decide +kernel
theorem xd_B_enter_60 : decode xb_B_enter 60 = .ok (.ior, 1) := by decide +kernel
theorem xd_B_enter_61 : decode xb_B_enter 61 = .ok (.putfield 9, 3) := by decide +kernel
theorem xd_B_enter_64 : decode xb_B_enter 64 = .ok (.iload_n 2, 1) := by decide +kernel
theorem xd_B_enter_65 : decode xb_B_enter 65 = .ok (.ifCond .ge 16, 3) := by decide +kernel
theorem xd_B_enter_68 : decode xb_B_enter 68 = .ok (.aload_n 0, 1) := by decide +kernel
theorem xd_B_enter_69 : decode xb_B_enter 69 = .ok (.getfield 18, 3) := by decide +kernel
theorem xd_B_enter_72 : decode xb_B_enter 72 = .ok (.iconst 1, 1) := by decide +kernel
theorem xd_B_enter_73 : decode xb_B_enter 73 = .ok (.iand, 1) := by decide +kernel
theorem xd_B_enter_74 : decode xb_B_enter 74 = .ok (.ifCond .eq 7, 3) := by decide +kernel
theorem xd_B_enter_77 : decode xb_B_enter 77 = .ok (.iconst 1, 1) := by decide +kernel
theorem xd_B_enter_78 : decode xb_B_enter 78 = .ok (.goto 4, 3) := by decide +kernel
theorem xd_B_enter_81 : decode xb_B_enter 81 = .ok (.iconst 0, 1) := by decide +kernel
theorem xd_B_enter_82 : decode xb_B_enter 82 = .ok (.istore 7, 2) := by decide +kernel
theorem xd_B_enter_84 : decode xb_B_enter 84 = .ok (.aload_n 0, 1) := by decide +kernel
theorem xd_B_enter_85 : decode xb_B_enter 85 = .ok (.getfield 18, 3) := by decide +kernel
theorem xd_B_enter_88 : decode xb_B_enter 88 = .ok (.bipush (-4), 2) := by decide +kernel
theorem xd_B_enter_90 : decode xb_B_enter 90 = .ok (.iand, 1) := by decide +kernel
theorem xd_B_enter_91 : decode xb_B_enter 91 = .ok (.iload 7, 2) := by decide +kernel
theorem xd_B_enter_93 : decode xb_B_enter 93 = .ok (.ifCond .eq 12, 3) := by decide +kernel
theorem xd_B_enter_96 : decode xb_B_enter 96 = .ok (.iconst 4, 1) := by decide +kernel
theorem xd_B_enter_97 : decode xb_B_enter 97 = .ok (.iload_n 2, 1) := by decide +kernel
theorem xd_B_enter_98 : decode xb_B_enter 98 = .ok (.ldc 41, 2) := by decide +kernel
theorem xd_B_enter_100 : decode xb_B_enter 100 = .ok (.iand, 1) := by decide +kernel
theorem xd_B_enter_101 : decode xb_B_enter 101 = .ok (.imul, 1) := by decide +kernel
theorem xd_B_enter_102 : decode xb_B_enter 102 = .ok (.goto 4, 3) := by decide +kernel
theorem xd_B_enter_105 : decode xb_B_enter 105 = .ok (.iconst 0, 1) := by decide +kernel
theorem xd_B_enter_106 : decode xb_B_enter 106 = .ok (.iadd, 1) := by decide +kernel
theorem xd_B_enter_107 : decode xb_B_enter 107 = .ok (.ireturn, 1) := by decide +kernel
theorem xd_B_leave_0 : decode xb_B_leave 0 = .ok (.aload_n 0, 1) := by decide +kernel
theorem xd_B_leave_1 : decode xb_B_leave 1 = .ok (.getfield 9, 3) := by decide +kernel
theorem xd_B_leave_4 : decode xb_B_leave 4 = .ok (.sipush 256, 3) := by decide +kernel
theorem xd_B_leave_7 : decode xb_B_leave 7 = .ok (.iand, 1) := by decide +kernel
theorem xd_B_leave_8 : decode xb_B_leave 8 = .ok (.ifCond .eq 7, 3) := by decide +kernel
theorem xd_B_leave_11 : decode xb_B_leave 11 = .ok (.iconst 1, 1) := by decide +kernel
theorem xd_B_leave_12 : decode xb_B_leave 12 = .ok (.goto 4, 3) := by decide +kernel
theorem xd_B_leave_15 : decode xb_B_leave 15 = .ok (.iconst 0, 1) := by decide +kernel
theorem xd_B_leave_16 : decode xb_B_leave 16 = .ok (.istore_n 1, 1) := by decide +kernel
theorem xd_B_leave_17 : decode xb_B_leave 17 = .ok (.aload_n 0, 1) := by decide +kernel
theorem xd_B_leave_18 : decode xb_B_leave 18 = .ok (.getfield 9, 3) := by decide +kernel
theorem xd_B_leave_21 : decode xb_B_leave 21 = .ok (.bipush 32, 2) := by decide +kernel
theorem xd_B_leave_23 : decode xb_B_leave 23 = .ok (.iand, 1) := by decide +kernel
theorem xd_B_leave_24 : decode xb_B_leave 24 = .ok (.ifCond .eq 7, 3) := by decide +kernel
theorem xd_B_leave_27 : decode xb_B_leave 27 = .ok (.iconst 2, 1) := by decide +kernel
theorem xd_B_leave_28 : decode xb_B_leave 28 = .ok (.goto 4, 3) := by decide +kernel
theorem xd_B_leave_31 : decode xb_B_leave 31 = .ok (.iconst 0, 1) := by decide +kernel
theorem xd_B_leave_32 : decode xb_B_leave 32 = .ok (.istore_n 2, 1) := by decide +kernel
theorem xd_B_leave_33 : decode xb_B_leave 33 = .ok (.aload_n 0, 1) := by decide +kernel
theorem xd_B_leave_34 : decode xb_B_leave 34 = .ok (.aload_n 0, 1) := by decide +kernel
theorem xd_B_leave_35 : decode xb_B_leave 35 = .ok (.getfield 9, 3) := by decide +kernel
theorem xd_B_leave_38 : decode xb_B_leave 38 = .ok (.sipush (-259), 3) := by decide +kernel
theorem xd_B_leave_41 : decode xb_B_leave 41 = .ok (.iand, 1) := by decide +kernel
theorem xd_B_leave_42 : decode xb_B_leave 42 = .ok (.iload_n 2, 1) := by decide +kernel
theorem xd_B_leave_43 : decode xb_B_leave 43 = .ok (.ior, 1) := by decide +kernel
theorem xd_B_leave_44 : decode xb_B_leave 44 = .ok (.bipush 32, 2) := by decide +kernel
theorem xd_B_leave_46 : decode xb_B_leave 46 = .ok (.ior, 1) := by decide +kernel
theorem xd_B_leave_47 : decode xb_B_leave 47 = .ok (.putfield 9, 3) := by decide +kernel
theorem xd_B_leave_50 : decode xb_B_leave 50 = .ok (.iload_n 1, 1) := by decide +kernel
theorem xd_B_leave_51 : decode xb_B_leave 51 = .ok (.ireturn, 1) := by decide +kernel
theorem xd_K_init_0 : decode xb_K_init 0 = .ok (.aload_n 0, 1) := by decide +kernel
theorem xd_K_init_1 : decode xb_K_init 1 = .ok (.invokespecial 3, 3) := by decide +kernel
theorem xd_K_init_4 : decode xb_K_init 4 = .ok (.aload_n 0, 1) := by decide +kernel
theorem xd_K_init_5 : decode xb_K_init 5 = .ok (.new 9, 3) := by decide +kernel
theorem xd_K_init_8 : decode xb_K_init 8 = .ok (.dup, 1) := by decide +kernel
theorem xd_K_init_9 : decode xb_K_init 9 = .ok (.invokespecial 11, 3) := by decide +kernel
theorem xd_K_init_12 : decode xb_K_init 12 = .ok (.putfield 12, 3) := by decide +kernel
theorem xd_K_init_15 : decode xb_K_init 15 = .ok (.aload_n 0, 1) := by decide +kernel
theorem xd_K_init_16 : decode xb_K_init 16 = .ok (.new 9, 3) := by decide +kernel
theorem xd_K_init_19 : decode xb_K_init 19 = .ok (.dup, 1) := by decide +kernel
theorem xd_K_init_20 : decode xb_K_init 20 = .ok (.invokespecial 11, 3) := by decide +kernel
theorem xd_K_init_23 : decode xb_K_init 23 = .ok (.putfield 18, 3) := by decide +kernel
theorem xd_K_init_26 : decode xb_K_init 26 = .ok (.return_, 1) := by decide +kernel
theorem xd_K_clear_0 : decode xb_K_clear 0 = .ok (.aload_n 0, 1) := by decide +kernel
theorem xd_K_clear_1 : decode xb_K_clear 1 = .ok (.getfield 12, 3) := by decide +kernel
theorem xd_K_clear_4 : decode xb_K_clear 4 = .ok (.invokevirtual 21, 3) := by decide +kernel
theorem xd_K_clear_7 : decode xb_K_clear 7 = .ok (.aload_n 0, 1) := by decide +kernel
theorem xd_K_clear_8 : decode xb_K_clear 8 = .ok (.getfield 18, 3) := by decide +kernel
theorem xd_K_clear_11 : decode xb_K_clear 11 = .ok (.invokevirtual 21, 3) := by decide +kernel
theorem xd_K_clear_14 : decode xb_K_clear 14 = .ok (.aload_n 0, 1) := by decide +kernel
theorem xd_K_clear_15 : decode xb_K_clear 15 = .ok (.iconst 0, 1) := by decide +kernel
theorem xd_K_clear_16 : decode xb_K_clear 16 = .ok (.putfield 24, 3) := by decide +kernel
theorem xd_K_clear_19 : decode xb_K_clear 19 = .ok (.aload_n 0, 1) := by decide +kernel
theorem xd_K_clear_20 : decode xb_K_clear 20 = .ok (.iconst 0, 1) := by decide +kernel
theorem xd_K_clear_21 : decode xb_K_clear 21 = .ok (.putfield 28, 3) := by decide +kernel
theorem xd_K_clear_24 : decode xb_K_clear 24 = .ok (.aload_n 0, 1) := by decide +kernel
theorem xd_K_clear_25 : decode xb_K_clear 25 = .ok (.iconst 0, 1) := by decide +kernel
theorem xd_K_clear_26 : decode xb_K_clear 26 = .ok (.putfield 31, 3) := by decide +kernel
theorem xd_K_clear_29 : decode xb_K_clear 29 = .ok (.aload_n 0, 1) := by decide +kernel
theorem xd_K_clear_30 : decode xb_K_clear 30 = .ok (.iconst 0, 1) := by decide +kernel
theorem xd_K_clear_31 : decode xb_K_clear 31 = .ok (.putfield 34, 3) := by decide +kernel
theorem xd_K_clear_34 : decode xb_K_clear 34 = .ok (.aload_n 0, 1) := by decide +kernel
theorem xd_K_clear_35 : decode xb_K_clear 35 = .ok (.iconst 0, 1) := by decide +kernel
theorem xd_K_clear_36 : decode xb_K_clear 36 = .ok (.putfield 37, 3) := by decide +kernel
theorem xd_K_clear_39 : decode xb_K_clear 39 = .ok (.aload_n 0, 1) := by decide +kernel
theorem xd_K_clear_40 : decode xb_K_clear 40 = .ok (.iconst 0, 1) := by decide +kernel
theorem xd_K_clear_41 : decode xb_K_clear 41 = .ok (.putfield 40, 3) := by decide +kernel
theorem xd_K_clear_44 : decode xb_K_clear 44 = .ok (.aload_n 0, 1) := by decide +kernel
theorem xd_K_clear_45 : decode xb_K_clear 45 = .ok (.iconst 0, 1) := by decide +kernel
theorem xd_K_clear_46 : decode xb_K_clear 46 = .ok (.putfield 43, 3) := by decide +kernel
theorem xd_K_clear_49 : decode xb_K_clear 49 = .ok (.aload_n 0, 1) := by decide +kernel
theorem xd_K_clear_50 : decode xb_K_clear 50 = .ok (.iconst 0, 1) := by decide +kernel
theorem xd_K_clear_51 : decode xb_K_clear 51 = .ok (.putfield 46, 3) := by decide +kernel
theorem xd_K_clear_54 : decode xb_K_clear 54 = .ok (.aload_n 0, 1) := by decide +kernel
theorem xd_K_clear_55 : decode xb_K_clear 55 = .ok (.lconst 0, 1) := by decide +kernel
theorem xd_K_clear_56 : decode xb_K_clear 56 = .ok (.putfield 49, 3) := by decide +kernel
theorem xd_K_clear_59 : decode xb_K_clear 59 = .ok (.aload_n 0, 1) := by decide +kernel
theorem xd_K_clear_60 : decode xb_K_clear 60 = .ok (.ldc2_w 53, 3) := by decide +kernel
theorem xd_K_clear_63 : decode xb_K_clear 63 = .ok (.putfield 55, 3) := by decide +kernel
theorem xd_K_clear_66 : decode xb_K_clear 66 = .ok (.aload_n 0, 1) := by decide +kernel
theorem xd_K_clear_67 : decode xb_K_clear 67 = .ok (.iconst 0, 1) := by decide +kernel
theorem xd_K_clear_68 : decode xb_K_clear 68 = .ok (.putfield 58, 3) := by decide +kernel
theorem xd_K_clear_71 : decode xb_K_clear 71 = .ok (.return_, 1) := by decide +kernel
theorem xd_K_isOfS_0 : decode xb_K_isOfS 0 = .ok (.iload_n 0, 1) := by decide +kernel
theorem xd_K_isOfS_1 : decode xb_K_isOfS 1 = .ok (.lookupswitch 85 #[(256, 83), (260, 83), (261, 83), (320, 83), (321, 83), (322, 83), (323, 83), (324, 83), (384, 83)], 83) := by decide +kernel
theorem xd_K_isOfS_84 : decode xb_K_isOfS 84 = .ok (.iconst 1, 1) := by decide +kernel
theorem xd_K_isOfS_85 : decode xb_K_isOfS 85 = .ok (.ireturn, 1) := by decide +kernel
theorem xd_K_isOfS_86 : decode xb_K_isOfS 86 = .ok (.iconst 0, 1) := by decide +kernel
theorem xd_K_isOfS_87 : decode xb_K_isOfS 87 = .ok (.ireturn, 1) := by decide +kernel
theorem xd_K_isOfH_0 : decode xb_K_isOfH 0 = .ok (.iload_n 0, 1) := by decide +kernel
theorem xd_K_isOfH_1 : decode xb_K_isOfH 1 = .ok (.lookupswitch 85 #[(1536, 83), (1538, 83), (1539, 83), (1540, 83), (1603, 83), (1604, 83), (1605, 83), (1610, 83), (1664, 83)], 83) := by decide +kernel
theorem xd_K_isOfH_84 : decode xb_K_isOfH 84 = .ok (.iconst 1, 1) := by decide +kernel
theorem xd_K_isOfH_85 : decode xb_K_isOfH 85 = .ok (.ireturn, 1) := by decide +kernel
theorem xd_K_isOfH_86 : decode xb_K_isOfH 86 = .ok (.iconst 0, 1) := by decide +kernel
theorem xd_K_isOfH_87 : decode xb_K_isOfH 87 = .ok (.ireturn, 1) := by decide +kernel
theorem xd_K_refusal_0 : decode xb_K_refusal 0 = .ok (.iload_n 1, 1) := by decide +kernel
theorem xd_K_refusal_1 : decode xb_K_refusal 1 = .ok (.sipush 3073, 3) := by decide +kernel
theorem xd_K_refusal_4 : decode xb_K_refusal 4 = .ok (.if_icmp .eq 10, 3) := by decide +kernel
theorem xd_K_refusal_7 : decode xb_K_refusal 7 = .ok (.iload_n 1, 1) := by decide +kernel
theorem xd_K_refusal_8 : decode xb_K_refusal 8 = .ok (.sipush 3201, 3) := by decide +kernel
theorem xd_K_refusal_11 : decode xb_K_refusal 11 = .ok (.if_icmp .ne 13, 3) := by decide +kernel
theorem xd_K_refusal_14 : decode xb_K_refusal 14 = .ok (.iload_n 2, 1) := by decide +kernel
theorem xd_K_refusal_15 : decode xb_K_refusal 15 = .ok (.ifCond .eq 7, 3) := by decide +kernel
theorem xd_K_refusal_18 : decode xb_K_refusal 18 = .ok (.iconst 2, 1) := by decide +kernel
theorem xd_K_refusal_19 : decode xb_K_refusal 19 = .ok (.goto 4, 3) := by decide +kernel
theorem xd_K_refusal_22 : decode xb_K_refusal 22 = .ok (.iconst (-1), 1) := by decide +kernel
theorem xd_K_refusal_23 : decode xb_K_refusal 23 = .ok (.ireturn, 1) := by decide +kernel
theorem xd_K_refusal_24 : decode xb_K_refusal 24 = .ok (.iload_n 1, 1) := by decide +kernel
theorem xd_K_refusal_25 : decode xb_K_refusal 25 = .ok (.invokestatic 62, 3) := by decide +kernel
theorem xd_K_refusal_28 : decode xb_K_refusal 28 = .ok (.ifCond .ne 23, 3) := by decide +kernel
theorem xd_K_refusal_31 : decode xb_K_refusal 31 = .ok (.iload_n 1, 1) := by decide +kernel
theorem xd_K_refusal_32 : decode xb_K_refusal 32 = .ok (.sipush 256, 3) := by decide +kernel
theorem xd_K_refusal_35 : decode xb_K_refusal 35 = .ok (.isub, 1) := by decide +kernel
theorem xd_K_refusal_36 : decode xb_K_refusal 36 = .ok (.invokestatic 62, 3) := by decide +kernel
theorem xd_K_refusal_39 : decode xb_K_refusal 39 = .ok (.ifCond .ne 12, 3) := by decide +kernel
theorem xd_K_refusal_42 : decode xb_K_refusal 42 = .ok (.iload_n 1, 1) := by decide +kernel
theorem xd_K_refusal_43 : decode xb_K_refusal 43 = .ok (.invokestatic 66, 3) := by decide +kernel
theorem xd_K_refusal_46 : decode xb_K_refusal 46 = .ok (.ifCond .ne 5, 3) := by decide +kernel
theorem xd_K_refusal_49 : decode xb_K_refusal 49 = .ok (.iconst 2, 1) := by decide +kernel
theorem xd_K_refusal_50 : decode xb_K_refusal 50 = .ok (.ireturn, 1) := by decide +kernel
theorem xd_K_refusal_51 : decode xb_K_refusal 51 = .ok (.iload_n 3, 1) := by decide +kernel
theorem xd_K_refusal_52 : decode xb_K_refusal 52 = .ok (.iconst 1, 1) := by decide +kernel
theorem xd_K_refusal_53 : decode xb_K_refusal 53 = .ok (.if_icmp .ne 5, 3) := by decide +kernel
theorem xd_K_refusal_56 : decode xb_K_refusal 56 = .ok (.iconst (-1), 1) := by decide +kernel
theorem xd_K_refusal_57 : decode xb_K_refusal 57 = .ok (.ireturn, 1) := by decide +kernel
theorem xd_K_refusal_58 : decode xb_K_refusal 58 = .ok (.iload_n 3, 1) := by decide +kernel
theorem xd_K_refusal_59 : decode xb_K_refusal 59 = .ok (.ifCond .ne 5, 3) := by decide +kernel
theorem xd_K_refusal_62 : decode xb_K_refusal 62 = .ok (.iconst 2, 1) := by decide +kernel
theorem xd_K_refusal_63 : decode xb_K_refusal 63 = .ok (.ireturn, 1) := by decide +kernel
theorem xd_K_refusal_64 : decode xb_K_refusal 64 = .ok (.iload_n 1, 1) := by decide +kernel
theorem xd_K_refusal_65 : decode xb_K_refusal 65 = .ok (.sipush 384, 3) := by decide +kernel
theorem xd_K_refusal_68 : decode xb_K_refusal 68 = .ok (.if_icmp .ne 17, 3) := by decide +kernel
theorem xd_K_refusal_71 : decode xb_K_refusal 71 = .ok (.aload_n 0, 1) := by decide +kernel
theorem xd_K_refusal_72 : decode xb_K_refusal 72 = .ok (.getfield 24, 3) := by decide +kernel
theorem xd_K_refusal_75 : decode xb_K_refusal 75 = .ok (.ldc 69, 2) := by decide +kernel
theorem xd_K_refusal_77 : decode xb_K_refusal 77 = .ok (.iand, 1) := by decide +kernel
theorem xd_K_refusal_78 : decode xb_K_refusal 78 = .ok (.ifCond .eq 7, 3) := by decide +kernel
theorem xd_K_refusal_81 : decode xb_K_refusal 81 = .ok (.iconst 1, 1) := by decide +kernel
theorem xd_K_refusal_82 : decode xb_K_refusal 82 = .ok (.goto 4, 3) := by decide +kernel
theorem xd_K_refusal_85 : decode xb_K_refusal 85 = .ok (.iconst 0, 1) := by decide +kernel
theorem xd_K_refusal_86 : decode xb_K_refusal 86 = .ok (.istore 4, 2) := by decide +kernel
theorem xd_K_refusal_88 : decode xb_K_refusal 88 = .ok (.iload_n 3, 1) := by decide +kernel
theorem xd_K_refusal_89 : decode xb_K_refusal 89 = .ok (.iconst 3, 1) := by decide +kernel
theorem xd_K_refusal_90 : decode xb_K_refusal 90 = .ok (.if_icmp .ne 19, 3) := by decide +kernel
theorem xd_K_refusal_93 : decode xb_K_refusal 93 = .ok (.iload_n 1, 1) := by decide +kernel
theorem xd_K_refusal_94 : decode xb_K_refusal 94 = .ok (.invokestatic 62, 3) := by decide +kernel
theorem xd_K_refusal_97 : decode xb_K_refusal 97 = .ok (.ifCond .eq 12, 3) := by decide +kernel
theorem xd_K_refusal_100 : decode xb_K_refusal 100 = .ok (.iload 4, 2) := by decide +kernel
theorem xd_K_refusal_102 : decode xb_K_refusal 102 = .ok (.ifCond .ne 7, 3) := by decide +kernel
theorem xd_K_refusal_105 : decode xb_K_refusal 105 = .ok (.iconst (-1), 1) := by decide +kernel
theorem xd_K_refusal_106 : decode xb_K_refusal 106 = .ok (.goto 5, 3) := by decide +kernel
theorem xd_K_refusal_109 : decode xb_K_refusal 109 = .ok (.bipush 22, 2) := by decide +kernel
theorem xd_K_refusal_111 : decode xb_K_refusal 111 = .ok (.ireturn, 1) := by decide +kernel
theorem xd_K_meant_0 : decode xb_K_meant 0 = .ok (.iload_n 1, 1) := by decide +kernel
theorem xd_K_meant_1 : decode xb_K_meant 1 = .ok (.iconst 3, 1) := by decide +kernel
theorem xd_K_meant_2 : decode xb_K_meant 2 = .ok (.if_icmp .ne 18, 3) := by decide +kernel
theorem xd_K_meant_5 : decode xb_K_meant 5 = .ok (.iload_n 0, 1) := by decide +kernel
theorem xd_K_meant_6 : decode xb_K_meant 6 = .ok (.invokestatic 62, 3) := by decide +kernel
theorem xd_K_meant_9 : decode xb_K_meant 9 = .ok (.ifCond .eq 11, 3) := by decide +kernel
theorem xd_K_meant_12 : decode xb_K_meant 12 = .ok (.iload_n 0, 1) := by decide +kernel
theorem xd_K_meant_13 : decode xb_K_meant 13 = .ok (.sipush 256, 3) := by decide +kernel
theorem xd_K_meant_16 : decode xb_K_meant 16 = .ok (.iadd, 1) := by decide +kernel
theorem xd_K_meant_17 : decode xb_K_meant 17 = .ok (.goto 4, 3) := by decide +kernel
theorem xd_K_meant_20 : decode xb_K_meant 20 = .ok (.iload_n 0, 1) := by decide +kernel
theorem xd_K_meant_21 : decode xb_K_meant 21 = .ok (.ireturn, 1) := by decide +kernel
theorem xd_K_tell_0 : decode xb_K_tell 0 = .ok (.iload_n 1, 1) := by decide +kernel
theorem xd_K_tell_1 : decode xb_K_tell 1 = .ok (.invokestatic 62, 3) := by decide +kernel
theorem xd_K_tell_4 : decode xb_K_tell 4 = .ok (.ifCond .eq 26, 3) := by decide +kernel
theorem xd_K_tell_7 : decode xb_K_tell 7 = .ok (.iload_n 1, 1) := by decide +kernel
theorem xd_K_tell_8 : decode xb_K_tell 8 = .ok (.sipush 324, 3) := by decide +kernel
theorem xd_K_tell_11 : decode xb_K_tell 11 = .ok (.if_icmp .ne 10, 3) := by decide +kernel
theorem xd_K_tell_14 : decode xb_K_tell 14 = .ok (.aload_n 0, 1) := by decide +kernel
theorem xd_K_tell_15 : decode xb_K_tell 15 = .ok (.invokevirtual 70, 3) := by decide +kernel
theorem xd_K_tell_18 : decode xb_K_tell 18 = .ok (.goto 11, 3) := by decide +kernel
theorem xd_K_tell_21 : decode xb_K_tell 21 = .ok (.aload_n 0, 1) := by decide +kernel
theorem xd_K_tell_22 : decode xb_K_tell 22 = .ok (.getfield 12, 3) := by decide +kernel
theorem xd_K_tell_25 : decode xb_K_tell 25 = .ok (.iload_n 1, 1) := by decide +kernel
theorem xd_K_tell_26 : decode xb_K_tell 26 = .ok (.invokevirtual 74, 3) := by decide +kernel
theorem xd_K_tell_29 : decode xb_K_tell 29 = .ok (.ireturn, 1) := by decide +kernel
theorem xd_K_tell_30 : decode xb_K_tell 30 = .ok (.iload_n 1, 1) := by decide +kernel
theorem xd_K_tell_31 : decode xb_K_tell 31 = .ok (.lookupswitch 197 #[(516, 113), (580, 125), (1536, 137), (1538, 142), (1539, 147), (1540, 152), (1603, 157), (1604, 162), (1605, 167), (1610, 172), (1664, 177), (3073, 182), (3201, 188)], 113) := by decide +kernel
theorem xd_K_tell_144 : decode xb_K_tell 144 = .ok (.aload_n 0, 1) := by decide +kernel
theorem xd_K_tell_145 : decode xb_K_tell 145 = .ok (.getfield 34, 3) := by decide +kernel
theorem xd_K_tell_148 : decode xb_K_tell 148 = .ok (.aload_n 0, 1) := by decide +kernel
theorem xd_K_tell_149 : decode xb_K_tell 149 = .ok (.getfield 31, 3) := by decide +kernel
theorem xd_K_tell_152 : decode xb_K_tell 152 = .ok (.iand, 1) := by decide +kernel
