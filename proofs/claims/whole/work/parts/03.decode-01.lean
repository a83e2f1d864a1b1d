theorem xd_H_init_0 : decode xb_H_init 0 = .ok (.aload_n 0, 1) := by decide +kernel
theorem xd_H_init_1 : decode xb_H_init 1 = .ok (.invokespecial 3, 3) := by decide +kernel
theorem xd_H_init_4 : decode xb_H_init 4 = .ok (.aload_n 0, 1) := by decide +kernel
theorem xd_H_init_5 : decode xb_H_init 5 = .ok (.new 9, 3) := by decide +kernel
theorem xd_H_init_8 : decode xb_H_init 8 = .ok (.dup, 1) := by decide +kernel
theorem xd_H_init_9 : decode xb_H_init 9 = .ok (.invokespecial 11, 3) := by decide +kernel
theorem xd_H_init_12 : decode xb_H_init 12 = .ok (.putfield 12, 3) := by decide +kernel
theorem xd_H_init_15 : decode xb_H_init 15 = .ok (.aload_n 0, 1) := by decide +kernel
theorem xd_H_init_16 : decode xb_H_init 16 = .ok (.getfield 12, 3) := by decide +kernel
theorem xd_H_init_19 : decode xb_H_init 19 = .ok (.invokevirtual 16, 3) := by decide +kernel
theorem xd_H_init_22 : decode xb_H_init 22 = .ok (.return_, 1) := by decide +kernel
theorem xd_H_begin_0 : decode xb_H_begin 0 = .ok (.aload_n 0, 1) := by decide +kernel
theorem xd_H_begin_1 : decode xb_H_begin 1 = .ok (.getfield 12, 3) := by decide +kernel
theorem xd_H_begin_4 : decode xb_H_begin 4 = .ok (.invokevirtual 16, 3) := by decide +kernel
theorem xd_H_begin_7 : decode xb_H_begin 7 = .ok (.return_, 1) := by decide +kernel
theorem xd_H_poke_0 : decode xb_H_poke 0 = .ok (.iload_n 1, 1) := by decide +kernel
theorem xd_H_poke_1 : decode xb_H_poke 1 = .ok (.ifCond .lt 15, 3) := by decide +kernel
theorem xd_H_poke_4 : decode xb_H_poke 4 = .ok (.iload_n 1, 1) := by decide +kernel
theorem xd_H_poke_5 : decode xb_H_poke 5 = .ok (.iconst 3, 1) := by decide +kernel
theorem xd_H_poke_6 : decode xb_H_poke 6 = .ok (.iand, 1) := by decide +kernel
theorem xd_H_poke_7 : decode xb_H_poke 7 = .ok (.ifCond .ne 9, 3) := by decide +kernel
theorem xd_H_poke_10 : decode xb_H_poke 10 = .ok (.iload_n 1, 1) := by decide +kernel
theorem xd_H_poke_11 : decode xb_H_poke 11 = .ok (.ldc 19, 2) := by decide +kernel
theorem xd_H_poke_13 : decode xb_H_poke 13 = .ok (.if_icmp .le 5, 3) := by decide +kernel
theorem xd_H_poke_16 : decode xb_H_poke 16 = .ok (.iconst (-1), 1) := by decide +kernel
theorem xd_H_poke_17 : decode xb_H_poke 17 = .ok (.ireturn, 1) := by decide +kernel
theorem xd_H_poke_18 : decode xb_H_poke 18 = .ok (.aload_n 0, 1) := by decide +kernel
theorem xd_H_poke_19 : decode xb_H_poke 19 = .ok (.getfield 12, 3) := by decide +kernel
theorem xd_H_poke_22 : decode xb_H_poke 22 = .ok (.getfield 20, 3) := by decide +kernel
theorem xd_H_poke_25 : decode xb_H_poke 25 = .ok (.iload_n 1, 1) := by decide +kernel
theorem xd_H_poke_26 : decode xb_H_poke 26 = .ok (.iload_n 2, 1) := by decide +kernel
theorem xd_H_poke_27 : decode xb_H_poke 27 = .ok (.invokevirtual 24, 3) := by decide +kernel
theorem xd_H_poke_30 : decode xb_H_poke 30 = .ok (.aload_n 0, 1) := by decide +kernel
theorem xd_H_poke_31 : decode xb_H_poke 31 = .ok (.getfield 12, 3) := by decide +kernel
theorem xd_H_poke_34 : decode xb_H_poke 34 = .ok (.getfield 20, 3) := by decide +kernel
theorem xd_H_poke_37 : decode xb_H_poke 37 = .ok (.iload_n 1, 1) := by decide +kernel
theorem xd_H_poke_38 : decode xb_H_poke 38 = .ok (.iconst 4, 1) := by decide +kernel
theorem xd_H_poke_39 : decode xb_H_poke 39 = .ok (.iadd, 1) := by decide +kernel
theorem xd_H_poke_40 : decode xb_H_poke 40 = .ok (.iload_n 3, 1) := by decide +kernel
theorem xd_H_poke_41 : decode xb_H_poke 41 = .ok (.invokevirtual 24, 3) := by decide +kernel
theorem xd_H_poke_44 : decode xb_H_poke 44 = .ok (.aload_n 0, 1) := by decide +kernel
theorem xd_H_poke_45 : decode xb_H_poke 45 = .ok (.getfield 12, 3) := by decide +kernel
theorem xd_H_poke_48 : decode xb_H_poke 48 = .ok (.getfield 20, 3) := by decide +kernel
theorem xd_H_poke_51 : decode xb_H_poke 51 = .ok (.iload_n 1, 1) := by decide +kernel
theorem xd_H_poke_52 : decode xb_H_poke 52 = .ok (.bipush 8, 2) := by decide +kernel
theorem xd_H_poke_54 : decode xb_H_poke 54 = .ok (.iadd, 1) := by decide +kernel
theorem xd_H_poke_55 : decode xb_H_poke 55 = .ok (.iload 4, 2) := by decide +kernel
theorem xd_H_poke_57 : decode xb_H_poke 57 = .ok (.invokevirtual 24, 3) := by decide +kernel
theorem xd_H_poke_60 : decode xb_H_poke 60 = .ok (.aload_n 0, 1) := by decide +kernel
theorem xd_H_poke_61 : decode xb_H_poke 61 = .ok (.getfield 12, 3) := by decide +kernel
theorem xd_H_poke_64 : decode xb_H_poke 64 = .ok (.getfield 20, 3) := by decide +kernel
theorem xd_H_poke_67 : decode xb_H_poke 67 = .ok (.iload_n 1, 1) := by decide +kernel
theorem xd_H_poke_68 : decode xb_H_poke 68 = .ok (.bipush 12, 2) := by decide +kernel
theorem xd_H_poke_70 : decode xb_H_poke 70 = .ok (.iadd, 1) := by decide +kernel
theorem xd_H_poke_71 : decode xb_H_poke 71 = .ok (.iload 5, 2) := by decide +kernel
theorem xd_H_poke_73 : decode xb_H_poke 73 = .ok (.invokevirtual 24, 3) := by decide +kernel
theorem xd_H_poke_76 : decode xb_H_poke 76 = .ok (.aload_n 0, 1) := by decide +kernel
theorem xd_H_poke_77 : decode xb_H_poke 77 = .ok (.getfield 12, 3) := by decide +kernel
theorem xd_H_poke_80 : decode xb_H_poke 80 = .ok (.getfield 20, 3) := by decide +kernel
theorem xd_H_poke_83 : decode xb_H_poke 83 = .ok (.iload_n 1, 1) := by decide +kernel
theorem xd_H_poke_84 : decode xb_H_poke 84 = .ok (.bipush 16, 2) := by decide +kernel
theorem xd_H_poke_86 : decode xb_H_poke 86 = .ok (.iadd, 1) := by decide +kernel
theorem xd_H_poke_87 : decode xb_H_poke 87 = .ok (.iload 6, 2) := by decide +kernel
theorem xd_H_poke_89 : decode xb_H_poke 89 = .ok (.invokevirtual 24, 3) := by decide +kernel
theorem xd_H_poke_92 : decode xb_H_poke 92 = .ok (.iconst 0, 1) := by decide +kernel
theorem xd_H_poke_93 : decode xb_H_poke 93 = .ok (.ireturn, 1) := by decide +kernel
theorem xd_H_word_0 : decode xb_H_word 0 = .ok (.iload_n 1, 1) := by decide +kernel
theorem xd_H_word_1 : decode xb_H_word 1 = .ok (.ifCond .lt 15, 3) := by decide +kernel
theorem xd_H_word_4 : decode xb_H_word 4 = .ok (.iload_n 1, 1) := by decide +kernel
theorem xd_H_word_5 : decode xb_H_word 5 = .ok (.ldc 30, 2) := by decide +kernel
theorem xd_H_word_7 : decode xb_H_word 7 = .ok (.if_icmp .ge 9, 3) := by decide +kernel
theorem xd_H_word_10 : decode xb_H_word 10 = .ok (.iload_n 1, 1) := by decide +kernel
theorem xd_H_word_11 : decode xb_H_word 11 = .ok (.iconst 3, 1) := by decide +kernel
theorem xd_H_word_12 : decode xb_H_word 12 = .ok (.iand, 1) := by decide +kernel
theorem xd_H_word_13 : decode xb_H_word 13 = .ok (.ifCond .eq 5, 3) := by decide +kernel
theorem xd_H_word_16 : decode xb_H_word 16 = .ok (.iconst 0, 1) := by decide +kernel
theorem xd_H_word_17 : decode xb_H_word 17 = .ok (.ireturn, 1) := by decide +kernel
theorem xd_H_word_18 : decode xb_H_word 18 = .ok (.aload_n 0, 1) := by decide +kernel
theorem xd_H_word_19 : decode xb_H_word 19 = .ok (.getfield 12, 3) := by decide +kernel
theorem xd_H_word_22 : decode xb_H_word 22 = .ok (.getfield 20, 3) := by decide +kernel
theorem xd_H_word_25 : decode xb_H_word 25 = .ok (.iload_n 1, 1) := by decide +kernel
theorem xd_H_word_26 : decode xb_H_word 26 = .ok (.invokevirtual 31, 3) := by decide +kernel
theorem xd_H_word_29 : decode xb_H_word 29 = .ok (.ireturn, 1) := by decide +kernel
theorem xd_H_sum_0 : decode xb_H_sum 0 = .ok (.iload_n 1, 1) := by decide +kernel
theorem xd_H_sum_1 : decode xb_H_sum 1 = .ok (.ifCond .lt 21, 3) := by decide +kernel
theorem xd_H_sum_4 : decode xb_H_sum 4 = .ok (.iload_n 1, 1) := by decide +kernel
theorem xd_H_sum_5 : decode xb_H_sum 5 = .ok (.bipush 64, 2) := by decide +kernel
theorem xd_H_sum_7 : decode xb_H_sum 7 = .ok (.if_icmp .ge 15, 3) := by decide +kernel
theorem xd_H_sum_10 : decode xb_H_sum 10 = .ok (.iload_n 2, 1) := by decide +kernel
theorem xd_H_sum_11 : decode xb_H_sum 11 = .ok (.ifCond .le 11, 3) := by decide +kernel
theorem xd_H_sum_14 : decode xb_H_sum 14 = .ok (.iload_n 2, 1) := by decide +kernel
theorem xd_H_sum_15 : decode xb_H_sum 15 = .ok (.bipush 64, 2) := by decide +kernel
theorem xd_H_sum_17 : decode xb_H_sum 17 = .ok (.iload_n 1, 1) := by decide +kernel
theorem xd_H_sum_18 : decode xb_H_sum 18 = .ok (.isub, 1) := by decide +kernel
theorem xd_H_sum_19 : decode xb_H_sum 19 = .ok (.if_icmp .le 5, 3) := by decide +kernel
theorem xd_H_sum_22 : decode xb_H_sum 22 = .ok (.iconst (-1), 1) := by decide +kernel
theorem xd_H_sum_23 : decode xb_H_sum 23 = .ok (.ireturn, 1) := by decide +kernel
theorem xd_H_sum_24 : decode xb_H_sum 24 = .ok (.iload_n 1, 1) := by decide +kernel
theorem xd_H_sum_25 : decode xb_H_sum 25 = .ok (.iload_n 2, 1) := by decide +kernel
theorem xd_H_sum_26 : decode xb_H_sum 26 = .ok (.iadd, 1) := by decide +kernel
theorem xd_H_sum_27 : decode xb_H_sum 27 = .ok (.sipush 4096, 3) := by decide +kernel
theorem xd_H_sum_30 : decode xb_H_sum 30 = .ok (.imul, 1) := by decide +kernel
theorem xd_H_sum_31 : decode xb_H_sum 31 = .ok (.istore_n 3, 1) := by decide +kernel
theorem xd_H_sum_32 : decode xb_H_sum 32 = .ok (.iconst 1, 1) := by decide +kernel
theorem xd_H_sum_33 : decode xb_H_sum 33 = .ok (.istore 4, 2) := by decide +kernel
theorem xd_H_sum_35 : decode xb_H_sum 35 = .ok (.iload_n 1, 1) := by decide +kernel
theorem xd_H_sum_36 : decode xb_H_sum 36 = .ok (.sipush 4096, 3) := by decide +kernel
theorem xd_H_sum_39 : decode xb_H_sum 39 = .ok (.imul, 1) := by decide +kernel
theorem xd_H_sum_40 : decode xb_H_sum 40 = .ok (.istore 5, 2) := by decide +kernel
theorem xd_H_sum_42 : decode xb_H_sum 42 = .ok (.iload 5, 2) := by decide +kernel
theorem xd_H_sum_44 : decode xb_H_sum 44 = .ok (.iload_n 3, 1) := by decide +kernel
theorem xd_H_sum_45 : decode xb_H_sum 45 = .ok (.if_icmp .ge 29, 3) := by decide +kernel
theorem xd_H_sum_48 : decode xb_H_sum 48 = .ok (.bipush 31, 2) := by decide +kernel
theorem xd_H_sum_50 : decode xb_H_sum 50 = .ok (.iload 4, 2) := by decide +kernel
theorem xd_H_sum_52 : decode xb_H_sum 52 = .ok (.imul, 1) := by decide +kernel
theorem xd_H_sum_53 : decode xb_H_sum 53 = .ok (.aload_n 0, 1) := by decide +kernel
theorem xd_H_sum_54 : decode xb_H_sum 54 = .ok (.getfield 12, 3) := by decide +kernel
theorem xd_H_sum_57 : decode xb_H_sum 57 = .ok (.getfield 20, 3) := by decide +kernel
theorem xd_H_sum_60 : decode xb_H_sum 60 = .ok (.iload 5, 2) := by decide +kernel
theorem xd_H_sum_62 : decode xb_H_sum 62 = .ok (.invokevirtual 31, 3) := by decide +kernel
theorem xd_H_sum_65 : decode xb_H_sum 65 = .ok (.iadd, 1) := by decide +kernel
theorem xd_H_sum_66 : decode xb_H_sum 66 = .ok (.istore 4, 2) := by decide +kernel
theorem xd_H_sum_68 : decode xb_H_sum 68 = .ok (.iinc 5 4, 3) := by decide +kernel
theorem xd_H_sum_71 : decode xb_H_sum 71 = .ok (.goto (-29), 3) := by decide +kernel
theorem xd_H_sum_74 : decode xb_H_sum 74 = .ok (.iload 4, 2) := by decide +kernel
theorem xd_H_sum_76 : decode xb_H_sum 76 = .ok (.ireturn, 1) := by decide +kernel
theorem xd_H_setRegister_0 : decode xb_H_setRegister 0 = .ok (.iload_n 1, 1) := by decide +kernel
theorem xd_H_setRegister_1 : decode xb_H_setRegister 1 = .ok (.ifCond .lt 9, 3) := by decide +kernel
theorem xd_H_setRegister_4 : decode xb_H_setRegister 4 = .ok (.iload_n 1, 1) := by decide +kernel
theorem xd_H_setRegister_5 : decode xb_H_setRegister 5 = .ok (.bipush 32, 2) := by decide +kernel
theorem xd_H_setRegister_7 : decode xb_H_setRegister 7 = .ok (.if_icmp .lt 5, 3) := by decide +kernel
theorem xd_H_setRegister_10 : decode xb_H_setRegister 10 = .ok (.iconst 0, 1) := by decide +kernel
theorem xd_H_setRegister_11 : decode xb_H_setRegister 11 = .ok (.ireturn, 1) := by decide +kernel
theorem xd_H_setRegister_12 : decode xb_H_setRegister 12 = .ok (.aload_n 0, 1) := by decide +kernel
theorem xd_H_setRegister_13 : decode xb_H_setRegister 13 = .ok (.getfield 12, 3) := by decide +kernel
theorem xd_H_setRegister_16 : decode xb_H_setRegister 16 = .ok (.getfield 35, 3) := by decide +kernel
theorem xd_H_setRegister_19 : decode xb_H_setRegister 19 = .ok (.iload_n 1, 1) := by decide +kernel
theorem xd_H_setRegister_20 : decode xb_H_setRegister 20 = .ok (.iaload, 1) := by decide +kernel
theorem xd_H_setRegister_21 : decode xb_H_setRegister 21 = .ok (.istore_n 3, 1) := by decide +kernel
theorem xd_H_setRegister_22 : decode xb_H_setRegister 22 = .ok (.aload_n 0, 1) := by decide +kernel
theorem xd_H_setRegister_23 : decode xb_H_setRegister 23 = .ok (.getfield 12, 3) := by decide +kernel
theorem xd_H_setRegister_26 : decode xb_H_setRegister 26 = .ok (.iload_n 1, 1) := by decide +kernel
theorem xd_H_setRegister_27 : decode xb_H_setRegister 27 = .ok (.iload_n 2, 1) := by decide +kernel
theorem xd_H_setRegister_28 : decode xb_H_setRegister 28 = .ok (.invokevirtual 39, 3) := by decide +kernel
theorem xd_H_setRegister_31 : decode xb_H_setRegister 31 = .ok (.iload_n 3, 1) := by decide +kernel
theorem xd_H_setRegister_32 : decode xb_H_setRegister 32 = .ok (.ireturn, 1) := by decide +kernel
theorem xd_H_register_0 : decode xb_H_register 0 = .ok (.iload_n 1, 1) := by decide +kernel
theorem xd_H_register_1 : decode xb_H_register 1 = .ok (.ifCond .lt 9, 3) := by decide +kernel
theorem xd_H_register_4 : decode xb_H_register 4 = .ok (.iload_n 1, 1) := by decide +kernel
theorem xd_H_register_5 : decode xb_H_register 5 = .ok (.bipush 32, 2) := by decide +kernel
theorem xd_H_register_7 : decode xb_H_register 7 = .ok (.if_icmp .lt 7, 3) := by decide +kernel
theorem xd_H_register_10 : decode xb_H_register 10 = .ok (.iconst 0, 1) := by decide +kernel
theorem xd_H_register_11 : decode xb_H_register 11 = .ok (.goto 12, 3) := by decide +kernel
theorem xd_H_register_14 : decode xb_H_register 14 = .ok (.aload_n 0, 1) := by decide +kernel
theorem xd_H_register_15 : decode xb_H_register 15 = .ok (.getfield 12, 3) := by decide +kernel
theorem xd_H_register_18 : decode xb_H_register 18 = .ok (.getfield 35, 3) := by decide +kernel
theorem xd_H_register_21 : decode xb_H_register 21 = .ok (.iload_n 1, 1) := by decide +kernel
theorem xd_H_register_22 : decode xb_H_register 22 = .ok (.iaload, 1) := by decide +kernel
theorem xd_H_register_23 : decode xb_H_register 23 = .ok (.ireturn, 1) := by decide +kernel
theorem xd_H_setControl_0 : decode xb_H_setControl 0 = .ok (.aload_n 0, 1) := by decide +kernel
theorem xd_H_setControl_1 : decode xb_H_setControl 1 = .ok (.getfield 12, 3) := by decide +kernel
theorem xd_H_setControl_4 : decode xb_H_setControl 4 = .ok (.getfield 42, 3) := by decide +kernel
theorem xd_H_setControl_7 : decode xb_H_setControl 7 = .ok (.iload_n 1, 1) := by decide +kernel
theorem xd_H_setControl_8 : decode xb_H_setControl 8 = .ok (.iconst 1, 1) := by decide +kernel
theorem xd_H_setControl_9 : decode xb_H_setControl 9 = .ok (.iconst 1, 1) := by decide +kernel
theorem xd_H_setControl_10 : decode xb_H_setControl 10 = .ok (.invokevirtual 46, 3) := by decide +kernel
theorem xd_H_setControl_13 : decode xb_H_setControl 13 = .ok (.iconst (-1), 1) := by decide +kernel
theorem xd_H_setControl_14 : decode xb_H_setControl 14 = .ok (.if_icmp .eq 5, 3) := by decide +kernel
theorem xd_H_setControl_17 : decode xb_H_setControl 17 = .ok (.iconst (-1), 1) := by decide +kernel
theorem xd_H_setControl_18 : decode xb_H_setControl 18 = .ok (.ireturn, 1) := by decide +kernel
theorem xd_H_setControl_19 : decode xb_H_setControl 19 = .ok (.aload_n 0, 1) := by decide +kernel
theorem xd_H_setControl_20 : decode xb_H_setControl 20 = .ok (.getfield 12, 3) := by decide +kernel
theorem xd_H_setControl_23 : decode xb_H_setControl 23 = .ok (.getfield 42, 3) := by decide +kernel
theorem xd_H_setControl_26 : decode xb_H_setControl 26 = .ok (.iload_n 1, 1) := by decide +kernel
theorem xd_H_setControl_27 : decode xb_H_setControl 27 = .ok (.iload_n 2, 1) := by decide +kernel
theorem xd_H_setControl_28 : decode xb_H_setControl 28 = .ok (.invokevirtual 52, 3) := by decide +kernel
theorem xd_H_setControl_31 : decode xb_H_setControl 31 = .ok (.iconst 0, 1) := by decide +kernel
theorem xd_H_setControl_32 : decode xb_H_setControl 32 = .ok (.ireturn, 1) := by decide +kernel
theorem xd_H_control_0 : decode xb_H_control 0 = .ok (.aload_n 0, 1) := by decide +kernel
theorem xd_H_control_1 : decode xb_H_control 1 = .ok (.getfield 12, 3) := by decide +kernel
theorem xd_H_control_4 : decode xb_H_control 4 = .ok (.getfield 42, 3) := by decide +kernel
theorem xd_H_control_7 : decode xb_H_control 7 = .ok (.iload_n 1, 1) := by decide +kernel
theorem xd_H_control_8 : decode xb_H_control 8 = .ok (.invokevirtual 55, 3) := by decide +kernel
theorem xd_H_control_11 : decode xb_H_control 11 = .ok (.ireturn, 1) := by decide +kernel
theorem xd_H_place_0 : decode xb_H_place 0 = .ok (.iload_n 1, 1) := by decide +kernel
theorem xd_H_place_1 : decode xb_H_place 1 = .ok (.iconst 3, 1) := by decide +kernel
theorem xd_H_place_2 : decode xb_H_place 2 = .ok (.iand, 1) := by decide +kernel
theorem xd_H_place_3 : decode xb_H_place 3 = .ok (.ifCond .ne 12, 3) := by decide +kernel
theorem xd_H_place_6 : decode xb_H_place 6 = .ok (.iload_n 2, 1) := by decide +kernel
theorem xd_H_place_7 : decode xb_H_place 7 = .ok (.ifCond .lt 8, 3) := by decide +kernel
theorem xd_H_place_10 : decode xb_H_place 10 = .ok (.iload_n 2, 1) := by decide +kernel
theorem xd_H_place_11 : decode xb_H_place 11 = .ok (.iconst 3, 1) := by decide +kernel
theorem xd_H_place_12 : decode xb_H_place 12 = .ok (.if_icmp .le 5, 3) := by decide +kernel
theorem xd_H_place_15 : decode xb_H_place 15 = .ok (.iconst (-1), 1) := by decide +kernel
theorem xd_H_place_16 : decode xb_H_place 16 = .ok (.ireturn, 1) := by decide +kernel
theorem xd_H_place_17 : decode xb_H_place 17 = .ok (.aload_n 0, 1) := by decide +kernel
theorem xd_H_place_18 : decode xb_H_place 18 = .ok (.getfield 12, 3) := by decide +kernel
theorem xd_H_place_21 : decode xb_H_place 21 = .ok (.getfield 58, 3) := by decide +kernel
theorem xd_H_place_24 : decode xb_H_place 24 = .ok (.istore_n 3, 1) := by decide +kernel
theorem xd_H_place_25 : decode xb_H_place 25 = .ok (.aload_n 0, 1) := by decide +kernel
theorem xd_H_place_26 : decode xb_H_place 26 = .ok (.getfield 12, 3) := by decide +kernel
theorem xd_H_place_29 : decode xb_H_place 29 = .ok (.iload_n 1, 1) := by decide +kernel
theorem xd_H_place_30 : decode xb_H_place 30 = .ok (.putfield 62, 3) := by decide +kernel
theorem xd_H_place_33 : decode xb_H_place 33 = .ok (.aload_n 0, 1) := by decide +kernel
theorem xd_H_place_34 : decode xb_H_place 34 = .ok (.getfield 12, 3) := by decide +kernel
theorem xd_H_place_37 : decode xb_H_place 37 = .ok (.iload_n 2, 1) := by decide +kernel
theorem xd_H_place_38 : decode xb_H_place 38 = .ok (.putfield 58, 3) := by decide +kernel
theorem xd_H_place_41 : decode xb_H_place 41 = .ok (.iload_n 3, 1) := by decide +kernel
theorem xd_H_place_42 : decode xb_H_place 42 = .ok (.ireturn, 1) := by decide +kernel
theorem xd_H_line_0 : decode xb_H_line 0 = .ok (.aload_n 0, 1) := by decide +kernel
theorem xd_H_line_1 : decode xb_H_line 1 = .ok (.getfield 12, 3) := by decide +kernel
theorem xd_H_line_4 : decode xb_H_line 4 = .ok (.getfield 42, 3) := by decide +kernel
theorem xd_H_line_7 : decode xb_H_line 7 = .ok (.getfield 65, 3) := by decide +kernel
theorem xd_H_line_10 : decode xb_H_line 10 = .ok (.istore_n 2, 1) := by decide +kernel
theorem xd_H_line_11 : decode xb_H_line 11 = .ok (.aload_n 0, 1) := by decide +kernel
theorem xd_H_line_12 : decode xb_H_line 12 = .ok (.getfield 12, 3) := by decide +kernel
theorem xd_H_line_15 : decode xb_H_line 15 = .ok (.getfield 42, 3) := by decide +kernel
theorem xd_H_line_18 : decode xb_H_line 18 = .ok (.iload_n 1, 1) := by decide +kernel
theorem xd_H_line_19 : decode xb_H_line 19 = .ok (.putfield 65, 3) := by decide +kernel
theorem xd_H_line_22 : decode xb_H_line 22 = .ok (.iload_n 2, 1) := by decide +kernel
theorem xd_H_line_23 : decode xb_H_line 23 = .ok (.ireturn, 1) := by decide +kernel
theorem xd_H_run_0 : decode xb_H_run 0 = .ok (.iload_n 1, 1) := by decide +kernel
theorem xd_H_run_1 : decode xb_H_run 1 = .ok (.ifCond .lt 10, 3) := by decide +kernel
theorem xd_H_run_4 : decode xb_H_run 4 = .ok (.iload_n 1, 1) := by decide +kernel
theorem xd_H_run_5 : decode xb_H_run 5 = .ok (.sipush 2000, 3) := by decide +kernel
theorem xd_H_run_8 : decode xb_H_run 8 = .ok (.if_icmp .le 5, 3) := by decide +kernel
theorem xd_H_run_11 : decode xb_H_run 11 = .ok (.iconst (-1), 1) := by decide +kernel
theorem xd_H_run_12 : decode xb_H_run 12 = .ok (.ireturn, 1) := by decide +kernel
theorem xd_H_run_13 : decode xb_H_run 13 = .ok (.iconst 0, 1) := by decide +kernel
theorem xd_H_run_14 : decode xb_H_run 14 = .ok (.istore_n 2, 1) := by decide +kernel
theorem xd_H_run_15 : decode xb_H_run 15 = .ok (.iload_n 2, 1) := by decide +kernel
theorem xd_H_run_16 : decode xb_H_run 16 = .ok (.iload_n 1, 1) := by decide +kernel
theorem xd_H_run_17 : decode xb_H_run 17 = .ok (.if_icmp .ge 43, 3) := by decide +kernel
theorem xd_H_run_20 : decode xb_H_run 20 = .ok (.aload_n 0, 1) := by decide +kernel
theorem xd_H_run_21 : decode xb_H_run 21 = .ok (.getfield 12, 3) := by decide +kernel
theorem xd_H_run_24 : decode xb_H_run 24 = .ok (.getfield 69, 3) := by decide +kernel
theorem xd_H_run_27 : decode xb_H_run 27 = .ok (.ifCond .ne 33, 3) := by decide +kernel
theorem xd_H_run_30 : decode xb_H_run 30 = .ok (.aload_n 0, 1) := by decide +kernel
theorem xd_H_run_31 : decode xb_H_run 31 = .ok (.getfield 12, 3) := by decide +kernel
theorem xd_H_run_34 : decode xb_H_run 34 = .ok (.invokevirtual 72, 3) := by decide +kernel
theorem xd_H_run_37 : decode xb_H_run 37 = .ok (.ifCond .eq 10, 3) := by decide +kernel
theorem xd_H_run_40 : decode xb_H_run 40 = .ok (.aload_n 0, 1) := by decide +kernel
theorem xd_H_run_41 : decode xb_H_run 41 = .ok (.getfield 12, 3) := by decide +kernel
theorem xd_H_run_44 : decode xb_H_run 44 = .ok (.invokevirtual 76, 3) := by decide +kernel
theorem xd_H_run_47 : decode xb_H_run 47 = .ok (.aload_n 0, 1) := by decide +kernel
theorem xd_H_run_48 : decode xb_H_run 48 = .ok (.getfield 12, 3) := by decide +kernel
theorem xd_H_run_51 : decode xb_H_run 51 = .ok (.invokevirtual 79, 3) := by decide +kernel
theorem xd_H_run_54 : decode xb_H_run 54 = .ok (.iinc 2 1, 3) := by decide +kernel
theorem xd_H_run_57 : decode xb_H_run 57 = .ok (.goto (-42), 3) := by decide +kernel
theorem xd_H_run_60 : decode xb_H_run 60 = .ok (.iload_n 2, 1) := by decide +kernel
theorem xd_H_run_61 : decode xb_H_run 61 = .ok (.ireturn, 1) := by decide +kernel
theorem xd_H_count_0 : decode xb_H_count 0 = .ok (.iload_n 1, 1) := by decide +kernel
theorem xd_H_count_1 : decode xb_H_count 1 = .ok (.tableswitch 177 0 10 #[59, 67, 75, 87, 102, 110, 118, 126, 134, 150, 162], 59) := by decide +kernel
theorem xd_H_count_60 : decode xb_H_count 60 = .ok (.aload_n 0, 1) := by decide +kernel
theorem xd_H_count_61 : decode xb_H_count 61 = .ok (.getfield 12, 3) := by decide +kernel
theorem xd_H_count_64 : decode xb_H_count 64 = .ok (.getfield 58, 3) := by decide +kernel
theorem xd_H_count_67 : decode xb_H_count 67 = .ok (.ireturn, 1) := by decide +kernel
theorem xd_H_count_68 : decode xb_H_count 68 = .ok (.aload_n 0, 1) := by decide +kernel
theorem xd_H_count_69 : decode xb_H_count 69 = .ok (.getfield 12, 3) := by decide +kernel
theorem xd_H_count_72 : decode xb_H_count 72 = .ok (.getfield 62, 3) := by decide +kernel
theorem xd_H_count_75 : decode xb_H_count 75 = .ok (.ireturn, 1) := by decide +kernel
theorem xd_H_count_76 : decode xb_H_count 76 = .ok (.aload_n 0, 1) := by decide +kernel
theorem xd_H_count_77 : decode xb_H_count 77 = .ok (.getfield 12, 3) := by decide +kernel
theorem xd_H_count_80 : decode xb_H_count 80 = .ok (.getfield 42, 3) := by decide +kernel
theorem xd_H_count_83 : decode xb_H_count 83 = .ok (.getfield 82, 3) := by decide +kernel
theorem xd_H_count_86 : decode xb_H_count 86 = .ok (.l2i, 1) := by decide +kernel
theorem xd_H_count_87 : decode xb_H_count 87 = .ok (.ireturn, 1) := by decide +kernel
theorem xd_H_count_88 : decode xb_H_count 88 = .ok (.aload_n 0, 1) := by decide +kernel
theorem xd_H_count_89 : decode xb_H_count 89 = .ok (.getfield 12, 3) := by decide +kernel
theorem xd_H_count_92 : decode xb_H_count 92 = .ok (.getfield 42, 3) := by decide +kernel
theorem xd_H_count_95 : decode xb_H_count 95 = .ok (.getfield 82, 3) := by decide +kernel
theorem xd_H_count_98 : decode xb_H_count 98 = .ok (.bipush 32, 2) := by decide +kernel
theorem xd_H_count_100 : decode xb_H_count 100 = .ok (.lushr, 1) := by decide +kernel
theorem xd_H_count_101 : decode xb_H_count 101 = .ok (.l2i, 1) := by decide +kernel
theorem xd_H_count_102 : decode xb_H_count 102 = .ok (.ireturn, 1) := by decide +kernel
theorem xd_H_count_103 : decode xb_H_count 103 = .ok (.aload_n 0, 1) := by decide +kernel
theorem xd_H_count_104 : decode xb_H_count 104 = .ok (.getfield 12, 3) := by decide +kernel
theorem xd_H_count_107 : decode xb_H_count 107 = .ok (.getfield 86, 3) := by decide +kernel
theorem xd_H_count_110 : decode xb_H_count 110 = .ok (.ireturn, 1) := by decide +kernel
theorem xd_H_count_111 : decode xb_H_count 111 = .ok (.aload_n 0, 1) := by decide +kernel
theorem xd_H_count_112 : decode xb_H_count 112 = .ok (.getfield 12, 3) := by decide +kernel
theorem xd_H_count_115 : decode xb_H_count 115 = .ok (.getfield 89, 3) := by decide +kernel
theorem xd_H_count_118 : decode xb_H_count 118 = .ok (.ireturn, 1) := by decide +kernel
theorem xd_H_count_119 : decode xb_H_count 119 = .ok (.aload_n 0, 1) := by decide +kernel
theorem xd_H_count_120 : decode xb_H_count 120 = .ok (.getfield 12, 3) := by decide +kernel
theorem xd_H_count_123 : decode xb_H_count 123 = .ok (.getfield 92, 3) := by decide +kernel
theorem xd_H_count_126 : decode xb_H_count 126 = .ok (.ireturn, 1) := by decide +kernel
theorem xd_H_count_127 : decode xb_H_count 127 = .ok (.aload_n 0, 1) := by decide +kernel
theorem xd_H_count_128 : decode xb_H_count 128 = .ok (.getfield 12, 3) := by decide +kernel
theorem xd_H_count_131 : decode xb_H_count 131 = .ok (.getfield 95, 3) := by decide +kernel
theorem xd_H_count_134 : decode xb_H_count 134 = .ok (.ireturn, 1) := by decide +kernel
theorem xd_H_count_135 : decode xb_H_count 135 = .ok (.aload_n 0, 1) := by decide +kernel
theorem xd_H_count_136 : decode xb_H_count 136 = .ok (.getfield 12, 3) := by decide +kernel
theorem xd_H_count_139 : decode xb_H_count 139 = .ok (.getfield 69, 3) := by decide +kernel
theorem xd_H_count_142 : decode xb_H_count 142 = .ok (.ifCond .eq 7, 3) := by decide +kernel
theorem xd_H_count_145 : decode xb_H_count 145 = .ok (.iconst 1, 1) := by decide +kernel
theorem xd_H_count_146 : decode xb_H_count 146 = .ok (.goto 4, 3) := by decide +kernel
theorem xd_H_count_149 : decode xb_H_count 149 = .ok (.iconst 0, 1) := by decide +kernel
theorem xd_H_count_150 : decode xb_H_count 150 = .ok (.ireturn, 1) := by decide +kernel
theorem xd_H_count_151 : decode xb_H_count 151 = .ok (.aload_n 0, 1) := by decide +kernel
theorem xd_H_count_152 : decode xb_H_count 152 = .ok (.getfield 12, 3) := by decide +kernel
theorem xd_H_count_155 : decode xb_H_count 155 = .ok (.getfield 42, 3) := by decide +kernel
theorem xd_H_count_158 : decode xb_H_count 158 = .ok (.getfield 98, 3) := by decide +kernel
theorem xd_H_count_161 : decode xb_H_count 161 = .ok (.l2i, 1) := by decide +kernel
theorem xd_H_count_162 : decode xb_H_count 162 = .ok (.ireturn, 1) := by decide +kernel
theorem xd_H_count_163 : decode xb_H_count 163 = .ok (.aload_n 0, 1) := by decide +kernel
theorem xd_H_count_164 : decode xb_H_count 164 = .ok (.getfield 12, 3) := by decide +kernel
theorem xd_H_count_167 : decode xb_H_count 167 = .ok (.getfield 42, 3) := by decide +kernel
theorem xd_H_count_170 : decode xb_H_count 170 = .ok (.getfield 98, 3) := by decide +kernel
theorem xd_H_count_173 : decode xb_H_count 173 = .ok (.bipush 32, 2) := by decide +kernel
theorem xd_H_count_175 : decode xb_H_count 175 = .ok (.lushr, 1) := by decide +kernel
theorem xd_H_count_176 : decode xb_H_count 176 = .ok (.l2i, 1) := by decide +kernel
theorem xd_H_count_177 : decode xb_H_count 177 = .ok (.ireturn, 1) := by decide +kernel
theorem xd_H_count_178 : decode xb_H_count 178 = .ok (.iconst (-1), 1) := by decide +kernel
theorem xd_H_count_179 : decode xb_H_count 179 = .ok (.ireturn, 1) := by decide +kernel
theorem xd_H_console_0 : decode xb_H_console 0 = .ok (.iload_n 1, 1) := by decide +kernel
theorem xd_H_console_1 : decode xb_H_console 1 = .ok (.ifCond .lt 14, 3) := by decide +kernel
theorem xd_H_console_4 : decode xb_H_console 4 = .ok (.iload_n 1, 1) := by decide +kernel
theorem xd_H_console_5 : decode xb_H_console 5 = .ok (.aload_n 0, 1) := by decide +kernel
theorem xd_H_console_6 : decode xb_H_console 6 = .ok (.getfield 12, 3) := by decide +kernel
theorem xd_H_console_9 : decode xb_H_console 9 = .ok (.getfield 95, 3) := by decide +kernel
theorem xd_H_console_12 : decode xb_H_console 12 = .ok (.if_icmp .lt 7, 3) := by decide +kernel
theorem xd_H_console_15 : decode xb_H_console 15 = .ok (.iconst (-1), 1) := by decide +kernel
theorem xd_H_console_16 : decode xb_H_console 16 = .ok (.goto 19, 3) := by decide +kernel
theorem xd_H_console_19 : decode xb_H_console 19 = .ok (.aload_n 0, 1) := by decide +kernel
theorem xd_H_console_20 : decode xb_H_console 20 = .ok (.getfield 12, 3) := by decide +kernel
theorem xd_H_console_23 : decode xb_H_console 23 = .ok (.getfield 101, 3) := by decide +kernel
theorem xd_H_console_26 : decode xb_H_console 26 = .ok (.iload_n 1, 1) := by decide +kernel
theorem xd_H_console_27 : decode xb_H_console 27 = .ok (.iconst 0, 1) := by decide +kernel
theorem xd_H_console_28 : decode xb_H_console 28 = .ok (.invokevirtual 104, 3) := by decide +kernel
theorem xd_H_console_31 : decode xb_H_console 31 = .ok (.sipush 255, 3) := by decide +kernel
theorem xd_H_console_34 : decode xb_H_console 34 = .ok (.iand, 1) := by decide +kernel
theorem xd_H_console_35 : decode xb_H_console 35 = .ok (.ireturn, 1) := by decide +kernel
theorem xd_H_breaches_0 : decode xb_H_breaches 0 = .ok (.aload_n 0, 1) := by decide +kernel
theorem xd_H_breaches_1 : decode xb_H_breaches 1 = .ok (.getfield 12, 3) := by decide +kernel
theorem xd_H_breaches_4 : decode xb_H_breaches 4 = .ok (.getfield 20, 3) := by decide +kernel
theorem xd_H_breaches_7 : decode xb_H_breaches 7 = .ok (.getfield 108, 3) := by decide +kernel
theorem xd_H_breaches_10 : decode xb_H_breaches 10 = .ok (.ireturn, 1) := by decide +kernel
theorem xd_H_isVirtual_0 : decode xb_H_isVirtual 0 = .ok (.iload_n 0, 1) := by decide +kernel
theorem xd_H_isVirtual_1 : decode xb_H_isVirtual 1 = .ok (.iconst 2, 1) := by decide +kernel
theorem xd_H_isVirtual_2 : decode xb_H_isVirtual 2 = .ok (.if_icmp .lt 7, 3) := by decide +kernel
theorem xd_H_isVirtual_5 : decode xb_H_isVirtual 5 = .ok (.iconst 1, 1) := by decide +kernel
theorem xd_H_isVirtual_6 : decode xb_H_isVirtual 6 = .ok (.goto 4, 3) := by decide +kernel
theorem xd_H_isVirtual_9 : decode xb_H_isVirtual 9 = .ok (.iconst 0, 1) := by decide +kernel
theorem xd_H_isVirtual_10 : decode xb_H_isVirtual 10 = .ok (.ireturn, 1) := by decide +kernel
theorem xd_H_isSupervisor_0 : decode xb_H_isSupervisor 0 = .ok (.iload_n 0, 1) := by decide +kernel
theorem xd_H_isSupervisor_1 : decode xb_H_isSupervisor 1 = .ok (.iconst 1, 1) := by decide +kernel
theorem xd_H_isSupervisor_2 : decode xb_H_isSupervisor 2 = .ok (.iand, 1) := by decide +kernel
theorem xd_H_isSupervisor_3 : decode xb_H_isSupervisor 3 = .ok (.ifCond .eq 7, 3) := by decide +kernel
theorem xd_H_isSupervisor_6 : decode xb_H_isSupervisor 6 = .ok (.iconst 1, 1) := by decide +kernel
theorem xd_H_isSupervisor_7 : decode xb_H_isSupervisor 7 = .ok (.goto 4, 3) := by decide +kernel
theorem xd_H_isSupervisor_10 : decode xb_H_isSupervisor 10 = .ok (.iconst 0, 1) := by decide +kernel
theorem xd_H_isSupervisor_11 : decode xb_H_isSupervisor 11 = .ok (.ireturn, 1) := by decide +kernel
theorem xd_Z_clearMachine_0 : decode xb_Z_clearMachine 0 = .ok (.iconst 0, 1) := by decide +kernel
theorem xd_Z_clearMachine_1 : decode xb_Z_clearMachine 1 = .ok (.istore_n 1, 1) := by decide +kernel
theorem xd_Z_clearMachine_2 : decode xb_Z_clearMachine 2 = .ok (.iload_n 1, 1) := by decide +kernel
theorem xd_Z_clearMachine_3 : decode xb_Z_clearMachine 3 = .ok (.ldc 1, 2) := by decide +kernel
theorem xd_Z_clearMachine_5 : decode xb_Z_clearMachine 5 = .ok (.if_icmp .ge 16, 3) := by decide +kernel
theorem xd_Z_clearMachine_8 : decode xb_Z_clearMachine 8 = .ok (.aload_n 0, 1) := by decide +kernel
theorem xd_Z_clearMachine_9 : decode xb_Z_clearMachine 9 = .ok (.getfield 2, 3) := by decide +kernel
theorem xd_Z_clearMachine_12 : decode xb_Z_clearMachine 12 = .ok (.iload_n 1, 1) := by decide +kernel
theorem xd_Z_clearMachine_13 : decode xb_Z_clearMachine 13 = .ok (.iconst 0, 1) := by decide +kernel
theorem xd_Z_clearMachine_14 : decode xb_Z_clearMachine 14 = .ok (.iastore, 1) := by decide +kernel
theorem xd_Z_clearMachine_15 : decode xb_Z_clearMachine 15 = .ok (.iinc 1 1, 3) := by decide +kernel
theorem xd_Z_clearMachine_18 : decode xb_Z_clearMachine 18 = .ok (.goto (-16), 3) := by decide +kernel
theorem xd_Z_clearMachine_21 : decode xb_Z_clearMachine 21 = .ok (.iconst 0, 1) := by decide +kernel
theorem xd_Z_clearMachine_22 : decode xb_Z_clearMachine 22 = .ok (.istore_n 1, 1) := by decide +kernel
theorem xd_Z_clearMachine_23 : decode xb_Z_clearMachine 23 = .ok (.iload_n 1, 1) := by decide +kernel
theorem xd_Z_clearMachine_24 : decode xb_Z_clearMachine 24 = .ok (.bipush 32, 2) := by decide +kernel
theorem xd_Z_clearMachine_26 : decode xb_Z_clearMachine 26 = .ok (.if_icmp .ge 16, 3) := by decide +kernel
theorem xd_Z_clearMachine_29 : decode xb_Z_clearMachine 29 = .ok (.aload_n 0, 1) := by decide +kernel
theorem xd_Z_clearMachine_30 : decode xb_Z_clearMachine 30 = .ok (.getfield 8, 3) := by decide +kernel
theorem xd_Z_clearMachine_33 : decode xb_Z_clearMachine 33 = .ok (.iload_n 1, 1) := by decide +kernel
theorem xd_Z_clearMachine_34 : decode xb_Z_clearMachine 34 = .ok (.iconst 0, 1) := by decide +kernel
theorem xd_Z_clearMachine_35 : decode xb_Z_clearMachine 35 = .ok (.iastore, 1) := by decide +kernel
theorem xd_Z_clearMachine_36 : decode xb_Z_clearMachine 36 = .ok (.iinc 1 1, 3) := by decide +kernel
theorem xd_Z_clearMachine_39 : decode xb_Z_clearMachine 39 = .ok (.goto (-16), 3) := by decide +kernel
theorem xd_Z_clearMachine_42 : decode xb_Z_clearMachine 42 = .ok (.iconst 0, 1) := by decide +kernel
theorem xd_Z_clearMachine_43 : decode xb_Z_clearMachine 43 = .ok (.istore_n 1, 1) := by decide +kernel
theorem xd_Z_clearMachine_44 : decode xb_Z_clearMachine 44 = .ok (.iload_n 1, 1) := by decide +kernel
theorem xd_Z_clearMachine_45 : decode xb_Z_clearMachine 45 = .ok (.bipush 29, 2) := by decide +kernel
theorem xd_Z_clearMachine_47 : decode xb_Z_clearMachine 47 = .ok (.if_icmp .ge 16, 3) := by decide +kernel
theorem xd_Z_clearMachine_50 : decode xb_Z_clearMachine 50 = .ok (.aload_n 0, 1) := by decide +kernel
theorem xd_Z_clearMachine_51 : decode xb_Z_clearMachine 51 = .ok (.getfield 11, 3) := by decide +kernel
theorem xd_Z_clearMachine_54 : decode xb_Z_clearMachine 54 = .ok (.iload_n 1, 1) := by decide +kernel
theorem xd_Z_clearMachine_55 : decode xb_Z_clearMachine 55 = .ok (.iconst 0, 1) := by decide +kernel
theorem xd_Z_clearMachine_56 : decode xb_Z_clearMachine 56 = .ok (.iastore, 1) := by decide +kernel
theorem xd_Z_clearMachine_57 : decode xb_Z_clearMachine 57 = .ok (.iinc 1 1, 3) := by decide +kernel
theorem xd_Z_clearMachine_60 : decode xb_Z_clearMachine 60 = .ok (.goto (-16), 3) := by decide +kernel
theorem xd_Z_clearMachine_63 : decode xb_Z_clearMachine 63 = .ok (.aload_n 0, 1) := by decide +kernel
theorem xd_Z_clearMachine_64 : decode xb_Z_clearMachine 64 = .ok (.iconst 0, 1) := by decide +kernel
theorem xd_Z_clearMachine_65 : decode xb_Z_clearMachine 65 = .ok (.putfield 14, 3) := by decide +kernel
theorem xd_Z_clearMachine_68 : decode xb_Z_clearMachine 68 = .ok (.aload_n 0, 1) := by decide +kernel
theorem xd_Z_clearMachine_69 : decode xb_Z_clearMachine 69 = .ok (.iconst 1, 1) := by decide +kernel
theorem xd_Z_clearMachine_70 : decode xb_Z_clearMachine 70 = .ok (.putfield 18, 3) := by decide +kernel
theorem xd_Z_clearMachine_73 : decode xb_Z_clearMachine 73 = .ok (.aload_n 0, 1) := by decide +kernel
theorem xd_Z_clearMachine_74 : decode xb_Z_clearMachine 74 = .ok (.lconst 0, 1) := by decide +kernel
theorem xd_Z_clearMachine_75 : decode xb_Z_clearMachine 75 = .ok (.putfield 21, 3) := by decide +kernel
theorem xd_Z_clearMachine_78 : decode xb_Z_clearMachine 78 = .ok (.aload_n 0, 1) := by decide +kernel
theorem xd_Z_clearMachine_79 : decode xb_Z_clearMachine 79 = .ok (.ldc2_w 25, 3) := by decide +kernel
theorem xd_Z_clearMachine_82 : decode xb_Z_clearMachine 82 = .ok (.putfield 27, 3) := by decide +kernel
theorem xd_Z_clearMachine_85 : decode xb_Z_clearMachine 85 = .ok (.aload_n 0, 1) := by decide +kernel
theorem xd_Z_clearMachine_86 : decode xb_Z_clearMachine 86 = .ok (.iconst 0, 1) := by decide +kernel
theorem xd_Z_clearMachine_87 : decode xb_Z_clearMachine 87 = .ok (.putfield 30, 3) := by decide +kernel
theorem xd_Z_clearMachine_90 : decode xb_Z_clearMachine 90 = .ok (.aload_n 0, 1) := by decide +kernel
theorem xd_Z_clearMachine_91 : decode xb_Z_clearMachine 91 = .ok (.iconst 0, 1) := by decide +kernel
theorem xd_Z_clearMachine_92 : decode xb_Z_clearMachine 92 = .ok (.putfield 34, 3) := by decide +kernel
theorem xd_Z_clearMachine_95 : decode xb_Z_clearMachine 95 = .ok (.aload_n 0, 1) := by decide +kernel
theorem xd_Z_clearMachine_96 : decode xb_Z_clearMachine 96 = .ok (.iconst 0, 1) := by decide +kernel
theorem xd_Z_clearMachine_97 : decode xb_Z_clearMachine 97 = .ok (.putfield 37, 3) := by decide +kernel
theorem xd_Z_clearMachine_100 : decode xb_Z_clearMachine 100 = .ok (.aload_n 0, 1) := by decide +kernel
theorem xd_Z_clearMachine_101 : decode xb_Z_clearMachine 101 = .ok (.iconst 0, 1) := by decide +kernel
theorem xd_Z_clearMachine_102 : decode xb_Z_clearMachine 102 = .ok (.putfield 40, 3) := by decide +kernel
theorem xd_Z_clearMachine_105 : decode xb_Z_clearMachine 105 = .ok (.aload_n 0, 1) := by decide +kernel
theorem xd_Z_clearMachine_106 : decode xb_Z_clearMachine 106 = .ok (.iconst 0, 1) := by decide +kernel
theorem xd_Z_clearMachine_107 : decode xb_Z_clearMachine 107 = .ok (.putfield 43, 3) := by decide +kernel
theorem xd_Z_clearMachine_110 : decode xb_Z_clearMachine 110 = .ok (.aload_n 0, 1) := by decide +kernel
theorem xd_Z_clearMachine_111 : decode xb_Z_clearMachine 111 = .ok (.iconst 0, 1) := by decide +kernel
theorem xd_Z_clearMachine_112 : decode xb_Z_clearMachine 112 = .ok (.putfield 46, 3) := by decide +kernel
theorem xd_Z_clearMachine_115 : decode xb_Z_clearMachine 115 = .ok (.return_, 1) := by decide +kernel
theorem xd_Z_isIn_0 : decode xb_Z_isIn 0 = .ok (.iload_n 0, 1) := by decide +kernel
theorem xd_Z_isIn_1 : decode xb_Z_isIn 1 = .ok (.iload_n 1, 1) := by decide +kernel
theorem xd_Z_isIn_2 : decode xb_Z_isIn 2 = .ok (.if_icmp .lt 12, 3) := by decide +kernel
theorem xd_Z_isIn_5 : decode xb_Z_isIn 5 = .ok (.iload_n 0, 1) := by decide +kernel
theorem xd_Z_isIn_6 : decode xb_Z_isIn 6 = .ok (.iload_n 2, 1) := by decide +kernel
theorem xd_Z_isIn_7 : decode xb_Z_isIn 7 = .ok (.if_icmp .gt 7, 3) := by decide +kernel
theorem xd_Z_isIn_10 : decode xb_Z_isIn 10 = .ok (.iconst 1, 1) := by decide +kernel
theorem xd_Z_isIn_11 : decode xb_Z_isIn 11 = .ok (.goto 4, 3) := by decide +kernel
theorem xd_Z_isIn_14 : decode xb_Z_isIn 14 = .ok (.iconst 0, 1) := by decide +kernel
theorem xd_Z_isIn_15 : decode xb_Z_isIn 15 = .ok (.ireturn, 1) := by decide +kernel
theorem xd_Z_indexOf_0 : decode xb_Z_indexOf 0 = .ok (.iconst 0, 1) := by decide +kernel
theorem xd_Z_indexOf_1 : decode xb_Z_indexOf 1 = .ok (.istore_n 1, 1) := by decide +kernel
theorem xd_Z_indexOf_2 : decode xb_Z_indexOf 2 = .ok (.iload_n 1, 1) := by decide +kernel
theorem xd_Z_indexOf_3 : decode xb_Z_indexOf 3 = .ok (.bipush 29, 2) := by decide +kernel
theorem xd_Z_indexOf_5 : decode xb_Z_indexOf 5 = .ok (.if_icmp .ge 20, 3) := by decide +kernel
theorem xd_Z_indexOf_8 : decode xb_Z_indexOf 8 = .ok (.getstatic 49, 3) := by decide +kernel
theorem xd_Z_indexOf_11 : decode xb_Z_indexOf 11 = .ok (.iload_n 1, 1) := by decide +kernel
theorem xd_Z_indexOf_12 : decode xb_Z_indexOf 12 = .ok (.iaload, 1) := by decide +kernel
theorem xd_Z_indexOf_13 : decode xb_Z_indexOf 13 = .ok (.iload_n 0, 1) := by decide +kernel
theorem xd_Z_indexOf_14 : decode xb_Z_indexOf 14 = .ok (.if_icmp .ne 5, 3) := by decide +kernel
theorem xd_Z_indexOf_17 : decode xb_Z_indexOf 17 = .ok (.iload_n 1, 1) := by decide +kernel
theorem xd_Z_indexOf_18 : decode xb_Z_indexOf 18 = .ok (.ireturn, 1) := by decide +kernel
theorem xd_Z_indexOf_19 : decode xb_Z_indexOf 19 = .ok (.iinc 1 1, 3) := by decide +kernel
theorem xd_Z_indexOf_22 : decode xb_Z_indexOf 22 = .ok (.goto (-20), 3) := by decide +kernel
theorem xd_Z_indexOf_25 : decode xb_Z_indexOf 25 = .ok (.iconst (-1), 1) := by decide +kernel
theorem xd_Z_indexOf_26 : decode xb_Z_indexOf 26 = .ok (.ireturn, 1) := by decide +kernel
theorem xd_Z_value_0 : decode xb_Z_value 0 = .ok (.aload_n 0, 1) := by decide +kernel
theorem xd_Z_value_1 : decode xb_Z_value 1 = .ok (.getfield 11, 3) := by decide +kernel
theorem xd_Z_value_4 : decode xb_Z_value 4 = .ok (.iload_n 1, 1) := by decide +kernel
theorem xd_Z_value_5 : decode xb_Z_value 5 = .ok (.invokestatic 52, 3) := by decide +kernel
theorem xd_Z_value_8 : decode xb_Z_value 8 = .ok (.iaload, 1) := by decide +kernel
theorem xd_Z_value_9 : decode xb_Z_value 9 = .ok (.ireturn, 1) := by decide +kernel
theorem xd_Z_become_0 : decode xb_Z_become 0 = .ok (.aload_n 0, 1) := by decide +kernel
theorem xd_Z_become_1 : decode xb_Z_become 1 = .ok (.getfield 11, 3) := by decide +kernel
theorem xd_Z_become_4 : decode xb_Z_become 4 = .ok (.iload_n 1, 1) := by decide +kernel
theorem xd_Z_become_5 : decode xb_Z_become 5 = .ok (.invokestatic 52, 3) := by decide +kernel
theorem xd_Z_become_8 : decode xb_Z_become 8 = .ok (.iload_n 2, 1) := by decide +kernel
theorem xd_Z_become_9 : decode xb_Z_become 9 = .ok (.iastore, 1) := by decide +kernel
theorem xd_Z_become_10 : decode xb_Z_become 10 = .ok (.return_, 1) := by decide +kernel
theorem xd_Z_bit_0 : decode xb_Z_bit 0 = .ok (.aload_n 0, 1) := by decide +kernel
theorem xd_Z_bit_1 : decode xb_Z_bit 1 = .ok (.iload_n 1, 1) := by decide +kernel
theorem xd_Z_bit_2 : decode xb_Z_bit 2 = .ok (.invokevirtual 56, 3) := by decide +kernel
theorem xd_Z_bit_5 : decode xb_Z_bit 5 = .ok (.iload_n 2, 1) := by decide +kernel
theorem xd_Z_bit_6 : decode xb_Z_bit 6 = .ok (.ishr, 1) := by decide +kernel
theorem xd_Z_bit_7 : decode xb_Z_bit 7 = .ok (.iconst 1, 1) := by decide +kernel
theorem xd_Z_bit_8 : decode xb_Z_bit 8 = .ok (.iand, 1) := by decide +kernel
theorem xd_Z_bit_9 : decode xb_Z_bit 9 = .ok (.iconst 1, 1) := by decide +kernel
theorem xd_Z_bit_10 : decode xb_Z_bit 10 = .ok (.if_icmp .ne 7, 3) := by decide +kernel
theorem xd_Z_bit_13 : decode xb_Z_bit 13 = .ok (.iconst 1, 1) := by decide +kernel
theorem xd_Z_bit_14 : decode xb_Z_bit 14 = .ok (.goto 4, 3) := by decide +kernel
theorem xd_Z_bit_17 : decode xb_Z_bit 17 = .ok (.iconst 0, 1) := by decide +kernel
theorem xd_Z_bit_18 : decode xb_Z_bit 18 = .ok (.ireturn, 1) := by decide +kernel
theorem xd_Z_setBit_0 : decode xb_Z_setBit 0 = .ok (.aload_n 0, 1) := by decide +kernel
theorem xd_Z_setBit_1 : decode xb_Z_setBit 1 = .ok (.iload_n 1, 1) := by decide +kernel
theorem xd_Z_setBit_2 : decode xb_Z_setBit 2 = .ok (.iload_n 3, 1) := by decide +kernel
theorem xd_Z_setBit_3 : decode xb_Z_setBit 3 = .ok (.ifCond .eq 15, 3) := by decide +kernel
theorem xd_Z_setBit_6 : decode xb_Z_setBit 6 = .ok (.aload_n 0, 1) := by decide +kernel
theorem xd_Z_setBit_7 : decode xb_Z_setBit 7 = .ok (.iload_n 1, 1) := by decide +kernel
theorem xd_Z_setBit_8 : decode xb_Z_setBit 8 = .ok (.invokevirtual 56, 3) := by decide +kernel
theorem xd_Z_setBit_11 : decode xb_Z_setBit 11 = .ok (.iconst 1, 1) := by decide +kernel
theorem xd_Z_setBit_12 : decode xb_Z_setBit 12 = .ok (.iload_n 2, 1) := by decide +kernel
theorem xd_Z_setBit_13 : decode xb_Z_setBit 13 = .ok (.ishl, 1) := by decide +kernel
theorem xd_Z_setBit_14 : decode xb_Z_setBit 14 = .ok (.ior, 1) := by decide +kernel
theorem xd_Z_setBit_15 : decode xb_Z_setBit 15 = .ok (.goto 14, 3) := by decide +kernel
theorem xd_Z_setBit_18 : decode xb_Z_setBit 18 = .ok (.aload_n 0, 1) := by decide +kernel
theorem xd_Z_setBit_19 : decode xb_Z_setBit 19 = .ok (.iload_n 1, 1) := by decide +kernel
theorem xd_Z_setBit_20 : decode xb_Z_setBit 20 = .ok (.invokevirtual 56, 3) := by decide +kernel
theorem xd_Z_setBit_23 : decode xb_Z_setBit 23 = .ok (.iconst 1, 1) := by decide +kernel
theorem xd_Z_setBit_24 : decode xb_Z_setBit 24 = .ok (.iload_n 2, 1) := by decide +kernel
theorem xd_Z_setBit_25 : decode xb_Z_setBit 25 = .ok (.ishl, 1) := by decide +kernel
theorem xd_Z_setBit_26 : decode xb_Z_setBit 26 = .ok (.iconst (-1), 1) := by decide +kernel
theorem xd_Z_setBit_27 : decode xb_Z_setBit 27 = .ok (.ixor, 1) := by decide +kernel
theorem xd_Z_setBit_28 : decode xb_Z_setBit 28 = .ok (.iand, 1) := by decide +kernel
theorem xd_Z_setBit_29 : decode xb_Z_setBit 29 = .ok (.invokevirtual 59, 3) := by decide +kernel
theorem xd_Z_setBit_32 : decode xb_Z_setBit 32 = .ok (.return_, 1) := by decide +kernel
theorem xd_Z_kept_0 : decode xb_Z_kept 0 = .ok (.iload_n 0, 1) := by decide +kernel
theorem xd_Z_kept_1 : decode xb_Z_kept 1 = .ok (.lookupswitch 170 #[(256, 139), (260, 142), (261, 146), (321, 149), (324, 152), (384, 154), (512, 139), (517, 146), (577, 149), (640, 154), (1536, 157), (1538, 160), (1539, 163), (1540, 163), (1605, 163), (1664, 167)], 139) := by decide +kernel
theorem xd_Z_kept_140 : decode xb_Z_kept 140 = .ok (.ldc 63, 2) := by decide +kernel
theorem xd_Z_kept_142 : decode xb_Z_kept 142 = .ok (.ireturn, 1) := by decide +kernel
theorem xd_Z_kept_143 : decode xb_Z_kept 143 = .ok (.sipush 546, 3) := by decide +kernel
