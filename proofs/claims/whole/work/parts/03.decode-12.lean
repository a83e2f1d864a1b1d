theorem xd_D_d_6 : decode xb_D_d 6 = .ok (.iand, 1) := by decide +kernel
theorem xd_D_d_7 : decode xb_D_d 7 = .ok (.ireturn, 1) := by decide +kernel
theorem xd_D_f_0 : decode xb_D_f 0 = .ok (.iload_n 0, 1) := by decide +kernel
theorem xd_D_f_1 : decode xb_D_f 1 = .ok (.bipush 12, 2) := by decide +kernel
theorem xd_D_f_3 : decode xb_D_f 3 = .ok (.iushr, 1) := by decide +kernel
theorem xd_D_f_4 : decode xb_D_f 4 = .ok (.bipush 7, 2) := by decide +kernel
theorem xd_D_f_6 : decode xb_D_f 6 = .ok (.iand, 1) := by decide +kernel
theorem xd_D_f_7 : decode xb_D_f 7 = .ok (.ireturn, 1) := by decide +kernel
theorem xd_D_a_0 : decode xb_D_a 0 = .ok (.iload_n 0, 1) := by decide +kernel
theorem xd_D_a_1 : decode xb_D_a 1 = .ok (.bipush 15, 2) := by decide +kernel
theorem xd_D_a_3 : decode xb_D_a 3 = .ok (.iushr, 1) := by decide +kernel
theorem xd_D_a_4 : decode xb_D_a 4 = .ok (.bipush 31, 2) := by decide +kernel
theorem xd_D_a_6 : decode xb_D_a 6 = .ok (.iand, 1) := by decide +kernel
theorem xd_D_a_7 : decode xb_D_a 7 = .ok (.ireturn, 1) := by decide +kernel
theorem xd_D_b_0 : decode xb_D_b 0 = .ok (.iload_n 0, 1) := by decide +kernel
theorem xd_D_b_1 : decode xb_D_b 1 = .ok (.bipush 20, 2) := by decide +kernel
theorem xd_D_b_3 : decode xb_D_b 3 = .ok (.iushr, 1) := by decide +kernel
theorem xd_D_b_4 : decode xb_D_b 4 = .ok (.bipush 31, 2) := by decide +kernel
theorem xd_D_b_6 : decode xb_D_b 6 = .ok (.iand, 1) := by decide +kernel
theorem xd_D_b_7 : decode xb_D_b 7 = .ok (.ireturn, 1) := by decide +kernel
theorem xd_D_g_0 : decode xb_D_g 0 = .ok (.iload_n 0, 1) := by decide +kernel
theorem xd_D_g_1 : decode xb_D_g 1 = .ok (.bipush 25, 2) := by decide +kernel
theorem xd_D_g_3 : decode xb_D_g 3 = .ok (.iushr, 1) := by decide +kernel
theorem xd_D_g_4 : decode xb_D_g 4 = .ok (.ireturn, 1) := by decide +kernel
theorem xd_D_immediate_0 : decode xb_D_immediate 0 = .ok (.iload_n 0, 1) := by decide +kernel
theorem xd_D_immediate_1 : decode xb_D_immediate 1 = .ok (.bipush 20, 2) := by decide +kernel
theorem xd_D_immediate_3 : decode xb_D_immediate 3 = .ok (.ishr, 1) := by decide +kernel
theorem xd_D_immediate_4 : decode xb_D_immediate 4 = .ok (.ireturn, 1) := by decide +kernel
theorem xd_D_storeOffset_0 : decode xb_D_storeOffset 0 = .ok (.iload_n 0, 1) := by decide +kernel
theorem xd_D_storeOffset_1 : decode xb_D_storeOffset 1 = .ok (.bipush 25, 2) := by decide +kernel
theorem xd_D_storeOffset_3 : decode xb_D_storeOffset 3 = .ok (.ishr, 1) := by decide +kernel
theorem xd_D_storeOffset_4 : decode xb_D_storeOffset 4 = .ok (.iconst 5, 1) := by decide +kernel
theorem xd_D_storeOffset_5 : decode xb_D_storeOffset 5 = .ok (.ishl, 1) := by decide +kernel
theorem xd_D_storeOffset_6 : decode xb_D_storeOffset 6 = .ok (.iload_n 0, 1) := by decide +kernel
theorem xd_D_storeOffset_7 : decode xb_D_storeOffset 7 = .ok (.invokestatic 7, 3) := by decide +kernel
theorem xd_D_storeOffset_10 : decode xb_D_storeOffset 10 = .ok (.ior, 1) := by decide +kernel
theorem xd_D_storeOffset_11 : decode xb_D_storeOffset 11 = .ok (.ireturn, 1) := by decide +kernel
theorem xd_D_branchOffset_0 : decode xb_D_branchOffset 0 = .ok (.iload_n 0, 1) := by decide +kernel
theorem xd_D_branchOffset_1 : decode xb_D_branchOffset 1 = .ok (.bipush 31, 2) := by decide +kernel
theorem xd_D_branchOffset_3 : decode xb_D_branchOffset 3 = .ok (.ishr, 1) := by decide +kernel
theorem xd_D_branchOffset_4 : decode xb_D_branchOffset 4 = .ok (.bipush 12, 2) := by decide +kernel
theorem xd_D_branchOffset_6 : decode xb_D_branchOffset 6 = .ok (.ishl, 1) := by decide +kernel
theorem xd_D_branchOffset_7 : decode xb_D_branchOffset 7 = .ok (.iload_n 0, 1) := by decide +kernel
theorem xd_D_branchOffset_8 : decode xb_D_branchOffset 8 = .ok (.bipush 7, 2) := by decide +kernel
theorem xd_D_branchOffset_10 : decode xb_D_branchOffset 10 = .ok (.iushr, 1) := by decide +kernel
theorem xd_D_branchOffset_11 : decode xb_D_branchOffset 11 = .ok (.iconst 1, 1) := by decide +kernel
theorem xd_D_branchOffset_12 : decode xb_D_branchOffset 12 = .ok (.iand, 1) := by decide +kernel
theorem xd_D_branchOffset_13 : decode xb_D_branchOffset 13 = .ok (.bipush 11, 2) := by decide +kernel
theorem xd_D_branchOffset_15 : decode xb_D_branchOffset 15 = .ok (.ishl, 1) := by decide +kernel
theorem xd_D_branchOffset_16 : decode xb_D_branchOffset 16 = .ok (.ior, 1) := by decide +kernel
theorem xd_D_branchOffset_17 : decode xb_D_branchOffset 17 = .ok (.iload_n 0, 1) := by decide +kernel
theorem xd_D_branchOffset_18 : decode xb_D_branchOffset 18 = .ok (.bipush 25, 2) := by decide +kernel
theorem xd_D_branchOffset_20 : decode xb_D_branchOffset 20 = .ok (.iushr, 1) := by decide +kernel
theorem xd_D_branchOffset_21 : decode xb_D_branchOffset 21 = .ok (.bipush 63, 2) := by decide +kernel
theorem xd_D_branchOffset_23 : decode xb_D_branchOffset 23 = .ok (.iand, 1) := by decide +kernel
theorem xd_D_branchOffset_24 : decode xb_D_branchOffset 24 = .ok (.iconst 5, 1) := by decide +kernel
theorem xd_D_branchOffset_25 : decode xb_D_branchOffset 25 = .ok (.ishl, 1) := by decide +kernel
theorem xd_D_branchOffset_26 : decode xb_D_branchOffset 26 = .ok (.ior, 1) := by decide +kernel
theorem xd_D_branchOffset_27 : decode xb_D_branchOffset 27 = .ok (.iload_n 0, 1) := by decide +kernel
theorem xd_D_branchOffset_28 : decode xb_D_branchOffset 28 = .ok (.bipush 8, 2) := by decide +kernel
theorem xd_D_branchOffset_30 : decode xb_D_branchOffset 30 = .ok (.iushr, 1) := by decide +kernel
theorem xd_D_branchOffset_31 : decode xb_D_branchOffset 31 = .ok (.bipush 15, 2) := by decide +kernel
theorem xd_D_branchOffset_33 : decode xb_D_branchOffset 33 = .ok (.iand, 1) := by decide +kernel
theorem xd_D_branchOffset_34 : decode xb_D_branchOffset 34 = .ok (.iconst 1, 1) := by decide +kernel
theorem xd_D_branchOffset_35 : decode xb_D_branchOffset 35 = .ok (.ishl, 1) := by decide +kernel
theorem xd_D_branchOffset_36 : decode xb_D_branchOffset 36 = .ok (.ior, 1) := by decide +kernel
theorem xd_D_branchOffset_37 : decode xb_D_branchOffset 37 = .ok (.ireturn, 1) := by decide +kernel
theorem xd_D_jumpOffset_0 : decode xb_D_jumpOffset 0 = .ok (.iload_n 0, 1) := by decide +kernel
theorem xd_D_jumpOffset_1 : decode xb_D_jumpOffset 1 = .ok (.bipush 31, 2) := by decide +kernel
theorem xd_D_jumpOffset_3 : decode xb_D_jumpOffset 3 = .ok (.ishr, 1) := by decide +kernel
theorem xd_D_jumpOffset_4 : decode xb_D_jumpOffset 4 = .ok (.bipush 20, 2) := by decide +kernel
theorem xd_D_jumpOffset_6 : decode xb_D_jumpOffset 6 = .ok (.ishl, 1) := by decide +kernel
theorem xd_D_jumpOffset_7 : decode xb_D_jumpOffset 7 = .ok (.iload_n 0, 1) := by decide +kernel
theorem xd_D_jumpOffset_8 : decode xb_D_jumpOffset 8 = .ok (.ldc 13, 2) := by decide +kernel
theorem xd_D_jumpOffset_10 : decode xb_D_jumpOffset 10 = .ok (.iand, 1) := by decide +kernel
theorem xd_D_jumpOffset_11 : decode xb_D_jumpOffset 11 = .ok (.ior, 1) := by decide +kernel
theorem xd_D_jumpOffset_12 : decode xb_D_jumpOffset 12 = .ok (.iload_n 0, 1) := by decide +kernel
theorem xd_D_jumpOffset_13 : decode xb_D_jumpOffset 13 = .ok (.bipush 20, 2) := by decide +kernel
theorem xd_D_jumpOffset_15 : decode xb_D_jumpOffset 15 = .ok (.iushr, 1) := by decide +kernel
theorem xd_D_jumpOffset_16 : decode xb_D_jumpOffset 16 = .ok (.iconst 1, 1) := by decide +kernel
theorem xd_D_jumpOffset_17 : decode xb_D_jumpOffset 17 = .ok (.iand, 1) := by decide +kernel
theorem xd_D_jumpOffset_18 : decode xb_D_jumpOffset 18 = .ok (.bipush 11, 2) := by decide +kernel
theorem xd_D_jumpOffset_20 : decode xb_D_jumpOffset 20 = .ok (.ishl, 1) := by decide +kernel
theorem xd_D_jumpOffset_21 : decode xb_D_jumpOffset 21 = .ok (.ior, 1) := by decide +kernel
theorem xd_D_jumpOffset_22 : decode xb_D_jumpOffset 22 = .ok (.iload_n 0, 1) := by decide +kernel
theorem xd_D_jumpOffset_23 : decode xb_D_jumpOffset 23 = .ok (.bipush 21, 2) := by decide +kernel
theorem xd_D_jumpOffset_25 : decode xb_D_jumpOffset 25 = .ok (.iushr, 1) := by decide +kernel
theorem xd_D_jumpOffset_26 : decode xb_D_jumpOffset 26 = .ok (.sipush 1023, 3) := by decide +kernel
theorem xd_D_jumpOffset_29 : decode xb_D_jumpOffset 29 = .ok (.iand, 1) := by decide +kernel
theorem xd_D_jumpOffset_30 : decode xb_D_jumpOffset 30 = .ok (.iconst 1, 1) := by decide +kernel
theorem xd_D_jumpOffset_31 : decode xb_D_jumpOffset 31 = .ok (.ishl, 1) := by decide +kernel
theorem xd_D_jumpOffset_32 : decode xb_D_jumpOffset 32 = .ok (.ior, 1) := by decide +kernel
theorem xd_D_jumpOffset_33 : decode xb_D_jumpOffset 33 = .ok (.ireturn, 1) := by decide +kernel
theorem xd_D_upper_0 : decode xb_D_upper 0 = .ok (.iload_n 0, 1) := by decide +kernel
theorem xd_D_upper_1 : decode xb_D_upper 1 = .ok (.sipush (-4096), 3) := by decide +kernel
theorem xd_D_upper_4 : decode xb_D_upper 4 = .ok (.iand, 1) := by decide +kernel
theorem xd_D_upper_5 : decode xb_D_upper 5 = .ok (.ireturn, 1) := by decide +kernel
theorem xd_F_init_0 : decode xb_F_init 0 = .ok (.aload_n 0, 1) := by decide +kernel
theorem xd_F_init_1 : decode xb_F_init 1 = .ok (.invokespecial 3, 3) := by decide +kernel
theorem xd_F_init_4 : decode xb_F_init 4 = .ok (.aload_n 0, 1) := by decide +kernel
theorem xd_F_init_5 : decode xb_F_init 5 = .ok (.sipush 1024, 3) := by decide +kernel
theorem xd_F_init_8 : decode xb_F_init 8 = .ok (.newarray .int, 2) := by decide +kernel
theorem xd_F_init_10 : decode xb_F_init 10 = .ok (.putfield 9, 3) := by decide +kernel
theorem xd_F_init_13 : decode xb_F_init 13 = .ok (.return_, 1) := by decide +kernel
theorem xd_M_init_0 : decode xb_M_init 0 = .ok (.aload_n 0, 1) := by decide +kernel
theorem xd_M_init_1 : decode xb_M_init 1 = .ok (.invokespecial 3, 3) := by decide +kernel
theorem xd_M_init_4 : decode xb_M_init 4 = .ok (.aload_n 0, 1) := by decide +kernel
theorem xd_M_init_5 : decode xb_M_init 5 = .ok (.iload_n 1, 1) := by decide +kernel
theorem xd_M_init_6 : decode xb_M_init 6 = .ok (.anewarray 9, 3) := by decide +kernel
theorem xd_M_init_9 : decode xb_M_init 9 = .ok (.putfield 11, 3) := by decide +kernel
theorem xd_M_init_12 : decode xb_M_init 12 = .ok (.return_, 1) := by decide +kernel
theorem xd_M_clear_0 : decode xb_M_clear 0 = .ok (.aload_n 0, 1) := by decide +kernel
theorem xd_M_clear_1 : decode xb_M_clear 1 = .ok (.iconst 0, 1) := by decide +kernel
theorem xd_M_clear_2 : decode xb_M_clear 2 = .ok (.putfield 17, 3) := by decide +kernel
theorem xd_M_clear_5 : decode xb_M_clear 5 = .ok (.iconst 0, 1) := by decide +kernel
theorem xd_M_clear_6 : decode xb_M_clear 6 = .ok (.istore_n 1, 1) := by decide +kernel
theorem xd_M_clear_7 : decode xb_M_clear 7 = .ok (.iload_n 1, 1) := by decide +kernel
theorem xd_M_clear_8 : decode xb_M_clear 8 = .ok (.aload_n 0, 1) := by decide +kernel
theorem xd_M_clear_9 : decode xb_M_clear 9 = .ok (.getfield 11, 3) := by decide +kernel
theorem xd_M_clear_12 : decode xb_M_clear 12 = .ok (.arraylength, 1) := by decide +kernel
theorem xd_M_clear_13 : decode xb_M_clear 13 = .ok (.if_icmp .ge 28, 3) := by decide +kernel
theorem xd_M_clear_16 : decode xb_M_clear 16 = .ok (.aload_n 0, 1) := by decide +kernel
theorem xd_M_clear_17 : decode xb_M_clear 17 = .ok (.getfield 11, 3) := by decide +kernel
theorem xd_M_clear_20 : decode xb_M_clear 20 = .ok (.iload_n 1, 1) := by decide +kernel
theorem xd_M_clear_21 : decode xb_M_clear 21 = .ok (.aaload, 1) := by decide +kernel
theorem xd_M_clear_22 : decode xb_M_clear 22 = .ok (.astore_n 2, 1) := by decide +kernel
theorem xd_M_clear_23 : decode xb_M_clear 23 = .ok (.aload_n 2, 1) := by decide +kernel
theorem xd_M_clear_24 : decode xb_M_clear 24 = .ok (.ifnull 11, 3) := by decide +kernel
theorem xd_M_clear_27 : decode xb_M_clear 27 = .ok (.aload_n 2, 1) := by decide +kernel
theorem xd_M_clear_28 : decode xb_M_clear 28 = .ok (.getfield 21, 3) := by decide +kernel
theorem xd_M_clear_31 : decode xb_M_clear 31 = .ok (.iconst 0, 1) := by decide +kernel
theorem xd_M_clear_32 : decode xb_M_clear 32 = .ok (.invokestatic 25, 3) := by decide +kernel
theorem xd_M_clear_35 : decode xb_M_clear 35 = .ok (.iinc 1 1, 3) := by decide +kernel
theorem xd_M_clear_38 : decode xb_M_clear 38 = .ok (.goto (-31), 3) := by decide +kernel
theorem xd_M_clear_41 : decode xb_M_clear 41 = .ok (.return_, 1) := by decide +kernel
theorem xd_M_readWord_0 : decode xb_M_readWord 0 = .ok (.iload_n 1, 1) := by decide +kernel
theorem xd_M_readWord_1 : decode xb_M_readWord 1 = .ok (.bipush 12, 2) := by decide +kernel
theorem xd_M_readWord_3 : decode xb_M_readWord 3 = .ok (.iushr, 1) := by decide +kernel
theorem xd_M_readWord_4 : decode xb_M_readWord 4 = .ok (.istore_n 2, 1) := by decide +kernel
theorem xd_M_readWord_5 : decode xb_M_readWord 5 = .ok (.iload_n 2, 1) := by decide +kernel
theorem xd_M_readWord_6 : decode xb_M_readWord 6 = .ok (.aload_n 0, 1) := by decide +kernel
theorem xd_M_readWord_7 : decode xb_M_readWord 7 = .ok (.getfield 11, 3) := by decide +kernel
theorem xd_M_readWord_10 : decode xb_M_readWord 10 = .ok (.arraylength, 1) := by decide +kernel
theorem xd_M_readWord_11 : decode xb_M_readWord 11 = .ok (.if_icmp .lt 15, 3) := by decide +kernel
theorem xd_M_readWord_14 : decode xb_M_readWord 14 = .ok (.aload_n 0, 1) := by decide +kernel
theorem xd_M_readWord_15 : decode xb_M_readWord 15 = .ok (.dup, 1) := by decide +kernel
theorem xd_M_readWord_16 : decode xb_M_readWord 16 = .ok (.getfield 17, 3) := by decide +kernel
theorem xd_M_readWord_19 : decode xb_M_readWord 19 = .ok (.iconst 1, 1) := by decide +kernel
theorem xd_M_readWord_20 : decode xb_M_readWord 20 = .ok (.iadd, 1) := by decide +kernel
theorem xd_M_readWord_21 : decode xb_M_readWord 21 = .ok (.putfield 17, 3) := by decide +kernel
theorem xd_M_readWord_24 : decode xb_M_readWord 24 = .ok (.iconst 0, 1) := by decide +kernel
theorem xd_M_readWord_25 : decode xb_M_readWord 25 = .ok (.ireturn, 1) := by decide +kernel
theorem xd_M_readWord_26 : decode xb_M_readWord 26 = .ok (.aload_n 0, 1) := by decide +kernel
theorem xd_M_readWord_27 : decode xb_M_readWord 27 = .ok (.getfield 11, 3) := by decide +kernel
theorem xd_M_readWord_30 : decode xb_M_readWord 30 = .ok (.iload_n 2, 1) := by decide +kernel
theorem xd_M_readWord_31 : decode xb_M_readWord 31 = .ok (.aaload, 1) := by decide +kernel
theorem xd_M_readWord_32 : decode xb_M_readWord 32 = .ok (.astore_n 3, 1) := by decide +kernel
theorem xd_M_readWord_33 : decode xb_M_readWord 33 = .ok (.aload_n 3, 1) := by decide +kernel
theorem xd_M_readWord_34 : decode xb_M_readWord 34 = .ok (.ifnonnull 7, 3) := by decide +kernel
theorem xd_M_readWord_37 : decode xb_M_readWord 37 = .ok (.iconst 0, 1) := by decide +kernel
theorem xd_M_readWord_38 : decode xb_M_readWord 38 = .ok (.goto 15, 3) := by decide +kernel
theorem xd_M_readWord_41 : decode xb_M_readWord 41 = .ok (.aload_n 3, 1) := by decide +kernel
theorem xd_M_readWord_42 : decode xb_M_readWord 42 = .ok (.getfield 21, 3) := by decide +kernel
theorem xd_M_readWord_45 : decode xb_M_readWord 45 = .ok (.iload_n 1, 1) := by decide +kernel
theorem xd_M_readWord_46 : decode xb_M_readWord 46 = .ok (.iconst 2, 1) := by decide +kernel
theorem xd_M_readWord_47 : decode xb_M_readWord 47 = .ok (.iushr, 1) := by decide +kernel
theorem xd_M_readWord_48 : decode xb_M_readWord 48 = .ok (.sipush 1023, 3) := by decide +kernel
theorem xd_M_readWord_51 : decode xb_M_readWord 51 = .ok (.iand, 1) := by decide +kernel
theorem xd_M_readWord_52 : decode xb_M_readWord 52 = .ok (.iaload, 1) := by decide +kernel
theorem xd_M_readWord_53 : decode xb_M_readWord 53 = .ok (.ireturn, 1) := by decide +kernel
theorem xd_M_writeWord_0 : decode xb_M_writeWord 0 = .ok (.iload_n 1, 1) := by decide +kernel
theorem xd_M_writeWord_1 : decode xb_M_writeWord 1 = .ok (.bipush 12, 2) := by decide +kernel
theorem xd_M_writeWord_3 : decode xb_M_writeWord 3 = .ok (.iushr, 1) := by decide +kernel
theorem xd_M_writeWord_4 : decode xb_M_writeWord 4 = .ok (.istore_n 3, 1) := by decide +kernel
theorem xd_M_writeWord_5 : decode xb_M_writeWord 5 = .ok (.iload_n 3, 1) := by decide +kernel
theorem xd_M_writeWord_6 : decode xb_M_writeWord 6 = .ok (.aload_n 0, 1) := by decide +kernel
theorem xd_M_writeWord_7 : decode xb_M_writeWord 7 = .ok (.getfield 11, 3) := by decide +kernel
theorem xd_M_writeWord_10 : decode xb_M_writeWord 10 = .ok (.arraylength, 1) := by decide +kernel
theorem xd_M_writeWord_11 : decode xb_M_writeWord 11 = .ok (.if_icmp .lt 14, 3) := by decide +kernel
theorem xd_M_writeWord_14 : decode xb_M_writeWord 14 = .ok (.aload_n 0, 1) := by decide +kernel
theorem xd_M_writeWord_15 : decode xb_M_writeWord 15 = .ok (.dup, 1) := by decide +kernel
theorem xd_M_writeWord_16 : decode xb_M_writeWord 16 = .ok (.getfield 17, 3) := by decide +kernel
theorem xd_M_writeWord_19 : decode xb_M_writeWord 19 = .ok (.iconst 1, 1) := by decide +kernel
theorem xd_M_writeWord_20 : decode xb_M_writeWord 20 = .ok (.iadd, 1) := by decide +kernel
theorem xd_M_writeWord_21 : decode xb_M_writeWord 21 = .ok (.putfield 17, 3) := by decide +kernel
theorem xd_M_writeWord_24 : decode xb_M_writeWord 24 = .ok (.return_, 1) := by decide +kernel
theorem xd_M_writeWord_25 : decode xb_M_writeWord 25 = .ok (.aload_n 0, 1) := by decide +kernel
theorem xd_M_writeWord_26 : decode xb_M_writeWord 26 = .ok (.getfield 11, 3) := by decide +kernel
theorem xd_M_writeWord_29 : decode xb_M_writeWord 29 = .ok (.iload_n 3, 1) := by decide +kernel
theorem xd_M_writeWord_30 : decode xb_M_writeWord 30 = .ok (.aaload, 1) := by decide +kernel
theorem xd_M_writeWord_31 : decode xb_M_writeWord 31 = .ok (.astore 4, 2) := by decide +kernel
theorem xd_M_writeWord_33 : decode xb_M_writeWord 33 = .ok (.aload 4, 2) := by decide +kernel
theorem xd_M_writeWord_35 : decode xb_M_writeWord 35 = .ok (.ifnonnull 20, 3) := by decide +kernel
theorem xd_M_writeWord_38 : decode xb_M_writeWord 38 = .ok (.new 9, 3) := by decide +kernel
theorem xd_M_writeWord_41 : decode xb_M_writeWord 41 = .ok (.dup, 1) := by decide +kernel
theorem xd_M_writeWord_42 : decode xb_M_writeWord 42 = .ok (.invokespecial 31, 3) := by decide +kernel
theorem xd_M_writeWord_45 : decode xb_M_writeWord 45 = .ok (.astore 4, 2) := by decide +kernel
theorem xd_M_writeWord_47 : decode xb_M_writeWord 47 = .ok (.aload_n 0, 1) := by decide +kernel
theorem xd_M_writeWord_48 : decode xb_M_writeWord 48 = .ok (.getfield 11, 3) := by decide +kernel
theorem xd_M_writeWord_51 : decode xb_M_writeWord 51 = .ok (.iload_n 3, 1) := by decide +kernel
theorem xd_M_writeWord_52 : decode xb_M_writeWord 52 = .ok (.aload 4, 2) := by decide +kernel
theorem xd_M_writeWord_54 : decode xb_M_writeWord 54 = .ok (.aastore, 1) := by decide +kernel
theorem xd_M_writeWord_55 : decode xb_M_writeWord 55 = .ok (.aload 4, 2) := by decide +kernel
theorem xd_M_writeWord_57 : decode xb_M_writeWord 57 = .ok (.getfield 21, 3) := by decide +kernel
theorem xd_M_writeWord_60 : decode xb_M_writeWord 60 = .ok (.iload_n 1, 1) := by decide +kernel
theorem xd_M_writeWord_61 : decode xb_M_writeWord 61 = .ok (.iconst 2, 1) := by decide +kernel
theorem xd_M_writeWord_62 : decode xb_M_writeWord 62 = .ok (.iushr, 1) := by decide +kernel
theorem xd_M_writeWord_63 : decode xb_M_writeWord 63 = .ok (.sipush 1023, 3) := by decide +kernel
theorem xd_M_writeWord_66 : decode xb_M_writeWord 66 = .ok (.iand, 1) := by decide +kernel
theorem xd_M_writeWord_67 : decode xb_M_writeWord 67 = .ok (.iload_n 2, 1) := by decide +kernel
theorem xd_M_writeWord_68 : decode xb_M_writeWord 68 = .ok (.iastore, 1) := by decide +kernel
theorem xd_M_writeWord_69 : decode xb_M_writeWord 69 = .ok (.return_, 1) := by decide +kernel
theorem xd_M_read_0 : decode xb_M_read 0 = .ok (.aload_n 0, 1) := by decide +kernel
theorem xd_M_read_1 : decode xb_M_read 1 = .ok (.iload_n 1, 1) := by decide +kernel
theorem xd_M_read_2 : decode xb_M_read 2 = .ok (.invokevirtual 32, 3) := by decide +kernel
theorem xd_M_read_5 : decode xb_M_read 5 = .ok (.bipush 8, 2) := by decide +kernel
theorem xd_M_read_7 : decode xb_M_read 7 = .ok (.iload_n 1, 1) := by decide +kernel
theorem xd_M_read_8 : decode xb_M_read 8 = .ok (.iconst 3, 1) := by decide +kernel
theorem xd_M_read_9 : decode xb_M_read 9 = .ok (.iand, 1) := by decide +kernel
theorem xd_M_read_10 : decode xb_M_read 10 = .ok (.imul, 1) := by decide +kernel
theorem xd_M_read_11 : decode xb_M_read 11 = .ok (.iushr, 1) := by decide +kernel
theorem xd_M_read_12 : decode xb_M_read 12 = .ok (.istore_n 3, 1) := by decide +kernel
theorem xd_M_read_13 : decode xb_M_read 13 = .ok (.iload_n 2, 1) := by decide +kernel
theorem xd_M_read_14 : decode xb_M_read 14 = .ok (.ifCond .ne 6, 3) := by decide +kernel
theorem xd_M_read_17 : decode xb_M_read 17 = .ok (.iload_n 3, 1) := by decide +kernel
theorem xd_M_read_18 : decode xb_M_read 18 = .ok (.i2b, 1) := by decide +kernel
theorem xd_M_read_19 : decode xb_M_read 19 = .ok (.ireturn, 1) := by decide +kernel
theorem xd_M_read_20 : decode xb_M_read 20 = .ok (.iload_n 2, 1) := by decide +kernel
theorem xd_M_read_21 : decode xb_M_read 21 = .ok (.iconst 1, 1) := by decide +kernel
theorem xd_M_read_22 : decode xb_M_read 22 = .ok (.if_icmp .ne 8, 3) := by decide +kernel
theorem xd_M_read_25 : decode xb_M_read 25 = .ok (.iload_n 3, 1) := by decide +kernel
theorem xd_M_read_26 : decode xb_M_read 26 = .ok (.i2s, 1) := by decide +kernel
theorem xd_M_read_27 : decode xb_M_read 27 = .ok (.goto 4, 3) := by decide +kernel
theorem xd_M_read_30 : decode xb_M_read 30 = .ok (.iload_n 3, 1) := by decide +kernel
theorem xd_M_read_31 : decode xb_M_read 31 = .ok (.ireturn, 1) := by decide +kernel
theorem xd_M_write_0 : decode xb_M_write 0 = .ok (.iload_n 2, 1) := by decide +kernel
theorem xd_M_write_1 : decode xb_M_write 1 = .ok (.iconst 2, 1) := by decide +kernel
theorem xd_M_write_2 : decode xb_M_write 2 = .ok (.if_icmp .ne 10, 3) := by decide +kernel
theorem xd_M_write_5 : decode xb_M_write 5 = .ok (.aload_n 0, 1) := by decide +kernel
theorem xd_M_write_6 : decode xb_M_write 6 = .ok (.iload_n 1, 1) := by decide +kernel
theorem xd_M_write_7 : decode xb_M_write 7 = .ok (.iload_n 3, 1) := by decide +kernel
theorem xd_M_write_8 : decode xb_M_write 8 = .ok (.invokevirtual 36, 3) := by decide +kernel
theorem xd_M_write_11 : decode xb_M_write 11 = .ok (.return_, 1) := by decide +kernel
theorem xd_M_write_12 : decode xb_M_write 12 = .ok (.bipush 8, 2) := by decide +kernel
theorem xd_M_write_14 : decode xb_M_write 14 = .ok (.iload_n 1, 1) := by decide +kernel
theorem xd_M_write_15 : decode xb_M_write 15 = .ok (.iconst 3, 1) := by decide +kernel
theorem xd_M_write_16 : decode xb_M_write 16 = .ok (.iand, 1) := by decide +kernel
theorem xd_M_write_17 : decode xb_M_write 17 = .ok (.imul, 1) := by decide +kernel
theorem xd_M_write_18 : decode xb_M_write 18 = .ok (.istore 4, 2) := by decide +kernel
theorem xd_M_write_20 : decode xb_M_write 20 = .ok (.iload_n 2, 1) := by decide +kernel
theorem xd_M_write_21 : decode xb_M_write 21 = .ok (.ifCond .ne 9, 3) := by decide +kernel
theorem xd_M_write_24 : decode xb_M_write 24 = .ok (.sipush 255, 3) := by decide +kernel
theorem xd_M_write_27 : decode xb_M_write 27 = .ok (.goto 5, 3) := by decide +kernel
theorem xd_M_write_30 : decode xb_M_write 30 = .ok (.ldc 40, 2) := by decide +kernel
theorem xd_M_write_32 : decode xb_M_write 32 = .ok (.iload 4, 2) := by decide +kernel
theorem xd_M_write_34 : decode xb_M_write 34 = .ok (.ishl, 1) := by decide +kernel
theorem xd_M_write_35 : decode xb_M_write 35 = .ok (.istore 5, 2) := by decide +kernel
theorem xd_M_write_37 : decode xb_M_write 37 = .ok (.aload_n 0, 1) := by decide +kernel
theorem xd_M_write_38 : decode xb_M_write 38 = .ok (.iload_n 1, 1) := by decide +kernel
theorem xd_M_write_39 : decode xb_M_write 39 = .ok (.aload_n 0, 1) := by decide +kernel
theorem xd_M_write_40 : decode xb_M_write 40 = .ok (.iload_n 1, 1) := by decide +kernel
theorem xd_M_write_41 : decode xb_M_write 41 = .ok (.invokevirtual 32, 3) := by decide +kernel
theorem xd_M_write_44 : decode xb_M_write 44 = .ok (.iload 5, 2) := by decide +kernel
theorem xd_M_write_46 : decode xb_M_write 46 = .ok (.iconst (-1), 1) := by decide +kernel
theorem xd_M_write_47 : decode xb_M_write 47 = .ok (.ixor, 1) := by decide +kernel
theorem xd_M_write_48 : decode xb_M_write 48 = .ok (.iand, 1) := by decide +kernel
theorem xd_M_write_49 : decode xb_M_write 49 = .ok (.iload_n 3, 1) := by decide +kernel
theorem xd_M_write_50 : decode xb_M_write 50 = .ok (.iload 4, 2) := by decide +kernel
theorem xd_M_write_52 : decode xb_M_write 52 = .ok (.ishl, 1) := by decide +kernel
theorem xd_M_write_53 : decode xb_M_write 53 = .ok (.iload 5, 2) := by decide +kernel
theorem xd_M_write_55 : decode xb_M_write 55 = .ok (.iand, 1) := by decide +kernel
theorem xd_M_write_56 : decode xb_M_write 56 = .ok (.ior, 1) := by decide +kernel
theorem xd_M_write_57 : decode xb_M_write 57 = .ok (.invokevirtual 36, 3) := by decide +kernel
theorem xd_M_write_60 : decode xb_M_write 60 = .ok (.return_, 1) := by decide +kernel
theorem xd_T_init_0 : decode xb_T_init 0 = .ok (.aload_n 0, 1) := by decide +kernel
theorem xd_T_init_1 : decode xb_T_init 1 = .ok (.invokespecial 3, 3) := by decide +kernel
theorem xd_T_init_4 : decode xb_T_init 4 = .ok (.aload_n 0, 1) := by decide +kernel
theorem xd_T_init_5 : decode xb_T_init 5 = .ok (.new 9, 3) := by decide +kernel
theorem xd_T_init_8 : decode xb_T_init 8 = .ok (.dup, 1) := by decide +kernel
theorem xd_T_init_9 : decode xb_T_init 9 = .ok (.bipush 64, 2) := by decide +kernel
theorem xd_T_init_11 : decode xb_T_init 11 = .ok (.invokespecial 11, 3) := by decide +kernel
theorem xd_T_init_14 : decode xb_T_init 14 = .ok (.putfield 14, 3) := by decide +kernel
theorem xd_T_init_17 : decode xb_T_init 17 = .ok (.aload_n 0, 1) := by decide +kernel
theorem xd_T_init_18 : decode xb_T_init 18 = .ok (.new 20, 3) := by decide +kernel
theorem xd_T_init_21 : decode xb_T_init 21 = .ok (.dup, 1) := by decide +kernel
theorem xd_T_init_22 : decode xb_T_init 22 = .ok (.invokespecial 22, 3) := by decide +kernel
theorem xd_T_init_25 : decode xb_T_init 25 = .ok (.putfield 23, 3) := by decide +kernel
theorem xd_T_init_28 : decode xb_T_init 28 = .ok (.aload_n 0, 1) := by decide +kernel
theorem xd_T_init_29 : decode xb_T_init 29 = .ok (.new 27, 3) := by decide +kernel
theorem xd_T_init_32 : decode xb_T_init 32 = .ok (.dup, 1) := by decide +kernel
theorem xd_T_init_33 : decode xb_T_init 33 = .ok (.invokespecial 29, 3) := by decide +kernel
theorem xd_T_init_36 : decode xb_T_init 36 = .ok (.putfield 30, 3) := by decide +kernel
theorem xd_T_init_39 : decode xb_T_init 39 = .ok (.return_, 1) := by decide +kernel
theorem xd_T_translate_0 : decode xb_T_translate 0 = .ok (.iload_n 1, 1) := by decide +kernel
theorem xd_T_translate_1 : decode xb_T_translate 1 = .ok (.iconst 1, 1) := by decide +kernel
theorem xd_T_translate_2 : decode xb_T_translate 2 = .ok (.iload_n 2, 1) := by decide +kernel
theorem xd_T_translate_3 : decode xb_T_translate 3 = .ok (.ishl, 1) := by decide +kernel
theorem xd_T_translate_4 : decode xb_T_translate 4 = .ok (.iconst 1, 1) := by decide +kernel
theorem xd_T_translate_5 : decode xb_T_translate 5 = .ok (.isub, 1) := by decide +kernel
theorem xd_T_translate_6 : decode xb_T_translate 6 = .ok (.iand, 1) := by decide +kernel
theorem xd_T_translate_7 : decode xb_T_translate 7 = .ok (.ifCond .eq 17, 3) := by decide +kernel
theorem xd_T_translate_10 : decode xb_T_translate 10 = .ok (.aload_n 0, 1) := by decide +kernel
theorem xd_T_translate_11 : decode xb_T_translate 11 = .ok (.getfield 30, 3) := by decide +kernel
theorem xd_T_translate_14 : decode xb_T_translate 14 = .ok (.aload_n 3, 1) := by decide +kernel
theorem xd_T_translate_15 : decode xb_T_translate 15 = .ok (.getfield 34, 3) := by decide +kernel
theorem xd_T_translate_18 : decode xb_T_translate 18 = .ok (.iload_n 1, 1) := by decide +kernel
theorem xd_T_translate_19 : decode xb_T_translate 19 = .ok (.invokevirtual 40, 3) := by decide +kernel
theorem xd_T_translate_22 : decode xb_T_translate 22 = .ok (.iconst (-1), 1) := by decide +kernel
theorem xd_T_translate_23 : decode xb_T_translate 23 = .ok (.ireturn, 1) := by decide +kernel
theorem xd_T_translate_24 : decode xb_T_translate 24 = .ok (.iload 4, 2) := by decide +kernel
theorem xd_T_translate_26 : decode xb_T_translate 26 = .ok (.invokestatic 44, 3) := by decide +kernel
theorem xd_T_translate_29 : decode xb_T_translate 29 = .ok (.istore 5, 2) := by decide +kernel
theorem xd_T_translate_31 : decode xb_T_translate 31 = .ok (.iload 5, 2) := by decide +kernel
theorem xd_T_translate_33 : decode xb_T_translate 33 = .ok (.ifCond .eq 13, 3) := by decide +kernel
theorem xd_T_translate_36 : decode xb_T_translate 36 = .ok (.aload_n 0, 1) := by decide +kernel
theorem xd_T_translate_37 : decode xb_T_translate 37 = .ok (.getfield 23, 3) := by decide +kernel
theorem xd_T_translate_40 : decode xb_T_translate 40 = .ok (.getfield 48, 3) := by decide +kernel
theorem xd_T_translate_43 : decode xb_T_translate 43 = .ok (.goto 10, 3) := by decide +kernel
theorem xd_T_translate_46 : decode xb_T_translate 46 = .ok (.aload_n 0, 1) := by decide +kernel
theorem xd_T_translate_47 : decode xb_T_translate 47 = .ok (.getfield 23, 3) := by decide +kernel
theorem xd_T_translate_50 : decode xb_T_translate 50 = .ok (.getfield 52, 3) := by decide +kernel
theorem xd_T_translate_53 : decode xb_T_translate 53 = .ok (.astore 6, 2) := by decide +kernel
theorem xd_T_translate_55 : decode xb_T_translate 55 = .ok (.aload_n 3, 1) := by decide +kernel
theorem xd_T_translate_56 : decode xb_T_translate 56 = .ok (.aload 6, 2) := by decide +kernel
theorem xd_T_translate_58 : decode xb_T_translate 58 = .ok (.getfield 55, 3) := by decide +kernel
theorem xd_T_translate_61 : decode xb_T_translate 61 = .ok (.aload_n 0, 1) := by decide +kernel
theorem xd_T_translate_62 : decode xb_T_translate 62 = .ok (.getfield 23, 3) := by decide +kernel
theorem xd_T_translate_65 : decode xb_T_translate 65 = .ok (.getfield 52, 3) := by decide +kernel
theorem xd_T_translate_68 : decode xb_T_translate 68 = .ok (.getfield 55, 3) := by decide +kernel
theorem xd_T_translate_71 : decode xb_T_translate 71 = .ok (.ior, 1) := by decide +kernel
theorem xd_T_translate_72 : decode xb_T_translate 72 = .ok (.ldc 60, 2) := by decide +kernel
theorem xd_T_translate_74 : decode xb_T_translate 74 = .ok (.iand, 1) := by decide +kernel
theorem xd_T_translate_75 : decode xb_T_translate 75 = .ok (.ifCond .eq 7, 3) := by decide +kernel
theorem xd_T_translate_78 : decode xb_T_translate 78 = .ok (.iconst 1, 1) := by decide +kernel
theorem xd_T_translate_79 : decode xb_T_translate 79 = .ok (.goto 4, 3) := by decide +kernel
theorem xd_T_translate_82 : decode xb_T_translate 82 = .ok (.iconst 0, 1) := by decide +kernel
theorem xd_T_translate_83 : decode xb_T_translate 83 = .ok (.invokevirtual 61, 3) := by decide +kernel
theorem xd_T_translate_86 : decode xb_T_translate 86 = .ok (.istore 7, 2) := by decide +kernel
theorem xd_T_translate_88 : decode xb_T_translate 88 = .ok (.iload 4, 2) := by decide +kernel
theorem xd_T_translate_90 : decode xb_T_translate 90 = .ok (.invokestatic 65, 3) := by decide +kernel
theorem xd_T_translate_93 : decode xb_T_translate 93 = .ok (.ifCond .eq 10, 3) := by decide +kernel
theorem xd_T_translate_96 : decode xb_T_translate 96 = .ok (.aload_n 3, 1) := by decide +kernel
theorem xd_T_translate_97 : decode xb_T_translate 97 = .ok (.getfield 68, 3) := by decide +kernel
theorem xd_T_translate_100 : decode xb_T_translate 100 = .ok (.goto 10, 3) := by decide +kernel
theorem xd_T_translate_103 : decode xb_T_translate 103 = .ok (.aload_n 3, 1) := by decide +kernel
theorem xd_T_translate_104 : decode xb_T_translate 104 = .ok (.getfield 68, 3) := by decide +kernel
theorem xd_T_translate_107 : decode xb_T_translate 107 = .ok (.bipush 16, 2) := by decide +kernel
theorem xd_T_translate_109 : decode xb_T_translate 109 = .ok (.ior, 1) := by decide +kernel
theorem xd_T_translate_110 : decode xb_T_translate 110 = .ok (.istore 8, 2) := by decide +kernel
theorem xd_T_translate_112 : decode xb_T_translate 112 = .ok (.aload_n 3, 1) := by decide +kernel
theorem xd_T_translate_113 : decode xb_T_translate 113 = .ok (.getstatic 71, 3) := by decide +kernel
theorem xd_T_translate_116 : decode xb_T_translate 116 = .ok (.if_acmp .eq 18, 3) := by decide +kernel
theorem xd_T_translate_119 : decode xb_T_translate 119 = .ok (.aload 6, 2) := by decide +kernel
theorem xd_T_translate_121 : decode xb_T_translate 121 = .ok (.getfield 55, 3) := by decide +kernel
theorem xd_T_translate_124 : decode xb_T_translate 124 = .ok (.ldc 75, 2) := by decide +kernel
theorem xd_T_translate_126 : decode xb_T_translate 126 = .ok (.iand, 1) := by decide +kernel
theorem xd_T_translate_127 : decode xb_T_translate 127 = .ok (.ifCond .eq 7, 3) := by decide +kernel
theorem xd_T_translate_130 : decode xb_T_translate 130 = .ok (.iconst 1, 1) := by decide +kernel
theorem xd_T_translate_131 : decode xb_T_translate 131 = .ok (.goto 4, 3) := by decide +kernel
theorem xd_T_translate_134 : decode xb_T_translate 134 = .ok (.iconst 0, 1) := by decide +kernel
theorem xd_T_translate_135 : decode xb_T_translate 135 = .ok (.istore 9, 2) := by decide +kernel
theorem xd_T_translate_137 : decode xb_T_translate 137 = .ok (.iload 4, 2) := by decide +kernel
theorem xd_T_translate_139 : decode xb_T_translate 139 = .ok (.invokestatic 65, 3) := by decide +kernel
theorem xd_T_translate_142 : decode xb_T_translate 142 = .ok (.ifCond .eq 13, 3) := by decide +kernel
theorem xd_T_translate_145 : decode xb_T_translate 145 = .ok (.iload 9, 2) := by decide +kernel
theorem xd_T_translate_147 : decode xb_T_translate 147 = .ok (.ifCond .ne 8, 3) := by decide +kernel
theorem xd_T_translate_150 : decode xb_T_translate 150 = .ok (.bipush 16, 2) := by decide +kernel
theorem xd_T_translate_152 : decode xb_T_translate 152 = .ok (.goto 4, 3) := by decide +kernel
theorem xd_T_translate_155 : decode xb_T_translate 155 = .ok (.iconst 0, 1) := by decide +kernel
theorem xd_T_translate_156 : decode xb_T_translate 156 = .ok (.istore 10, 2) := by decide +kernel
theorem xd_T_translate_158 : decode xb_T_translate 158 = .ok (.iload_n 1, 1) := by decide +kernel
theorem xd_T_translate_159 : decode xb_T_translate 159 = .ok (.i2l, 1) := by decide +kernel
theorem xd_T_translate_160 : decode xb_T_translate 160 = .ok (.ldc2_w 76, 3) := by decide +kernel
theorem xd_T_translate_163 : decode xb_T_translate 163 = .ok (.land, 1) := by decide +kernel
theorem xd_T_translate_164 : decode xb_T_translate 164 = .ok (.lstore 11, 2) := by decide +kernel
theorem xd_T_translate_166 : decode xb_T_translate 166 = .ok (.iload 5, 2) := by decide +kernel
theorem xd_T_translate_168 : decode xb_T_translate 168 = .ok (.ifCond .eq 18, 3) := by decide +kernel
theorem xd_T_translate_171 : decode xb_T_translate 171 = .ok (.aload_n 0, 1) := by decide +kernel
theorem xd_T_translate_172 : decode xb_T_translate 172 = .ok (.lload 11, 2) := by decide +kernel
theorem xd_T_translate_174 : decode xb_T_translate 174 = .ok (.iload 7, 2) := by decide +kernel
theorem xd_T_translate_176 : decode xb_T_translate 176 = .ok (.iload 8, 2) := by decide +kernel
theorem xd_T_translate_178 : decode xb_T_translate 178 = .ok (.iload 10, 2) := by decide +kernel
theorem xd_T_translate_180 : decode xb_T_translate 180 = .ok (.invokevirtual 78, 3) := by decide +kernel
theorem xd_T_translate_183 : decode xb_T_translate 183 = .ok (.goto 20, 3) := by decide +kernel
theorem xd_T_translate_186 : decode xb_T_translate 186 = .ok (.aload_n 0, 1) := by decide +kernel
theorem xd_T_translate_187 : decode xb_T_translate 187 = .ok (.aload 6, 2) := by decide +kernel
theorem xd_T_translate_189 : decode xb_T_translate 189 = .ok (.getfield 82, 3) := by decide +kernel
theorem xd_T_translate_192 : decode xb_T_translate 192 = .ok (.lload 11, 2) := by decide +kernel
theorem xd_T_translate_194 : decode xb_T_translate 194 = .ok (.iload 7, 2) := by decide +kernel
theorem xd_T_translate_196 : decode xb_T_translate 196 = .ok (.iload 8, 2) := by decide +kernel
theorem xd_T_translate_198 : decode xb_T_translate 198 = .ok (.iload 10, 2) := by decide +kernel
theorem xd_T_translate_200 : decode xb_T_translate 200 = .ok (.invokevirtual 85, 3) := by decide +kernel
theorem xd_T_translate_203 : decode xb_T_translate 203 = .ok (.lstore 13, 2) := by decide +kernel
theorem xd_T_translate_205 : decode xb_T_translate 205 = .ok (.iload 5, 2) := by decide +kernel
theorem xd_T_translate_207 : decode xb_T_translate 207 = .ok (.ifCond .eq 19, 3) := by decide +kernel
theorem xd_T_translate_210 : decode xb_T_translate 210 = .ok (.lload 13, 2) := by decide +kernel
theorem xd_T_translate_212 : decode xb_T_translate 212 = .ok (.lconst 0, 1) := by decide +kernel
theorem xd_T_translate_213 : decode xb_T_translate 213 = .ok (.lcmp, 1) := by decide +kernel
theorem xd_T_translate_214 : decode xb_T_translate 214 = .ok (.ifCond .lt 12, 3) := by decide +kernel
theorem xd_T_translate_217 : decode xb_T_translate 217 = .ok (.aload_n 0, 1) := by decide +kernel
theorem xd_T_translate_218 : decode xb_T_translate 218 = .ok (.lload 13, 2) := by decide +kernel
theorem xd_T_translate_220 : decode xb_T_translate 220 = .ok (.aload_n 3, 1) := by decide +kernel
theorem xd_T_translate_221 : decode xb_T_translate 221 = .ok (.invokevirtual 89, 3) := by decide +kernel
theorem xd_T_translate_224 : decode xb_T_translate 224 = .ok (.lstore 13, 2) := by decide +kernel
theorem xd_T_translate_226 : decode xb_T_translate 226 = .ok (.lload 13, 2) := by decide +kernel
theorem xd_T_translate_228 : decode xb_T_translate 228 = .ok (.lconst 0, 1) := by decide +kernel
theorem xd_T_translate_229 : decode xb_T_translate 229 = .ok (.lcmp, 1) := by decide +kernel
theorem xd_T_translate_230 : decode xb_T_translate 230 = .ok (.ifCond .ge 17, 3) := by decide +kernel
theorem xd_T_translate_233 : decode xb_T_translate 233 = .ok (.aload_n 0, 1) := by decide +kernel
theorem xd_T_translate_234 : decode xb_T_translate 234 = .ok (.getfield 30, 3) := by decide +kernel
theorem xd_T_translate_237 : decode xb_T_translate 237 = .ok (.aload_n 3, 1) := by decide +kernel
theorem xd_T_translate_238 : decode xb_T_translate 238 = .ok (.lload 13, 2) := by decide +kernel
theorem xd_T_translate_240 : decode xb_T_translate 240 = .ok (.invokevirtual 93, 3) := by decide +kernel
theorem xd_T_translate_243 : decode xb_T_translate 243 = .ok (.iload_n 1, 1) := by decide +kernel
theorem xd_T_translate_244 : decode xb_T_translate 244 = .ok (.invokevirtual 40, 3) := by decide +kernel
theorem xd_T_translate_247 : decode xb_T_translate 247 = .ok (.lload 13, 2) := by decide +kernel
theorem xd_T_translate_249 : decode xb_T_translate 249 = .ok (.l2i, 1) := by decide +kernel
theorem xd_T_translate_250 : decode xb_T_translate 250 = .ok (.ireturn, 1) := by decide +kernel
theorem xd_T_firstStage_0 : decode xb_T_firstStage 0 = .ok (.aload_n 0, 1) := by decide +kernel
theorem xd_T_firstStage_1 : decode xb_T_firstStage 1 = .ok (.getfield 23, 3) := by decide +kernel
theorem xd_T_firstStage_4 : decode xb_T_firstStage 4 = .ok (.getfield 48, 3) := by decide +kernel
theorem xd_T_firstStage_7 : decode xb_T_firstStage 7 = .ok (.getfield 82, 3) := by decide +kernel
theorem xd_T_firstStage_10 : decode xb_T_firstStage 10 = .ok (.istore 6, 2) := by decide +kernel
theorem xd_T_firstStage_12 : decode xb_T_firstStage 12 = .ok (.iload 6, 2) := by decide +kernel
theorem xd_T_firstStage_14 : decode xb_T_firstStage 14 = .ok (.ifCond .lt 5, 3) := by decide +kernel
theorem xd_T_firstStage_17 : decode xb_T_firstStage 17 = .ok (.lload_n 1, 1) := by decide +kernel
theorem xd_T_firstStage_18 : decode xb_T_firstStage 18 = .ok (.lreturn, 1) := by decide +kernel
theorem xd_T_firstStage_19 : decode xb_T_firstStage 19 = .ok (.iload 6, 2) := by decide +kernel
theorem xd_T_firstStage_21 : decode xb_T_firstStage 21 = .ok (.lload_n 1, 1) := by decide +kernel
theorem xd_T_firstStage_22 : decode xb_T_firstStage 22 = .ok (.invokestatic 97, 3) := by decide +kernel
theorem xd_T_firstStage_25 : decode xb_T_firstStage 25 = .ok (.lstore 7, 2) := by decide +kernel
theorem xd_T_firstStage_27 : decode xb_T_firstStage 27 = .ok (.iconst 0, 1) := by decide +kernel
theorem xd_T_firstStage_28 : decode xb_T_firstStage 28 = .ok (.istore 9, 2) := by decide +kernel
theorem xd_T_firstStage_30 : decode xb_T_firstStage 30 = .ok (.iload 9, 2) := by decide +kernel
theorem xd_T_firstStage_32 : decode xb_T_firstStage 32 = .ok (.iconst 2, 1) := by decide +kernel
theorem xd_T_firstStage_33 : decode xb_T_firstStage 33 = .ok (.if_icmp .ge 117, 3) := by decide +kernel
theorem xd_T_firstStage_36 : decode xb_T_firstStage 36 = .ok (.aload_n 0, 1) := by decide +kernel
theorem xd_T_firstStage_37 : decode xb_T_firstStage 37 = .ok (.aload_n 0, 1) := by decide +kernel
theorem xd_T_firstStage_38 : decode xb_T_firstStage 38 = .ok (.getfield 23, 3) := by decide +kernel
theorem xd_T_firstStage_41 : decode xb_T_firstStage 41 = .ok (.getfield 101, 3) := by decide +kernel
theorem xd_T_firstStage_44 : decode xb_T_firstStage 44 = .ok (.lload 7, 2) := by decide +kernel
theorem xd_T_firstStage_46 : decode xb_T_firstStage 46 = .ok (.iconst 2, 1) := by decide +kernel
theorem xd_T_firstStage_47 : decode xb_T_firstStage 47 = .ok (.bipush 81, 2) := by decide +kernel
theorem xd_T_firstStage_49 : decode xb_T_firstStage 49 = .ok (.iconst 0, 1) := by decide +kernel
theorem xd_T_firstStage_50 : decode xb_T_firstStage 50 = .ok (.invokevirtual 85, 3) := by decide +kernel
theorem xd_T_firstStage_53 : decode xb_T_firstStage 53 = .ok (.lstore 10, 2) := by decide +kernel
theorem xd_T_firstStage_55 : decode xb_T_firstStage 55 = .ok (.lload 10, 2) := by decide +kernel
theorem xd_T_firstStage_57 : decode xb_T_firstStage 57 = .ok (.lconst 0, 1) := by decide +kernel
theorem xd_T_firstStage_58 : decode xb_T_firstStage 58 = .ok (.lcmp, 1) := by decide +kernel
theorem xd_T_firstStage_59 : decode xb_T_firstStage 59 = .ok (.ifCond .ge 15, 3) := by decide +kernel
theorem xd_T_firstStage_62 : decode xb_T_firstStage 62 = .ok (.aload_n 0, 1) := by decide +kernel
theorem xd_T_firstStage_63 : decode xb_T_firstStage 63 = .ok (.lload 10, 2) := by decide +kernel
theorem xd_T_firstStage_65 : decode xb_T_firstStage 65 = .ok (.lload 7, 2) := by decide +kernel
theorem xd_T_firstStage_67 : decode xb_T_firstStage 67 = .ok (.sipush 8192, 3) := by decide +kernel
theorem xd_T_firstStage_70 : decode xb_T_firstStage 70 = .ok (.invokevirtual 104, 3) := by decide +kernel
theorem xd_T_firstStage_73 : decode xb_T_firstStage 73 = .ok (.lreturn, 1) := by decide +kernel
theorem xd_T_firstStage_74 : decode xb_T_firstStage 74 = .ok (.aload_n 0, 1) := by decide +kernel
theorem xd_T_firstStage_75 : decode xb_T_firstStage 75 = .ok (.getfield 14, 3) := by decide +kernel
theorem xd_T_firstStage_78 : decode xb_T_firstStage 78 = .ok (.lload 10, 2) := by decide +kernel
theorem xd_T_firstStage_80 : decode xb_T_firstStage 80 = .ok (.l2i, 1) := by decide +kernel
theorem xd_T_firstStage_81 : decode xb_T_firstStage 81 = .ok (.invokevirtual 108, 3) := by decide +kernel
theorem xd_T_firstStage_84 : decode xb_T_firstStage 84 = .ok (.istore 12, 2) := by decide +kernel
theorem xd_T_firstStage_86 : decode xb_T_firstStage 86 = .ok (.iload 12, 2) := by decide +kernel
theorem xd_T_firstStage_88 : decode xb_T_firstStage 88 = .ok (.invokestatic 112, 3) := by decide +kernel
theorem xd_T_firstStage_91 : decode xb_T_firstStage 91 = .ok (.ifCond .eq 33, 3) := by decide +kernel
theorem xd_T_firstStage_94 : decode xb_T_firstStage 94 = .ok (.iload 12, 2) := by decide +kernel
theorem xd_T_firstStage_96 : decode xb_T_firstStage 96 = .ok (.iload 9, 2) := by decide +kernel
theorem xd_T_firstStage_98 : decode xb_T_firstStage 98 = .ok (.iload_n 3, 1) := by decide +kernel
theorem xd_T_firstStage_99 : decode xb_T_firstStage 99 = .ok (.iload 4, 2) := by decide +kernel
theorem xd_T_firstStage_101 : decode xb_T_firstStage 101 = .ok (.iload 5, 2) := by decide +kernel
theorem xd_T_firstStage_103 : decode xb_T_firstStage 103 = .ok (.invokestatic 115, 3) := by decide +kernel
theorem xd_T_firstStage_106 : decode xb_T_firstStage 106 = .ok (.ifCond .eq 14, 3) := by decide +kernel
theorem xd_T_firstStage_109 : decode xb_T_firstStage 109 = .ok (.iload 12, 2) := by decide +kernel
theorem xd_T_firstStage_111 : decode xb_T_firstStage 111 = .ok (.iload 9, 2) := by decide +kernel
theorem xd_T_firstStage_113 : decode xb_T_firstStage 113 = .ok (.lload_n 1, 1) := by decide +kernel
theorem xd_T_firstStage_114 : decode xb_T_firstStage 114 = .ok (.invokestatic 119, 3) := by decide +kernel
theorem xd_T_firstStage_117 : decode xb_T_firstStage 117 = .ok (.goto 6, 3) := by decide +kernel
theorem xd_T_firstStage_120 : decode xb_T_firstStage 120 = .ok (.ldc2_w 123, 3) := by decide +kernel
theorem xd_T_firstStage_123 : decode xb_T_firstStage 123 = .ok (.lreturn, 1) := by decide +kernel
theorem xd_T_firstStage_124 : decode xb_T_firstStage 124 = .ok (.iload 12, 2) := by decide +kernel
theorem xd_T_firstStage_126 : decode xb_T_firstStage 126 = .ok (.invokestatic 125, 3) := by decide +kernel
theorem xd_T_firstStage_129 : decode xb_T_firstStage 129 = .ok (.ifCond .ne 7, 3) := by decide +kernel
theorem xd_T_firstStage_132 : decode xb_T_firstStage 132 = .ok (.ldc2_w 123, 3) := by decide +kernel
theorem xd_T_firstStage_135 : decode xb_T_firstStage 135 = .ok (.lreturn, 1) := by decide +kernel
theorem xd_T_firstStage_136 : decode xb_T_firstStage 136 = .ok (.iload 12, 2) := by decide +kernel
theorem xd_T_firstStage_138 : decode xb_T_firstStage 138 = .ok (.lload_n 1, 1) := by decide +kernel
theorem xd_T_firstStage_139 : decode xb_T_firstStage 139 = .ok (.invokestatic 128, 3) := by decide +kernel
theorem xd_T_firstStage_142 : decode xb_T_firstStage 142 = .ok (.lstore 7, 2) := by decide +kernel
theorem xd_T_firstStage_144 : decode xb_T_firstStage 144 = .ok (.iinc 9 1, 3) := by decide +kernel
theorem xd_T_firstStage_147 : decode xb_T_firstStage 147 = .ok (.goto (-117), 3) := by decide +kernel
theorem xd_T_firstStage_150 : decode xb_T_firstStage 150 = .ok (.ldc2_w 123, 3) := by decide +kernel
theorem xd_T_firstStage_153 : decode xb_T_firstStage 153 = .ok (.lreturn, 1) := by decide +kernel
theorem xd_T_secondStage_0 : decode xb_T_secondStage 0 = .ok (.aload_n 3, 1) := by decide +kernel
theorem xd_T_secondStage_1 : decode xb_T_secondStage 1 = .ok (.aload_n 0, 1) := by decide +kernel
theorem xd_T_secondStage_2 : decode xb_T_secondStage 2 = .ok (.getfield 23, 3) := by decide +kernel
theorem xd_T_secondStage_5 : decode xb_T_secondStage 5 = .ok (.getfield 52, 3) := by decide +kernel
theorem xd_T_secondStage_8 : decode xb_T_secondStage 8 = .ok (.getfield 55, 3) := by decide +kernel
theorem xd_T_secondStage_11 : decode xb_T_secondStage 11 = .ok (.ldc 60, 2) := by decide +kernel
theorem xd_T_secondStage_13 : decode xb_T_secondStage 13 = .ok (.iand, 1) := by decide +kernel
theorem xd_T_secondStage_14 : decode xb_T_secondStage 14 = .ok (.ifCond .eq 7, 3) := by decide +kernel
