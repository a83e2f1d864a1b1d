theorem xd_Z_asIfVirtual_238 : decode xb_Z_asIfVirtual 238 = .ok (.iload 4, 2) := by decide +kernel
theorem xd_Z_asIfVirtual_240 : decode xb_Z_asIfVirtual 240 = .ok (.invokevirtual 242, 3) := by decide +kernel
theorem xd_Z_asIfVirtual_243 : decode xb_Z_asIfVirtual 243 = .ok (.ireturn, 1) := by decide +kernel
theorem xd_Z_step_0 : decode xb_Z_step 0 = .ok (.aload_n 0, 1) := by decide +kernel
theorem xd_Z_step_1 : decode xb_Z_step 1 = .ok (.invokevirtual 281, 3) := by decide +kernel
theorem xd_Z_step_4 : decode xb_Z_step 4 = .ok (.istore_n 1, 1) := by decide +kernel
theorem xd_Z_step_5 : decode xb_Z_step 5 = .ok (.iload_n 1, 1) := by decide +kernel
theorem xd_Z_step_6 : decode xb_Z_step 6 = .ok (.ifCond .lt 63, 3) := by decide +kernel
theorem xd_Z_step_9 : decode xb_Z_step 9 = .ok (.aload_n 0, 1) := by decide +kernel
theorem xd_Z_step_10 : decode xb_Z_step 10 = .ok (.dup, 1) := by decide +kernel
theorem xd_Z_step_11 : decode xb_Z_step 11 = .ok (.getfield 46, 3) := by decide +kernel
theorem xd_Z_step_14 : decode xb_Z_step 14 = .ok (.iconst 1, 1) := by decide +kernel
theorem xd_Z_step_15 : decode xb_Z_step 15 = .ok (.iadd, 1) := by decide +kernel
theorem xd_Z_step_16 : decode xb_Z_step 16 = .ok (.putfield 46, 3) := by decide +kernel
theorem xd_Z_step_19 : decode xb_Z_step 19 = .ok (.iload_n 1, 1) := by decide +kernel
theorem xd_Z_step_20 : decode xb_Z_step 20 = .ok (.bipush 99, 2) := by decide +kernel
theorem xd_Z_step_22 : decode xb_Z_step 22 = .ok (.if_icmp .le 33, 3) := by decide +kernel
theorem xd_Z_step_25 : decode xb_Z_step 25 = .ok (.aload_n 0, 1) := by decide +kernel
theorem xd_Z_step_26 : decode xb_Z_step 26 = .ok (.sipush 512, 3) := by decide +kernel
theorem xd_Z_step_29 : decode xb_Z_step 29 = .ok (.ldc_w 285, 3) := by decide +kernel
theorem xd_Z_step_32 : decode xb_Z_step 32 = .ok (.iload_n 1, 1) := by decide +kernel
theorem xd_Z_step_33 : decode xb_Z_step 33 = .ok (.bipush 100, 2) := by decide +kernel
theorem xd_Z_step_35 : decode xb_Z_step 35 = .ok (.isub, 1) := by decide +kernel
theorem xd_Z_step_36 : decode xb_Z_step 36 = .ok (.ior, 1) := by decide +kernel
theorem xd_Z_step_37 : decode xb_Z_step 37 = .ok (.iconst 0, 1) := by decide +kernel
theorem xd_Z_step_38 : decode xb_Z_step 38 = .ok (.iconst 3, 1) := by decide +kernel
theorem xd_Z_step_39 : decode xb_Z_step 39 = .ok (.invokevirtual 100, 3) := by decide +kernel
theorem xd_Z_step_42 : decode xb_Z_step 42 = .ok (.aload_n 0, 1) := by decide +kernel
theorem xd_Z_step_43 : decode xb_Z_step 43 = .ok (.dup, 1) := by decide +kernel
theorem xd_Z_step_44 : decode xb_Z_step 44 = .ok (.getfield 43, 3) := by decide +kernel
theorem xd_Z_step_47 : decode xb_Z_step 47 = .ok (.iconst 1, 1) := by decide +kernel
theorem xd_Z_step_48 : decode xb_Z_step 48 = .ok (.iadd, 1) := by decide +kernel
theorem xd_Z_step_49 : decode xb_Z_step 49 = .ok (.putfield 43, 3) := by decide +kernel
theorem xd_Z_step_52 : decode xb_Z_step 52 = .ok (.goto 39, 3) := by decide +kernel
theorem xd_Z_step_55 : decode xb_Z_step 55 = .ok (.aload_n 0, 1) := by decide +kernel
theorem xd_Z_step_56 : decode xb_Z_step 56 = .ok (.ldc_w 285, 3) := by decide +kernel
theorem xd_Z_step_59 : decode xb_Z_step 59 = .ok (.iload_n 1, 1) := by decide +kernel
theorem xd_Z_step_60 : decode xb_Z_step 60 = .ok (.ior, 1) := by decide +kernel
theorem xd_Z_step_61 : decode xb_Z_step 61 = .ok (.iconst 0, 1) := by decide +kernel
theorem xd_Z_step_62 : decode xb_Z_step 62 = .ok (.iconst 0, 1) := by decide +kernel
theorem xd_Z_step_63 : decode xb_Z_step 63 = .ok (.invokevirtual 104, 3) := by decide +kernel
theorem xd_Z_step_66 : decode xb_Z_step 66 = .ok (.goto 25, 3) := by decide +kernel
theorem xd_Z_step_69 : decode xb_Z_step 69 = .ok (.aload_n 0, 1) := by decide +kernel
theorem xd_Z_step_70 : decode xb_Z_step 70 = .ok (.invokevirtual 286, 3) := by decide +kernel
theorem xd_Z_step_73 : decode xb_Z_step 73 = .ok (.ifCond .eq 14, 3) := by decide +kernel
theorem xd_Z_step_76 : decode xb_Z_step 76 = .ok (.aload_n 0, 1) := by decide +kernel
theorem xd_Z_step_77 : decode xb_Z_step 77 = .ok (.aload_n 0, 1) := by decide +kernel
theorem xd_Z_step_78 : decode xb_Z_step 78 = .ok (.getfield 182, 3) := by decide +kernel
theorem xd_Z_step_81 : decode xb_Z_step 81 = .ok (.putfield 14, 3) := by decide +kernel
theorem xd_Z_step_84 : decode xb_Z_step 84 = .ok (.goto 7, 3) := by decide +kernel
theorem xd_Z_step_87 : decode xb_Z_step 87 = .ok (.aload_n 0, 1) := by decide +kernel
theorem xd_Z_step_88 : decode xb_Z_step 88 = .ok (.invokevirtual 289, 3) := by decide +kernel
theorem xd_Z_step_91 : decode xb_Z_step 91 = .ok (.aload_n 0, 1) := by decide +kernel
theorem xd_Z_step_92 : decode xb_Z_step 92 = .ok (.dup, 1) := by decide +kernel
theorem xd_Z_step_93 : decode xb_Z_step 93 = .ok (.getfield 21, 3) := by decide +kernel
theorem xd_Z_step_96 : decode xb_Z_step 96 = .ok (.lconst 1, 1) := by decide +kernel
theorem xd_Z_step_97 : decode xb_Z_step 97 = .ok (.ladd, 1) := by decide +kernel
theorem xd_Z_step_98 : decode xb_Z_step 98 = .ok (.putfield 21, 3) := by decide +kernel
theorem xd_Z_step_101 : decode xb_Z_step 101 = .ok (.return_, 1) := by decide +kernel
theorem xd_Z_fetchAndPerform_0 : decode xb_Z_fetchAndPerform 0 = .ok (.aload_n 0, 1) := by decide +kernel
theorem xd_Z_fetchAndPerform_1 : decode xb_Z_fetchAndPerform 1 = .ok (.iconst 0, 1) := by decide +kernel
theorem xd_Z_fetchAndPerform_2 : decode xb_Z_fetchAndPerform 2 = .ok (.aload_n 0, 1) := by decide +kernel
theorem xd_Z_fetchAndPerform_3 : decode xb_Z_fetchAndPerform 3 = .ok (.invokevirtual 96, 3) := by decide +kernel
theorem xd_Z_fetchAndPerform_6 : decode xb_Z_fetchAndPerform 6 = .ok (.aload_n 0, 1) := by decide +kernel
theorem xd_Z_fetchAndPerform_7 : decode xb_Z_fetchAndPerform 7 = .ok (.getfield 18, 3) := by decide +kernel
theorem xd_Z_fetchAndPerform_10 : decode xb_Z_fetchAndPerform 10 = .ok (.ifCond .eq 11, 3) := by decide +kernel
theorem xd_Z_fetchAndPerform_13 : decode xb_Z_fetchAndPerform 13 = .ok (.aload_n 0, 1) := by decide +kernel
theorem xd_Z_fetchAndPerform_14 : decode xb_Z_fetchAndPerform 14 = .ok (.getfield 18, 3) := by decide +kernel
theorem xd_Z_fetchAndPerform_17 : decode xb_Z_fetchAndPerform 17 = .ok (.iconst 2, 1) := by decide +kernel
theorem xd_Z_fetchAndPerform_18 : decode xb_Z_fetchAndPerform 18 = .ok (.if_icmp .ne 7, 3) := by decide +kernel
theorem xd_Z_fetchAndPerform_21 : decode xb_Z_fetchAndPerform 21 = .ok (.iconst 1, 1) := by decide +kernel
theorem xd_Z_fetchAndPerform_22 : decode xb_Z_fetchAndPerform 22 = .ok (.goto 4, 3) := by decide +kernel
theorem xd_Z_fetchAndPerform_25 : decode xb_Z_fetchAndPerform 25 = .ok (.iconst 0, 1) := by decide +kernel
theorem xd_Z_fetchAndPerform_26 : decode xb_Z_fetchAndPerform 26 = .ok (.iconst 0, 1) := by decide +kernel
theorem xd_Z_fetchAndPerform_27 : decode xb_Z_fetchAndPerform 27 = .ok (.invokevirtual 226, 3) := by decide +kernel
theorem xd_Z_fetchAndPerform_30 : decode xb_Z_fetchAndPerform 30 = .ok (.aload_n 0, 1) := by decide +kernel
theorem xd_Z_fetchAndPerform_31 : decode xb_Z_fetchAndPerform 31 = .ok (.aload_n 0, 1) := by decide +kernel
theorem xd_Z_fetchAndPerform_32 : decode xb_Z_fetchAndPerform 32 = .ok (.getfield 14, 3) := by decide +kernel
theorem xd_Z_fetchAndPerform_35 : decode xb_Z_fetchAndPerform 35 = .ok (.iconst 4, 1) := by decide +kernel
theorem xd_Z_fetchAndPerform_36 : decode xb_Z_fetchAndPerform 36 = .ok (.invokevirtual 234, 3) := by decide +kernel
theorem xd_Z_fetchAndPerform_39 : decode xb_Z_fetchAndPerform 39 = .ok (.lstore_n 1, 1) := by decide +kernel
theorem xd_Z_fetchAndPerform_40 : decode xb_Z_fetchAndPerform 40 = .ok (.lload_n 1, 1) := by decide +kernel
theorem xd_Z_fetchAndPerform_41 : decode xb_Z_fetchAndPerform 41 = .ok (.lconst 0, 1) := by decide +kernel
theorem xd_Z_fetchAndPerform_42 : decode xb_Z_fetchAndPerform 42 = .ok (.lcmp, 1) := by decide +kernel
theorem xd_Z_fetchAndPerform_43 : decode xb_Z_fetchAndPerform 43 = .ok (.ifCond .lt 19, 3) := by decide +kernel
theorem xd_Z_fetchAndPerform_46 : decode xb_Z_fetchAndPerform 46 = .ok (.aload_n 0, 1) := by decide +kernel
theorem xd_Z_fetchAndPerform_47 : decode xb_Z_fetchAndPerform 47 = .ok (.aload_n 0, 1) := by decide +kernel
theorem xd_Z_fetchAndPerform_48 : decode xb_Z_fetchAndPerform 48 = .ok (.lload_n 1, 1) := by decide +kernel
theorem xd_Z_fetchAndPerform_49 : decode xb_Z_fetchAndPerform 49 = .ok (.invokevirtual 145, 3) := by decide +kernel
theorem xd_Z_fetchAndPerform_52 : decode xb_Z_fetchAndPerform 52 = .ok (.invokevirtual 293, 3) := by decide +kernel
theorem xd_Z_fetchAndPerform_55 : decode xb_Z_fetchAndPerform 55 = .ok (.ifCond .eq 7, 3) := by decide +kernel
theorem xd_Z_fetchAndPerform_58 : decode xb_Z_fetchAndPerform 58 = .ok (.iconst 1, 1) := by decide +kernel
theorem xd_Z_fetchAndPerform_59 : decode xb_Z_fetchAndPerform 59 = .ok (.goto 4, 3) := by decide +kernel
theorem xd_Z_fetchAndPerform_62 : decode xb_Z_fetchAndPerform 62 = .ok (.iconst 0, 1) := by decide +kernel
theorem xd_Z_fetchAndPerform_63 : decode xb_Z_fetchAndPerform 63 = .ok (.ireturn, 1) := by decide +kernel
theorem xd_Z_init_0 : decode xb_Z_init 0 = .ok (.aload_n 0, 1) := by decide +kernel
theorem xd_Z_init_1 : decode xb_Z_init 1 = .ok (.invokespecial 296, 3) := by decide +kernel
theorem xd_Z_init_4 : decode xb_Z_init 4 = .ok (.aload_n 0, 1) := by decide +kernel
theorem xd_Z_init_5 : decode xb_Z_init 5 = .ok (.ldc 1, 2) := by decide +kernel
theorem xd_Z_init_7 : decode xb_Z_init 7 = .ok (.newarray .int, 2) := by decide +kernel
theorem xd_Z_init_9 : decode xb_Z_init 9 = .ok (.putfield 2, 3) := by decide +kernel
theorem xd_Z_init_12 : decode xb_Z_init 12 = .ok (.aload_n 0, 1) := by decide +kernel
theorem xd_Z_init_13 : decode xb_Z_init 13 = .ok (.bipush 32, 2) := by decide +kernel
theorem xd_Z_init_15 : decode xb_Z_init 15 = .ok (.newarray .int, 2) := by decide +kernel
theorem xd_Z_init_17 : decode xb_Z_init 17 = .ok (.putfield 8, 3) := by decide +kernel
theorem xd_Z_init_20 : decode xb_Z_init 20 = .ok (.aload_n 0, 1) := by decide +kernel
theorem xd_Z_init_21 : decode xb_Z_init 21 = .ok (.bipush 29, 2) := by decide +kernel
theorem xd_Z_init_23 : decode xb_Z_init 23 = .ok (.newarray .int, 2) := by decide +kernel
theorem xd_Z_init_25 : decode xb_Z_init 25 = .ok (.putfield 11, 3) := by decide +kernel
theorem xd_Z_init_28 : decode xb_Z_init 28 = .ok (.aload_n 0, 1) := by decide +kernel
theorem xd_Z_init_29 : decode xb_Z_init 29 = .ok (.sipush 4096, 3) := by decide +kernel
theorem xd_Z_init_32 : decode xb_Z_init 32 = .ok (.newarray .int, 2) := by decide +kernel
theorem xd_Z_init_34 : decode xb_Z_init 34 = .ok (.putfield 268, 3) := by decide +kernel
theorem xd_Z_init_37 : decode xb_Z_init 37 = .ok (.aload_n 0, 1) := by decide +kernel
theorem xd_Z_init_38 : decode xb_Z_init 38 = .ok (.invokevirtual 301, 3) := by decide +kernel
theorem xd_Z_init_41 : decode xb_Z_init 41 = .ok (.return_, 1) := by decide +kernel
theorem xd_Z_begin_0 : decode xb_Z_begin 0 = .ok (.aload_n 0, 1) := by decide +kernel
theorem xd_Z_begin_1 : decode xb_Z_begin 1 = .ok (.invokevirtual 301, 3) := by decide +kernel
theorem xd_Z_begin_4 : decode xb_Z_begin 4 = .ok (.return_, 1) := by decide +kernel
theorem xd_Z_poke_0 : decode xb_Z_poke 0 = .ok (.iload_n 1, 1) := by decide +kernel
theorem xd_Z_poke_1 : decode xb_Z_poke 1 = .ok (.ifCond .lt 16, 3) := by decide +kernel
theorem xd_Z_poke_4 : decode xb_Z_poke 4 = .ok (.iload_n 1, 1) := by decide +kernel
theorem xd_Z_poke_5 : decode xb_Z_poke 5 = .ok (.iconst 4, 1) := by decide +kernel
theorem xd_Z_poke_6 : decode xb_Z_poke 6 = .ok (.irem, 1) := by decide +kernel
theorem xd_Z_poke_7 : decode xb_Z_poke 7 = .ok (.ifCond .ne 10, 3) := by decide +kernel
theorem xd_Z_poke_10 : decode xb_Z_poke 10 = .ok (.iload_n 1, 1) := by decide +kernel
theorem xd_Z_poke_11 : decode xb_Z_poke 11 = .ok (.ldc_w 307, 3) := by decide +kernel
theorem xd_Z_poke_14 : decode xb_Z_poke 14 = .ok (.if_icmp .le 5, 3) := by decide +kernel
theorem xd_Z_poke_17 : decode xb_Z_poke 17 = .ok (.iconst (-1), 1) := by decide +kernel
theorem xd_Z_poke_18 : decode xb_Z_poke 18 = .ok (.ireturn, 1) := by decide +kernel
theorem xd_Z_poke_19 : decode xb_Z_poke 19 = .ok (.aload_n 0, 1) := by decide +kernel
theorem xd_Z_poke_20 : decode xb_Z_poke 20 = .ok (.getfield 2, 3) := by decide +kernel
theorem xd_Z_poke_23 : decode xb_Z_poke 23 = .ok (.iload_n 1, 1) := by decide +kernel
theorem xd_Z_poke_24 : decode xb_Z_poke 24 = .ok (.iconst 4, 1) := by decide +kernel
theorem xd_Z_poke_25 : decode xb_Z_poke 25 = .ok (.idiv, 1) := by decide +kernel
theorem xd_Z_poke_26 : decode xb_Z_poke 26 = .ok (.iload_n 2, 1) := by decide +kernel
theorem xd_Z_poke_27 : decode xb_Z_poke 27 = .ok (.iastore, 1) := by decide +kernel
theorem xd_Z_poke_28 : decode xb_Z_poke 28 = .ok (.aload_n 0, 1) := by decide +kernel
theorem xd_Z_poke_29 : decode xb_Z_poke 29 = .ok (.getfield 2, 3) := by decide +kernel
theorem xd_Z_poke_32 : decode xb_Z_poke 32 = .ok (.iload_n 1, 1) := by decide +kernel
theorem xd_Z_poke_33 : decode xb_Z_poke 33 = .ok (.iconst 4, 1) := by decide +kernel
theorem xd_Z_poke_34 : decode xb_Z_poke 34 = .ok (.idiv, 1) := by decide +kernel
theorem xd_Z_poke_35 : decode xb_Z_poke 35 = .ok (.iconst 1, 1) := by decide +kernel
theorem xd_Z_poke_36 : decode xb_Z_poke 36 = .ok (.iadd, 1) := by decide +kernel
theorem xd_Z_poke_37 : decode xb_Z_poke 37 = .ok (.iload_n 3, 1) := by decide +kernel
theorem xd_Z_poke_38 : decode xb_Z_poke 38 = .ok (.iastore, 1) := by decide +kernel
theorem xd_Z_poke_39 : decode xb_Z_poke 39 = .ok (.aload_n 0, 1) := by decide +kernel
theorem xd_Z_poke_40 : decode xb_Z_poke 40 = .ok (.getfield 2, 3) := by decide +kernel
theorem xd_Z_poke_43 : decode xb_Z_poke 43 = .ok (.iload_n 1, 1) := by decide +kernel
theorem xd_Z_poke_44 : decode xb_Z_poke 44 = .ok (.iconst 4, 1) := by decide +kernel
theorem xd_Z_poke_45 : decode xb_Z_poke 45 = .ok (.idiv, 1) := by decide +kernel
theorem xd_Z_poke_46 : decode xb_Z_poke 46 = .ok (.iconst 2, 1) := by decide +kernel
theorem xd_Z_poke_47 : decode xb_Z_poke 47 = .ok (.iadd, 1) := by decide +kernel
theorem xd_Z_poke_48 : decode xb_Z_poke 48 = .ok (.iload 4, 2) := by decide +kernel
theorem xd_Z_poke_50 : decode xb_Z_poke 50 = .ok (.iastore, 1) := by decide +kernel
theorem xd_Z_poke_51 : decode xb_Z_poke 51 = .ok (.aload_n 0, 1) := by decide +kernel
theorem xd_Z_poke_52 : decode xb_Z_poke 52 = .ok (.getfield 2, 3) := by decide +kernel
theorem xd_Z_poke_55 : decode xb_Z_poke 55 = .ok (.iload_n 1, 1) := by decide +kernel
theorem xd_Z_poke_56 : decode xb_Z_poke 56 = .ok (.iconst 4, 1) := by decide +kernel
theorem xd_Z_poke_57 : decode xb_Z_poke 57 = .ok (.idiv, 1) := by decide +kernel
theorem xd_Z_poke_58 : decode xb_Z_poke 58 = .ok (.iconst 3, 1) := by decide +kernel
theorem xd_Z_poke_59 : decode xb_Z_poke 59 = .ok (.iadd, 1) := by decide +kernel
theorem xd_Z_poke_60 : decode xb_Z_poke 60 = .ok (.iload 5, 2) := by decide +kernel
theorem xd_Z_poke_62 : decode xb_Z_poke 62 = .ok (.iastore, 1) := by decide +kernel
theorem xd_Z_poke_63 : decode xb_Z_poke 63 = .ok (.aload_n 0, 1) := by decide +kernel
theorem xd_Z_poke_64 : decode xb_Z_poke 64 = .ok (.getfield 2, 3) := by decide +kernel
theorem xd_Z_poke_67 : decode xb_Z_poke 67 = .ok (.iload_n 1, 1) := by decide +kernel
theorem xd_Z_poke_68 : decode xb_Z_poke 68 = .ok (.iconst 4, 1) := by decide +kernel
theorem xd_Z_poke_69 : decode xb_Z_poke 69 = .ok (.idiv, 1) := by decide +kernel
theorem xd_Z_poke_70 : decode xb_Z_poke 70 = .ok (.iconst 4, 1) := by decide +kernel
theorem xd_Z_poke_71 : decode xb_Z_poke 71 = .ok (.iadd, 1) := by decide +kernel
theorem xd_Z_poke_72 : decode xb_Z_poke 72 = .ok (.iload 6, 2) := by decide +kernel
theorem xd_Z_poke_74 : decode xb_Z_poke 74 = .ok (.iastore, 1) := by decide +kernel
theorem xd_Z_poke_75 : decode xb_Z_poke 75 = .ok (.iconst 0, 1) := by decide +kernel
theorem xd_Z_poke_76 : decode xb_Z_poke 76 = .ok (.ireturn, 1) := by decide +kernel
theorem xd_Z_word2_0 : decode xb_Z_word2 0 = .ok (.iload_n 1, 1) := by decide +kernel
theorem xd_Z_word2_1 : decode xb_Z_word2 1 = .ok (.ifCond .lt 16, 3) := by decide +kernel
theorem xd_Z_word2_4 : decode xb_Z_word2 4 = .ok (.iload_n 1, 1) := by decide +kernel
theorem xd_Z_word2_5 : decode xb_Z_word2 5 = .ok (.ldc_w 308, 3) := by decide +kernel
theorem xd_Z_word2_8 : decode xb_Z_word2 8 = .ok (.if_icmp .ge 9, 3) := by decide +kernel
theorem xd_Z_word2_11 : decode xb_Z_word2 11 = .ok (.iload_n 1, 1) := by decide +kernel
theorem xd_Z_word2_12 : decode xb_Z_word2 12 = .ok (.iconst 4, 1) := by decide +kernel
theorem xd_Z_word2_13 : decode xb_Z_word2 13 = .ok (.irem, 1) := by decide +kernel
theorem xd_Z_word2_14 : decode xb_Z_word2 14 = .ok (.ifCond .eq 7, 3) := by decide +kernel
theorem xd_Z_word2_17 : decode xb_Z_word2 17 = .ok (.iconst 0, 1) := by decide +kernel
theorem xd_Z_word2_18 : decode xb_Z_word2 18 = .ok (.goto 11, 3) := by decide +kernel
theorem xd_Z_word2_21 : decode xb_Z_word2 21 = .ok (.aload_n 0, 1) := by decide +kernel
theorem xd_Z_word2_22 : decode xb_Z_word2 22 = .ok (.getfield 2, 3) := by decide +kernel
theorem xd_Z_word2_25 : decode xb_Z_word2 25 = .ok (.iload_n 1, 1) := by decide +kernel
theorem xd_Z_word2_26 : decode xb_Z_word2 26 = .ok (.iconst 4, 1) := by decide +kernel
theorem xd_Z_word2_27 : decode xb_Z_word2 27 = .ok (.idiv, 1) := by decide +kernel
theorem xd_Z_word2_28 : decode xb_Z_word2 28 = .ok (.iaload, 1) := by decide +kernel
theorem xd_Z_word2_29 : decode xb_Z_word2 29 = .ok (.ireturn, 1) := by decide +kernel
theorem xd_Z_sum_0 : decode xb_Z_sum 0 = .ok (.iload_n 1, 1) := by decide +kernel
theorem xd_Z_sum_1 : decode xb_Z_sum 1 = .ok (.ifCond .lt 22, 3) := by decide +kernel
theorem xd_Z_sum_4 : decode xb_Z_sum 4 = .ok (.iload_n 2, 1) := by decide +kernel
theorem xd_Z_sum_5 : decode xb_Z_sum 5 = .ok (.iconst 1, 1) := by decide +kernel
theorem xd_Z_sum_6 : decode xb_Z_sum 6 = .ok (.if_icmp .lt 17, 3) := by decide +kernel
theorem xd_Z_sum_9 : decode xb_Z_sum 9 = .ok (.iload_n 1, 1) := by decide +kernel
theorem xd_Z_sum_10 : decode xb_Z_sum 10 = .ok (.bipush 63, 2) := by decide +kernel
theorem xd_Z_sum_12 : decode xb_Z_sum 12 = .ok (.if_icmp .gt 11, 3) := by decide +kernel
theorem xd_Z_sum_15 : decode xb_Z_sum 15 = .ok (.iload_n 2, 1) := by decide +kernel
theorem xd_Z_sum_16 : decode xb_Z_sum 16 = .ok (.bipush 64, 2) := by decide +kernel
theorem xd_Z_sum_18 : decode xb_Z_sum 18 = .ok (.iload_n 1, 1) := by decide +kernel
theorem xd_Z_sum_19 : decode xb_Z_sum 19 = .ok (.isub, 1) := by decide +kernel
theorem xd_Z_sum_20 : decode xb_Z_sum 20 = .ok (.if_icmp .le 5, 3) := by decide +kernel
theorem xd_Z_sum_23 : decode xb_Z_sum 23 = .ok (.iconst (-1), 1) := by decide +kernel
theorem xd_Z_sum_24 : decode xb_Z_sum 24 = .ok (.ireturn, 1) := by decide +kernel
theorem xd_Z_sum_25 : decode xb_Z_sum 25 = .ok (.iconst 1, 1) := by decide +kernel
theorem xd_Z_sum_26 : decode xb_Z_sum 26 = .ok (.istore_n 3, 1) := by decide +kernel
theorem xd_Z_sum_27 : decode xb_Z_sum 27 = .ok (.sipush 1024, 3) := by decide +kernel
theorem xd_Z_sum_30 : decode xb_Z_sum 30 = .ok (.iload_n 1, 1) := by decide +kernel
theorem xd_Z_sum_31 : decode xb_Z_sum 31 = .ok (.imul, 1) := by decide +kernel
theorem xd_Z_sum_32 : decode xb_Z_sum 32 = .ok (.istore 4, 2) := by decide +kernel
theorem xd_Z_sum_34 : decode xb_Z_sum 34 = .ok (.iload 4, 2) := by decide +kernel
theorem xd_Z_sum_36 : decode xb_Z_sum 36 = .ok (.sipush 1024, 3) := by decide +kernel
theorem xd_Z_sum_39 : decode xb_Z_sum 39 = .ok (.iload_n 1, 1) := by decide +kernel
theorem xd_Z_sum_40 : decode xb_Z_sum 40 = .ok (.iload_n 2, 1) := by decide +kernel
theorem xd_Z_sum_41 : decode xb_Z_sum 41 = .ok (.iadd, 1) := by decide +kernel
theorem xd_Z_sum_42 : decode xb_Z_sum 42 = .ok (.imul, 1) := by decide +kernel
theorem xd_Z_sum_43 : decode xb_Z_sum 43 = .ok (.if_icmp .ge 22, 3) := by decide +kernel
theorem xd_Z_sum_46 : decode xb_Z_sum 46 = .ok (.bipush 31, 2) := by decide +kernel
theorem xd_Z_sum_48 : decode xb_Z_sum 48 = .ok (.iload_n 3, 1) := by decide +kernel
theorem xd_Z_sum_49 : decode xb_Z_sum 49 = .ok (.imul, 1) := by decide +kernel
theorem xd_Z_sum_50 : decode xb_Z_sum 50 = .ok (.aload_n 0, 1) := by decide +kernel
theorem xd_Z_sum_51 : decode xb_Z_sum 51 = .ok (.getfield 2, 3) := by decide +kernel
theorem xd_Z_sum_54 : decode xb_Z_sum 54 = .ok (.iload 4, 2) := by decide +kernel
theorem xd_Z_sum_56 : decode xb_Z_sum 56 = .ok (.iaload, 1) := by decide +kernel
theorem xd_Z_sum_57 : decode xb_Z_sum 57 = .ok (.iadd, 1) := by decide +kernel
theorem xd_Z_sum_58 : decode xb_Z_sum 58 = .ok (.istore_n 3, 1) := by decide +kernel
theorem xd_Z_sum_59 : decode xb_Z_sum 59 = .ok (.iinc 4 1, 3) := by decide +kernel
theorem xd_Z_sum_62 : decode xb_Z_sum 62 = .ok (.goto (-28), 3) := by decide +kernel
theorem xd_Z_sum_65 : decode xb_Z_sum 65 = .ok (.iload_n 3, 1) := by decide +kernel
theorem xd_Z_sum_66 : decode xb_Z_sum 66 = .ok (.ireturn, 1) := by decide +kernel
theorem xd_Z_setRegister_0 : decode xb_Z_setRegister 0 = .ok (.iload_n 1, 1) := by decide +kernel
theorem xd_Z_setRegister_1 : decode xb_Z_setRegister 1 = .ok (.iconst 0, 1) := by decide +kernel
theorem xd_Z_setRegister_2 : decode xb_Z_setRegister 2 = .ok (.bipush 31, 2) := by decide +kernel
theorem xd_Z_setRegister_4 : decode xb_Z_setRegister 4 = .ok (.invokestatic 278, 3) := by decide +kernel
theorem xd_Z_setRegister_7 : decode xb_Z_setRegister 7 = .ok (.ifCond .ne 5, 3) := by decide +kernel
theorem xd_Z_setRegister_10 : decode xb_Z_setRegister 10 = .ok (.iconst 0, 1) := by decide +kernel
theorem xd_Z_setRegister_11 : decode xb_Z_setRegister 11 = .ok (.ireturn, 1) := by decide +kernel
theorem xd_Z_setRegister_12 : decode xb_Z_setRegister 12 = .ok (.aload_n 0, 1) := by decide +kernel
theorem xd_Z_setRegister_13 : decode xb_Z_setRegister 13 = .ok (.getfield 8, 3) := by decide +kernel
theorem xd_Z_setRegister_16 : decode xb_Z_setRegister 16 = .ok (.iload_n 1, 1) := by decide +kernel
theorem xd_Z_setRegister_17 : decode xb_Z_setRegister 17 = .ok (.iaload, 1) := by decide +kernel
theorem xd_Z_setRegister_18 : decode xb_Z_setRegister 18 = .ok (.istore_n 3, 1) := by decide +kernel
theorem xd_Z_setRegister_19 : decode xb_Z_setRegister 19 = .ok (.aload_n 0, 1) := by decide +kernel
theorem xd_Z_setRegister_20 : decode xb_Z_setRegister 20 = .ok (.iload_n 1, 1) := by decide +kernel
theorem xd_Z_setRegister_21 : decode xb_Z_setRegister 21 = .ok (.iload_n 2, 1) := by decide +kernel
theorem xd_Z_setRegister_22 : decode xb_Z_setRegister 22 = .ok (.invokevirtual 185, 3) := by decide +kernel
theorem xd_Z_setRegister_25 : decode xb_Z_setRegister 25 = .ok (.istore 4, 2) := by decide +kernel
theorem xd_Z_setRegister_27 : decode xb_Z_setRegister 27 = .ok (.iload_n 3, 1) := by decide +kernel
theorem xd_Z_setRegister_28 : decode xb_Z_setRegister 28 = .ok (.ireturn, 1) := by decide +kernel
theorem xd_Z_register_0 : decode xb_Z_register 0 = .ok (.iload_n 1, 1) := by decide +kernel
theorem xd_Z_register_1 : decode xb_Z_register 1 = .ok (.iconst 0, 1) := by decide +kernel
theorem xd_Z_register_2 : decode xb_Z_register 2 = .ok (.bipush 31, 2) := by decide +kernel
theorem xd_Z_register_4 : decode xb_Z_register 4 = .ok (.invokestatic 278, 3) := by decide +kernel
theorem xd_Z_register_7 : decode xb_Z_register 7 = .ok (.ifCond .eq 12, 3) := by decide +kernel
theorem xd_Z_register_10 : decode xb_Z_register 10 = .ok (.aload_n 0, 1) := by decide +kernel
theorem xd_Z_register_11 : decode xb_Z_register 11 = .ok (.getfield 8, 3) := by decide +kernel
theorem xd_Z_register_14 : decode xb_Z_register 14 = .ok (.iload_n 1, 1) := by decide +kernel
theorem xd_Z_register_15 : decode xb_Z_register 15 = .ok (.iaload, 1) := by decide +kernel
theorem xd_Z_register_16 : decode xb_Z_register 16 = .ok (.goto 4, 3) := by decide +kernel
theorem xd_Z_register_19 : decode xb_Z_register 19 = .ok (.iconst 0, 1) := by decide +kernel
theorem xd_Z_register_20 : decode xb_Z_register 20 = .ok (.ireturn, 1) := by decide +kernel
theorem xd_Z_setControl_0 : decode xb_Z_setControl 0 = .ok (.iload_n 1, 1) := by decide +kernel
theorem xd_Z_setControl_1 : decode xb_Z_setControl 1 = .ok (.invokestatic 52, 3) := by decide +kernel
theorem xd_Z_setControl_4 : decode xb_Z_setControl 4 = .ok (.ifCond .lt 10, 3) := by decide +kernel
theorem xd_Z_setControl_7 : decode xb_Z_setControl 7 = .ok (.iload_n 1, 1) := by decide +kernel
theorem xd_Z_setControl_8 : decode xb_Z_setControl 8 = .ok (.sipush 3072, 3) := by decide +kernel
theorem xd_Z_setControl_11 : decode xb_Z_setControl 11 = .ok (.if_icmp .le 5, 3) := by decide +kernel
theorem xd_Z_setControl_14 : decode xb_Z_setControl 14 = .ok (.iconst (-1), 1) := by decide +kernel
theorem xd_Z_setControl_15 : decode xb_Z_setControl 15 = .ok (.ireturn, 1) := by decide +kernel
theorem xd_Z_setControl_16 : decode xb_Z_setControl 16 = .ok (.aload_n 0, 1) := by decide +kernel
theorem xd_Z_setControl_17 : decode xb_Z_setControl 17 = .ok (.iload_n 1, 1) := by decide +kernel
theorem xd_Z_setControl_18 : decode xb_Z_setControl 18 = .ok (.iload_n 2, 1) := by decide +kernel
theorem xd_Z_setControl_19 : decode xb_Z_setControl 19 = .ok (.invokevirtual 275, 3) := by decide +kernel
theorem xd_Z_setControl_22 : decode xb_Z_setControl 22 = .ok (.iconst 0, 1) := by decide +kernel
theorem xd_Z_setControl_23 : decode xb_Z_setControl 23 = .ok (.ireturn, 1) := by decide +kernel
theorem xd_Z_control2_0 : decode xb_Z_control2 0 = .ok (.iload_n 1, 1) := by decide +kernel
theorem xd_Z_control2_1 : decode xb_Z_control2 1 = .ok (.invokestatic 52, 3) := by decide +kernel
theorem xd_Z_control2_4 : decode xb_Z_control2 4 = .ok (.ifCond .ge 7, 3) := by decide +kernel
theorem xd_Z_control2_7 : decode xb_Z_control2 7 = .ok (.iconst 0, 1) := by decide +kernel
theorem xd_Z_control2_8 : decode xb_Z_control2 8 = .ok (.goto 8, 3) := by decide +kernel
theorem xd_Z_control2_11 : decode xb_Z_control2 11 = .ok (.aload_n 0, 1) := by decide +kernel
theorem xd_Z_control2_12 : decode xb_Z_control2 12 = .ok (.iload_n 1, 1) := by decide +kernel
theorem xd_Z_control2_13 : decode xb_Z_control2 13 = .ok (.invokevirtual 109, 3) := by decide +kernel
theorem xd_Z_control2_16 : decode xb_Z_control2 16 = .ok (.ireturn, 1) := by decide +kernel
theorem xd_Z_place_0 : decode xb_Z_place 0 = .ok (.iload_n 1, 1) := by decide +kernel
theorem xd_Z_place_1 : decode xb_Z_place 1 = .ok (.iconst 4, 1) := by decide +kernel
theorem xd_Z_place_2 : decode xb_Z_place 2 = .ok (.irem, 1) := by decide +kernel
theorem xd_Z_place_3 : decode xb_Z_place 3 = .ok (.ifCond .ne 12, 3) := by decide +kernel
theorem xd_Z_place_6 : decode xb_Z_place 6 = .ok (.iload_n 2, 1) := by decide +kernel
theorem xd_Z_place_7 : decode xb_Z_place 7 = .ok (.iconst 0, 1) := by decide +kernel
theorem xd_Z_place_8 : decode xb_Z_place 8 = .ok (.iconst 3, 1) := by decide +kernel
theorem xd_Z_place_9 : decode xb_Z_place 9 = .ok (.invokestatic 278, 3) := by decide +kernel
theorem xd_Z_place_12 : decode xb_Z_place 12 = .ok (.ifCond .ne 5, 3) := by decide +kernel
theorem xd_Z_place_15 : decode xb_Z_place 15 = .ok (.iconst (-1), 1) := by decide +kernel
theorem xd_Z_place_16 : decode xb_Z_place 16 = .ok (.ireturn, 1) := by decide +kernel
theorem xd_Z_place_17 : decode xb_Z_place 17 = .ok (.aload_n 0, 1) := by decide +kernel
theorem xd_Z_place_18 : decode xb_Z_place 18 = .ok (.getfield 18, 3) := by decide +kernel
theorem xd_Z_place_21 : decode xb_Z_place 21 = .ok (.istore_n 3, 1) := by decide +kernel
theorem xd_Z_place_22 : decode xb_Z_place 22 = .ok (.aload_n 0, 1) := by decide +kernel
theorem xd_Z_place_23 : decode xb_Z_place 23 = .ok (.iload_n 1, 1) := by decide +kernel
theorem xd_Z_place_24 : decode xb_Z_place 24 = .ok (.putfield 14, 3) := by decide +kernel
theorem xd_Z_place_27 : decode xb_Z_place 27 = .ok (.aload_n 0, 1) := by decide +kernel
theorem xd_Z_place_28 : decode xb_Z_place 28 = .ok (.iload_n 2, 1) := by decide +kernel
theorem xd_Z_place_29 : decode xb_Z_place 29 = .ok (.putfield 18, 3) := by decide +kernel
theorem xd_Z_place_32 : decode xb_Z_place 32 = .ok (.iload_n 3, 1) := by decide +kernel
theorem xd_Z_place_33 : decode xb_Z_place 33 = .ok (.ireturn, 1) := by decide +kernel
theorem xd_Z_line_0 : decode xb_Z_line 0 = .ok (.aload_n 0, 1) := by decide +kernel
theorem xd_Z_line_1 : decode xb_Z_line 1 = .ok (.getfield 30, 3) := by decide +kernel
theorem xd_Z_line_4 : decode xb_Z_line 4 = .ok (.istore_n 2, 1) := by decide +kernel
theorem xd_Z_line_5 : decode xb_Z_line 5 = .ok (.aload_n 0, 1) := by decide +kernel
theorem xd_Z_line_6 : decode xb_Z_line 6 = .ok (.iload_n 1, 1) := by decide +kernel
theorem xd_Z_line_7 : decode xb_Z_line 7 = .ok (.putfield 30, 3) := by decide +kernel
theorem xd_Z_line_10 : decode xb_Z_line 10 = .ok (.iload_n 2, 1) := by decide +kernel
theorem xd_Z_line_11 : decode xb_Z_line 11 = .ok (.ireturn, 1) := by decide +kernel
theorem xd_Z_run_0 : decode xb_Z_run 0 = .ok (.iload_n 1, 1) := by decide +kernel
theorem xd_Z_run_1 : decode xb_Z_run 1 = .ok (.iconst 0, 1) := by decide +kernel
theorem xd_Z_run_2 : decode xb_Z_run 2 = .ok (.sipush 2000, 3) := by decide +kernel
theorem xd_Z_run_5 : decode xb_Z_run 5 = .ok (.invokestatic 278, 3) := by decide +kernel
theorem xd_Z_run_8 : decode xb_Z_run 8 = .ok (.ifCond .ne 5, 3) := by decide +kernel
theorem xd_Z_run_11 : decode xb_Z_run 11 = .ok (.iconst (-1), 1) := by decide +kernel
theorem xd_Z_run_12 : decode xb_Z_run 12 = .ok (.ireturn, 1) := by decide +kernel
theorem xd_Z_run_13 : decode xb_Z_run 13 = .ok (.iconst 0, 1) := by decide +kernel
theorem xd_Z_run_14 : decode xb_Z_run 14 = .ok (.istore_n 2, 1) := by decide +kernel
theorem xd_Z_run_15 : decode xb_Z_run 15 = .ok (.iload_n 2, 1) := by decide +kernel
theorem xd_Z_run_16 : decode xb_Z_run 16 = .ok (.iload_n 1, 1) := by decide +kernel
theorem xd_Z_run_17 : decode xb_Z_run 17 = .ok (.if_icmp .ge 20, 3) := by decide +kernel
theorem xd_Z_run_20 : decode xb_Z_run 20 = .ok (.aload_n 0, 1) := by decide +kernel
theorem xd_Z_run_21 : decode xb_Z_run 21 = .ok (.getfield 34, 3) := by decide +kernel
theorem xd_Z_run_24 : decode xb_Z_run 24 = .ok (.ifCond .ne 13, 3) := by decide +kernel
theorem xd_Z_run_27 : decode xb_Z_run 27 = .ok (.aload_n 0, 1) := by decide +kernel
theorem xd_Z_run_28 : decode xb_Z_run 28 = .ok (.invokevirtual 309, 3) := by decide +kernel
theorem xd_Z_run_31 : decode xb_Z_run 31 = .ok (.iinc 2 1, 3) := by decide +kernel
theorem xd_Z_run_34 : decode xb_Z_run 34 = .ok (.goto (-19), 3) := by decide +kernel
theorem xd_Z_run_37 : decode xb_Z_run 37 = .ok (.iload_n 2, 1) := by decide +kernel
theorem xd_Z_run_38 : decode xb_Z_run 38 = .ok (.ireturn, 1) := by decide +kernel
theorem xd_Z_count_0 : decode xb_Z_count 0 = .ok (.iload_n 1, 1) := by decide +kernel
theorem xd_Z_count_1 : decode xb_Z_count 1 = .ok (.tableswitch 140 0 10 #[59, 64, 69, 79, 88, 93, 98, 103, 108, 121, 131], 59) := by decide +kernel
theorem xd_Z_count_60 : decode xb_Z_count 60 = .ok (.aload_n 0, 1) := by decide +kernel
theorem xd_Z_count_61 : decode xb_Z_count 61 = .ok (.getfield 18, 3) := by decide +kernel
theorem xd_Z_count_64 : decode xb_Z_count 64 = .ok (.ireturn, 1) := by decide +kernel
theorem xd_Z_count_65 : decode xb_Z_count 65 = .ok (.aload_n 0, 1) := by decide +kernel
theorem xd_Z_count_66 : decode xb_Z_count 66 = .ok (.getfield 14, 3) := by decide +kernel
theorem xd_Z_count_69 : decode xb_Z_count 69 = .ok (.ireturn, 1) := by decide +kernel
theorem xd_Z_count_70 : decode xb_Z_count 70 = .ok (.aload_n 0, 1) := by decide +kernel
theorem xd_Z_count_71 : decode xb_Z_count 71 = .ok (.getfield 21, 3) := by decide +kernel
theorem xd_Z_count_74 : decode xb_Z_count 74 = .ok (.ldc2_w 68, 3) := by decide +kernel
theorem xd_Z_count_77 : decode xb_Z_count 77 = .ok (.land, 1) := by decide +kernel
theorem xd_Z_count_78 : decode xb_Z_count 78 = .ok (.l2i, 1) := by decide +kernel
theorem xd_Z_count_79 : decode xb_Z_count 79 = .ok (.ireturn, 1) := by decide +kernel
theorem xd_Z_count_80 : decode xb_Z_count 80 = .ok (.aload_n 0, 1) := by decide +kernel
theorem xd_Z_count_81 : decode xb_Z_count 81 = .ok (.getfield 21, 3) := by decide +kernel
theorem xd_Z_count_84 : decode xb_Z_count 84 = .ok (.bipush 32, 2) := by decide +kernel
theorem xd_Z_count_86 : decode xb_Z_count 86 = .ok (.lshr, 1) := by decide +kernel
theorem xd_Z_count_87 : decode xb_Z_count 87 = .ok (.l2i, 1) := by decide +kernel
theorem xd_Z_count_88 : decode xb_Z_count 88 = .ok (.ireturn, 1) := by decide +kernel
theorem xd_Z_count_89 : decode xb_Z_count 89 = .ok (.aload_n 0, 1) := by decide +kernel
theorem xd_Z_count_90 : decode xb_Z_count 90 = .ok (.getfield 40, 3) := by decide +kernel
theorem xd_Z_count_93 : decode xb_Z_count 93 = .ok (.ireturn, 1) := by decide +kernel
theorem xd_Z_count_94 : decode xb_Z_count 94 = .ok (.aload_n 0, 1) := by decide +kernel
theorem xd_Z_count_95 : decode xb_Z_count 95 = .ok (.getfield 43, 3) := by decide +kernel
theorem xd_Z_count_98 : decode xb_Z_count 98 = .ok (.ireturn, 1) := by decide +kernel
theorem xd_Z_count_99 : decode xb_Z_count 99 = .ok (.aload_n 0, 1) := by decide +kernel
theorem xd_Z_count_100 : decode xb_Z_count 100 = .ok (.getfield 46, 3) := by decide +kernel
theorem xd_Z_count_103 : decode xb_Z_count 103 = .ok (.ireturn, 1) := by decide +kernel
theorem xd_Z_count_104 : decode xb_Z_count 104 = .ok (.aload_n 0, 1) := by decide +kernel
theorem xd_Z_count_105 : decode xb_Z_count 105 = .ok (.getfield 37, 3) := by decide +kernel
theorem xd_Z_count_108 : decode xb_Z_count 108 = .ok (.ireturn, 1) := by decide +kernel
theorem xd_Z_count_109 : decode xb_Z_count 109 = .ok (.aload_n 0, 1) := by decide +kernel
theorem xd_Z_count_110 : decode xb_Z_count 110 = .ok (.getfield 34, 3) := by decide +kernel
theorem xd_Z_count_113 : decode xb_Z_count 113 = .ok (.ifCond .eq 7, 3) := by decide +kernel
theorem xd_Z_count_116 : decode xb_Z_count 116 = .ok (.iconst 1, 1) := by decide +kernel
theorem xd_Z_count_117 : decode xb_Z_count 117 = .ok (.goto 4, 3) := by decide +kernel
theorem xd_Z_count_120 : decode xb_Z_count 120 = .ok (.iconst 0, 1) := by decide +kernel
theorem xd_Z_count_121 : decode xb_Z_count 121 = .ok (.ireturn, 1) := by decide +kernel
theorem xd_Z_count_122 : decode xb_Z_count 122 = .ok (.aload_n 0, 1) := by decide +kernel
theorem xd_Z_count_123 : decode xb_Z_count 123 = .ok (.getfield 27, 3) := by decide +kernel
theorem xd_Z_count_126 : decode xb_Z_count 126 = .ok (.ldc2_w 68, 3) := by decide +kernel
theorem xd_Z_count_129 : decode xb_Z_count 129 = .ok (.land, 1) := by decide +kernel
theorem xd_Z_count_130 : decode xb_Z_count 130 = .ok (.l2i, 1) := by decide +kernel
theorem xd_Z_count_131 : decode xb_Z_count 131 = .ok (.ireturn, 1) := by decide +kernel
theorem xd_Z_count_132 : decode xb_Z_count 132 = .ok (.aload_n 0, 1) := by decide +kernel
theorem xd_Z_count_133 : decode xb_Z_count 133 = .ok (.getfield 27, 3) := by decide +kernel
theorem xd_Z_count_136 : decode xb_Z_count 136 = .ok (.bipush 32, 2) := by decide +kernel
theorem xd_Z_count_138 : decode xb_Z_count 138 = .ok (.lshr, 1) := by decide +kernel
theorem xd_Z_count_139 : decode xb_Z_count 139 = .ok (.l2i, 1) := by decide +kernel
theorem xd_Z_count_140 : decode xb_Z_count 140 = .ok (.ireturn, 1) := by decide +kernel
theorem xd_Z_count_141 : decode xb_Z_count 141 = .ok (.iconst (-1), 1) := by decide +kernel
theorem xd_Z_count_142 : decode xb_Z_count 142 = .ok (.ireturn, 1) := by decide +kernel
theorem xd_Z_console_0 : decode xb_Z_console 0 = .ok (.iload_n 1, 1) := by decide +kernel
theorem xd_Z_console_1 : decode xb_Z_console 1 = .ok (.ifCond .lt 11, 3) := by decide +kernel
theorem xd_Z_console_4 : decode xb_Z_console 4 = .ok (.iload_n 1, 1) := by decide +kernel
theorem xd_Z_console_5 : decode xb_Z_console 5 = .ok (.aload_n 0, 1) := by decide +kernel
theorem xd_Z_console_6 : decode xb_Z_console 6 = .ok (.getfield 37, 3) := by decide +kernel
theorem xd_Z_console_9 : decode xb_Z_console 9 = .ok (.if_icmp .lt 7, 3) := by decide +kernel
theorem xd_Z_console_12 : decode xb_Z_console 12 = .ok (.iconst (-1), 1) := by decide +kernel
theorem xd_Z_console_13 : decode xb_Z_console 13 = .ok (.goto 9, 3) := by decide +kernel
theorem xd_Z_console_16 : decode xb_Z_console 16 = .ok (.aload_n 0, 1) := by decide +kernel
theorem xd_Z_console_17 : decode xb_Z_console 17 = .ok (.getfield 268, 3) := by decide +kernel
theorem xd_Z_console_20 : decode xb_Z_console 20 = .ok (.iload_n 1, 1) := by decide +kernel
theorem xd_Z_console_21 : decode xb_Z_console 21 = .ok (.iaload, 1) := by decide +kernel
theorem xd_Z_console_22 : decode xb_Z_console 22 = .ok (.ireturn, 1) := by decide +kernel
theorem xd_Z_breaches_0 : decode xb_Z_breaches 0 = .ok (.iconst 0, 1) := by decide +kernel
theorem xd_Z_breaches_1 : decode xb_Z_breaches 1 = .ok (.ireturn, 1) := by decide +kernel
theorem xd_A_causeOf_0 : decode xb_A_causeOf 0 = .ok (.lload_n 1, 1) := by decide +kernel
theorem xd_A_causeOf_1 : decode xb_A_causeOf 1 = .ok (.ldc2_w 56, 3) := by decide +kernel
theorem xd_A_causeOf_4 : decode xb_A_causeOf 4 = .ok (.lcmp, 1) := by decide +kernel
theorem xd_A_causeOf_5 : decode xb_A_causeOf 5 = .ok (.ifCond .ne 8, 3) := by decide +kernel
theorem xd_A_causeOf_8 : decode xb_A_causeOf 8 = .ok (.aload_n 0, 1) := by decide +kernel
theorem xd_A_causeOf_9 : decode xb_A_causeOf 9 = .ok (.getfield 47, 3) := by decide +kernel
theorem xd_A_causeOf_12 : decode xb_A_causeOf 12 = .ok (.ireturn, 1) := by decide +kernel
theorem xd_A_causeOf_13 : decode xb_A_causeOf 13 = .ok (.lload_n 1, 1) := by decide +kernel
theorem xd_A_causeOf_14 : decode xb_A_causeOf 14 = .ok (.ldc2_w 58, 3) := by decide +kernel
theorem xd_A_causeOf_17 : decode xb_A_causeOf 17 = .ok (.lcmp, 1) := by decide +kernel
theorem xd_A_causeOf_18 : decode xb_A_causeOf 18 = .ok (.ifCond .ne 10, 3) := by decide +kernel
theorem xd_A_causeOf_21 : decode xb_A_causeOf 21 = .ok (.aload_n 0, 1) := by decide +kernel
theorem xd_A_causeOf_22 : decode xb_A_causeOf 22 = .ok (.getfield 50, 3) := by decide +kernel
theorem xd_A_causeOf_25 : decode xb_A_causeOf 25 = .ok (.goto 7, 3) := by decide +kernel
theorem xd_A_causeOf_28 : decode xb_A_causeOf 28 = .ok (.aload_n 0, 1) := by decide +kernel
theorem xd_A_causeOf_29 : decode xb_A_causeOf 29 = .ok (.getfield 53, 3) := by decide +kernel
theorem xd_A_causeOf_32 : decode xb_A_causeOf 32 = .ok (.ireturn, 1) := by decide +kernel
theorem xd_A_anyWith_0 : decode xb_A_anyWith 0 = .ok (.aload_n 0, 1) := by decide +kernel
theorem xd_A_anyWith_1 : decode xb_A_anyWith 1 = .ok (.getstatic 9, 3) := by decide +kernel
theorem xd_A_anyWith_4 : decode xb_A_anyWith 4 = .ok (.if_acmp .ne 17, 3) := by decide +kernel
theorem xd_A_anyWith_7 : decode xb_A_anyWith 7 = .ok (.iload_n 1, 1) := by decide +kernel
theorem xd_A_anyWith_8 : decode xb_A_anyWith 8 = .ok (.ifCond .eq 13, 3) := by decide +kernel
theorem xd_A_anyWith_11 : decode xb_A_anyWith 11 = .ok (.aload_n 0, 1) := by decide +kernel
theorem xd_A_anyWith_12 : decode xb_A_anyWith 12 = .ok (.getfield 37, 3) := by decide +kernel
theorem xd_A_anyWith_15 : decode xb_A_anyWith 15 = .ok (.bipush 8, 2) := by decide +kernel
theorem xd_A_anyWith_17 : decode xb_A_anyWith 17 = .ok (.ior, 1) := by decide +kernel
theorem xd_A_anyWith_18 : decode xb_A_anyWith 18 = .ok (.goto 7, 3) := by decide +kernel
theorem xd_A_anyWith_21 : decode xb_A_anyWith 21 = .ok (.aload_n 0, 1) := by decide +kernel
theorem xd_A_anyWith_22 : decode xb_A_anyWith 22 = .ok (.getfield 37, 3) := by decide +kernel
theorem xd_A_anyWith_25 : decode xb_A_anyWith 25 = .ok (.ireturn, 1) := by decide +kernel
theorem xd_R_lessNoSign_0 : decode xb_R_lessNoSign 0 = .ok (.iload_n 0, 1) := by decide +kernel
theorem xd_R_lessNoSign_1 : decode xb_R_lessNoSign 1 = .ok (.i2l, 1) := by decide +kernel
theorem xd_R_lessNoSign_2 : decode xb_R_lessNoSign 2 = .ok (.ldc2_w 9, 3) := by decide +kernel
theorem xd_R_lessNoSign_5 : decode xb_R_lessNoSign 5 = .ok (.land, 1) := by decide +kernel
theorem xd_R_lessNoSign_6 : decode xb_R_lessNoSign 6 = .ok (.iload_n 1, 1) := by decide +kernel
theorem xd_R_lessNoSign_7 : decode xb_R_lessNoSign 7 = .ok (.i2l, 1) := by decide +kernel
theorem xd_R_lessNoSign_8 : decode xb_R_lessNoSign 8 = .ok (.ldc2_w 9, 3) := by decide +kernel
theorem xd_R_lessNoSign_11 : decode xb_R_lessNoSign 11 = .ok (.land, 1) := by decide +kernel
theorem xd_R_lessNoSign_12 : decode xb_R_lessNoSign 12 = .ok (.lcmp, 1) := by decide +kernel
theorem xd_R_lessNoSign_13 : decode xb_R_lessNoSign 13 = .ok (.ifCond .ge 7, 3) := by decide +kernel
theorem xd_R_lessNoSign_16 : decode xb_R_lessNoSign 16 = .ok (.iconst 1, 1) := by decide +kernel
theorem xd_R_lessNoSign_17 : decode xb_R_lessNoSign 17 = .ok (.goto 4, 3) := by decide +kernel
theorem xd_R_lessNoSign_20 : decode xb_R_lessNoSign 20 = .ok (.iconst 0, 1) := by decide +kernel
theorem xd_R_lessNoSign_21 : decode xb_R_lessNoSign 21 = .ok (.ireturn, 1) := by decide +kernel
theorem xd_R_combine_0 : decode xb_R_combine 0 = .ok (.iload_n 0, 1) := by decide +kernel
theorem xd_R_combine_1 : decode xb_R_combine 1 = .ok (.tableswitch 94 0 6 #[43, 47, 54, 65, 79, 83, 90], 43) := by decide +kernel
theorem xd_R_combine_44 : decode xb_R_combine 44 = .ok (.iload_n 1, 1) := by decide +kernel
theorem xd_R_combine_45 : decode xb_R_combine 45 = .ok (.iload_n 2, 1) := by decide +kernel
theorem xd_R_combine_46 : decode xb_R_combine 46 = .ok (.iadd, 1) := by decide +kernel
theorem xd_R_combine_47 : decode xb_R_combine 47 = .ok (.ireturn, 1) := by decide +kernel
theorem xd_R_combine_48 : decode xb_R_combine 48 = .ok (.iload_n 1, 1) := by decide +kernel
theorem xd_R_combine_49 : decode xb_R_combine 49 = .ok (.iload_n 2, 1) := by decide +kernel
theorem xd_R_combine_50 : decode xb_R_combine 50 = .ok (.bipush 31, 2) := by decide +kernel
theorem xd_R_combine_52 : decode xb_R_combine 52 = .ok (.iand, 1) := by decide +kernel
theorem xd_R_combine_53 : decode xb_R_combine 53 = .ok (.ishl, 1) := by decide +kernel
theorem xd_R_combine_54 : decode xb_R_combine 54 = .ok (.ireturn, 1) := by decide +kernel
theorem xd_R_combine_55 : decode xb_R_combine 55 = .ok (.iload_n 1, 1) := by decide +kernel
theorem xd_R_combine_56 : decode xb_R_combine 56 = .ok (.iload_n 2, 1) := by decide +kernel
theorem xd_R_combine_57 : decode xb_R_combine 57 = .ok (.if_icmp .ge 7, 3) := by decide +kernel
theorem xd_R_combine_60 : decode xb_R_combine 60 = .ok (.iconst 1, 1) := by decide +kernel
theorem xd_R_combine_61 : decode xb_R_combine 61 = .ok (.goto 4, 3) := by decide +kernel
theorem xd_R_combine_64 : decode xb_R_combine 64 = .ok (.iconst 0, 1) := by decide +kernel
theorem xd_R_combine_65 : decode xb_R_combine 65 = .ok (.ireturn, 1) := by decide +kernel
theorem xd_R_combine_66 : decode xb_R_combine 66 = .ok (.iload_n 1, 1) := by decide +kernel
theorem xd_R_combine_67 : decode xb_R_combine 67 = .ok (.iload_n 2, 1) := by decide +kernel
theorem xd_R_combine_68 : decode xb_R_combine 68 = .ok (.invokestatic 11, 3) := by decide +kernel
theorem xd_R_combine_71 : decode xb_R_combine 71 = .ok (.ifCond .eq 7, 3) := by decide +kernel
theorem xd_R_combine_74 : decode xb_R_combine 74 = .ok (.iconst 1, 1) := by decide +kernel
theorem xd_R_combine_75 : decode xb_R_combine 75 = .ok (.goto 4, 3) := by decide +kernel
theorem xd_R_combine_78 : decode xb_R_combine 78 = .ok (.iconst 0, 1) := by decide +kernel
theorem xd_R_combine_79 : decode xb_R_combine 79 = .ok (.ireturn, 1) := by decide +kernel
theorem xd_R_combine_80 : decode xb_R_combine 80 = .ok (.iload_n 1, 1) := by decide +kernel
theorem xd_R_combine_81 : decode xb_R_combine 81 = .ok (.iload_n 2, 1) := by decide +kernel
theorem xd_R_combine_82 : decode xb_R_combine 82 = .ok (.ixor, 1) := by decide +kernel
theorem xd_R_combine_83 : decode xb_R_combine 83 = .ok (.ireturn, 1) := by decide +kernel
theorem xd_R_combine_84 : decode xb_R_combine 84 = .ok (.iload_n 1, 1) := by decide +kernel
theorem xd_R_combine_85 : decode xb_R_combine 85 = .ok (.iload_n 2, 1) := by decide +kernel
theorem xd_R_combine_86 : decode xb_R_combine 86 = .ok (.bipush 31, 2) := by decide +kernel
theorem xd_R_combine_88 : decode xb_R_combine 88 = .ok (.iand, 1) := by decide +kernel
theorem xd_R_combine_89 : decode xb_R_combine 89 = .ok (.iushr, 1) := by decide +kernel
theorem xd_R_combine_90 : decode xb_R_combine 90 = .ok (.ireturn, 1) := by decide +kernel
theorem xd_R_combine_91 : decode xb_R_combine 91 = .ok (.iload_n 1, 1) := by decide +kernel
theorem xd_R_combine_92 : decode xb_R_combine 92 = .ok (.iload_n 2, 1) := by decide +kernel
theorem xd_R_combine_93 : decode xb_R_combine 93 = .ok (.ior, 1) := by decide +kernel
theorem xd_R_combine_94 : decode xb_R_combine 94 = .ok (.ireturn, 1) := by decide +kernel
theorem xd_R_combine_95 : decode xb_R_combine 95 = .ok (.iload_n 1, 1) := by decide +kernel
theorem xd_R_combine_96 : decode xb_R_combine 96 = .ok (.iload_n 2, 1) := by decide +kernel
theorem xd_R_combine_97 : decode xb_R_combine 97 = .ok (.iand, 1) := by decide +kernel
theorem xd_R_combine_98 : decode xb_R_combine 98 = .ok (.ireturn, 1) := by decide +kernel
theorem xd_R_multiply_0 : decode xb_R_multiply 0 = .ok (.iload_n 0, 1) := by decide +kernel
theorem xd_R_multiply_1 : decode xb_R_multiply 1 = .ok (.tableswitch 55 0 2 #[27, 31, 41], 27) := by decide +kernel
theorem xd_R_multiply_28 : decode xb_R_multiply 28 = .ok (.iload_n 1, 1) := by decide +kernel
theorem xd_R_multiply_29 : decode xb_R_multiply 29 = .ok (.iload_n 2, 1) := by decide +kernel
