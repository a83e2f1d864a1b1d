theorem xd_T_secondStage_17 : decode xb_T_secondStage 17 = .ok (.iconst 1, 1) := by decide +kernel
theorem xd_T_secondStage_18 : decode xb_T_secondStage 18 = .ok (.goto 4, 3) := by decide +kernel
theorem xd_T_secondStage_21 : decode xb_T_secondStage 21 = .ok (.iconst 0, 1) := by decide +kernel
theorem xd_T_secondStage_22 : decode xb_T_secondStage 22 = .ok (.invokevirtual 61, 3) := by decide +kernel
theorem xd_T_secondStage_25 : decode xb_T_secondStage 25 = .ok (.istore 4, 2) := by decide +kernel
theorem xd_T_secondStage_27 : decode xb_T_secondStage 27 = .ok (.aload_n 0, 1) := by decide +kernel
theorem xd_T_secondStage_28 : decode xb_T_secondStage 28 = .ok (.aload_n 0, 1) := by decide +kernel
theorem xd_T_secondStage_29 : decode xb_T_secondStage 29 = .ok (.getfield 23, 3) := by decide +kernel
theorem xd_T_secondStage_32 : decode xb_T_secondStage 32 = .ok (.getfield 101, 3) := by decide +kernel
theorem xd_T_secondStage_35 : decode xb_T_secondStage 35 = .ok (.lload_n 1, 1) := by decide +kernel
theorem xd_T_secondStage_36 : decode xb_T_secondStage 36 = .ok (.iload 4, 2) := by decide +kernel
theorem xd_T_secondStage_38 : decode xb_T_secondStage 38 = .ok (.aload_n 3, 1) := by decide +kernel
theorem xd_T_secondStage_39 : decode xb_T_secondStage 39 = .ok (.getfield 68, 3) := by decide +kernel
theorem xd_T_secondStage_42 : decode xb_T_secondStage 42 = .ok (.bipush 16, 2) := by decide +kernel
theorem xd_T_secondStage_44 : decode xb_T_secondStage 44 = .ok (.ior, 1) := by decide +kernel
theorem xd_T_secondStage_45 : decode xb_T_secondStage 45 = .ok (.iconst 0, 1) := by decide +kernel
theorem xd_T_secondStage_46 : decode xb_T_secondStage 46 = .ok (.invokevirtual 85, 3) := by decide +kernel
theorem xd_T_secondStage_49 : decode xb_T_secondStage 49 = .ok (.lstore 5, 2) := by decide +kernel
theorem xd_T_secondStage_51 : decode xb_T_secondStage 51 = .ok (.lload 5, 2) := by decide +kernel
theorem xd_T_secondStage_53 : decode xb_T_secondStage 53 = .ok (.lconst 0, 1) := by decide +kernel
theorem xd_T_secondStage_54 : decode xb_T_secondStage 54 = .ok (.lcmp, 1) := by decide +kernel
theorem xd_T_secondStage_55 : decode xb_T_secondStage 55 = .ok (.ifCond .ge 14, 3) := by decide +kernel
theorem xd_T_secondStage_58 : decode xb_T_secondStage 58 = .ok (.aload_n 0, 1) := by decide +kernel
theorem xd_T_secondStage_59 : decode xb_T_secondStage 59 = .ok (.lload 5, 2) := by decide +kernel
theorem xd_T_secondStage_61 : decode xb_T_secondStage 61 = .ok (.lload_n 1, 1) := by decide +kernel
theorem xd_T_secondStage_62 : decode xb_T_secondStage 62 = .ok (.iconst 0, 1) := by decide +kernel
theorem xd_T_secondStage_63 : decode xb_T_secondStage 63 = .ok (.invokevirtual 104, 3) := by decide +kernel
theorem xd_T_secondStage_66 : decode xb_T_secondStage 66 = .ok (.goto 5, 3) := by decide +kernel
theorem xd_T_secondStage_69 : decode xb_T_secondStage 69 = .ok (.lload 5, 2) := by decide +kernel
theorem xd_T_secondStage_71 : decode xb_T_secondStage 71 = .ok (.lreturn, 1) := by decide +kernel
theorem xd_T_guestVerdict_0 : decode xb_T_guestVerdict 0 = .ok (.lload_n 1, 1) := by decide +kernel
theorem xd_T_guestVerdict_1 : decode xb_T_guestVerdict 1 = .ok (.ldc2_w 123, 3) := by decide +kernel
theorem xd_T_guestVerdict_4 : decode xb_T_guestVerdict 4 = .ok (.lcmp, 1) := by decide +kernel
theorem xd_T_guestVerdict_5 : decode xb_T_guestVerdict 5 = .ok (.ifCond .eq 5, 3) := by decide +kernel
theorem xd_T_guestVerdict_8 : decode xb_T_guestVerdict 8 = .ok (.lload_n 1, 1) := by decide +kernel
theorem xd_T_guestVerdict_9 : decode xb_T_guestVerdict 9 = .ok (.lreturn, 1) := by decide +kernel
theorem xd_T_guestVerdict_10 : decode xb_T_guestVerdict 10 = .ok (.aload_n 0, 1) := by decide +kernel
theorem xd_T_guestVerdict_11 : decode xb_T_guestVerdict 11 = .ok (.getfield 30, 3) := by decide +kernel
theorem xd_T_guestVerdict_14 : decode xb_T_guestVerdict 14 = .ok (.lload_n 3, 1) := by decide +kernel
theorem xd_T_guestVerdict_15 : decode xb_T_guestVerdict 15 = .ok (.iconst 2, 1) := by decide +kernel
theorem xd_T_guestVerdict_16 : decode xb_T_guestVerdict 16 = .ok (.lushr, 1) := by decide +kernel
theorem xd_T_guestVerdict_17 : decode xb_T_guestVerdict 17 = .ok (.l2i, 1) := by decide +kernel
theorem xd_T_guestVerdict_18 : decode xb_T_guestVerdict 18 = .ok (.putfield 131, 3) := by decide +kernel
theorem xd_T_guestVerdict_21 : decode xb_T_guestVerdict 21 = .ok (.aload_n 0, 1) := by decide +kernel
theorem xd_T_guestVerdict_22 : decode xb_T_guestVerdict 22 = .ok (.getfield 30, 3) := by decide +kernel
theorem xd_T_guestVerdict_25 : decode xb_T_guestVerdict 25 = .ok (.iload 5, 2) := by decide +kernel
theorem xd_T_guestVerdict_27 : decode xb_T_guestVerdict 27 = .ok (.putfield 134, 3) := by decide +kernel
theorem xd_T_guestVerdict_30 : decode xb_T_guestVerdict 30 = .ok (.ldc2_w 137, 3) := by decide +kernel
theorem xd_T_guestVerdict_33 : decode xb_T_guestVerdict 33 = .ok (.lreturn, 1) := by decide +kernel
theorem xd_T_walk_0 : decode xb_T_walk 0 = .ok (.iload_n 1, 1) := by decide +kernel
theorem xd_T_walk_1 : decode xb_T_walk 1 = .ok (.ifCond .lt 8, 3) := by decide +kernel
theorem xd_T_walk_4 : decode xb_T_walk 4 = .ok (.lload_n 2, 1) := by decide +kernel
theorem xd_T_walk_5 : decode xb_T_walk 5 = .ok (.invokestatic 139, 3) := by decide +kernel
theorem xd_T_walk_8 : decode xb_T_walk 8 = .ok (.lreturn, 1) := by decide +kernel
theorem xd_T_walk_9 : decode xb_T_walk 9 = .ok (.iload_n 1, 1) := by decide +kernel
theorem xd_T_walk_10 : decode xb_T_walk 10 = .ok (.lload_n 2, 1) := by decide +kernel
theorem xd_T_walk_11 : decode xb_T_walk 11 = .ok (.invokestatic 97, 3) := by decide +kernel
theorem xd_T_walk_14 : decode xb_T_walk 14 = .ok (.lstore 7, 2) := by decide +kernel
theorem xd_T_walk_16 : decode xb_T_walk 16 = .ok (.iconst 0, 1) := by decide +kernel
theorem xd_T_walk_17 : decode xb_T_walk 17 = .ok (.istore 9, 2) := by decide +kernel
theorem xd_T_walk_19 : decode xb_T_walk 19 = .ok (.iload 9, 2) := by decide +kernel
theorem xd_T_walk_21 : decode xb_T_walk 21 = .ok (.iconst 2, 1) := by decide +kernel
theorem xd_T_walk_22 : decode xb_T_walk 22 = .ok (.if_icmp .ge 96, 3) := by decide +kernel
theorem xd_T_walk_25 : decode xb_T_walk 25 = .ok (.lload 7, 2) := by decide +kernel
theorem xd_T_walk_27 : decode xb_T_walk 27 = .ok (.ldc2_w 143, 3) := by decide +kernel
theorem xd_T_walk_30 : decode xb_T_walk 30 = .ok (.lcmp, 1) := by decide +kernel
theorem xd_T_walk_31 : decode xb_T_walk 31 = .ok (.ifCond .lt 7, 3) := by decide +kernel
theorem xd_T_walk_34 : decode xb_T_walk 34 = .ok (.ldc2_w 145, 3) := by decide +kernel
theorem xd_T_walk_37 : decode xb_T_walk 37 = .ok (.lreturn, 1) := by decide +kernel
theorem xd_T_walk_38 : decode xb_T_walk 38 = .ok (.aload_n 0, 1) := by decide +kernel
theorem xd_T_walk_39 : decode xb_T_walk 39 = .ok (.getfield 14, 3) := by decide +kernel
theorem xd_T_walk_42 : decode xb_T_walk 42 = .ok (.lload 7, 2) := by decide +kernel
theorem xd_T_walk_44 : decode xb_T_walk 44 = .ok (.l2i, 1) := by decide +kernel
theorem xd_T_walk_45 : decode xb_T_walk 45 = .ok (.invokevirtual 108, 3) := by decide +kernel
theorem xd_T_walk_48 : decode xb_T_walk 48 = .ok (.istore 10, 2) := by decide +kernel
theorem xd_T_walk_50 : decode xb_T_walk 50 = .ok (.iload 10, 2) := by decide +kernel
theorem xd_T_walk_52 : decode xb_T_walk 52 = .ok (.invokestatic 112, 3) := by decide +kernel
theorem xd_T_walk_55 : decode xb_T_walk 55 = .ok (.ifCond .eq 37, 3) := by decide +kernel
theorem xd_T_walk_58 : decode xb_T_walk 58 = .ok (.iload 10, 2) := by decide +kernel
theorem xd_T_walk_60 : decode xb_T_walk 60 = .ok (.iload 9, 2) := by decide +kernel
theorem xd_T_walk_62 : decode xb_T_walk 62 = .ok (.iload 4, 2) := by decide +kernel
theorem xd_T_walk_64 : decode xb_T_walk 64 = .ok (.iload 5, 2) := by decide +kernel
theorem xd_T_walk_66 : decode xb_T_walk 66 = .ok (.iload 6, 2) := by decide +kernel
theorem xd_T_walk_68 : decode xb_T_walk 68 = .ok (.invokestatic 115, 3) := by decide +kernel
theorem xd_T_walk_71 : decode xb_T_walk 71 = .ok (.ifCond .eq 17, 3) := by decide +kernel
theorem xd_T_walk_74 : decode xb_T_walk 74 = .ok (.iload 10, 2) := by decide +kernel
theorem xd_T_walk_76 : decode xb_T_walk 76 = .ok (.iload 9, 2) := by decide +kernel
theorem xd_T_walk_78 : decode xb_T_walk 78 = .ok (.lload_n 2, 1) := by decide +kernel
theorem xd_T_walk_79 : decode xb_T_walk 79 = .ok (.invokestatic 119, 3) := by decide +kernel
theorem xd_T_walk_82 : decode xb_T_walk 82 = .ok (.invokestatic 139, 3) := by decide +kernel
theorem xd_T_walk_85 : decode xb_T_walk 85 = .ok (.goto 6, 3) := by decide +kernel
theorem xd_T_walk_88 : decode xb_T_walk 88 = .ok (.ldc2_w 123, 3) := by decide +kernel
theorem xd_T_walk_91 : decode xb_T_walk 91 = .ok (.lreturn, 1) := by decide +kernel
theorem xd_T_walk_92 : decode xb_T_walk 92 = .ok (.iload 10, 2) := by decide +kernel
theorem xd_T_walk_94 : decode xb_T_walk 94 = .ok (.invokestatic 125, 3) := by decide +kernel
theorem xd_T_walk_97 : decode xb_T_walk 97 = .ok (.ifCond .ne 7, 3) := by decide +kernel
theorem xd_T_walk_100 : decode xb_T_walk 100 = .ok (.ldc2_w 123, 3) := by decide +kernel
theorem xd_T_walk_103 : decode xb_T_walk 103 = .ok (.lreturn, 1) := by decide +kernel
theorem xd_T_walk_104 : decode xb_T_walk 104 = .ok (.iload 10, 2) := by decide +kernel
theorem xd_T_walk_106 : decode xb_T_walk 106 = .ok (.lload_n 2, 1) := by decide +kernel
theorem xd_T_walk_107 : decode xb_T_walk 107 = .ok (.invokestatic 128, 3) := by decide +kernel
theorem xd_T_walk_110 : decode xb_T_walk 110 = .ok (.lstore 7, 2) := by decide +kernel
theorem xd_T_walk_112 : decode xb_T_walk 112 = .ok (.iinc 9 1, 3) := by decide +kernel
theorem xd_T_walk_115 : decode xb_T_walk 115 = .ok (.goto (-96), 3) := by decide +kernel
theorem xd_T_walk_118 : decode xb_T_walk 118 = .ok (.ldc2_w 123, 3) := by decide +kernel
theorem xd_T_walk_121 : decode xb_T_walk 121 = .ok (.lreturn, 1) := by decide +kernel
theorem xd_T_inMemory_0 : decode xb_T_inMemory 0 = .ok (.lload_n 0, 1) := by decide +kernel
theorem xd_T_inMemory_1 : decode xb_T_inMemory 1 = .ok (.ldc2_w 143, 3) := by decide +kernel
theorem xd_T_inMemory_4 : decode xb_T_inMemory 4 = .ok (.lcmp, 1) := by decide +kernel
theorem xd_T_inMemory_5 : decode xb_T_inMemory 5 = .ok (.ifCond .ge 7, 3) := by decide +kernel
theorem xd_T_inMemory_8 : decode xb_T_inMemory 8 = .ok (.lload_n 0, 1) := by decide +kernel
theorem xd_T_inMemory_9 : decode xb_T_inMemory 9 = .ok (.goto 6, 3) := by decide +kernel
theorem xd_T_inMemory_12 : decode xb_T_inMemory 12 = .ok (.ldc2_w 145, 3) := by decide +kernel
theorem xd_T_inMemory_15 : decode xb_T_inMemory 15 = .ok (.lreturn, 1) := by decide +kernel
theorem xd_T_firstPlace_0 : decode xb_T_firstPlace 0 = .ok (.iload_n 0, 1) := by decide +kernel
theorem xd_T_firstPlace_1 : decode xb_T_firstPlace 1 = .ok (.ldc 147, 2) := by decide +kernel
theorem xd_T_firstPlace_3 : decode xb_T_firstPlace 3 = .ok (.iand, 1) := by decide +kernel
theorem xd_T_firstPlace_4 : decode xb_T_firstPlace 4 = .ok (.i2l, 1) := by decide +kernel
theorem xd_T_firstPlace_5 : decode xb_T_firstPlace 5 = .ok (.bipush 12, 2) := by decide +kernel
theorem xd_T_firstPlace_7 : decode xb_T_firstPlace 7 = .ok (.lshl, 1) := by decide +kernel
theorem xd_T_firstPlace_8 : decode xb_T_firstPlace 8 = .ok (.ldc2_w 148, 3) := by decide +kernel
theorem xd_T_firstPlace_11 : decode xb_T_firstPlace 11 = .ok (.lload_n 1, 1) := by decide +kernel
theorem xd_T_firstPlace_12 : decode xb_T_firstPlace 12 = .ok (.bipush 22, 2) := by decide +kernel
theorem xd_T_firstPlace_14 : decode xb_T_firstPlace 14 = .ok (.lushr, 1) := by decide +kernel
theorem xd_T_firstPlace_15 : decode xb_T_firstPlace 15 = .ok (.lmul, 1) := by decide +kernel
theorem xd_T_firstPlace_16 : decode xb_T_firstPlace 16 = .ok (.ladd, 1) := by decide +kernel
theorem xd_T_firstPlace_17 : decode xb_T_firstPlace 17 = .ok (.lreturn, 1) := by decide +kernel
theorem xd_T_nextPlace_0 : decode xb_T_nextPlace 0 = .ok (.iload_n 0, 1) := by decide +kernel
theorem xd_T_nextPlace_1 : decode xb_T_nextPlace 1 = .ok (.bipush 10, 2) := by decide +kernel
theorem xd_T_nextPlace_3 : decode xb_T_nextPlace 3 = .ok (.iushr, 1) := by decide +kernel
theorem xd_T_nextPlace_4 : decode xb_T_nextPlace 4 = .ok (.i2l, 1) := by decide +kernel
theorem xd_T_nextPlace_5 : decode xb_T_nextPlace 5 = .ok (.bipush 12, 2) := by decide +kernel
theorem xd_T_nextPlace_7 : decode xb_T_nextPlace 7 = .ok (.lshl, 1) := by decide +kernel
theorem xd_T_nextPlace_8 : decode xb_T_nextPlace 8 = .ok (.ldc2_w 148, 3) := by decide +kernel
theorem xd_T_nextPlace_11 : decode xb_T_nextPlace 11 = .ok (.lload_n 1, 1) := by decide +kernel
theorem xd_T_nextPlace_12 : decode xb_T_nextPlace 12 = .ok (.bipush 12, 2) := by decide +kernel
theorem xd_T_nextPlace_14 : decode xb_T_nextPlace 14 = .ok (.lushr, 1) := by decide +kernel
theorem xd_T_nextPlace_15 : decode xb_T_nextPlace 15 = .ok (.ldc2_w 150, 3) := by decide +kernel
theorem xd_T_nextPlace_18 : decode xb_T_nextPlace 18 = .ok (.land, 1) := by decide +kernel
theorem xd_T_nextPlace_19 : decode xb_T_nextPlace 19 = .ok (.lmul, 1) := by decide +kernel
theorem xd_T_nextPlace_20 : decode xb_T_nextPlace 20 = .ok (.ladd, 1) := by decide +kernel
theorem xd_T_nextPlace_21 : decode xb_T_nextPlace 21 = .ok (.lreturn, 1) := by decide +kernel
theorem xd_T_isLeaf_0 : decode xb_T_isLeaf 0 = .ok (.iload_n 0, 1) := by decide +kernel
theorem xd_T_isLeaf_1 : decode xb_T_isLeaf 1 = .ok (.bipush 14, 2) := by decide +kernel
theorem xd_T_isLeaf_3 : decode xb_T_isLeaf 3 = .ok (.iand, 1) := by decide +kernel
theorem xd_T_isLeaf_4 : decode xb_T_isLeaf 4 = .ok (.ifCond .eq 7, 3) := by decide +kernel
theorem xd_T_isLeaf_7 : decode xb_T_isLeaf 7 = .ok (.iconst 1, 1) := by decide +kernel
theorem xd_T_isLeaf_8 : decode xb_T_isLeaf 8 = .ok (.goto 4, 3) := by decide +kernel
theorem xd_T_isLeaf_11 : decode xb_T_isLeaf 11 = .ok (.iconst 0, 1) := by decide +kernel
theorem xd_T_isLeaf_12 : decode xb_T_isLeaf 12 = .ok (.ireturn, 1) := by decide +kernel
theorem xd_T_isPointer_0 : decode xb_T_isPointer 0 = .ok (.iload_n 0, 1) := by decide +kernel
theorem xd_T_isPointer_1 : decode xb_T_isPointer 1 = .ok (.sipush 209, 3) := by decide +kernel
theorem xd_T_isPointer_4 : decode xb_T_isPointer 4 = .ok (.iand, 1) := by decide +kernel
theorem xd_T_isPointer_5 : decode xb_T_isPointer 5 = .ok (.iconst 1, 1) := by decide +kernel
theorem xd_T_isPointer_6 : decode xb_T_isPointer 6 = .ok (.if_icmp .ne 7, 3) := by decide +kernel
theorem xd_T_isPointer_9 : decode xb_T_isPointer 9 = .ok (.iconst 1, 1) := by decide +kernel
theorem xd_T_isPointer_10 : decode xb_T_isPointer 10 = .ok (.goto 4, 3) := by decide +kernel
theorem xd_T_isPointer_13 : decode xb_T_isPointer 13 = .ok (.iconst 0, 1) := by decide +kernel
theorem xd_T_isPointer_14 : decode xb_T_isPointer 14 = .ok (.ireturn, 1) := by decide +kernel
theorem xd_T_allows_0 : decode xb_T_allows 0 = .ok (.iload_n 0, 1) := by decide +kernel
theorem xd_T_allows_1 : decode xb_T_allows 1 = .ok (.bipush 6, 2) := by decide +kernel
theorem xd_T_allows_3 : decode xb_T_allows 3 = .ok (.iand, 1) := by decide +kernel
theorem xd_T_allows_4 : decode xb_T_allows 4 = .ok (.iconst 4, 1) := by decide +kernel
theorem xd_T_allows_5 : decode xb_T_allows 5 = .ok (.if_icmp .eq 18, 3) := by decide +kernel
theorem xd_T_allows_8 : decode xb_T_allows 8 = .ok (.iload_n 1, 1) := by decide +kernel
theorem xd_T_allows_9 : decode xb_T_allows 9 = .ok (.ifCond .ne 10, 3) := by decide +kernel
theorem xd_T_allows_12 : decode xb_T_allows 12 = .ok (.iload_n 0, 1) := by decide +kernel
theorem xd_T_allows_13 : decode xb_T_allows 13 = .ok (.ldc 152, 2) := by decide +kernel
theorem xd_T_allows_15 : decode xb_T_allows 15 = .ok (.iand, 1) := by decide +kernel
theorem xd_T_allows_16 : decode xb_T_allows 16 = .ok (.ifCond .ne 7, 3) := by decide +kernel
theorem xd_T_allows_19 : decode xb_T_allows 19 = .ok (.iconst 1, 1) := by decide +kernel
theorem xd_T_allows_20 : decode xb_T_allows 20 = .ok (.goto 4, 3) := by decide +kernel
theorem xd_T_allows_23 : decode xb_T_allows 23 = .ok (.iconst 0, 1) := by decide +kernel
theorem xd_T_allows_24 : decode xb_T_allows 24 = .ok (.istore 5, 2) := by decide +kernel
theorem xd_T_allows_26 : decode xb_T_allows 26 = .ok (.iload 5, 2) := by decide +kernel
theorem xd_T_allows_28 : decode xb_T_allows 28 = .ok (.ifCond .eq 27, 3) := by decide +kernel
theorem xd_T_allows_31 : decode xb_T_allows 31 = .ok (.iload_n 0, 1) := by decide +kernel
theorem xd_T_allows_32 : decode xb_T_allows 32 = .ok (.iload_n 2, 1) := by decide +kernel
theorem xd_T_allows_33 : decode xb_T_allows 33 = .ok (.iand, 1) := by decide +kernel
theorem xd_T_allows_34 : decode xb_T_allows 34 = .ok (.ifCond .eq 21, 3) := by decide +kernel
theorem xd_T_allows_37 : decode xb_T_allows 37 = .ok (.iload_n 0, 1) := by decide +kernel
theorem xd_T_allows_38 : decode xb_T_allows 38 = .ok (.iload_n 3, 1) := by decide +kernel
theorem xd_T_allows_39 : decode xb_T_allows 39 = .ok (.iand, 1) := by decide +kernel
theorem xd_T_allows_40 : decode xb_T_allows 40 = .ok (.iload_n 3, 1) := by decide +kernel
theorem xd_T_allows_41 : decode xb_T_allows 41 = .ok (.if_icmp .ne 14, 3) := by decide +kernel
theorem xd_T_allows_44 : decode xb_T_allows 44 = .ok (.iload_n 0, 1) := by decide +kernel
theorem xd_T_allows_45 : decode xb_T_allows 45 = .ok (.iload 4, 2) := by decide +kernel
theorem xd_T_allows_47 : decode xb_T_allows 47 = .ok (.iand, 1) := by decide +kernel
theorem xd_T_allows_48 : decode xb_T_allows 48 = .ok (.ifCond .ne 7, 3) := by decide +kernel
theorem xd_T_allows_51 : decode xb_T_allows 51 = .ok (.iconst 1, 1) := by decide +kernel
theorem xd_T_allows_52 : decode xb_T_allows 52 = .ok (.goto 4, 3) := by decide +kernel
theorem xd_T_allows_55 : decode xb_T_allows 55 = .ok (.iconst 0, 1) := by decide +kernel
theorem xd_T_allows_56 : decode xb_T_allows 56 = .ok (.ireturn, 1) := by decide +kernel
theorem xd_T_result_0 : decode xb_T_result 0 = .ok (.lload_n 2, 1) := by decide +kernel
theorem xd_T_result_1 : decode xb_T_result 1 = .ok (.iload_n 1, 1) := by decide +kernel
theorem xd_T_result_2 : decode xb_T_result 2 = .ok (.ifCond .ne 8, 3) := by decide +kernel
theorem xd_T_result_5 : decode xb_T_result 5 = .ok (.ldc 147, 2) := by decide +kernel
theorem xd_T_result_7 : decode xb_T_result 7 = .ok (.goto 6, 3) := by decide +kernel
theorem xd_T_result_10 : decode xb_T_result 10 = .ok (.sipush 4095, 3) := by decide +kernel
theorem xd_T_result_13 : decode xb_T_result 13 = .ok (.i2l, 1) := by decide +kernel
theorem xd_T_result_14 : decode xb_T_result 14 = .ok (.land, 1) := by decide +kernel
theorem xd_T_result_15 : decode xb_T_result 15 = .ok (.lstore 4, 2) := by decide +kernel
theorem xd_T_result_17 : decode xb_T_result 17 = .ok (.iload_n 0, 1) := by decide +kernel
theorem xd_T_result_18 : decode xb_T_result 18 = .ok (.bipush 10, 2) := by decide +kernel
theorem xd_T_result_20 : decode xb_T_result 20 = .ok (.iushr, 1) := by decide +kernel
theorem xd_T_result_21 : decode xb_T_result 21 = .ok (.i2l, 1) := by decide +kernel
theorem xd_T_result_22 : decode xb_T_result 22 = .ok (.bipush 12, 2) := by decide +kernel
theorem xd_T_result_24 : decode xb_T_result 24 = .ok (.lshl, 1) := by decide +kernel
theorem xd_T_result_25 : decode xb_T_result 25 = .ok (.lload 4, 2) := by decide +kernel
theorem xd_T_result_27 : decode xb_T_result 27 = .ok (.lor, 1) := by decide +kernel
theorem xd_T_result_28 : decode xb_T_result 28 = .ok (.lreturn, 1) := by decide +kernel
theorem xd_P_init_0 : decode xb_P_init 0 = .ok (.aload_n 0, 1) := by decide +kernel
theorem xd_P_init_1 : decode xb_P_init 1 = .ok (.invokespecial 3, 3) := by decide +kernel
theorem xd_P_init_4 : decode xb_P_init 4 = .ok (.return_, 1) := by decide +kernel
theorem xd_P_clear_0 : decode xb_P_clear 0 = .ok (.aload_n 0, 1) := by decide +kernel
theorem xd_P_clear_1 : decode xb_P_clear 1 = .ok (.iconst (-1), 1) := by decide +kernel
theorem xd_P_clear_2 : decode xb_P_clear 2 = .ok (.putfield 9, 3) := by decide +kernel
theorem xd_P_clear_5 : decode xb_P_clear 5 = .ok (.aload_n 0, 1) := by decide +kernel
theorem xd_P_clear_6 : decode xb_P_clear 6 = .ok (.iconst 0, 1) := by decide +kernel
theorem xd_P_clear_7 : decode xb_P_clear 7 = .ok (.putfield 15, 3) := by decide +kernel
theorem xd_P_clear_10 : decode xb_P_clear 10 = .ok (.aload_n 0, 1) := by decide +kernel
theorem xd_P_clear_11 : decode xb_P_clear 11 = .ok (.iconst 0, 1) := by decide +kernel
theorem xd_P_clear_12 : decode xb_P_clear 12 = .ok (.putfield 18, 3) := by decide +kernel
theorem xd_P_clear_15 : decode xb_P_clear 15 = .ok (.aload_n 0, 1) := by decide +kernel
theorem xd_P_clear_16 : decode xb_P_clear 16 = .ok (.iconst 0, 1) := by decide +kernel
theorem xd_P_clear_17 : decode xb_P_clear 17 = .ok (.putfield 21, 3) := by decide +kernel
theorem xd_P_clear_20 : decode xb_P_clear 20 = .ok (.aload_n 0, 1) := by decide +kernel
theorem xd_P_clear_21 : decode xb_P_clear 21 = .ok (.iconst 0, 1) := by decide +kernel
theorem xd_P_clear_22 : decode xb_P_clear 22 = .ok (.putfield 24, 3) := by decide +kernel
theorem xd_P_clear_25 : decode xb_P_clear 25 = .ok (.aload_n 0, 1) := by decide +kernel
theorem xd_P_clear_26 : decode xb_P_clear 26 = .ok (.iconst 0, 1) := by decide +kernel
theorem xd_P_clear_27 : decode xb_P_clear 27 = .ok (.putfield 28, 3) := by decide +kernel
theorem xd_P_clear_30 : decode xb_P_clear 30 = .ok (.return_, 1) := by decide +kernel
theorem xd_P_raise_0 : decode xb_P_raise 0 = .ok (.aload_n 0, 1) := by decide +kernel
theorem xd_P_raise_1 : decode xb_P_raise 1 = .ok (.iload_n 1, 1) := by decide +kernel
theorem xd_P_raise_2 : decode xb_P_raise 2 = .ok (.putfield 9, 3) := by decide +kernel
theorem xd_P_raise_5 : decode xb_P_raise 5 = .ok (.aload_n 0, 1) := by decide +kernel
theorem xd_P_raise_6 : decode xb_P_raise 6 = .ok (.iload_n 2, 1) := by decide +kernel
theorem xd_P_raise_7 : decode xb_P_raise 7 = .ok (.putfield 15, 3) := by decide +kernel
theorem xd_P_raise_10 : decode xb_P_raise 10 = .ok (.return_, 1) := by decide +kernel
theorem xd_P_tellsAddress_0 : decode xb_P_tellsAddress 0 = .ok (.aload_n 0, 1) := by decide +kernel
theorem xd_P_tellsAddress_1 : decode xb_P_tellsAddress 1 = .ok (.getfield 9, 3) := by decide +kernel
theorem xd_P_tellsAddress_4 : decode xb_P_tellsAddress 4 = .ok (.ifCond .lt 19, 3) := by decide +kernel
theorem xd_P_tellsAddress_7 : decode xb_P_tellsAddress 7 = .ok (.ldc 31, 2) := by decide +kernel
theorem xd_P_tellsAddress_9 : decode xb_P_tellsAddress 9 = .ok (.aload_n 0, 1) := by decide +kernel
theorem xd_P_tellsAddress_10 : decode xb_P_tellsAddress 10 = .ok (.getfield 9, 3) := by decide +kernel
theorem xd_P_tellsAddress_13 : decode xb_P_tellsAddress 13 = .ok (.iushr, 1) := by decide +kernel
theorem xd_P_tellsAddress_14 : decode xb_P_tellsAddress 14 = .ok (.iconst 1, 1) := by decide +kernel
theorem xd_P_tellsAddress_15 : decode xb_P_tellsAddress 15 = .ok (.iand, 1) := by decide +kernel
theorem xd_P_tellsAddress_16 : decode xb_P_tellsAddress 16 = .ok (.ifCond .eq 7, 3) := by decide +kernel
theorem xd_P_tellsAddress_19 : decode xb_P_tellsAddress 19 = .ok (.iconst 1, 1) := by decide +kernel
theorem xd_P_tellsAddress_20 : decode xb_P_tellsAddress 20 = .ok (.goto 4, 3) := by decide +kernel
theorem xd_P_tellsAddress_23 : decode xb_P_tellsAddress 23 = .ok (.iconst 0, 1) := by decide +kernel
theorem xd_P_tellsAddress_24 : decode xb_P_tellsAddress 24 = .ok (.ireturn, 1) := by decide +kernel
theorem xd_P_goesToVs_0 : decode xb_P_goesToVs 0 = .ok (.aload_n 0, 1) := by decide +kernel
theorem xd_P_goesToVs_1 : decode xb_P_goesToVs 1 = .ok (.getfield 9, 3) := by decide +kernel
theorem xd_P_goesToVs_4 : decode xb_P_goesToVs 4 = .ok (.ifCond .ge 10, 3) := by decide +kernel
theorem xd_P_goesToVs_7 : decode xb_P_goesToVs 7 = .ok (.aload_n 0, 1) := by decide +kernel
theorem xd_P_goesToVs_8 : decode xb_P_goesToVs 8 = .ok (.getfield 28, 3) := by decide +kernel
theorem xd_P_goesToVs_11 : decode xb_P_goesToVs 11 = .ok (.goto 26, 3) := by decide +kernel
theorem xd_P_goesToVs_14 : decode xb_P_goesToVs 14 = .ok (.iload_n 1, 1) := by decide +kernel
theorem xd_P_goesToVs_15 : decode xb_P_goesToVs 15 = .ok (.invokestatic 32, 3) := by decide +kernel
theorem xd_P_goesToVs_18 : decode xb_P_goesToVs 18 = .ok (.ifCond .eq 18, 3) := by decide +kernel
theorem xd_P_goesToVs_21 : decode xb_P_goesToVs 21 = .ok (.iload_n 2, 1) := by decide +kernel
theorem xd_P_goesToVs_22 : decode xb_P_goesToVs 22 = .ok (.aload_n 0, 1) := by decide +kernel
theorem xd_P_goesToVs_23 : decode xb_P_goesToVs 23 = .ok (.getfield 9, 3) := by decide +kernel
theorem xd_P_goesToVs_26 : decode xb_P_goesToVs 26 = .ok (.iushr, 1) := by decide +kernel
theorem xd_P_goesToVs_27 : decode xb_P_goesToVs 27 = .ok (.iconst 1, 1) := by decide +kernel
theorem xd_P_goesToVs_28 : decode xb_P_goesToVs 28 = .ok (.iand, 1) := by decide +kernel
theorem xd_P_goesToVs_29 : decode xb_P_goesToVs 29 = .ok (.ifCond .eq 7, 3) := by decide +kernel
theorem xd_P_goesToVs_32 : decode xb_P_goesToVs 32 = .ok (.iconst 1, 1) := by decide +kernel
theorem xd_P_goesToVs_33 : decode xb_P_goesToVs 33 = .ok (.goto 4, 3) := by decide +kernel
theorem xd_P_goesToVs_36 : decode xb_P_goesToVs 36 = .ok (.iconst 0, 1) := by decide +kernel
theorem xd_P_goesToVs_37 : decode xb_P_goesToVs 37 = .ok (.ireturn, 1) := by decide +kernel
theorem xd_O_init_0 : decode xb_O_init 0 = .ok (.return_, 1) := by decide +kernel
theorem xd_Y_fill_0 : decode xb_Y_fill 0 = .ok (.iconst 0, 1) := by decide +kernel
theorem xd_Y_fill_1 : decode xb_Y_fill 1 = .ok (.istore_n 2, 1) := by decide +kernel
theorem xd_Y_fill_2 : decode xb_Y_fill 2 = .ok (.aload_n 0, 1) := by decide +kernel
theorem xd_Y_fill_3 : decode xb_Y_fill 3 = .ok (.arraylength, 1) := by decide +kernel
theorem xd_Y_fill_4 : decode xb_Y_fill 4 = .ok (.istore_n 3, 1) := by decide +kernel
theorem xd_Y_fill_5 : decode xb_Y_fill 5 = .ok (.iload_n 2, 1) := by decide +kernel
theorem xd_Y_fill_6 : decode xb_Y_fill 6 = .ok (.iload_n 3, 1) := by decide +kernel
theorem xd_Y_fill_7 : decode xb_Y_fill 7 = .ok (.if_icmp .ge 13, 3) := by decide +kernel
theorem xd_Y_fill_10 : decode xb_Y_fill 10 = .ok (.aload_n 0, 1) := by decide +kernel
theorem xd_Y_fill_11 : decode xb_Y_fill 11 = .ok (.iload_n 2, 1) := by decide +kernel
theorem xd_Y_fill_12 : decode xb_Y_fill 12 = .ok (.iload_n 1, 1) := by decide +kernel
theorem xd_Y_fill_13 : decode xb_Y_fill 13 = .ok (.iastore, 1) := by decide +kernel
theorem xd_Y_fill_14 : decode xb_Y_fill 14 = .ok (.iinc 2 1, 3) := by decide +kernel
theorem xd_Y_fill_17 : decode xb_Y_fill 17 = .ok (.goto (-12), 3) := by decide +kernel
theorem xd_Y_fill_20 : decode xb_Y_fill 20 = .ok (.return_, 1) := by decide +kernel
theorem xd_L_law_0 : decode code 0 = .ok (.new 7, 3) := by decide +kernel
theorem xd_L_law_3 : decode code 3 = .ok (.dup, 1) := by decide +kernel
theorem xd_L_law_4 : decode code 4 = .ok (.invokespecial 9, 3) := by decide +kernel
theorem xd_L_law_7 : decode code 7 = .ok (.astore_n 1, 1) := by decide +kernel
theorem xd_L_law_8 : decode code 8 = .ok (.new 10, 3) := by decide +kernel
theorem xd_L_law_11 : decode code 11 = .ok (.dup, 1) := by decide +kernel
theorem xd_L_law_12 : decode code 12 = .ok (.invokespecial 12, 3) := by decide +kernel
theorem xd_L_law_15 : decode code 15 = .ok (.astore_n 2, 1) := by decide +kernel
theorem xd_L_law_16 : decode code 16 = .ok (.iconst 0, 1) := by decide +kernel
theorem xd_L_law_17 : decode code 17 = .ok (.istore_n 3, 1) := by decide +kernel
theorem xd_L_law_18 : decode code 18 = .ok (.iload_n 3, 1) := by decide +kernel
theorem xd_L_law_19 : decode code 19 = .ok (.aload_n 0, 1) := by decide +kernel
theorem xd_L_law_20 : decode code 20 = .ok (.arraylength, 1) := by decide +kernel
theorem xd_L_law_21 : decode code 21 = .ok (.bipush 7, 2) := by decide +kernel
theorem xd_L_law_23 : decode code 23 = .ok (.isub, 1) := by decide +kernel
theorem xd_L_law_24 : decode code 24 = .ok (.if_icmp .gt 494, 3) := by decide +kernel
theorem xd_L_law_27 : decode code 27 = .ok (.aload_n 0, 1) := by decide +kernel
theorem xd_L_law_28 : decode code 28 = .ok (.iload_n 3, 1) := by decide +kernel
theorem xd_L_law_29 : decode code 29 = .ok (.iaload, 1) := by decide +kernel
theorem xd_L_law_30 : decode code 30 = .ok (.bipush 15, 2) := by decide +kernel
theorem xd_L_law_32 : decode code 32 = .ok (.iand, 1) := by decide +kernel
theorem xd_L_law_33 : decode code 33 = .ok (.tableswitch 479 0 13 #[71, 82, 157, 180, 213, 246, 269, 302, 325, 358, 397, 420, 443, 466], 71) := by decide +kernel
theorem xd_L_law_104 : decode code 104 = .ok (.aload_n 1, 1) := by decide +kernel
theorem xd_L_law_105 : decode code 105 = .ok (.invokevirtual 13, 3) := by decide +kernel
theorem xd_L_law_108 : decode code 108 = .ok (.aload_n 2, 1) := by decide +kernel
theorem xd_L_law_109 : decode code 109 = .ok (.invokevirtual 16, 3) := by decide +kernel
theorem xd_L_law_112 : decode code 112 = .ok (.goto 400, 3) := by decide +kernel
theorem xd_L_law_115 : decode code 115 = .ok (.aload_n 1, 1) := by decide +kernel
theorem xd_L_law_116 : decode code 116 = .ok (.aload_n 0, 1) := by decide +kernel
theorem xd_L_law_117 : decode code 117 = .ok (.iload_n 3, 1) := by decide +kernel
theorem xd_L_law_118 : decode code 118 = .ok (.iconst 1, 1) := by decide +kernel
theorem xd_L_law_119 : decode code 119 = .ok (.iadd, 1) := by decide +kernel
theorem xd_L_law_120 : decode code 120 = .ok (.iaload, 1) := by decide +kernel
theorem xd_L_law_121 : decode code 121 = .ok (.aload_n 0, 1) := by decide +kernel
theorem xd_L_law_122 : decode code 122 = .ok (.iload_n 3, 1) := by decide +kernel
theorem xd_L_law_123 : decode code 123 = .ok (.iconst 2, 1) := by decide +kernel
theorem xd_L_law_124 : decode code 124 = .ok (.iadd, 1) := by decide +kernel
theorem xd_L_law_125 : decode code 125 = .ok (.iaload, 1) := by decide +kernel
theorem xd_L_law_126 : decode code 126 = .ok (.aload_n 0, 1) := by decide +kernel
theorem xd_L_law_127 : decode code 127 = .ok (.iload_n 3, 1) := by decide +kernel
theorem xd_L_law_128 : decode code 128 = .ok (.iconst 3, 1) := by decide +kernel
theorem xd_L_law_129 : decode code 129 = .ok (.iadd, 1) := by decide +kernel
theorem xd_L_law_130 : decode code 130 = .ok (.iaload, 1) := by decide +kernel
theorem xd_L_law_131 : decode code 131 = .ok (.aload_n 0, 1) := by decide +kernel
theorem xd_L_law_132 : decode code 132 = .ok (.iload_n 3, 1) := by decide +kernel
theorem xd_L_law_133 : decode code 133 = .ok (.iconst 4, 1) := by decide +kernel
theorem xd_L_law_134 : decode code 134 = .ok (.iadd, 1) := by decide +kernel
theorem xd_L_law_135 : decode code 135 = .ok (.iaload, 1) := by decide +kernel
theorem xd_L_law_136 : decode code 136 = .ok (.aload_n 0, 1) := by decide +kernel
theorem xd_L_law_137 : decode code 137 = .ok (.iload_n 3, 1) := by decide +kernel
theorem xd_L_law_138 : decode code 138 = .ok (.iconst 5, 1) := by decide +kernel
theorem xd_L_law_139 : decode code 139 = .ok (.iadd, 1) := by decide +kernel
theorem xd_L_law_140 : decode code 140 = .ok (.iaload, 1) := by decide +kernel
theorem xd_L_law_141 : decode code 141 = .ok (.aload_n 0, 1) := by decide +kernel
theorem xd_L_law_142 : decode code 142 = .ok (.iload_n 3, 1) := by decide +kernel
theorem xd_L_law_143 : decode code 143 = .ok (.bipush 6, 2) := by decide +kernel
theorem xd_L_law_145 : decode code 145 = .ok (.iadd, 1) := by decide +kernel
theorem xd_L_law_146 : decode code 146 = .ok (.iaload, 1) := by decide +kernel
theorem xd_L_law_147 : decode code 147 = .ok (.invokevirtual 17, 3) := by decide +kernel
theorem xd_L_law_150 : decode code 150 = .ok (.aload_n 2, 1) := by decide +kernel
theorem xd_L_law_151 : decode code 151 = .ok (.aload_n 0, 1) := by decide +kernel
theorem xd_L_law_152 : decode code 152 = .ok (.iload_n 3, 1) := by decide +kernel
theorem xd_L_law_153 : decode code 153 = .ok (.iconst 1, 1) := by decide +kernel
theorem xd_L_law_154 : decode code 154 = .ok (.iadd, 1) := by decide +kernel
theorem xd_L_law_155 : decode code 155 = .ok (.iaload, 1) := by decide +kernel
theorem xd_L_law_156 : decode code 156 = .ok (.aload_n 0, 1) := by decide +kernel
theorem xd_L_law_157 : decode code 157 = .ok (.iload_n 3, 1) := by decide +kernel
theorem xd_L_law_158 : decode code 158 = .ok (.iconst 2, 1) := by decide +kernel
theorem xd_L_law_159 : decode code 159 = .ok (.iadd, 1) := by decide +kernel
theorem xd_L_law_160 : decode code 160 = .ok (.iaload, 1) := by decide +kernel
theorem xd_L_law_161 : decode code 161 = .ok (.aload_n 0, 1) := by decide +kernel
theorem xd_L_law_162 : decode code 162 = .ok (.iload_n 3, 1) := by decide +kernel
theorem xd_L_law_163 : decode code 163 = .ok (.iconst 3, 1) := by decide +kernel
theorem xd_L_law_164 : decode code 164 = .ok (.iadd, 1) := by decide +kernel
theorem xd_L_law_165 : decode code 165 = .ok (.iaload, 1) := by decide +kernel
theorem xd_L_law_166 : decode code 166 = .ok (.aload_n 0, 1) := by decide +kernel
theorem xd_L_law_167 : decode code 167 = .ok (.iload_n 3, 1) := by decide +kernel
theorem xd_L_law_168 : decode code 168 = .ok (.iconst 4, 1) := by decide +kernel
theorem xd_L_law_169 : decode code 169 = .ok (.iadd, 1) := by decide +kernel
theorem xd_L_law_170 : decode code 170 = .ok (.iaload, 1) := by decide +kernel
theorem xd_L_law_171 : decode code 171 = .ok (.aload_n 0, 1) := by decide +kernel
theorem xd_L_law_172 : decode code 172 = .ok (.iload_n 3, 1) := by decide +kernel
theorem xd_L_law_173 : decode code 173 = .ok (.iconst 5, 1) := by decide +kernel
theorem xd_L_law_174 : decode code 174 = .ok (.iadd, 1) := by decide +kernel
theorem xd_L_law_175 : decode code 175 = .ok (.iaload, 1) := by decide +kernel
theorem xd_L_law_176 : decode code 176 = .ok (.aload_n 0, 1) := by decide +kernel
theorem xd_L_law_177 : decode code 177 = .ok (.iload_n 3, 1) := by decide +kernel
theorem xd_L_law_178 : decode code 178 = .ok (.bipush 6, 2) := by decide +kernel
theorem xd_L_law_180 : decode code 180 = .ok (.iadd, 1) := by decide +kernel
theorem xd_L_law_181 : decode code 181 = .ok (.iaload, 1) := by decide +kernel
theorem xd_L_law_182 : decode code 182 = .ok (.invokevirtual 21, 3) := by decide +kernel
theorem xd_L_law_185 : decode code 185 = .ok (.if_icmp .eq 327, 3) := by decide +kernel
theorem xd_L_law_188 : decode code 188 = .ok (.iconst 0, 1) := by decide +kernel
theorem xd_L_law_189 : decode code 189 = .ok (.ireturn, 1) := by decide +kernel
theorem xd_L_law_190 : decode code 190 = .ok (.aload_n 1, 1) := by decide +kernel
theorem xd_L_law_191 : decode code 191 = .ok (.aload_n 0, 1) := by decide +kernel
theorem xd_L_law_192 : decode code 192 = .ok (.iload_n 3, 1) := by decide +kernel
theorem xd_L_law_193 : decode code 193 = .ok (.iconst 1, 1) := by decide +kernel
theorem xd_L_law_194 : decode code 194 = .ok (.iadd, 1) := by decide +kernel
theorem xd_L_law_195 : decode code 195 = .ok (.iaload, 1) := by decide +kernel
theorem xd_L_law_196 : decode code 196 = .ok (.invokevirtual 22, 3) := by decide +kernel
theorem xd_L_law_199 : decode code 199 = .ok (.aload_n 2, 1) := by decide +kernel
theorem xd_L_law_200 : decode code 200 = .ok (.aload_n 0, 1) := by decide +kernel
theorem xd_L_law_201 : decode code 201 = .ok (.iload_n 3, 1) := by decide +kernel
theorem xd_L_law_202 : decode code 202 = .ok (.iconst 1, 1) := by decide +kernel
theorem xd_L_law_203 : decode code 203 = .ok (.iadd, 1) := by decide +kernel
theorem xd_L_law_204 : decode code 204 = .ok (.iaload, 1) := by decide +kernel
theorem xd_L_law_205 : decode code 205 = .ok (.invokevirtual 26, 3) := by decide +kernel
theorem xd_L_law_208 : decode code 208 = .ok (.if_icmp .eq 304, 3) := by decide +kernel
theorem xd_L_law_211 : decode code 211 = .ok (.iconst 0, 1) := by decide +kernel
theorem xd_L_law_212 : decode code 212 = .ok (.ireturn, 1) := by decide +kernel
theorem xd_L_law_213 : decode code 213 = .ok (.aload_n 1, 1) := by decide +kernel
theorem xd_L_law_214 : decode code 214 = .ok (.aload_n 0, 1) := by decide +kernel
theorem xd_L_law_215 : decode code 215 = .ok (.iload_n 3, 1) := by decide +kernel
theorem xd_L_law_216 : decode code 216 = .ok (.iconst 1, 1) := by decide +kernel
theorem xd_L_law_217 : decode code 217 = .ok (.iadd, 1) := by decide +kernel
theorem xd_L_law_218 : decode code 218 = .ok (.iaload, 1) := by decide +kernel
theorem xd_L_law_219 : decode code 219 = .ok (.aload_n 0, 1) := by decide +kernel
theorem xd_L_law_220 : decode code 220 = .ok (.iload_n 3, 1) := by decide +kernel
theorem xd_L_law_221 : decode code 221 = .ok (.iconst 2, 1) := by decide +kernel
theorem xd_L_law_222 : decode code 222 = .ok (.iadd, 1) := by decide +kernel
theorem xd_L_law_223 : decode code 223 = .ok (.iaload, 1) := by decide +kernel
theorem xd_L_law_224 : decode code 224 = .ok (.invokevirtual 27, 3) := by decide +kernel
theorem xd_L_law_227 : decode code 227 = .ok (.aload_n 2, 1) := by decide +kernel
theorem xd_L_law_228 : decode code 228 = .ok (.aload_n 0, 1) := by decide +kernel
theorem xd_L_law_229 : decode code 229 = .ok (.iload_n 3, 1) := by decide +kernel
theorem xd_L_law_230 : decode code 230 = .ok (.iconst 1, 1) := by decide +kernel
theorem xd_L_law_231 : decode code 231 = .ok (.iadd, 1) := by decide +kernel
theorem xd_L_law_232 : decode code 232 = .ok (.iaload, 1) := by decide +kernel
theorem xd_L_law_233 : decode code 233 = .ok (.aload_n 0, 1) := by decide +kernel
theorem xd_L_law_234 : decode code 234 = .ok (.iload_n 3, 1) := by decide +kernel
theorem xd_L_law_235 : decode code 235 = .ok (.iconst 2, 1) := by decide +kernel
theorem xd_L_law_236 : decode code 236 = .ok (.iadd, 1) := by decide +kernel
theorem xd_L_law_237 : decode code 237 = .ok (.iaload, 1) := by decide +kernel
theorem xd_L_law_238 : decode code 238 = .ok (.invokevirtual 31, 3) := by decide +kernel
theorem xd_L_law_241 : decode code 241 = .ok (.if_icmp .eq 271, 3) := by decide +kernel
theorem xd_L_law_244 : decode code 244 = .ok (.iconst 0, 1) := by decide +kernel
theorem xd_L_law_245 : decode code 245 = .ok (.ireturn, 1) := by decide +kernel
theorem xd_L_law_246 : decode code 246 = .ok (.aload_n 1, 1) := by decide +kernel
theorem xd_L_law_247 : decode code 247 = .ok (.aload_n 0, 1) := by decide +kernel
theorem xd_L_law_248 : decode code 248 = .ok (.iload_n 3, 1) := by decide +kernel
theorem xd_L_law_249 : decode code 249 = .ok (.iconst 1, 1) := by decide +kernel
theorem xd_L_law_250 : decode code 250 = .ok (.iadd, 1) := by decide +kernel
theorem xd_L_law_251 : decode code 251 = .ok (.iaload, 1) := by decide +kernel
theorem xd_L_law_252 : decode code 252 = .ok (.aload_n 0, 1) := by decide +kernel
theorem xd_L_law_253 : decode code 253 = .ok (.iload_n 3, 1) := by decide +kernel
theorem xd_L_law_254 : decode code 254 = .ok (.iconst 2, 1) := by decide +kernel
theorem xd_L_law_255 : decode code 255 = .ok (.iadd, 1) := by decide +kernel
theorem xd_L_law_256 : decode code 256 = .ok (.iaload, 1) := by decide +kernel
theorem xd_L_law_257 : decode code 257 = .ok (.invokevirtual 32, 3) := by decide +kernel
theorem xd_L_law_260 : decode code 260 = .ok (.aload_n 2, 1) := by decide +kernel
theorem xd_L_law_261 : decode code 261 = .ok (.aload_n 0, 1) := by decide +kernel
theorem xd_L_law_262 : decode code 262 = .ok (.iload_n 3, 1) := by decide +kernel
theorem xd_L_law_263 : decode code 263 = .ok (.iconst 1, 1) := by decide +kernel
theorem xd_L_law_264 : decode code 264 = .ok (.iadd, 1) := by decide +kernel
theorem xd_L_law_265 : decode code 265 = .ok (.iaload, 1) := by decide +kernel
theorem xd_L_law_266 : decode code 266 = .ok (.aload_n 0, 1) := by decide +kernel
theorem xd_L_law_267 : decode code 267 = .ok (.iload_n 3, 1) := by decide +kernel
theorem xd_L_law_268 : decode code 268 = .ok (.iconst 2, 1) := by decide +kernel
theorem xd_L_law_269 : decode code 269 = .ok (.iadd, 1) := by decide +kernel
theorem xd_L_law_270 : decode code 270 = .ok (.iaload, 1) := by decide +kernel
theorem xd_L_law_271 : decode code 271 = .ok (.invokevirtual 35, 3) := by decide +kernel
theorem xd_L_law_274 : decode code 274 = .ok (.if_icmp .eq 238, 3) := by decide +kernel
theorem xd_L_law_277 : decode code 277 = .ok (.iconst 0, 1) := by decide +kernel
theorem xd_L_law_278 : decode code 278 = .ok (.ireturn, 1) := by decide +kernel
theorem xd_L_law_279 : decode code 279 = .ok (.aload_n 1, 1) := by decide +kernel
theorem xd_L_law_280 : decode code 280 = .ok (.aload_n 0, 1) := by decide +kernel
theorem xd_L_law_281 : decode code 281 = .ok (.iload_n 3, 1) := by decide +kernel
theorem xd_L_law_282 : decode code 282 = .ok (.iconst 1, 1) := by decide +kernel
theorem xd_L_law_283 : decode code 283 = .ok (.iadd, 1) := by decide +kernel
theorem xd_L_law_284 : decode code 284 = .ok (.iaload, 1) := by decide +kernel
theorem xd_L_law_285 : decode code 285 = .ok (.invokevirtual 36, 3) := by decide +kernel
theorem xd_L_law_288 : decode code 288 = .ok (.aload_n 2, 1) := by decide +kernel
theorem xd_L_law_289 : decode code 289 = .ok (.aload_n 0, 1) := by decide +kernel
theorem xd_L_law_290 : decode code 290 = .ok (.iload_n 3, 1) := by decide +kernel
theorem xd_L_law_291 : decode code 291 = .ok (.iconst 1, 1) := by decide +kernel
theorem xd_L_law_292 : decode code 292 = .ok (.iadd, 1) := by decide +kernel
theorem xd_L_law_293 : decode code 293 = .ok (.iaload, 1) := by decide +kernel
theorem xd_L_law_294 : decode code 294 = .ok (.invokevirtual 39, 3) := by decide +kernel
theorem xd_L_law_297 : decode code 297 = .ok (.if_icmp .eq 215, 3) := by decide +kernel
theorem xd_L_law_300 : decode code 300 = .ok (.iconst 0, 1) := by decide +kernel
theorem xd_L_law_301 : decode code 301 = .ok (.ireturn, 1) := by decide +kernel
theorem xd_L_law_302 : decode code 302 = .ok (.aload_n 1, 1) := by decide +kernel
theorem xd_L_law_303 : decode code 303 = .ok (.aload_n 0, 1) := by decide +kernel
theorem xd_L_law_304 : decode code 304 = .ok (.iload_n 3, 1) := by decide +kernel
theorem xd_L_law_305 : decode code 305 = .ok (.iconst 1, 1) := by decide +kernel
theorem xd_L_law_306 : decode code 306 = .ok (.iadd, 1) := by decide +kernel
theorem xd_L_law_307 : decode code 307 = .ok (.iaload, 1) := by decide +kernel
theorem xd_L_law_308 : decode code 308 = .ok (.aload_n 0, 1) := by decide +kernel
theorem xd_L_law_309 : decode code 309 = .ok (.iload_n 3, 1) := by decide +kernel
theorem xd_L_law_310 : decode code 310 = .ok (.iconst 2, 1) := by decide +kernel
theorem xd_L_law_311 : decode code 311 = .ok (.iadd, 1) := by decide +kernel
theorem xd_L_law_312 : decode code 312 = .ok (.iaload, 1) := by decide +kernel
theorem xd_L_law_313 : decode code 313 = .ok (.invokevirtual 40, 3) := by decide +kernel
theorem xd_L_law_316 : decode code 316 = .ok (.aload_n 2, 1) := by decide +kernel
theorem xd_L_law_317 : decode code 317 = .ok (.aload_n 0, 1) := by decide +kernel
theorem xd_L_law_318 : decode code 318 = .ok (.iload_n 3, 1) := by decide +kernel
theorem xd_L_law_319 : decode code 319 = .ok (.iconst 1, 1) := by decide +kernel
theorem xd_L_law_320 : decode code 320 = .ok (.iadd, 1) := by decide +kernel
theorem xd_L_law_321 : decode code 321 = .ok (.iaload, 1) := by decide +kernel
theorem xd_L_law_322 : decode code 322 = .ok (.aload_n 0, 1) := by decide +kernel
theorem xd_L_law_323 : decode code 323 = .ok (.iload_n 3, 1) := by decide +kernel
theorem xd_L_law_324 : decode code 324 = .ok (.iconst 2, 1) := by decide +kernel
theorem xd_L_law_325 : decode code 325 = .ok (.iadd, 1) := by decide +kernel
theorem xd_L_law_326 : decode code 326 = .ok (.iaload, 1) := by decide +kernel
theorem xd_L_law_327 : decode code 327 = .ok (.invokevirtual 43, 3) := by decide +kernel
theorem xd_L_law_330 : decode code 330 = .ok (.if_icmp .eq 182, 3) := by decide +kernel
theorem xd_L_law_333 : decode code 333 = .ok (.iconst 0, 1) := by decide +kernel
theorem xd_L_law_334 : decode code 334 = .ok (.ireturn, 1) := by decide +kernel
theorem xd_L_law_335 : decode code 335 = .ok (.aload_n 1, 1) := by decide +kernel
