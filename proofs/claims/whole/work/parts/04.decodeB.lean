theorem dX6_init_0 : decode cX6_init 0 = .ok (.aload_n 0, 1) := by decide +kernel
theorem dX6_init_1 : decode cX6_init 1 = .ok (.invokespecial 1, 3) := by decide +kernel
theorem dX6_init_4 : decode cX6_init 4 = .ok (.aload_n 0, 1) := by decide +kernel
theorem dX6_init_5 : decode cX6_init 5 = .ok (.bipush 120, 2) := by decide +kernel
theorem dX6_init_7 : decode cX6_init 7 = .ok (.newarray .int, 2) := by decide +kernel
theorem dX6_init_9 : decode cX6_init 9 = .ok (.putfield 7, 3) := by decide +kernel
theorem dX6_init_12 : decode cX6_init 12 = .ok (.aload_n 0, 1) := by decide +kernel
theorem dX6_init_13 : decode cX6_init 13 = .ok (.bipush 59, 2) := by decide +kernel
theorem dX6_init_15 : decode cX6_init 15 = .ok (.newarray .int, 2) := by decide +kernel
theorem dX6_init_17 : decode cX6_init 17 = .ok (.putfield 13, 3) := by decide +kernel
theorem dX6_init_20 : decode cX6_init 20 = .ok (.aload_n 0, 1) := by decide +kernel
theorem dX6_init_21 : decode cX6_init 21 = .ok (.bipush 59, 2) := by decide +kernel
theorem dX6_init_23 : decode cX6_init 23 = .ok (.newarray .int, 2) := by decide +kernel
theorem dX6_init_25 : decode cX6_init 25 = .ok (.putfield 16, 3) := by decide +kernel
theorem dX6_init_28 : decode cX6_init 28 = .ok (.aload_n 0, 1) := by decide +kernel
theorem dX6_init_29 : decode cX6_init 29 = .ok (.sipush 826, 3) := by decide +kernel
theorem dX6_init_32 : decode cX6_init 32 = .ok (.newarray .int, 2) := by decide +kernel
theorem dX6_init_34 : decode cX6_init 34 = .ok (.putfield 19, 3) := by decide +kernel
theorem dX6_init_37 : decode cX6_init 37 = .ok (.aload_n 0, 1) := by decide +kernel
theorem dX6_init_38 : decode cX6_init 38 = .ok (.bipush 118, 2) := by decide +kernel
theorem dX6_init_40 : decode cX6_init 40 = .ok (.newarray .int, 2) := by decide +kernel
theorem dX6_init_42 : decode cX6_init 42 = .ok (.putfield 22, 3) := by decide +kernel
theorem dX6_init_45 : decode cX6_init 45 = .ok (.aload_n 0, 1) := by decide +kernel
theorem dX6_init_46 : decode cX6_init 46 = .ok (.iconst 2, 1) := by decide +kernel
theorem dX6_init_47 : decode cX6_init 47 = .ok (.newarray .boolean, 2) := by decide +kernel
theorem dX6_init_49 : decode cX6_init 49 = .ok (.putfield 25, 3) := by decide +kernel
theorem dX6_init_52 : decode cX6_init 52 = .ok (.aload_n 0, 1) := by decide +kernel
theorem dX6_init_53 : decode cX6_init 53 = .ok (.sipush 12000, 3) := by decide +kernel
theorem dX6_init_56 : decode cX6_init 56 = .ok (.newarray .boolean, 2) := by decide +kernel
theorem dX6_init_58 : decode cX6_init 58 = .ok (.putfield 29, 3) := by decide +kernel
theorem dX6_init_61 : decode cX6_init 61 = .ok (.aload_n 0, 1) := by decide +kernel
theorem dX6_init_62 : decode cX6_init 62 = .ok (.sipush 1000, 3) := by decide +kernel
theorem dX6_init_65 : decode cX6_init 65 = .ok (.newarray .boolean, 2) := by decide +kernel
theorem dX6_init_67 : decode cX6_init 67 = .ok (.putfield 32, 3) := by decide +kernel
theorem dX6_init_70 : decode cX6_init 70 = .ok (.aload_n 0, 1) := by decide +kernel
theorem dX6_init_71 : decode cX6_init 71 = .ok (.getfield 13, 3) := by decide +kernel
theorem dX6_init_74 : decode cX6_init 74 = .ok (.invokestatic 35, 3) := by decide +kernel
theorem dX6_init_77 : decode cX6_init 77 = .ok (.return_, 1) := by decide +kernel
theorem dX6_thrown_0 : decode cX6_thrown 0 = .ok (.aload_n 0, 1) := by decide +kernel
theorem dX6_thrown_1 : decode cX6_thrown 1 = .ok (.getfield 39, 3) := by decide +kernel
theorem dX6_thrown_4 : decode cX6_thrown 4 = .ok (.ireturn, 1) := by decide +kernel
theorem dX6_refused_0 : decode cX6_refused 0 = .ok (.aload_n 0, 1) := by decide +kernel
theorem dX6_refused_1 : decode cX6_refused 1 = .ok (.iload_n 1, 1) := by decide +kernel
theorem dX6_refused_2 : decode cX6_refused 2 = .ok (.putfield 39, 3) := by decide +kernel
theorem dX6_refused_5 : decode cX6_refused 5 = .ok (.iload_n 1, 1) := by decide +kernel
theorem dX6_refused_6 : decode cX6_refused 6 = .ok (.ifCond .le 7, 3) := by decide +kernel
theorem dX6_refused_9 : decode cX6_refused 9 = .ok (.iconst 1, 1) := by decide +kernel
theorem dX6_refused_10 : decode cX6_refused 10 = .ok (.goto 4, 3) := by decide +kernel
theorem dX6_refused_13 : decode cX6_refused 13 = .ok (.iconst 0, 1) := by decide +kernel
theorem dX6_refused_14 : decode cX6_refused 14 = .ok (.ireturn, 1) := by decide +kernel
theorem dX6_in_0 : decode cX6_in 0 = .ok (.lload_n 0, 1) := by decide +kernel
theorem dX6_in_1 : decode cX6_in 1 = .ok (.lload_n 2, 1) := by decide +kernel
theorem dX6_in_2 : decode cX6_in 2 = .ok (.lcmp, 1) := by decide +kernel
theorem dX6_in_3 : decode cX6_in 3 = .ok (.ifCond .lt 14, 3) := by decide +kernel
theorem dX6_in_6 : decode cX6_in 6 = .ok (.lload_n 0, 1) := by decide +kernel
theorem dX6_in_7 : decode cX6_in 7 = .ok (.lload 4, 2) := by decide +kernel
theorem dX6_in_9 : decode cX6_in 9 = .ok (.lcmp, 1) := by decide +kernel
theorem dX6_in_10 : decode cX6_in 10 = .ok (.ifCond .gt 7, 3) := by decide +kernel
theorem dX6_in_13 : decode cX6_in 13 = .ok (.iconst 1, 1) := by decide +kernel
theorem dX6_in_14 : decode cX6_in 14 = .ok (.goto 4, 3) := by decide +kernel
theorem dX6_in_17 : decode cX6_in 17 = .ok (.iconst 0, 1) := by decide +kernel
theorem dX6_in_18 : decode cX6_in 18 = .ok (.ireturn, 1) := by decide +kernel
theorem dX6_copyState_0 : decode cX6_copyState 0 = .ok (.iconst 0, 1) := by decide +kernel
theorem dX6_copyState_1 : decode cX6_copyState 1 = .ok (.istore 4, 2) := by decide +kernel
theorem dX6_copyState_3 : decode cX6_copyState 3 = .ok (.iload 4, 2) := by decide +kernel
theorem dX6_copyState_5 : decode cX6_copyState 5 = .ok (.bipush 59, 2) := by decide +kernel
theorem dX6_copyState_7 : decode cX6_copyState 7 = .ok (.if_icmp .ge 21, 3) := by decide +kernel
theorem dX6_copyState_10 : decode cX6_copyState 10 = .ok (.aload_n 2, 1) := by decide +kernel
theorem dX6_copyState_11 : decode cX6_copyState 11 = .ok (.iload_n 3, 1) := by decide +kernel
theorem dX6_copyState_12 : decode cX6_copyState 12 = .ok (.iload 4, 2) := by decide +kernel
theorem dX6_copyState_14 : decode cX6_copyState 14 = .ok (.iadd, 1) := by decide +kernel
theorem dX6_copyState_15 : decode cX6_copyState 15 = .ok (.aload_n 0, 1) := by decide +kernel
theorem dX6_copyState_16 : decode cX6_copyState 16 = .ok (.iload_n 1, 1) := by decide +kernel
theorem dX6_copyState_17 : decode cX6_copyState 17 = .ok (.iload 4, 2) := by decide +kernel
theorem dX6_copyState_19 : decode cX6_copyState 19 = .ok (.iadd, 1) := by decide +kernel
theorem dX6_copyState_20 : decode cX6_copyState 20 = .ok (.iaload, 1) := by decide +kernel
theorem dX6_copyState_21 : decode cX6_copyState 21 = .ok (.iastore, 1) := by decide +kernel
theorem dX6_copyState_22 : decode cX6_copyState 22 = .ok (.iinc 4 1, 3) := by decide +kernel
theorem dX6_copyState_25 : decode cX6_copyState 25 = .ok (.goto (-22), 3) := by decide +kernel
theorem dX6_copyState_28 : decode cX6_copyState 28 = .ok (.return_, 1) := by decide +kernel
theorem dX6_clear_0 : decode cX6_clear 0 = .ok (.iconst 0, 1) := by decide +kernel
theorem dX6_clear_1 : decode cX6_clear 1 = .ok (.istore_n 1, 1) := by decide +kernel
theorem dX6_clear_2 : decode cX6_clear 2 = .ok (.iload_n 1, 1) := by decide +kernel
theorem dX6_clear_3 : decode cX6_clear 3 = .ok (.bipush 59, 2) := by decide +kernel
theorem dX6_clear_5 : decode cX6_clear 5 = .ok (.if_icmp .ge 13, 3) := by decide +kernel
theorem dX6_clear_8 : decode cX6_clear 8 = .ok (.aload_n 0, 1) := by decide +kernel
theorem dX6_clear_9 : decode cX6_clear 9 = .ok (.iload_n 1, 1) := by decide +kernel
theorem dX6_clear_10 : decode cX6_clear 10 = .ok (.iconst 0, 1) := by decide +kernel
theorem dX6_clear_11 : decode cX6_clear 11 = .ok (.iastore, 1) := by decide +kernel
theorem dX6_clear_12 : decode cX6_clear 12 = .ok (.iinc 1 1, 3) := by decide +kernel
theorem dX6_clear_15 : decode cX6_clear 15 = .ok (.goto (-13), 3) := by decide +kernel
theorem dX6_clear_18 : decode cX6_clear 18 = .ok (.return_, 1) := by decide +kernel
theorem dX6_of_0 : decode cX6_of 0 = .ok (.aload_n 0, 1) := by decide +kernel
theorem dX6_of_1 : decode cX6_of 1 = .ok (.iconst 3, 1) := by decide +kernel
theorem dX6_of_2 : decode cX6_of 2 = .ok (.iconst 4, 1) := by decide +kernel
theorem dX6_of_3 : decode cX6_of 3 = .ok (.iload_n 1, 1) := by decide +kernel
theorem dX6_of_4 : decode cX6_of 4 = .ok (.imul, 1) := by decide +kernel
theorem dX6_of_5 : decode cX6_of 5 = .ok (.iadd, 1) := by decide +kernel
theorem dX6_of_6 : decode cX6_of 6 = .ok (.iload_n 2, 1) := by decide +kernel
theorem dX6_of_7 : decode cX6_of 7 = .ok (.iadd, 1) := by decide +kernel
theorem dX6_of_8 : decode cX6_of 8 = .ok (.iaload, 1) := by decide +kernel
theorem dX6_of_9 : decode cX6_of 9 = .ok (.ireturn, 1) := by decide +kernel
theorem dX6_isList_0 : decode cX6_isList 0 = .ok (.iload_n 1, 1) := by decide +kernel
theorem dX6_isList_1 : decode cX6_isList 1 = .ok (.i2l, 1) := by decide +kernel
theorem dX6_isList_2 : decode cX6_isList 2 = .ok (.lconst 0, 1) := by decide +kernel
theorem dX6_isList_3 : decode cX6_isList 3 = .ok (.aload_n 0, 1) := by decide +kernel
theorem dX6_isList_4 : decode cX6_isList 4 = .ok (.iconst 0, 1) := by decide +kernel
theorem dX6_isList_5 : decode cX6_isList 5 = .ok (.iaload, 1) := by decide +kernel
theorem dX6_isList_6 : decode cX6_isList 6 = .ok (.iconst 1, 1) := by decide +kernel
theorem dX6_isList_7 : decode cX6_isList 7 = .ok (.isub, 1) := by decide +kernel
theorem dX6_isList_8 : decode cX6_isList 8 = .ok (.i2l, 1) := by decide +kernel
theorem dX6_isList_9 : decode cX6_isList 9 = .ok (.invokestatic 43, 3) := by decide +kernel
theorem dX6_isList_12 : decode cX6_isList 12 = .ok (.ireturn, 1) := by decide +kernel
theorem dX6_isReader_0 : decode cX6_isReader 0 = .ok (.iload_n 1, 1) := by decide +kernel
theorem dX6_isReader_1 : decode cX6_isReader 1 = .ok (.i2l, 1) := by decide +kernel
theorem dX6_isReader_2 : decode cX6_isReader 2 = .ok (.lconst 0, 1) := by decide +kernel
theorem dX6_isReader_3 : decode cX6_isReader 3 = .ok (.aload_n 0, 1) := by decide +kernel
theorem dX6_isReader_4 : decode cX6_isReader 4 = .ok (.iconst 1, 1) := by decide +kernel
theorem dX6_isReader_5 : decode cX6_isReader 5 = .ok (.iaload, 1) := by decide +kernel
theorem dX6_isReader_6 : decode cX6_isReader 6 = .ok (.iconst 1, 1) := by decide +kernel
theorem dX6_isReader_7 : decode cX6_isReader 7 = .ok (.isub, 1) := by decide +kernel
theorem dX6_isReader_8 : decode cX6_isReader 8 = .ok (.i2l, 1) := by decide +kernel
theorem dX6_isReader_9 : decode cX6_isReader 9 = .ok (.invokestatic 43, 3) := by decide +kernel
theorem dX6_isReader_12 : decode cX6_isReader 12 = .ok (.ireturn, 1) := by decide +kernel
theorem dX6_listOfReader_0 : decode cX6_listOfReader 0 = .ok (.aload_n 0, 1) := by decide +kernel
theorem dX6_listOfReader_1 : decode cX6_listOfReader 1 = .ok (.bipush 51, 2) := by decide +kernel
theorem dX6_listOfReader_3 : decode cX6_listOfReader 3 = .ok (.iconst 2, 1) := by decide +kernel
theorem dX6_listOfReader_4 : decode cX6_listOfReader 4 = .ok (.iload_n 1, 1) := by decide +kernel
theorem dX6_listOfReader_5 : decode cX6_listOfReader 5 = .ok (.imul, 1) := by decide +kernel
theorem dX6_listOfReader_6 : decode cX6_listOfReader 6 = .ok (.iadd, 1) := by decide +kernel
theorem dX6_listOfReader_7 : decode cX6_listOfReader 7 = .ok (.iaload, 1) := by decide +kernel
theorem dX6_listOfReader_8 : decode cX6_listOfReader 8 = .ok (.ireturn, 1) := by decide +kernel
theorem dX6_readBy_0 : decode cX6_readBy 0 = .ok (.aload_n 0, 1) := by decide +kernel
theorem dX6_readBy_1 : decode cX6_readBy 1 = .ok (.bipush 51, 2) := by decide +kernel
theorem dX6_readBy_3 : decode cX6_readBy 3 = .ok (.iconst 2, 1) := by decide +kernel
theorem dX6_readBy_4 : decode cX6_readBy 4 = .ok (.iload_n 1, 1) := by decide +kernel
theorem dX6_readBy_5 : decode cX6_readBy 5 = .ok (.imul, 1) := by decide +kernel
theorem dX6_readBy_6 : decode cX6_readBy 6 = .ok (.iadd, 1) := by decide +kernel
theorem dX6_readBy_7 : decode cX6_readBy 7 = .ok (.iconst 1, 1) := by decide +kernel
theorem dX6_readBy_8 : decode cX6_readBy 8 = .ok (.iadd, 1) := by decide +kernel
theorem dX6_readBy_9 : decode cX6_readBy 9 = .ok (.iaload, 1) := by decide +kernel
theorem dX6_readBy_10 : decode cX6_readBy 10 = .ok (.ireturn, 1) := by decide +kernel
theorem dX6_member_0 : decode cX6_member 0 = .ok (.aload_n 0, 1) := by decide +kernel
theorem dX6_member_1 : decode cX6_member 1 = .ok (.getfield 29, 3) := by decide +kernel
theorem dX6_member_4 : decode cX6_member 4 = .ok (.sipush 1000, 3) := by decide +kernel
theorem dX6_member_7 : decode cX6_member 7 = .ok (.iload_n 1, 1) := by decide +kernel
theorem dX6_member_8 : decode cX6_member 8 = .ok (.imul, 1) := by decide +kernel
theorem dX6_member_9 : decode cX6_member 9 = .ok (.iload_n 2, 1) := by decide +kernel
theorem dX6_member_10 : decode cX6_member 10 = .ok (.iadd, 1) := by decide +kernel
theorem dX6_member_11 : decode cX6_member 11 = .ok (.baload, 1) := by decide +kernel
theorem dX6_member_12 : decode cX6_member 12 = .ok (.ireturn, 1) := by decide +kernel
theorem dX6_adds_0 : decode cX6_adds 0 = .ok (.iload_n 2, 1) := by decide +kernel
theorem dX6_adds_1 : decode cX6_adds 1 = .ok (.sipush 999, 3) := by decide +kernel
theorem dX6_adds_4 : decode cX6_adds 4 = .ok (.if_icmp .gt 16, 3) := by decide +kernel
theorem dX6_adds_7 : decode cX6_adds 7 = .ok (.aload_n 0, 1) := by decide +kernel
theorem dX6_adds_8 : decode cX6_adds 8 = .ok (.getfield 29, 3) := by decide +kernel
theorem dX6_adds_11 : decode cX6_adds 11 = .ok (.sipush 1000, 3) := by decide +kernel
theorem dX6_adds_14 : decode cX6_adds 14 = .ok (.iload_n 1, 1) := by decide +kernel
theorem dX6_adds_15 : decode cX6_adds 15 = .ok (.imul, 1) := by decide +kernel
theorem dX6_adds_16 : decode cX6_adds 16 = .ok (.iload_n 2, 1) := by decide +kernel
theorem dX6_adds_17 : decode cX6_adds 17 = .ok (.iadd, 1) := by decide +kernel
theorem dX6_adds_18 : decode cX6_adds 18 = .ok (.iconst 1, 1) := by decide +kernel
theorem dX6_adds_19 : decode cX6_adds 19 = .ok (.bastore, 1) := by decide +kernel
theorem dX6_adds_20 : decode cX6_adds 20 = .ok (.return_, 1) := by decide +kernel
theorem dX6_sieves_0 : decode cX6_sieves 0 = .ok (.aload_n 0, 1) := by decide +kernel
theorem dX6_sieves_1 : decode cX6_sieves 1 = .ok (.getfield 29, 3) := by decide +kernel
theorem dX6_sieves_4 : decode cX6_sieves 4 = .ok (.sipush 1000, 3) := by decide +kernel
theorem dX6_sieves_7 : decode cX6_sieves 7 = .ok (.iload_n 1, 1) := by decide +kernel
theorem dX6_sieves_8 : decode cX6_sieves 8 = .ok (.imul, 1) := by decide +kernel
theorem dX6_sieves_9 : decode cX6_sieves 9 = .ok (.iload_n 2, 1) := by decide +kernel
theorem dX6_sieves_10 : decode cX6_sieves 10 = .ok (.iadd, 1) := by decide +kernel
theorem dX6_sieves_11 : decode cX6_sieves 11 = .ok (.aload_n 0, 1) := by decide +kernel
theorem dX6_sieves_12 : decode cX6_sieves 12 = .ok (.getfield 32, 3) := by decide +kernel
theorem dX6_sieves_15 : decode cX6_sieves 15 = .ok (.iload_n 2, 1) := by decide +kernel
theorem dX6_sieves_16 : decode cX6_sieves 16 = .ok (.baload, 1) := by decide +kernel
theorem dX6_sieves_17 : decode cX6_sieves 17 = .ok (.ifCond .ne 7, 3) := by decide +kernel
theorem dX6_sieves_20 : decode cX6_sieves 20 = .ok (.iconst 1, 1) := by decide +kernel
theorem dX6_sieves_21 : decode cX6_sieves 21 = .ok (.goto 4, 3) := by decide +kernel
theorem dX6_sieves_24 : decode cX6_sieves 24 = .ok (.iconst 0, 1) := by decide +kernel
theorem dX6_sieves_25 : decode cX6_sieves 25 = .ok (.bastore, 1) := by decide +kernel
theorem dX6_sieves_26 : decode cX6_sieves 26 = .ok (.iconst 2, 1) := by decide +kernel
theorem dX6_sieves_27 : decode cX6_sieves 27 = .ok (.iload_n 2, 1) := by decide +kernel
theorem dX6_sieves_28 : decode cX6_sieves 28 = .ok (.imul, 1) := by decide +kernel
theorem dX6_sieves_29 : decode cX6_sieves 29 = .ok (.istore_n 3, 1) := by decide +kernel
theorem dX6_sieves_30 : decode cX6_sieves 30 = .ok (.iload_n 3, 1) := by decide +kernel
theorem dX6_sieves_31 : decode cX6_sieves 31 = .ok (.sipush 999, 3) := by decide +kernel
theorem dX6_sieves_34 : decode cX6_sieves 34 = .ok (.if_icmp .gt 31, 3) := by decide +kernel
theorem dX6_sieves_37 : decode cX6_sieves 37 = .ok (.iload_n 2, 1) := by decide +kernel
theorem dX6_sieves_38 : decode cX6_sieves 38 = .ok (.iconst 1, 1) := by decide +kernel
theorem dX6_sieves_39 : decode cX6_sieves 39 = .ok (.if_icmp .le 26, 3) := by decide +kernel
theorem dX6_sieves_42 : decode cX6_sieves 42 = .ok (.aload_n 0, 1) := by decide +kernel
theorem dX6_sieves_43 : decode cX6_sieves 43 = .ok (.getfield 32, 3) := by decide +kernel
theorem dX6_sieves_46 : decode cX6_sieves 46 = .ok (.iload_n 2, 1) := by decide +kernel
theorem dX6_sieves_47 : decode cX6_sieves 47 = .ok (.baload, 1) := by decide +kernel
theorem dX6_sieves_48 : decode cX6_sieves 48 = .ok (.ifCond .ne 17, 3) := by decide +kernel
theorem dX6_sieves_51 : decode cX6_sieves 51 = .ok (.aload_n 0, 1) := by decide +kernel
theorem dX6_sieves_52 : decode cX6_sieves 52 = .ok (.getfield 32, 3) := by decide +kernel
theorem dX6_sieves_55 : decode cX6_sieves 55 = .ok (.iload_n 3, 1) := by decide +kernel
theorem dX6_sieves_56 : decode cX6_sieves 56 = .ok (.iconst 1, 1) := by decide +kernel
theorem dX6_sieves_57 : decode cX6_sieves 57 = .ok (.bastore, 1) := by decide +kernel
theorem dX6_sieves_58 : decode cX6_sieves 58 = .ok (.iload_n 3, 1) := by decide +kernel
theorem dX6_sieves_59 : decode cX6_sieves 59 = .ok (.iload_n 2, 1) := by decide +kernel
theorem dX6_sieves_60 : decode cX6_sieves 60 = .ok (.iadd, 1) := by decide +kernel
theorem dX6_sieves_61 : decode cX6_sieves 61 = .ok (.istore_n 3, 1) := by decide +kernel
theorem dX6_sieves_62 : decode cX6_sieves 62 = .ok (.goto (-32), 3) := by decide +kernel
theorem dX6_sieves_65 : decode cX6_sieves 65 = .ok (.return_, 1) := by decide +kernel
theorem dX6_follows_0 : decode cX6_follows 0 = .ok (.aload_n 1, 1) := by decide +kernel
theorem dX6_follows_1 : decode cX6_follows 1 = .ok (.iload_n 2, 1) := by decide +kernel
theorem dX6_follows_2 : decode cX6_follows 2 = .ok (.iconst 1, 1) := by decide +kernel
theorem dX6_follows_3 : decode cX6_follows 3 = .ok (.invokestatic 47, 3) := by decide +kernel
theorem dX6_follows_6 : decode cX6_follows 6 = .ok (.istore_n 3, 1) := by decide +kernel
theorem dX6_follows_7 : decode cX6_follows 7 = .ok (.iconst 0, 1) := by decide +kernel
theorem dX6_follows_8 : decode cX6_follows 8 = .ok (.istore 4, 2) := by decide +kernel
theorem dX6_follows_10 : decode cX6_follows 10 = .ok (.iconst 0, 1) := by decide +kernel
theorem dX6_follows_11 : decode cX6_follows 11 = .ok (.istore 5, 2) := by decide +kernel
theorem dX6_follows_13 : decode cX6_follows 13 = .ok (.iconst 0, 1) := by decide +kernel
theorem dX6_follows_14 : decode cX6_follows 14 = .ok (.istore 6, 2) := by decide +kernel
theorem dX6_follows_16 : decode cX6_follows 16 = .ok (.iload 6, 2) := by decide +kernel
theorem dX6_follows_18 : decode cX6_follows 18 = .ok (.sipush 999, 3) := by decide +kernel
theorem dX6_follows_21 : decode cX6_follows 21 = .ok (.if_icmp .gt 17, 3) := by decide +kernel
theorem dX6_follows_24 : decode cX6_follows 24 = .ok (.aload_n 0, 1) := by decide +kernel
theorem dX6_follows_25 : decode cX6_follows 25 = .ok (.getfield 32, 3) := by decide +kernel
theorem dX6_follows_28 : decode cX6_follows 28 = .ok (.iload 6, 2) := by decide +kernel
theorem dX6_follows_30 : decode cX6_follows 30 = .ok (.iconst 0, 1) := by decide +kernel
theorem dX6_follows_31 : decode cX6_follows 31 = .ok (.bastore, 1) := by decide +kernel
theorem dX6_follows_32 : decode cX6_follows 32 = .ok (.iinc 6 1, 3) := by decide +kernel
theorem dX6_follows_35 : decode cX6_follows 35 = .ok (.goto (-19), 3) := by decide +kernel
theorem dX6_follows_38 : decode cX6_follows 38 = .ok (.iconst 0, 1) := by decide +kernel
theorem dX6_follows_39 : decode cX6_follows 39 = .ok (.istore 6, 2) := by decide +kernel
theorem dX6_follows_41 : decode cX6_follows 41 = .ok (.iload 6, 2) := by decide +kernel
theorem dX6_follows_43 : decode cX6_follows 43 = .ok (.sipush 999, 3) := by decide +kernel
theorem dX6_follows_46 : decode cX6_follows 46 = .ok (.if_icmp .gt 142, 3) := by decide +kernel
theorem dX6_follows_49 : decode cX6_follows 49 = .ok (.aload_n 0, 1) := by decide +kernel
theorem dX6_follows_50 : decode cX6_follows 50 = .ok (.iload_n 3, 1) := by decide +kernel
theorem dX6_follows_51 : decode cX6_follows 51 = .ok (.iload 6, 2) := by decide +kernel
theorem dX6_follows_53 : decode cX6_follows 53 = .ok (.invokevirtual 51, 3) := by decide +kernel
theorem dX6_follows_56 : decode cX6_follows 56 = .ok (.ifCond .eq 126, 3) := by decide +kernel
theorem dX6_follows_59 : decode cX6_follows 59 = .ok (.iinc 4 1, 3) := by decide +kernel
theorem dX6_follows_62 : decode cX6_follows 62 = .ok (.iload 5, 2) := by decide +kernel
theorem dX6_follows_64 : decode cX6_follows 64 = .ok (.iload 6, 2) := by decide +kernel
theorem dX6_follows_66 : decode cX6_follows 66 = .ok (.iadd, 1) := by decide +kernel
theorem dX6_follows_67 : decode cX6_follows 67 = .ok (.istore 5, 2) := by decide +kernel
theorem dX6_follows_69 : decode cX6_follows 69 = .ok (.aload_n 1, 1) := by decide +kernel
theorem dX6_follows_70 : decode cX6_follows 70 = .ok (.iload_n 2, 1) := by decide +kernel
theorem dX6_follows_71 : decode cX6_follows 71 = .ok (.iconst 0, 1) := by decide +kernel
theorem dX6_follows_72 : decode cX6_follows 72 = .ok (.invokestatic 47, 3) := by decide +kernel
theorem dX6_follows_75 : decode cX6_follows 75 = .ok (.lookupswitch 100 #[(1, 33), (5, 57), (6, 67)], 33) := by decide +kernel
theorem dX6_follows_108 : decode cX6_follows 108 = .ok (.aload_n 0, 1) := by decide +kernel
theorem dX6_follows_109 : decode cX6_follows 109 = .ok (.iload_n 2, 1) := by decide +kernel
theorem dX6_follows_110 : decode cX6_follows 110 = .ok (.iload 6, 2) := by decide +kernel
theorem dX6_follows_112 : decode cX6_follows 112 = .ok (.aload_n 1, 1) := by decide +kernel
theorem dX6_follows_113 : decode cX6_follows 113 = .ok (.iload_n 2, 1) := by decide +kernel
theorem dX6_follows_114 : decode cX6_follows 114 = .ok (.iconst 2, 1) := by decide +kernel
theorem dX6_follows_115 : decode cX6_follows 115 = .ok (.invokestatic 47, 3) := by decide +kernel
theorem dX6_follows_118 : decode cX6_follows 118 = .ok (.imul, 1) := by decide +kernel
theorem dX6_follows_119 : decode cX6_follows 119 = .ok (.aload_n 1, 1) := by decide +kernel
theorem dX6_follows_120 : decode cX6_follows 120 = .ok (.iload_n 2, 1) := by decide +kernel
theorem dX6_follows_121 : decode cX6_follows 121 = .ok (.iconst 3, 1) := by decide +kernel
theorem dX6_follows_122 : decode cX6_follows 122 = .ok (.invokestatic 47, 3) := by decide +kernel
theorem dX6_follows_125 : decode cX6_follows 125 = .ok (.iadd, 1) := by decide +kernel
theorem dX6_follows_126 : decode cX6_follows 126 = .ok (.invokevirtual 55, 3) := by decide +kernel
theorem dX6_follows_129 : decode cX6_follows 129 = .ok (.goto 53, 3) := by decide +kernel
theorem dX6_follows_132 : decode cX6_follows 132 = .ok (.aload_n 0, 1) := by decide +kernel
theorem dX6_follows_133 : decode cX6_follows 133 = .ok (.iload_n 2, 1) := by decide +kernel
theorem dX6_follows_134 : decode cX6_follows 134 = .ok (.iload 6, 2) := by decide +kernel
theorem dX6_follows_136 : decode cX6_follows 136 = .ok (.invokevirtual 59, 3) := by decide +kernel
theorem dX6_follows_139 : decode cX6_follows 139 = .ok (.goto 43, 3) := by decide +kernel
theorem dX6_follows_142 : decode cX6_follows 142 = .ok (.aload_n 0, 1) := by decide +kernel
theorem dX6_follows_143 : decode cX6_follows 143 = .ok (.getfield 29, 3) := by decide +kernel
theorem dX6_follows_146 : decode cX6_follows 146 = .ok (.sipush 1000, 3) := by decide +kernel
theorem dX6_follows_149 : decode cX6_follows 149 = .ok (.iload_n 2, 1) := by decide +kernel
theorem dX6_follows_150 : decode cX6_follows 150 = .ok (.imul, 1) := by decide +kernel
theorem dX6_follows_151 : decode cX6_follows 151 = .ok (.iload 6, 2) := by decide +kernel
theorem dX6_follows_153 : decode cX6_follows 153 = .ok (.iadd, 1) := by decide +kernel
theorem dX6_follows_154 : decode cX6_follows 154 = .ok (.iload 4, 2) := by decide +kernel
theorem dX6_follows_156 : decode cX6_follows 156 = .ok (.aload_n 1, 1) := by decide +kernel
theorem dX6_follows_157 : decode cX6_follows 157 = .ok (.iload_n 2, 1) := by decide +kernel
theorem dX6_follows_158 : decode cX6_follows 158 = .ok (.iconst 2, 1) := by decide +kernel
theorem dX6_follows_159 : decode cX6_follows 159 = .ok (.invokestatic 47, 3) := by decide +kernel
theorem dX6_follows_162 : decode cX6_follows 162 = .ok (.irem, 1) := by decide +kernel
theorem dX6_follows_163 : decode cX6_follows 163 = .ok (.ifCond .ne 7, 3) := by decide +kernel
theorem dX6_follows_166 : decode cX6_follows 166 = .ok (.iconst 1, 1) := by decide +kernel
theorem dX6_follows_167 : decode cX6_follows 167 = .ok (.goto 4, 3) := by decide +kernel
theorem dX6_follows_170 : decode cX6_follows 170 = .ok (.iconst 0, 1) := by decide +kernel
theorem dX6_follows_171 : decode cX6_follows 171 = .ok (.bastore, 1) := by decide +kernel
theorem dX6_follows_172 : decode cX6_follows 172 = .ok (.goto 10, 3) := by decide +kernel
theorem dX6_follows_175 : decode cX6_follows 175 = .ok (.aload_n 0, 1) := by decide +kernel
theorem dX6_follows_176 : decode cX6_follows 176 = .ok (.iload_n 2, 1) := by decide +kernel
theorem dX6_follows_177 : decode cX6_follows 177 = .ok (.iload 5, 2) := by decide +kernel
theorem dX6_follows_179 : decode cX6_follows 179 = .ok (.invokevirtual 55, 3) := by decide +kernel
theorem dX6_follows_182 : decode cX6_follows 182 = .ok (.iinc 6 1, 3) := by decide +kernel
theorem dX6_follows_185 : decode cX6_follows 185 = .ok (.goto (-144), 3) := by decide +kernel
theorem dX6_follows_188 : decode cX6_follows 188 = .ok (.return_, 1) := by decide +kernel
theorem dX6_joins_0 : decode cX6_joins 0 = .ok (.iconst 0, 1) := by decide +kernel
theorem dX6_joins_1 : decode cX6_joins 1 = .ok (.istore_n 3, 1) := by decide +kernel
theorem dX6_joins_2 : decode cX6_joins 2 = .ok (.iload_n 3, 1) := by decide +kernel
theorem dX6_joins_3 : decode cX6_joins 3 = .ok (.sipush 999, 3) := by decide +kernel
theorem dX6_joins_6 : decode cX6_joins 6 = .ok (.if_icmp .gt 105, 3) := by decide +kernel
theorem dX6_joins_9 : decode cX6_joins 9 = .ok (.aload_n 0, 1) := by decide +kernel
theorem dX6_joins_10 : decode cX6_joins 10 = .ok (.aload_n 1, 1) := by decide +kernel
theorem dX6_joins_11 : decode cX6_joins 11 = .ok (.iload_n 2, 1) := by decide +kernel
theorem dX6_joins_12 : decode cX6_joins 12 = .ok (.iconst 1, 1) := by decide +kernel
theorem dX6_joins_13 : decode cX6_joins 13 = .ok (.invokestatic 47, 3) := by decide +kernel
theorem dX6_joins_16 : decode cX6_joins 16 = .ok (.iload_n 3, 1) := by decide +kernel
theorem dX6_joins_17 : decode cX6_joins 17 = .ok (.invokevirtual 51, 3) := by decide +kernel
theorem dX6_joins_20 : decode cX6_joins 20 = .ok (.istore 4, 2) := by decide +kernel
theorem dX6_joins_22 : decode cX6_joins 22 = .ok (.aload_n 0, 1) := by decide +kernel
theorem dX6_joins_23 : decode cX6_joins 23 = .ok (.aload_n 1, 1) := by decide +kernel
theorem dX6_joins_24 : decode cX6_joins 24 = .ok (.iload_n 2, 1) := by decide +kernel
theorem dX6_joins_25 : decode cX6_joins 25 = .ok (.iconst 2, 1) := by decide +kernel
theorem dX6_joins_26 : decode cX6_joins 26 = .ok (.invokestatic 47, 3) := by decide +kernel
theorem dX6_joins_29 : decode cX6_joins 29 = .ok (.iload_n 3, 1) := by decide +kernel
theorem dX6_joins_30 : decode cX6_joins 30 = .ok (.invokevirtual 51, 3) := by decide +kernel
theorem dX6_joins_33 : decode cX6_joins 33 = .ok (.istore 5, 2) := by decide +kernel
theorem dX6_joins_35 : decode cX6_joins 35 = .ok (.aload_n 0, 1) := by decide +kernel
theorem dX6_joins_36 : decode cX6_joins 36 = .ok (.getfield 29, 3) := by decide +kernel
theorem dX6_joins_39 : decode cX6_joins 39 = .ok (.sipush 1000, 3) := by decide +kernel
theorem dX6_joins_42 : decode cX6_joins 42 = .ok (.iload_n 2, 1) := by decide +kernel
theorem dX6_joins_43 : decode cX6_joins 43 = .ok (.imul, 1) := by decide +kernel
theorem dX6_joins_44 : decode cX6_joins 44 = .ok (.iload_n 3, 1) := by decide +kernel
theorem dX6_joins_45 : decode cX6_joins 45 = .ok (.iadd, 1) := by decide +kernel
theorem dX6_joins_46 : decode cX6_joins 46 = .ok (.aload_n 1, 1) := by decide +kernel
theorem dX6_joins_47 : decode cX6_joins 47 = .ok (.iload_n 2, 1) := by decide +kernel
theorem dX6_joins_48 : decode cX6_joins 48 = .ok (.iconst 0, 1) := by decide +kernel
theorem dX6_joins_49 : decode cX6_joins 49 = .ok (.invokestatic 47, 3) := by decide +kernel
theorem dX6_joins_52 : decode cX6_joins 52 = .ok (.iconst 2, 1) := by decide +kernel
theorem dX6_joins_53 : decode cX6_joins 53 = .ok (.if_icmp .ne 21, 3) := by decide +kernel
theorem dX6_joins_56 : decode cX6_joins 56 = .ok (.iload 4, 2) := by decide +kernel
theorem dX6_joins_58 : decode cX6_joins 58 = .ok (.ifCond .ne 8, 3) := by decide +kernel
theorem dX6_joins_61 : decode cX6_joins 61 = .ok (.iload 5, 2) := by decide +kernel
theorem dX6_joins_63 : decode cX6_joins 63 = .ok (.ifCond .eq 7, 3) := by decide +kernel
theorem dX6_joins_66 : decode cX6_joins 66 = .ok (.iconst 1, 1) := by decide +kernel
theorem dX6_joins_67 : decode cX6_joins 67 = .ok (.goto 37, 3) := by decide +kernel
theorem dX6_joins_70 : decode cX6_joins 70 = .ok (.iconst 0, 1) := by decide +kernel
theorem dX6_joins_71 : decode cX6_joins 71 = .ok (.goto 33, 3) := by decide +kernel
theorem dX6_joins_74 : decode cX6_joins 74 = .ok (.iload 4, 2) := by decide +kernel
theorem dX6_joins_76 : decode cX6_joins 76 = .ok (.ifCond .eq 27, 3) := by decide +kernel
theorem dX6_joins_79 : decode cX6_joins 79 = .ok (.iload 5, 2) := by decide +kernel
theorem dX6_joins_81 : decode cX6_joins 81 = .ok (.aload_n 1, 1) := by decide +kernel
theorem dX6_joins_82 : decode cX6_joins 82 = .ok (.iload_n 2, 1) := by decide +kernel
theorem dX6_joins_83 : decode cX6_joins 83 = .ok (.iconst 0, 1) := by decide +kernel
theorem dX6_joins_84 : decode cX6_joins 84 = .ok (.invokestatic 47, 3) := by decide +kernel
theorem dX6_joins_87 : decode cX6_joins 87 = .ok (.iconst 3, 1) := by decide +kernel
theorem dX6_joins_88 : decode cX6_joins 88 = .ok (.if_icmp .ne 7, 3) := by decide +kernel
theorem dX6_joins_91 : decode cX6_joins 91 = .ok (.iconst 1, 1) := by decide +kernel
theorem dX6_joins_92 : decode cX6_joins 92 = .ok (.goto 4, 3) := by decide +kernel
theorem dX6_joins_95 : decode cX6_joins 95 = .ok (.iconst 0, 1) := by decide +kernel
theorem dX6_joins_96 : decode cX6_joins 96 = .ok (.if_icmp .ne 7, 3) := by decide +kernel
theorem dX6_joins_99 : decode cX6_joins 99 = .ok (.iconst 1, 1) := by decide +kernel
theorem dX6_joins_100 : decode cX6_joins 100 = .ok (.goto 4, 3) := by decide +kernel
theorem dX6_joins_103 : decode cX6_joins 103 = .ok (.iconst 0, 1) := by decide +kernel
theorem dX6_joins_104 : decode cX6_joins 104 = .ok (.bastore, 1) := by decide +kernel
theorem dX6_joins_105 : decode cX6_joins 105 = .ok (.iinc 3 1, 3) := by decide +kernel
theorem dX6_joins_108 : decode cX6_joins 108 = .ok (.goto (-106), 3) := by decide +kernel
theorem dX6_joins_111 : decode cX6_joins 111 = .ok (.return_, 1) := by decide +kernel
theorem dX6_finds_0 : decode cX6_finds 0 = .ok (.iconst 0, 1) := by decide +kernel
theorem dX6_finds_1 : decode cX6_finds 1 = .ok (.istore_n 2, 1) := by decide +kernel
theorem dX6_finds_2 : decode cX6_finds 2 = .ok (.iload_n 2, 1) := by decide +kernel
theorem dX6_finds_3 : decode cX6_finds 3 = .ok (.aload_n 1, 1) := by decide +kernel
theorem dX6_finds_4 : decode cX6_finds 4 = .ok (.iconst 0, 1) := by decide +kernel
theorem dX6_finds_5 : decode cX6_finds 5 = .ok (.iaload, 1) := by decide +kernel
theorem dX6_finds_6 : decode cX6_finds 6 = .ok (.if_icmp .ge 118, 3) := by decide +kernel
theorem dX6_finds_9 : decode cX6_finds 9 = .ok (.iconst 0, 1) := by decide +kernel
theorem dX6_finds_10 : decode cX6_finds 10 = .ok (.istore_n 3, 1) := by decide +kernel
theorem dX6_finds_11 : decode cX6_finds 11 = .ok (.iload_n 3, 1) := by decide +kernel
theorem dX6_finds_12 : decode cX6_finds 12 = .ok (.sipush 999, 3) := by decide +kernel
theorem dX6_finds_15 : decode cX6_finds 15 = .ok (.if_icmp .gt 63, 3) := by decide +kernel
theorem dX6_finds_18 : decode cX6_finds 18 = .ok (.aload_n 0, 1) := by decide +kernel
theorem dX6_finds_19 : decode cX6_finds 19 = .ok (.getfield 29, 3) := by decide +kernel
theorem dX6_finds_22 : decode cX6_finds 22 = .ok (.sipush 1000, 3) := by decide +kernel
theorem dX6_finds_25 : decode cX6_finds 25 = .ok (.iload_n 2, 1) := by decide +kernel
theorem dX6_finds_26 : decode cX6_finds 26 = .ok (.imul, 1) := by decide +kernel
theorem dX6_finds_27 : decode cX6_finds 27 = .ok (.iload_n 3, 1) := by decide +kernel
theorem dX6_finds_28 : decode cX6_finds 28 = .ok (.iadd, 1) := by decide +kernel
theorem dX6_finds_29 : decode cX6_finds 29 = .ok (.aload_n 1, 1) := by decide +kernel
theorem dX6_finds_30 : decode cX6_finds 30 = .ok (.iload_n 2, 1) := by decide +kernel
theorem dX6_finds_31 : decode cX6_finds 31 = .ok (.iconst 0, 1) := by decide +kernel
theorem dX6_finds_32 : decode cX6_finds 32 = .ok (.invokestatic 47, 3) := by decide +kernel
theorem dX6_finds_35 : decode cX6_finds 35 = .ok (.ifCond .ne 35, 3) := by decide +kernel
theorem dX6_finds_38 : decode cX6_finds 38 = .ok (.iload_n 3, 1) := by decide +kernel
theorem dX6_finds_39 : decode cX6_finds 39 = .ok (.aload_n 1, 1) := by decide +kernel
theorem dX6_finds_40 : decode cX6_finds 40 = .ok (.iload_n 2, 1) := by decide +kernel
theorem dX6_finds_41 : decode cX6_finds 41 = .ok (.iconst 1, 1) := by decide +kernel
theorem dX6_finds_42 : decode cX6_finds 42 = .ok (.invokestatic 47, 3) := by decide +kernel
theorem dX6_finds_45 : decode cX6_finds 45 = .ok (.if_icmp .lt 25, 3) := by decide +kernel
theorem dX6_finds_48 : decode cX6_finds 48 = .ok (.iload_n 3, 1) := by decide +kernel
theorem dX6_finds_49 : decode cX6_finds 49 = .ok (.aload_n 1, 1) := by decide +kernel
theorem dX6_finds_50 : decode cX6_finds 50 = .ok (.iload_n 2, 1) := by decide +kernel
theorem dX6_finds_51 : decode cX6_finds 51 = .ok (.iconst 1, 1) := by decide +kernel
theorem dX6_finds_52 : decode cX6_finds 52 = .ok (.invokestatic 47, 3) := by decide +kernel
theorem dX6_finds_55 : decode cX6_finds 55 = .ok (.isub, 1) := by decide +kernel
theorem dX6_finds_56 : decode cX6_finds 56 = .ok (.aload_n 1, 1) := by decide +kernel
theorem dX6_finds_57 : decode cX6_finds 57 = .ok (.iload_n 2, 1) := by decide +kernel
theorem dX6_finds_58 : decode cX6_finds 58 = .ok (.iconst 2, 1) := by decide +kernel
theorem dX6_finds_59 : decode cX6_finds 59 = .ok (.invokestatic 47, 3) := by decide +kernel
theorem dX6_finds_62 : decode cX6_finds 62 = .ok (.irem, 1) := by decide +kernel
theorem dX6_finds_63 : decode cX6_finds 63 = .ok (.ifCond .ne 7, 3) := by decide +kernel
theorem dX6_finds_66 : decode cX6_finds 66 = .ok (.iconst 1, 1) := by decide +kernel
theorem dX6_finds_67 : decode cX6_finds 67 = .ok (.goto 4, 3) := by decide +kernel
theorem dX6_finds_70 : decode cX6_finds 70 = .ok (.iconst 0, 1) := by decide +kernel
theorem dX6_finds_71 : decode cX6_finds 71 = .ok (.bastore, 1) := by decide +kernel
theorem dX6_finds_72 : decode cX6_finds 72 = .ok (.iinc 3 1, 3) := by decide +kernel
theorem dX6_finds_75 : decode cX6_finds 75 = .ok (.goto (-64), 3) := by decide +kernel
theorem dX6_finds_78 : decode cX6_finds 78 = .ok (.aload_n 1, 1) := by decide +kernel
theorem dX6_finds_79 : decode cX6_finds 79 = .ok (.iload_n 2, 1) := by decide +kernel
theorem dX6_finds_80 : decode cX6_finds 80 = .ok (.iconst 0, 1) := by decide +kernel
theorem dX6_finds_81 : decode cX6_finds 81 = .ok (.invokestatic 47, 3) := by decide +kernel
theorem dX6_finds_84 : decode cX6_finds 84 = .ok (.istore_n 3, 1) := by decide +kernel
theorem dX6_finds_85 : decode cX6_finds 85 = .ok (.iload_n 3, 1) := by decide +kernel
theorem dX6_finds_86 : decode cX6_finds 86 = .ok (.i2l, 1) := by decide +kernel
theorem dX6_finds_87 : decode cX6_finds 87 = .ok (.ldc2_w 62, 3) := by decide +kernel
theorem dX6_finds_90 : decode cX6_finds 90 = .ok (.ldc2_w 64, 3) := by decide +kernel
theorem dX6_finds_93 : decode cX6_finds 93 = .ok (.invokestatic 43, 3) := by decide +kernel
theorem dX6_finds_96 : decode cX6_finds 96 = .ok (.ifCond .eq 12, 3) := by decide +kernel
theorem dX6_finds_99 : decode cX6_finds 99 = .ok (.aload_n 0, 1) := by decide +kernel
theorem dX6_finds_100 : decode cX6_finds 100 = .ok (.aload_n 1, 1) := by decide +kernel
theorem dX6_finds_101 : decode cX6_finds 101 = .ok (.iload_n 2, 1) := by decide +kernel
theorem dX6_finds_102 : decode cX6_finds 102 = .ok (.invokevirtual 66, 3) := by decide +kernel
theorem dX6_finds_105 : decode cX6_finds 105 = .ok (.goto 13, 3) := by decide +kernel
theorem dX6_finds_108 : decode cX6_finds 108 = .ok (.iload_n 3, 1) := by decide +kernel
theorem dX6_finds_109 : decode cX6_finds 109 = .ok (.ifCond .eq 9, 3) := by decide +kernel
theorem dX6_finds_112 : decode cX6_finds 112 = .ok (.aload_n 0, 1) := by decide +kernel
theorem dX6_finds_113 : decode cX6_finds 113 = .ok (.aload_n 1, 1) := by decide +kernel
theorem dX6_finds_114 : decode cX6_finds 114 = .ok (.iload_n 2, 1) := by decide +kernel
theorem dX6_finds_115 : decode cX6_finds 115 = .ok (.invokevirtual 70, 3) := by decide +kernel
theorem dX6_finds_118 : decode cX6_finds 118 = .ok (.iinc 2 1, 3) := by decide +kernel
theorem dX6_finds_121 : decode cX6_finds 121 = .ok (.goto (-119), 3) := by decide +kernel
theorem dX6_finds_124 : decode cX6_finds 124 = .ok (.return_, 1) := by decide +kernel
theorem dX6_countUpTo_0 : decode cX6_countUpTo 0 = .ok (.iconst 0, 1) := by decide +kernel
theorem dX6_countUpTo_1 : decode cX6_countUpTo 1 = .ok (.istore_n 3, 1) := by decide +kernel
theorem dX6_countUpTo_2 : decode cX6_countUpTo 2 = .ok (.iconst 0, 1) := by decide +kernel
theorem dX6_countUpTo_3 : decode cX6_countUpTo 3 = .ok (.istore 4, 2) := by decide +kernel
theorem dX6_countUpTo_5 : decode cX6_countUpTo 5 = .ok (.iload 4, 2) := by decide +kernel
theorem dX6_countUpTo_7 : decode cX6_countUpTo 7 = .ok (.iload_n 2, 1) := by decide +kernel
theorem dX6_countUpTo_8 : decode cX6_countUpTo 8 = .ok (.if_icmp .gt 27, 3) := by decide +kernel
theorem dX6_countUpTo_11 : decode cX6_countUpTo 11 = .ok (.iload_n 3, 1) := by decide +kernel
theorem dX6_countUpTo_12 : decode cX6_countUpTo 12 = .ok (.aload_n 0, 1) := by decide +kernel
theorem dX6_countUpTo_13 : decode cX6_countUpTo 13 = .ok (.iload_n 1, 1) := by decide +kernel
theorem dX6_countUpTo_14 : decode cX6_countUpTo 14 = .ok (.iload 4, 2) := by decide +kernel
theorem dX6_countUpTo_16 : decode cX6_countUpTo 16 = .ok (.invokevirtual 51, 3) := by decide +kernel
theorem dX6_countUpTo_19 : decode cX6_countUpTo 19 = .ok (.ifCond .eq 7, 3) := by decide +kernel
theorem dX6_countUpTo_22 : decode cX6_countUpTo 22 = .ok (.iconst 1, 1) := by decide +kernel
theorem dX6_countUpTo_23 : decode cX6_countUpTo 23 = .ok (.goto 4, 3) := by decide +kernel
theorem dX6_countUpTo_26 : decode cX6_countUpTo 26 = .ok (.iconst 0, 1) := by decide +kernel
theorem dX6_countUpTo_27 : decode cX6_countUpTo 27 = .ok (.iadd, 1) := by decide +kernel
theorem dX6_countUpTo_28 : decode cX6_countUpTo 28 = .ok (.istore_n 3, 1) := by decide +kernel
theorem dX6_countUpTo_29 : decode cX6_countUpTo 29 = .ok (.iinc 4 1, 3) := by decide +kernel
theorem dX6_countUpTo_32 : decode cX6_countUpTo 32 = .ok (.goto (-27), 3) := by decide +kernel
theorem dX6_countUpTo_35 : decode cX6_countUpTo 35 = .ok (.iload_n 3, 1) := by decide +kernel
theorem dX6_countUpTo_36 : decode cX6_countUpTo 36 = .ok (.ireturn, 1) := by decide +kernel
theorem dX6_at_0 : decode cX6_at 0 = .ok (.iconst 0, 1) := by decide +kernel
theorem dX6_at_1 : decode cX6_at 1 = .ok (.istore_n 3, 1) := by decide +kernel
theorem dX6_at_2 : decode cX6_at 2 = .ok (.iconst 0, 1) := by decide +kernel
theorem dX6_at_3 : decode cX6_at 3 = .ok (.istore 4, 2) := by decide +kernel
theorem dX6_at_5 : decode cX6_at 5 = .ok (.iload 4, 2) := by decide +kernel
theorem dX6_at_7 : decode cX6_at 7 = .ok (.sipush 999, 3) := by decide +kernel
theorem dX6_at_10 : decode cX6_at 10 = .ok (.if_icmp .gt 30, 3) := by decide +kernel
theorem dX6_at_13 : decode cX6_at 13 = .ok (.aload_n 0, 1) := by decide +kernel
theorem dX6_at_14 : decode cX6_at 14 = .ok (.iload_n 1, 1) := by decide +kernel
theorem dX6_at_15 : decode cX6_at 15 = .ok (.iload 4, 2) := by decide +kernel
theorem dX6_at_17 : decode cX6_at 17 = .ok (.invokevirtual 51, 3) := by decide +kernel
theorem dX6_at_20 : decode cX6_at 20 = .ok (.ifCond .eq 14, 3) := by decide +kernel
theorem dX6_at_23 : decode cX6_at 23 = .ok (.iload_n 3, 1) := by decide +kernel
theorem dX6_at_24 : decode cX6_at 24 = .ok (.iload_n 2, 1) := by decide +kernel
theorem dX6_at_25 : decode cX6_at 25 = .ok (.if_icmp .ne 6, 3) := by decide +kernel
theorem dX6_at_28 : decode cX6_at 28 = .ok (.iload 4, 2) := by decide +kernel
theorem dX6_at_30 : decode cX6_at 30 = .ok (.ireturn, 1) := by decide +kernel
theorem dX6_at_31 : decode cX6_at 31 = .ok (.iinc 3 1, 3) := by decide +kernel
theorem dX6_at_34 : decode cX6_at 34 = .ok (.iinc 4 1, 3) := by decide +kernel
theorem dX6_at_37 : decode cX6_at 37 = .ok (.goto (-32), 3) := by decide +kernel
theorem dX6_at_40 : decode cX6_at 40 = .ok (.iconst (-1), 1) := by decide +kernel
theorem dX6_at_41 : decode cX6_at 41 = .ok (.ireturn, 1) := by decide +kernel
theorem dX6_next_0 : decode cX6_next 0 = .ok (.aload_n 0, 1) := by decide +kernel
theorem dX6_next_1 : decode cX6_next 1 = .ok (.aload_n 1, 1) := by decide +kernel
theorem dX6_next_2 : decode cX6_next 2 = .ok (.iload_n 2, 1) := by decide +kernel
theorem dX6_next_3 : decode cX6_next 3 = .ok (.invokestatic 73, 3) := by decide +kernel
theorem dX6_next_6 : decode cX6_next 6 = .ok (.aload_n 1, 1) := by decide +kernel
theorem dX6_next_7 : decode cX6_next 7 = .ok (.iload_n 2, 1) := by decide +kernel
theorem dX6_next_8 : decode cX6_next 8 = .ok (.invokestatic 77, 3) := by decide +kernel
theorem dX6_next_11 : decode cX6_next 11 = .ok (.invokevirtual 80, 3) := by decide +kernel
theorem dX6_next_14 : decode cX6_next 14 = .ok (.ireturn, 1) := by decide +kernel
theorem dX6_make_0 : decode cX6_make 0 = .ok (.iconst 3, 1) := by decide +kernel
theorem dX6_make_1 : decode cX6_make 1 = .ok (.iconst 4, 1) := by decide +kernel
theorem dX6_make_2 : decode cX6_make 2 = .ok (.aload_n 0, 1) := by decide +kernel
theorem dX6_make_3 : decode cX6_make 3 = .ok (.iconst 0, 1) := by decide +kernel
theorem dX6_make_4 : decode cX6_make 4 = .ok (.iaload, 1) := by decide +kernel
theorem dX6_make_5 : decode cX6_make 5 = .ok (.imul, 1) := by decide +kernel
theorem dX6_make_6 : decode cX6_make 6 = .ok (.iadd, 1) := by decide +kernel
theorem dX6_make_7 : decode cX6_make 7 = .ok (.istore 5, 2) := by decide +kernel
theorem dX6_make_9 : decode cX6_make 9 = .ok (.aload_n 0, 1) := by decide +kernel
theorem dX6_make_10 : decode cX6_make 10 = .ok (.iload 5, 2) := by decide +kernel
theorem dX6_make_12 : decode cX6_make 12 = .ok (.iload_n 1, 1) := by decide +kernel
theorem dX6_make_13 : decode cX6_make 13 = .ok (.iastore, 1) := by decide +kernel
theorem dX6_make_14 : decode cX6_make 14 = .ok (.aload_n 0, 1) := by decide +kernel
theorem dX6_make_15 : decode cX6_make 15 = .ok (.iload 5, 2) := by decide +kernel
theorem dX6_make_17 : decode cX6_make 17 = .ok (.iconst 1, 1) := by decide +kernel
theorem dX6_make_18 : decode cX6_make 18 = .ok (.iadd, 1) := by decide +kernel
theorem dX6_make_19 : decode cX6_make 19 = .ok (.iload_n 2, 1) := by decide +kernel
theorem dX6_make_20 : decode cX6_make 20 = .ok (.iastore, 1) := by decide +kernel
theorem dX6_make_21 : decode cX6_make 21 = .ok (.aload_n 0, 1) := by decide +kernel
theorem dX6_make_22 : decode cX6_make 22 = .ok (.iload 5, 2) := by decide +kernel
theorem dX6_make_24 : decode cX6_make 24 = .ok (.iconst 2, 1) := by decide +kernel
theorem dX6_make_25 : decode cX6_make 25 = .ok (.iadd, 1) := by decide +kernel
theorem dX6_make_26 : decode cX6_make 26 = .ok (.iload_n 3, 1) := by decide +kernel
theorem dX6_make_27 : decode cX6_make 27 = .ok (.iastore, 1) := by decide +kernel
theorem dX6_make_28 : decode cX6_make 28 = .ok (.aload_n 0, 1) := by decide +kernel
theorem dX6_make_29 : decode cX6_make 29 = .ok (.iload 5, 2) := by decide +kernel
theorem dX6_make_31 : decode cX6_make 31 = .ok (.iconst 3, 1) := by decide +kernel
theorem dX6_make_32 : decode cX6_make 32 = .ok (.iadd, 1) := by decide +kernel
theorem dX6_make_33 : decode cX6_make 33 = .ok (.iload 4, 2) := by decide +kernel
theorem dX6_make_35 : decode cX6_make 35 = .ok (.iastore, 1) := by decide +kernel
theorem dX6_make_36 : decode cX6_make 36 = .ok (.aload_n 0, 1) := by decide +kernel
theorem dX6_make_37 : decode cX6_make 37 = .ok (.iconst 0, 1) := by decide +kernel
theorem dX6_make_38 : decode cX6_make 38 = .ok (.dup2, 1) := by decide +kernel
theorem dX6_make_39 : decode cX6_make 39 = .ok (.iaload, 1) := by decide +kernel
theorem dX6_make_40 : decode cX6_make 40 = .ok (.iconst 1, 1) := by decide +kernel
theorem dX6_make_41 : decode cX6_make 41 = .ok (.iadd, 1) := by decide +kernel
theorem dX6_make_42 : decode cX6_make 42 = .ok (.iastore, 1) := by decide +kernel
theorem dX6_make_43 : decode cX6_make 43 = .ok (.aload_n 0, 1) := by decide +kernel
theorem dX6_make_44 : decode cX6_make 44 = .ok (.iconst 0, 1) := by decide +kernel
theorem dX6_make_45 : decode cX6_make 45 = .ok (.iaload, 1) := by decide +kernel
theorem dX6_make_46 : decode cX6_make 46 = .ok (.iconst 1, 1) := by decide +kernel
theorem dX6_make_47 : decode cX6_make 47 = .ok (.isub, 1) := by decide +kernel
theorem dX6_make_48 : decode cX6_make 48 = .ok (.ireturn, 1) := by decide +kernel
theorem dX6_reason_0 : decode cX6_reason 0 = .ok (.iconst 0, 1) := by decide +kernel
theorem dX6_reason_1 : decode cX6_reason 1 = .ok (.istore_n 1, 1) := by decide +kernel
theorem dX6_reason_2 : decode cX6_reason 2 = .ok (.iload_n 1, 1) := by decide +kernel
theorem dX6_reason_3 : decode cX6_reason 3 = .ok (.aload_n 0, 1) := by decide +kernel
theorem dX6_reason_4 : decode cX6_reason 4 = .ok (.iconst 1, 1) := by decide +kernel
theorem dX6_reason_5 : decode cX6_reason 5 = .ok (.iaload, 1) := by decide +kernel
theorem dX6_reason_6 : decode cX6_reason 6 = .ok (.if_icmp .ge 24, 3) := by decide +kernel
theorem dX6_reason_9 : decode cX6_reason 9 = .ok (.aload_n 0, 1) := by decide +kernel
theorem dX6_reason_10 : decode cX6_reason 10 = .ok (.iload_n 1, 1) := by decide +kernel
theorem dX6_reason_11 : decode cX6_reason 11 = .ok (.invokestatic 73, 3) := by decide +kernel
theorem dX6_reason_14 : decode cX6_reason 14 = .ok (.aload_n 0, 1) := by decide +kernel
theorem dX6_reason_15 : decode cX6_reason 15 = .ok (.iconst 0, 1) := by decide +kernel
theorem dX6_reason_16 : decode cX6_reason 16 = .ok (.iaload, 1) := by decide +kernel
theorem dX6_reason_17 : decode cX6_reason 17 = .ok (.iconst 1, 1) := by decide +kernel
theorem dX6_reason_18 : decode cX6_reason 18 = .ok (.isub, 1) := by decide +kernel
theorem dX6_reason_19 : decode cX6_reason 19 = .ok (.if_icmp .ne 5, 3) := by decide +kernel
theorem dX6_reason_22 : decode cX6_reason 22 = .ok (.iconst 2, 1) := by decide +kernel
theorem dX6_reason_23 : decode cX6_reason 23 = .ok (.ireturn, 1) := by decide +kernel
theorem dX6_reason_24 : decode cX6_reason 24 = .ok (.iinc 1 1, 3) := by decide +kernel
theorem dX6_reason_27 : decode cX6_reason 27 = .ok (.goto (-25), 3) := by decide +kernel
theorem dX6_reason_30 : decode cX6_reason 30 = .ok (.aload_n 0, 1) := by decide +kernel
theorem dX6_reason_31 : decode cX6_reason 31 = .ok (.iconst 0, 1) := by decide +kernel
theorem dX6_reason_32 : decode cX6_reason 32 = .ok (.iaload, 1) := by decide +kernel
theorem dX6_reason_33 : decode cX6_reason 33 = .ok (.ifCond .ne 7, 3) := by decide +kernel
theorem dX6_reason_36 : decode cX6_reason 36 = .ok (.iconst 1, 1) := by decide +kernel
theorem dX6_reason_37 : decode cX6_reason 37 = .ok (.goto 4, 3) := by decide +kernel
theorem dX6_reason_40 : decode cX6_reason 40 = .ok (.iconst 0, 1) := by decide +kernel
theorem dX6_reason_41 : decode cX6_reason 41 = .ok (.ireturn, 1) := by decide +kernel
theorem dX6_drop_0 : decode cX6_drop 0 = .ok (.aload_n 0, 1) := by decide +kernel
theorem dX6_drop_1 : decode cX6_drop 1 = .ok (.iconst 0, 1) := by decide +kernel
theorem dX6_drop_2 : decode cX6_drop 2 = .ok (.dup2, 1) := by decide +kernel
theorem dX6_drop_3 : decode cX6_drop 3 = .ok (.iaload, 1) := by decide +kernel
theorem dX6_drop_4 : decode cX6_drop 4 = .ok (.iconst 1, 1) := by decide +kernel
theorem dX6_drop_5 : decode cX6_drop 5 = .ok (.isub, 1) := by decide +kernel
theorem dX6_drop_6 : decode cX6_drop 6 = .ok (.iastore, 1) := by decide +kernel
theorem dX6_drop_7 : decode cX6_drop 7 = .ok (.aload_n 0, 1) := by decide +kernel
theorem dX6_drop_8 : decode cX6_drop 8 = .ok (.iconst 0, 1) := by decide +kernel
theorem dX6_drop_9 : decode cX6_drop 9 = .ok (.iaload, 1) := by decide +kernel
theorem dX6_drop_10 : decode cX6_drop 10 = .ok (.ireturn, 1) := by decide +kernel
theorem dX6_begin_0 : decode cX6_begin 0 = .ok (.aload_n 0, 1) := by decide +kernel
theorem dX6_begin_1 : decode cX6_begin 1 = .ok (.bipush 51, 2) := by decide +kernel
theorem dX6_begin_3 : decode cX6_begin 3 = .ok (.iconst 2, 1) := by decide +kernel
theorem dX6_begin_4 : decode cX6_begin 4 = .ok (.aload_n 0, 1) := by decide +kernel
theorem dX6_begin_5 : decode cX6_begin 5 = .ok (.iconst 1, 1) := by decide +kernel
theorem dX6_begin_6 : decode cX6_begin 6 = .ok (.iaload, 1) := by decide +kernel
theorem dX6_begin_7 : decode cX6_begin 7 = .ok (.imul, 1) := by decide +kernel
theorem dX6_begin_8 : decode cX6_begin 8 = .ok (.iadd, 1) := by decide +kernel
theorem dX6_begin_9 : decode cX6_begin 9 = .ok (.iload_n 1, 1) := by decide +kernel
theorem dX6_begin_10 : decode cX6_begin 10 = .ok (.iastore, 1) := by decide +kernel
theorem dX6_begin_11 : decode cX6_begin 11 = .ok (.aload_n 0, 1) := by decide +kernel
theorem dX6_begin_12 : decode cX6_begin 12 = .ok (.bipush 51, 2) := by decide +kernel
theorem dX6_begin_14 : decode cX6_begin 14 = .ok (.iconst 2, 1) := by decide +kernel
theorem dX6_begin_15 : decode cX6_begin 15 = .ok (.aload_n 0, 1) := by decide +kernel
theorem dX6_begin_16 : decode cX6_begin 16 = .ok (.iconst 1, 1) := by decide +kernel
theorem dX6_begin_17 : decode cX6_begin 17 = .ok (.iaload, 1) := by decide +kernel
theorem dX6_begin_18 : decode cX6_begin 18 = .ok (.imul, 1) := by decide +kernel
theorem dX6_begin_19 : decode cX6_begin 19 = .ok (.iadd, 1) := by decide +kernel
theorem dX6_begin_20 : decode cX6_begin 20 = .ok (.iconst 1, 1) := by decide +kernel
theorem dX6_begin_21 : decode cX6_begin 21 = .ok (.iadd, 1) := by decide +kernel
theorem dX6_begin_22 : decode cX6_begin 22 = .ok (.iconst 0, 1) := by decide +kernel
theorem dX6_begin_23 : decode cX6_begin 23 = .ok (.iastore, 1) := by decide +kernel
theorem dX6_begin_24 : decode cX6_begin 24 = .ok (.aload_n 0, 1) := by decide +kernel
theorem dX6_begin_25 : decode cX6_begin 25 = .ok (.iconst 1, 1) := by decide +kernel
theorem dX6_begin_26 : decode cX6_begin 26 = .ok (.dup2, 1) := by decide +kernel
theorem dX6_begin_27 : decode cX6_begin 27 = .ok (.iaload, 1) := by decide +kernel
theorem dX6_begin_28 : decode cX6_begin 28 = .ok (.iconst 1, 1) := by decide +kernel
theorem dX6_begin_29 : decode cX6_begin 29 = .ok (.iadd, 1) := by decide +kernel
theorem dX6_begin_30 : decode cX6_begin 30 = .ok (.iastore, 1) := by decide +kernel
theorem dX6_begin_31 : decode cX6_begin 31 = .ok (.aload_n 0, 1) := by decide +kernel
theorem dX6_begin_32 : decode cX6_begin 32 = .ok (.iconst 1, 1) := by decide +kernel
theorem dX6_begin_33 : decode cX6_begin 33 = .ok (.iaload, 1) := by decide +kernel
theorem dX6_begin_34 : decode cX6_begin 34 = .ok (.iconst 1, 1) := by decide +kernel
theorem dX6_begin_35 : decode cX6_begin 35 = .ok (.isub, 1) := by decide +kernel
theorem dX6_begin_36 : decode cX6_begin 36 = .ok (.ireturn, 1) := by decide +kernel
theorem dX6_readOn_0 : decode cX6_readOn 0 = .ok (.aload_n 0, 1) := by decide +kernel
theorem dX6_readOn_1 : decode cX6_readOn 1 = .ok (.aload_n 1, 1) := by decide +kernel
theorem dX6_readOn_2 : decode cX6_readOn 2 = .ok (.iload_n 2, 1) := by decide +kernel
theorem dX6_readOn_3 : decode cX6_readOn 3 = .ok (.invokevirtual 84, 3) := by decide +kernel
theorem dX6_readOn_6 : decode cX6_readOn 6 = .ok (.istore_n 3, 1) := by decide +kernel
theorem dX6_readOn_7 : decode cX6_readOn 7 = .ok (.aload_n 1, 1) := by decide +kernel
theorem dX6_readOn_8 : decode cX6_readOn 8 = .ok (.bipush 51, 2) := by decide +kernel
theorem dX6_readOn_10 : decode cX6_readOn 10 = .ok (.iconst 2, 1) := by decide +kernel
theorem dX6_readOn_11 : decode cX6_readOn 11 = .ok (.iload_n 2, 1) := by decide +kernel
theorem dX6_readOn_12 : decode cX6_readOn 12 = .ok (.imul, 1) := by decide +kernel
theorem dX6_readOn_13 : decode cX6_readOn 13 = .ok (.iadd, 1) := by decide +kernel
theorem dX6_readOn_14 : decode cX6_readOn 14 = .ok (.iconst 1, 1) := by decide +kernel
theorem dX6_readOn_15 : decode cX6_readOn 15 = .ok (.iadd, 1) := by decide +kernel
theorem dX6_readOn_16 : decode cX6_readOn 16 = .ok (.dup2, 1) := by decide +kernel
theorem dX6_readOn_17 : decode cX6_readOn 17 = .ok (.iaload, 1) := by decide +kernel
theorem dX6_readOn_18 : decode cX6_readOn 18 = .ok (.iconst 1, 1) := by decide +kernel
theorem dX6_readOn_19 : decode cX6_readOn 19 = .ok (.iadd, 1) := by decide +kernel
theorem dX6_readOn_20 : decode cX6_readOn 20 = .ok (.iastore, 1) := by decide +kernel
theorem dX6_readOn_21 : decode cX6_readOn 21 = .ok (.aload_n 1, 1) := by decide +kernel
theorem dX6_readOn_22 : decode cX6_readOn 22 = .ok (.iconst 2, 1) := by decide +kernel
theorem dX6_readOn_23 : decode cX6_readOn 23 = .ok (.dup2, 1) := by decide +kernel
theorem dX6_readOn_24 : decode cX6_readOn 24 = .ok (.iaload, 1) := by decide +kernel
theorem dX6_readOn_25 : decode cX6_readOn 25 = .ok (.iconst 1, 1) := by decide +kernel
theorem dX6_readOn_26 : decode cX6_readOn 26 = .ok (.iadd, 1) := by decide +kernel
theorem dX6_readOn_27 : decode cX6_readOn 27 = .ok (.iastore, 1) := by decide +kernel
theorem dX6_readOn_28 : decode cX6_readOn 28 = .ok (.iload_n 3, 1) := by decide +kernel
theorem dX6_readOn_29 : decode cX6_readOn 29 = .ok (.ireturn, 1) := by decide +kernel
theorem dX6_skipOn_0 : decode cX6_skipOn 0 = .ok (.aload_n 0, 1) := by decide +kernel
theorem dX6_skipOn_1 : decode cX6_skipOn 1 = .ok (.aload_n 1, 1) := by decide +kernel
theorem dX6_skipOn_2 : decode cX6_skipOn 2 = .ok (.iload_n 2, 1) := by decide +kernel
theorem dX6_skipOn_3 : decode cX6_skipOn 3 = .ok (.invokestatic 73, 3) := by decide +kernel
theorem dX6_skipOn_6 : decode cX6_skipOn 6 = .ok (.sipush 999, 3) := by decide +kernel
theorem dX6_skipOn_9 : decode cX6_skipOn 9 = .ok (.invokevirtual 87, 3) := by decide +kernel
theorem dX6_skipOn_12 : decode cX6_skipOn 12 = .ok (.aload_n 1, 1) := by decide +kernel
theorem dX6_skipOn_13 : decode cX6_skipOn 13 = .ok (.iload_n 2, 1) := by decide +kernel
theorem dX6_skipOn_14 : decode cX6_skipOn 14 = .ok (.invokestatic 77, 3) := by decide +kernel
theorem dX6_skipOn_17 : decode cX6_skipOn 17 = .ok (.isub, 1) := by decide +kernel
theorem dX6_skipOn_18 : decode cX6_skipOn 18 = .ok (.istore 4, 2) := by decide +kernel
theorem dX6_skipOn_20 : decode cX6_skipOn 20 = .ok (.iload_n 3, 1) := by decide +kernel
theorem dX6_skipOn_21 : decode cX6_skipOn 21 = .ok (.iload 4, 2) := by decide +kernel
theorem dX6_skipOn_23 : decode cX6_skipOn 23 = .ok (.if_icmp .ge 7, 3) := by decide +kernel
theorem dX6_skipOn_26 : decode cX6_skipOn 26 = .ok (.iload_n 3, 1) := by decide +kernel
theorem dX6_skipOn_27 : decode cX6_skipOn 27 = .ok (.goto 5, 3) := by decide +kernel
theorem dX6_skipOn_30 : decode cX6_skipOn 30 = .ok (.iload 4, 2) := by decide +kernel
theorem dX6_skipOn_32 : decode cX6_skipOn 32 = .ok (.istore 5, 2) := by decide +kernel
theorem dX6_skipOn_34 : decode cX6_skipOn 34 = .ok (.aload_n 1, 1) := by decide +kernel
theorem dX6_skipOn_35 : decode cX6_skipOn 35 = .ok (.bipush 51, 2) := by decide +kernel
theorem dX6_skipOn_37 : decode cX6_skipOn 37 = .ok (.iconst 2, 1) := by decide +kernel
theorem dX6_skipOn_38 : decode cX6_skipOn 38 = .ok (.iload_n 2, 1) := by decide +kernel
theorem dX6_skipOn_39 : decode cX6_skipOn 39 = .ok (.imul, 1) := by decide +kernel
theorem dX6_skipOn_40 : decode cX6_skipOn 40 = .ok (.iadd, 1) := by decide +kernel
theorem dX6_skipOn_41 : decode cX6_skipOn 41 = .ok (.iconst 1, 1) := by decide +kernel
theorem dX6_skipOn_42 : decode cX6_skipOn 42 = .ok (.iadd, 1) := by decide +kernel
theorem dX6_skipOn_43 : decode cX6_skipOn 43 = .ok (.dup2, 1) := by decide +kernel
theorem dX6_skipOn_44 : decode cX6_skipOn 44 = .ok (.iaload, 1) := by decide +kernel
theorem dX6_skipOn_45 : decode cX6_skipOn 45 = .ok (.iload 5, 2) := by decide +kernel
theorem dX6_skipOn_47 : decode cX6_skipOn 47 = .ok (.iadd, 1) := by decide +kernel
theorem dX6_skipOn_48 : decode cX6_skipOn 48 = .ok (.iastore, 1) := by decide +kernel
theorem dX6_skipOn_49 : decode cX6_skipOn 49 = .ok (.iload 5, 2) := by decide +kernel
theorem dX6_skipOn_51 : decode cX6_skipOn 51 = .ok (.ireturn, 1) := by decide +kernel
theorem dX6_backOn_0 : decode cX6_backOn 0 = .ok (.aload_n 0, 1) := by decide +kernel
theorem dX6_backOn_1 : decode cX6_backOn 1 = .ok (.iload_n 1, 1) := by decide +kernel
theorem dX6_backOn_2 : decode cX6_backOn 2 = .ok (.invokestatic 77, 3) := by decide +kernel
theorem dX6_backOn_5 : decode cX6_backOn 5 = .ok (.istore_n 2, 1) := by decide +kernel
theorem dX6_backOn_6 : decode cX6_backOn 6 = .ok (.aload_n 0, 1) := by decide +kernel
theorem dX6_backOn_7 : decode cX6_backOn 7 = .ok (.bipush 51, 2) := by decide +kernel
theorem dX6_backOn_9 : decode cX6_backOn 9 = .ok (.iconst 2, 1) := by decide +kernel
theorem dX6_backOn_10 : decode cX6_backOn 10 = .ok (.iload_n 1, 1) := by decide +kernel
theorem dX6_backOn_11 : decode cX6_backOn 11 = .ok (.imul, 1) := by decide +kernel
theorem dX6_backOn_12 : decode cX6_backOn 12 = .ok (.iadd, 1) := by decide +kernel
theorem dX6_backOn_13 : decode cX6_backOn 13 = .ok (.iconst 1, 1) := by decide +kernel
theorem dX6_backOn_14 : decode cX6_backOn 14 = .ok (.iadd, 1) := by decide +kernel
theorem dX6_backOn_15 : decode cX6_backOn 15 = .ok (.iconst 0, 1) := by decide +kernel
theorem dX6_backOn_16 : decode cX6_backOn 16 = .ok (.iastore, 1) := by decide +kernel
theorem dX6_backOn_17 : decode cX6_backOn 17 = .ok (.iload_n 2, 1) := by decide +kernel
theorem dX6_backOn_18 : decode cX6_backOn 18 = .ok (.ireturn, 1) := by decide +kernel
theorem dX6_stopOn_0 : decode cX6_stopOn 0 = .ok (.bipush 51, 2) := by decide +kernel
theorem dX6_stopOn_2 : decode cX6_stopOn 2 = .ok (.iconst 2, 1) := by decide +kernel
theorem dX6_stopOn_3 : decode cX6_stopOn 3 = .ok (.iload_n 1, 1) := by decide +kernel
theorem dX6_stopOn_4 : decode cX6_stopOn 4 = .ok (.imul, 1) := by decide +kernel
theorem dX6_stopOn_5 : decode cX6_stopOn 5 = .ok (.iadd, 1) := by decide +kernel
theorem dX6_stopOn_6 : decode cX6_stopOn 6 = .ok (.istore_n 2, 1) := by decide +kernel
theorem dX6_stopOn_7 : decode cX6_stopOn 7 = .ok (.iload_n 2, 1) := by decide +kernel
theorem dX6_stopOn_8 : decode cX6_stopOn 8 = .ok (.bipush 51, 2) := by decide +kernel
theorem dX6_stopOn_10 : decode cX6_stopOn 10 = .ok (.iconst 2, 1) := by decide +kernel
theorem dX6_stopOn_11 : decode cX6_stopOn 11 = .ok (.aload_n 0, 1) := by decide +kernel
theorem dX6_stopOn_12 : decode cX6_stopOn 12 = .ok (.iconst 1, 1) := by decide +kernel
theorem dX6_stopOn_13 : decode cX6_stopOn 13 = .ok (.iaload, 1) := by decide +kernel
theorem dX6_stopOn_14 : decode cX6_stopOn 14 = .ok (.iconst 1, 1) := by decide +kernel
theorem dX6_stopOn_15 : decode cX6_stopOn 15 = .ok (.isub, 1) := by decide +kernel
theorem dX6_stopOn_16 : decode cX6_stopOn 16 = .ok (.imul, 1) := by decide +kernel
theorem dX6_stopOn_17 : decode cX6_stopOn 17 = .ok (.iadd, 1) := by decide +kernel
theorem dX6_stopOn_18 : decode cX6_stopOn 18 = .ok (.if_icmp .ge 17, 3) := by decide +kernel
theorem dX6_stopOn_21 : decode cX6_stopOn 21 = .ok (.aload_n 0, 1) := by decide +kernel
theorem dX6_stopOn_22 : decode cX6_stopOn 22 = .ok (.iload_n 2, 1) := by decide +kernel
theorem dX6_stopOn_23 : decode cX6_stopOn 23 = .ok (.aload_n 0, 1) := by decide +kernel
theorem dX6_stopOn_24 : decode cX6_stopOn 24 = .ok (.iload_n 2, 1) := by decide +kernel
theorem dX6_stopOn_25 : decode cX6_stopOn 25 = .ok (.iconst 2, 1) := by decide +kernel
theorem dX6_stopOn_26 : decode cX6_stopOn 26 = .ok (.iadd, 1) := by decide +kernel
theorem dX6_stopOn_27 : decode cX6_stopOn 27 = .ok (.iaload, 1) := by decide +kernel
theorem dX6_stopOn_28 : decode cX6_stopOn 28 = .ok (.iastore, 1) := by decide +kernel
theorem dX6_stopOn_29 : decode cX6_stopOn 29 = .ok (.iinc 2 1, 3) := by decide +kernel
theorem dX6_stopOn_32 : decode cX6_stopOn 32 = .ok (.goto (-25), 3) := by decide +kernel
theorem dX6_stopOn_35 : decode cX6_stopOn 35 = .ok (.aload_n 0, 1) := by decide +kernel
theorem dX6_stopOn_36 : decode cX6_stopOn 36 = .ok (.iconst 1, 1) := by decide +kernel
theorem dX6_stopOn_37 : decode cX6_stopOn 37 = .ok (.dup2, 1) := by decide +kernel
theorem dX6_stopOn_38 : decode cX6_stopOn 38 = .ok (.iaload, 1) := by decide +kernel
theorem dX6_stopOn_39 : decode cX6_stopOn 39 = .ok (.iconst 1, 1) := by decide +kernel
theorem dX6_stopOn_40 : decode cX6_stopOn 40 = .ok (.isub, 1) := by decide +kernel
theorem dX6_stopOn_41 : decode cX6_stopOn 41 = .ok (.iastore, 1) := by decide +kernel
theorem dX6_stopOn_42 : decode cX6_stopOn 42 = .ok (.aload_n 0, 1) := by decide +kernel
theorem dX6_stopOn_43 : decode cX6_stopOn 43 = .ok (.iconst 1, 1) := by decide +kernel
theorem dX6_stopOn_44 : decode cX6_stopOn 44 = .ok (.iaload, 1) := by decide +kernel
theorem dX6_stopOn_45 : decode cX6_stopOn 45 = .ok (.ireturn, 1) := by decide +kernel
theorem dX6_append_0 : decode cX6_append 0 = .ok (.aload_n 0, 1) := by decide +kernel
theorem dX6_append_1 : decode cX6_append 1 = .ok (.iload_n 1, 1) := by decide +kernel
theorem dX6_append_2 : decode cX6_append 2 = .ok (.i2l, 1) := by decide +kernel
theorem dX6_append_3 : decode cX6_append 3 = .ok (.lconst 0, 1) := by decide +kernel
theorem dX6_append_4 : decode cX6_append 4 = .ok (.ldc2_w 90, 3) := by decide +kernel
theorem dX6_append_7 : decode cX6_append 7 = .ok (.invokestatic 43, 3) := by decide +kernel
theorem dX6_append_10 : decode cX6_append 10 = .ok (.ifCond .ne 7, 3) := by decide +kernel
theorem dX6_append_13 : decode cX6_append 13 = .ok (.iconst 1, 1) := by decide +kernel
theorem dX6_append_14 : decode cX6_append 14 = .ok (.goto 17, 3) := by decide +kernel
theorem dX6_append_17 : decode cX6_append 17 = .ok (.aload_n 0, 1) := by decide +kernel
theorem dX6_append_18 : decode cX6_append 18 = .ok (.getfield 92, 3) := by decide +kernel
theorem dX6_append_21 : decode cX6_append 21 = .ok (.bipush 120, 2) := by decide +kernel
theorem dX6_append_23 : decode cX6_append 23 = .ok (.if_icmp .ne 7, 3) := by decide +kernel
theorem dX6_append_26 : decode cX6_append 26 = .ok (.iconst 2, 1) := by decide +kernel
theorem dX6_append_27 : decode cX6_append 27 = .ok (.goto 4, 3) := by decide +kernel
theorem dX6_append_30 : decode cX6_append 30 = .ok (.iconst 0, 1) := by decide +kernel
theorem dX6_append_31 : decode cX6_append 31 = .ok (.invokevirtual 95, 3) := by decide +kernel
theorem dX6_append_34 : decode cX6_append 34 = .ok (.ifCond .eq 5, 3) := by decide +kernel
theorem dX6_append_37 : decode cX6_append 37 = .ok (.iconst 0, 1) := by decide +kernel
theorem dX6_append_38 : decode cX6_append 38 = .ok (.ireturn, 1) := by decide +kernel
theorem dX6_append_39 : decode cX6_append 39 = .ok (.aload_n 0, 1) := by decide +kernel
theorem dX6_append_40 : decode cX6_append 40 = .ok (.getfield 7, 3) := by decide +kernel
theorem dX6_append_43 : decode cX6_append 43 = .ok (.aload_n 0, 1) := by decide +kernel
theorem dX6_append_44 : decode cX6_append 44 = .ok (.getfield 92, 3) := by decide +kernel
theorem dX6_append_47 : decode cX6_append 47 = .ok (.iload_n 1, 1) := by decide +kernel
theorem dX6_append_48 : decode cX6_append 48 = .ok (.iastore, 1) := by decide +kernel
theorem dX6_append_49 : decode cX6_append 49 = .ok (.aload_n 0, 1) := by decide +kernel
theorem dX6_append_50 : decode cX6_append 50 = .ok (.dup, 1) := by decide +kernel
theorem dX6_append_51 : decode cX6_append 51 = .ok (.getfield 92, 3) := by decide +kernel
theorem dX6_append_54 : decode cX6_append 54 = .ok (.iconst 1, 1) := by decide +kernel
theorem dX6_append_55 : decode cX6_append 55 = .ok (.iadd, 1) := by decide +kernel
theorem dX6_append_56 : decode cX6_append 56 = .ok (.putfield 92, 3) := by decide +kernel
theorem dX6_append_59 : decode cX6_append 59 = .ok (.aload_n 0, 1) := by decide +kernel
theorem dX6_append_60 : decode cX6_append 60 = .ok (.getfield 92, 3) := by decide +kernel
theorem dX6_append_63 : decode cX6_append 63 = .ok (.ireturn, 1) := by decide +kernel
theorem dX6_clearText_0 : decode cX6_clearText 0 = .ok (.aload_n 0, 1) := by decide +kernel
theorem dX6_clearText_1 : decode cX6_clearText 1 = .ok (.iconst 0, 1) := by decide +kernel
theorem dX6_clearText_2 : decode cX6_clearText 2 = .ok (.putfield 39, 3) := by decide +kernel
theorem dX6_clearText_5 : decode cX6_clearText 5 = .ok (.aload_n 0, 1) := by decide +kernel
theorem dX6_clearText_6 : decode cX6_clearText 6 = .ok (.getfield 92, 3) := by decide +kernel
theorem dX6_clearText_9 : decode cX6_clearText 9 = .ok (.istore_n 1, 1) := by decide +kernel
theorem dX6_clearText_10 : decode cX6_clearText 10 = .ok (.aload_n 0, 1) := by decide +kernel
theorem dX6_clearText_11 : decode cX6_clearText 11 = .ok (.iconst 0, 1) := by decide +kernel
theorem dX6_clearText_12 : decode cX6_clearText 12 = .ok (.putfield 92, 3) := by decide +kernel
theorem dX6_clearText_15 : decode cX6_clearText 15 = .ok (.iload_n 1, 1) := by decide +kernel
theorem dX6_clearText_16 : decode cX6_clearText 16 = .ok (.ireturn, 1) := by decide +kernel
theorem dX6_figures_0 : decode cX6_figures 0 = .ok (.iconst 0, 1) := by decide +kernel
theorem dX6_figures_1 : decode cX6_figures 1 = .ok (.istore 5, 2) := by decide +kernel
theorem dX6_figures_3 : decode cX6_figures 3 = .ok (.iload_n 2, 1) := by decide +kernel
theorem dX6_figures_4 : decode cX6_figures 4 = .ok (.istore 6, 2) := by decide +kernel
theorem dX6_figures_6 : decode cX6_figures 6 = .ok (.iload 6, 2) := by decide +kernel
theorem dX6_figures_8 : decode cX6_figures 8 = .ok (.ifCond .le 104, 3) := by decide +kernel
theorem dX6_figures_11 : decode cX6_figures 11 = .ok (.iload_n 1, 1) := by decide +kernel
theorem dX6_figures_12 : decode cX6_figures 12 = .ok (.iconst (-1), 1) := by decide +kernel
theorem dX6_figures_13 : decode cX6_figures 13 = .ok (.if_icmp .eq 99, 3) := by decide +kernel
theorem dX6_figures_16 : decode cX6_figures 16 = .ok (.aload_n 0, 1) := by decide +kernel
theorem dX6_figures_17 : decode cX6_figures 17 = .ok (.getfield 99, 3) := by decide +kernel
theorem dX6_figures_20 : decode cX6_figures 20 = .ok (.aload_n 0, 1) := by decide +kernel
theorem dX6_figures_21 : decode cX6_figures 21 = .ok (.getfield 92, 3) := by decide +kernel
theorem dX6_figures_24 : decode cX6_figures 24 = .ok (.if_icmp .ge 18, 3) := by decide +kernel
theorem dX6_figures_27 : decode cX6_figures 27 = .ok (.aload_n 0, 1) := by decide +kernel
theorem dX6_figures_28 : decode cX6_figures 28 = .ok (.getfield 7, 3) := by decide +kernel
theorem dX6_figures_31 : decode cX6_figures 31 = .ok (.aload_n 0, 1) := by decide +kernel
theorem dX6_figures_32 : decode cX6_figures 32 = .ok (.getfield 99, 3) := by decide +kernel
theorem dX6_figures_35 : decode cX6_figures 35 = .ok (.iaload, 1) := by decide +kernel
theorem dX6_figures_36 : decode cX6_figures 36 = .ok (.bipush 48, 2) := by decide +kernel
theorem dX6_figures_38 : decode cX6_figures 38 = .ok (.isub, 1) := by decide +kernel
theorem dX6_figures_39 : decode cX6_figures 39 = .ok (.goto 4, 3) := by decide +kernel
theorem dX6_figures_42 : decode cX6_figures 42 = .ok (.iconst (-1), 1) := by decide +kernel
theorem dX6_figures_43 : decode cX6_figures 43 = .ok (.istore 7, 2) := by decide +kernel
theorem dX6_figures_45 : decode cX6_figures 45 = .ok (.iload 5, 2) := by decide +kernel
theorem dX6_figures_47 : decode cX6_figures 47 = .ok (.iload 7, 2) := by decide +kernel
theorem dX6_figures_49 : decode cX6_figures 49 = .ok (.iload 6, 2) := by decide +kernel
theorem dX6_figures_51 : decode cX6_figures 51 = .ok (.imul, 1) := by decide +kernel
theorem dX6_figures_52 : decode cX6_figures 52 = .ok (.iadd, 1) := by decide +kernel
theorem dX6_figures_53 : decode cX6_figures 53 = .ok (.istore 8, 2) := by decide +kernel
theorem dX6_figures_55 : decode cX6_figures 55 = .ok (.iload 7, 2) := by decide +kernel
theorem dX6_figures_57 : decode cX6_figures 57 = .ok (.i2l, 1) := by decide +kernel
theorem dX6_figures_58 : decode cX6_figures 58 = .ok (.lconst 0, 1) := by decide +kernel
theorem dX6_figures_59 : decode cX6_figures 59 = .ok (.ldc2_w 102, 3) := by decide +kernel
theorem dX6_figures_62 : decode cX6_figures 62 = .ok (.invokestatic 43, 3) := by decide +kernel
theorem dX6_figures_65 : decode cX6_figures 65 = .ok (.ifCond .eq 21, 3) := by decide +kernel
theorem dX6_figures_68 : decode cX6_figures 68 = .ok (.iload 8, 2) := by decide +kernel
theorem dX6_figures_70 : decode cX6_figures 70 = .ok (.iload 4, 2) := by decide +kernel
theorem dX6_figures_72 : decode cX6_figures 72 = .ok (.if_icmp .gt 14, 3) := by decide +kernel
theorem dX6_figures_75 : decode cX6_figures 75 = .ok (.iload 8, 2) := by decide +kernel
theorem dX6_figures_77 : decode cX6_figures 77 = .ok (.iload 6, 2) := by decide +kernel
theorem dX6_figures_79 : decode cX6_figures 79 = .ok (.iadd, 1) := by decide +kernel
theorem dX6_figures_80 : decode cX6_figures 80 = .ok (.iconst 1, 1) := by decide +kernel
theorem dX6_figures_81 : decode cX6_figures 81 = .ok (.isub, 1) := by decide +kernel
theorem dX6_figures_82 : decode cX6_figures 82 = .ok (.iload_n 3, 1) := by decide +kernel
theorem dX6_figures_83 : decode cX6_figures 83 = .ok (.if_icmp .ge 5, 3) := by decide +kernel
theorem dX6_figures_86 : decode cX6_figures 86 = .ok (.iconst (-1), 1) := by decide +kernel
theorem dX6_figures_87 : decode cX6_figures 87 = .ok (.ireturn, 1) := by decide +kernel
theorem dX6_figures_88 : decode cX6_figures 88 = .ok (.iload 8, 2) := by decide +kernel
theorem dX6_figures_90 : decode cX6_figures 90 = .ok (.istore 5, 2) := by decide +kernel
theorem dX6_figures_92 : decode cX6_figures 92 = .ok (.aload_n 0, 1) := by decide +kernel
theorem dX6_figures_93 : decode cX6_figures 93 = .ok (.dup, 1) := by decide +kernel
theorem dX6_figures_94 : decode cX6_figures 94 = .ok (.getfield 99, 3) := by decide +kernel
theorem dX6_figures_97 : decode cX6_figures 97 = .ok (.iconst 1, 1) := by decide +kernel
theorem dX6_figures_98 : decode cX6_figures 98 = .ok (.iadd, 1) := by decide +kernel
theorem dX6_figures_99 : decode cX6_figures 99 = .ok (.putfield 99, 3) := by decide +kernel
theorem dX6_figures_102 : decode cX6_figures 102 = .ok (.iload 6, 2) := by decide +kernel
theorem dX6_figures_104 : decode cX6_figures 104 = .ok (.bipush 10, 2) := by decide +kernel
theorem dX6_figures_106 : decode cX6_figures 106 = .ok (.idiv, 1) := by decide +kernel
theorem dX6_figures_107 : decode cX6_figures 107 = .ok (.istore 6, 2) := by decide +kernel
theorem dX6_figures_109 : decode cX6_figures 109 = .ok (.goto (-103), 3) := by decide +kernel
theorem dX6_figures_112 : decode cX6_figures 112 = .ok (.iload_n 1, 1) := by decide +kernel
theorem dX6_figures_113 : decode cX6_figures 113 = .ok (.iconst (-1), 1) := by decide +kernel
theorem dX6_figures_114 : decode cX6_figures 114 = .ok (.if_icmp .ne 7, 3) := by decide +kernel
theorem dX6_figures_117 : decode cX6_figures 117 = .ok (.iconst (-1), 1) := by decide +kernel
theorem dX6_figures_118 : decode cX6_figures 118 = .ok (.goto 5, 3) := by decide +kernel
theorem dX6_figures_121 : decode cX6_figures 121 = .ok (.iload 5, 2) := by decide +kernel
theorem dX6_figures_123 : decode cX6_figures 123 = .ok (.ireturn, 1) := by decide +kernel
theorem dX6_done_0 : decode cX6_done 0 = .ok (.aload_n 0, 1) := by decide +kernel
theorem dX6_done_1 : decode cX6_done 1 = .ok (.dup, 1) := by decide +kernel
theorem dX6_done_2 : decode cX6_done 2 = .ok (.getfield 104, 3) := by decide +kernel
theorem dX6_done_5 : decode cX6_done 5 = .ok (.iload_n 1, 1) := by decide +kernel
theorem dX6_done_6 : decode cX6_done 6 = .ok (.ifCond .eq 7, 3) := by decide +kernel
theorem dX6_done_9 : decode cX6_done 9 = .ok (.iconst 0, 1) := by decide +kernel
theorem dX6_done_10 : decode cX6_done 10 = .ok (.goto 4, 3) := by decide +kernel
theorem dX6_done_13 : decode cX6_done 13 = .ok (.iconst 1, 1) := by decide +kernel
theorem dX6_done_14 : decode cX6_done 14 = .ok (.iadd, 1) := by decide +kernel
theorem dX6_done_15 : decode cX6_done 15 = .ok (.putfield 104, 3) := by decide +kernel
theorem dX6_done_18 : decode cX6_done 18 = .ok (.iconst 1, 1) := by decide +kernel
theorem dX6_done_19 : decode cX6_done 19 = .ok (.ireturn, 1) := by decide +kernel
theorem dX6_hasRoom_0 : decode cX6_hasRoom 0 = .ok (.aload_n 0, 1) := by decide +kernel
theorem dX6_hasRoom_1 : decode cX6_hasRoom 1 = .ok (.iconst 0, 1) := by decide +kernel
theorem dX6_hasRoom_2 : decode cX6_hasRoom 2 = .ok (.iaload, 1) := by decide +kernel
theorem dX6_hasRoom_3 : decode cX6_hasRoom 3 = .ok (.bipush 12, 2) := by decide +kernel
theorem dX6_hasRoom_5 : decode cX6_hasRoom 5 = .ok (.if_icmp .ge 7, 3) := by decide +kernel
theorem dX6_hasRoom_8 : decode cX6_hasRoom 8 = .ok (.iconst 1, 1) := by decide +kernel
theorem dX6_hasRoom_9 : decode cX6_hasRoom 9 = .ok (.goto 4, 3) := by decide +kernel
theorem dX6_hasRoom_12 : decode cX6_hasRoom 12 = .ok (.iconst 0, 1) := by decide +kernel
theorem dX6_hasRoom_13 : decode cX6_hasRoom 13 = .ok (.ireturn, 1) := by decide +kernel
theorem dX6_readSteps_0 : decode cX6_readSteps 0 = .ok (.aload_n 0, 1) := by decide +kernel
theorem dX6_readSteps_1 : decode cX6_readSteps 1 = .ok (.iconst 0, 1) := by decide +kernel
theorem dX6_readSteps_2 : decode cX6_readSteps 2 = .ok (.bipush 100, 2) := by decide +kernel
theorem dX6_readSteps_4 : decode cX6_readSteps 4 = .ok (.iconst 0, 1) := by decide +kernel
theorem dX6_readSteps_5 : decode cX6_readSteps 5 = .ok (.sipush 999, 3) := by decide +kernel
theorem dX6_readSteps_8 : decode cX6_readSteps 8 = .ok (.invokevirtual 107, 3) := by decide +kernel
theorem dX6_readSteps_11 : decode cX6_readSteps 11 = .ok (.istore_n 2, 1) := by decide +kernel
theorem dX6_readSteps_12 : decode cX6_readSteps 12 = .ok (.aload_n 0, 1) := by decide +kernel
theorem dX6_readSteps_13 : decode cX6_readSteps 13 = .ok (.iload_n 2, 1) := by decide +kernel
theorem dX6_readSteps_14 : decode cX6_readSteps 14 = .ok (.bipush 10, 2) := by decide +kernel
theorem dX6_readSteps_16 : decode cX6_readSteps 16 = .ok (.iconst 1, 1) := by decide +kernel
theorem dX6_readSteps_17 : decode cX6_readSteps 17 = .ok (.bipush 99, 2) := by decide +kernel
theorem dX6_readSteps_19 : decode cX6_readSteps 19 = .ok (.invokevirtual 107, 3) := by decide +kernel
theorem dX6_readSteps_22 : decode cX6_readSteps 22 = .ok (.istore_n 3, 1) := by decide +kernel
theorem dX6_readSteps_23 : decode cX6_readSteps 23 = .ok (.iload_n 3, 1) := by decide +kernel
theorem dX6_readSteps_24 : decode cX6_readSteps 24 = .ok (.iconst (-1), 1) := by decide +kernel
theorem dX6_readSteps_25 : decode cX6_readSteps 25 = .ok (.if_icmp .eq 37, 3) := by decide +kernel
theorem dX6_readSteps_28 : decode cX6_readSteps 28 = .ok (.aload_n 0, 1) := by decide +kernel
theorem dX6_readSteps_29 : decode cX6_readSteps 29 = .ok (.aload_n 1, 1) := by decide +kernel
theorem dX6_readSteps_30 : decode cX6_readSteps 30 = .ok (.invokestatic 111, 3) := by decide +kernel
theorem dX6_readSteps_33 : decode cX6_readSteps 33 = .ok (.ifCond .eq 18, 3) := by decide +kernel
theorem dX6_readSteps_36 : decode cX6_readSteps 36 = .ok (.aload_n 1, 1) := by decide +kernel
theorem dX6_readSteps_37 : decode cX6_readSteps 37 = .ok (.iconst 0, 1) := by decide +kernel
theorem dX6_readSteps_38 : decode cX6_readSteps 38 = .ok (.iload_n 2, 1) := by decide +kernel
theorem dX6_readSteps_39 : decode cX6_readSteps 39 = .ok (.iload_n 3, 1) := by decide +kernel
theorem dX6_readSteps_40 : decode cX6_readSteps 40 = .ok (.iconst 0, 1) := by decide +kernel
theorem dX6_readSteps_41 : decode cX6_readSteps 41 = .ok (.invokestatic 115, 3) := by decide +kernel
theorem dX6_readSteps_44 : decode cX6_readSteps 44 = .ok (.ifCond .lt 7, 3) := by decide +kernel
theorem dX6_readSteps_47 : decode cX6_readSteps 47 = .ok (.iconst 1, 1) := by decide +kernel
theorem dX6_readSteps_48 : decode cX6_readSteps 48 = .ok (.goto 4, 3) := by decide +kernel
theorem dX6_readSteps_51 : decode cX6_readSteps 51 = .ok (.iconst 0, 1) := by decide +kernel
theorem dX6_readSteps_52 : decode cX6_readSteps 52 = .ok (.invokevirtual 119, 3) := by decide +kernel
theorem dX6_readSteps_55 : decode cX6_readSteps 55 = .ok (.ifCond .eq 7, 3) := by decide +kernel
theorem dX6_readSteps_58 : decode cX6_readSteps 58 = .ok (.iconst 1, 1) := by decide +kernel
theorem dX6_readSteps_59 : decode cX6_readSteps 59 = .ok (.goto 4, 3) := by decide +kernel
theorem dX6_readSteps_62 : decode cX6_readSteps 62 = .ok (.iconst 0, 1) := by decide +kernel
theorem dX6_readSteps_63 : decode cX6_readSteps 63 = .ok (.ireturn, 1) := by decide +kernel
theorem dX6_readScaled_0 : decode cX6_readScaled 0 = .ok (.aload_n 0, 1) := by decide +kernel
theorem dX6_readScaled_1 : decode cX6_readScaled 1 = .ok (.iconst 0, 1) := by decide +kernel
theorem dX6_readScaled_2 : decode cX6_readScaled 2 = .ok (.bipush 10, 2) := by decide +kernel
theorem dX6_readScaled_4 : decode cX6_readScaled 4 = .ok (.iconst 0, 1) := by decide +kernel
theorem dX6_readScaled_5 : decode cX6_readScaled 5 = .ok (.bipush 11, 2) := by decide +kernel
theorem dX6_readScaled_7 : decode cX6_readScaled 7 = .ok (.invokevirtual 107, 3) := by decide +kernel
theorem dX6_readScaled_10 : decode cX6_readScaled 10 = .ok (.istore_n 2, 1) := by decide +kernel
theorem dX6_readScaled_11 : decode cX6_readScaled 11 = .ok (.aload_n 0, 1) := by decide +kernel
theorem dX6_readScaled_12 : decode cX6_readScaled 12 = .ok (.iload_n 2, 1) := by decide +kernel
theorem dX6_readScaled_13 : decode cX6_readScaled 13 = .ok (.iconst 1, 1) := by decide +kernel
theorem dX6_readScaled_14 : decode cX6_readScaled 14 = .ok (.iconst 1, 1) := by decide +kernel
theorem dX6_readScaled_15 : decode cX6_readScaled 15 = .ok (.bipush 9, 2) := by decide +kernel
theorem dX6_readScaled_17 : decode cX6_readScaled 17 = .ok (.invokevirtual 107, 3) := by decide +kernel
theorem dX6_readScaled_20 : decode cX6_readScaled 20 = .ok (.istore_n 3, 1) := by decide +kernel
theorem dX6_readScaled_21 : decode cX6_readScaled 21 = .ok (.aload_n 0, 1) := by decide +kernel
theorem dX6_readScaled_22 : decode cX6_readScaled 22 = .ok (.iload_n 3, 1) := by decide +kernel
theorem dX6_readScaled_23 : decode cX6_readScaled 23 = .ok (.bipush 10, 2) := by decide +kernel
theorem dX6_readScaled_25 : decode cX6_readScaled 25 = .ok (.iconst 0, 1) := by decide +kernel
theorem dX6_readScaled_26 : decode cX6_readScaled 26 = .ok (.bipush 99, 2) := by decide +kernel
theorem dX6_readScaled_28 : decode cX6_readScaled 28 = .ok (.invokevirtual 107, 3) := by decide +kernel
theorem dX6_readScaled_31 : decode cX6_readScaled 31 = .ok (.istore 4, 2) := by decide +kernel
theorem dX6_readScaled_33 : decode cX6_readScaled 33 = .ok (.iload 4, 2) := by decide +kernel
theorem dX6_readScaled_35 : decode cX6_readScaled 35 = .ok (.iconst (-1), 1) := by decide +kernel
theorem dX6_readScaled_36 : decode cX6_readScaled 36 = .ok (.if_icmp .eq 46, 3) := by decide +kernel
theorem dX6_readScaled_39 : decode cX6_readScaled 39 = .ok (.aload_n 0, 1) := by decide +kernel
theorem dX6_readScaled_40 : decode cX6_readScaled 40 = .ok (.aload_n 1, 1) := by decide +kernel
theorem dX6_readScaled_41 : decode cX6_readScaled 41 = .ok (.iload_n 2, 1) := by decide +kernel
theorem dX6_readScaled_42 : decode cX6_readScaled 42 = .ok (.invokestatic 123, 3) := by decide +kernel
theorem dX6_readScaled_45 : decode cX6_readScaled 45 = .ok (.ifCond .eq 26, 3) := by decide +kernel
theorem dX6_readScaled_48 : decode cX6_readScaled 48 = .ok (.aload_n 1, 1) := by decide +kernel
theorem dX6_readScaled_49 : decode cX6_readScaled 49 = .ok (.invokestatic 111, 3) := by decide +kernel
theorem dX6_readScaled_52 : decode cX6_readScaled 52 = .ok (.ifCond .eq 19, 3) := by decide +kernel
theorem dX6_readScaled_55 : decode cX6_readScaled 55 = .ok (.aload_n 1, 1) := by decide +kernel
theorem dX6_readScaled_56 : decode cX6_readScaled 56 = .ok (.iconst 1, 1) := by decide +kernel
theorem dX6_readScaled_57 : decode cX6_readScaled 57 = .ok (.iload_n 2, 1) := by decide +kernel
theorem dX6_readScaled_58 : decode cX6_readScaled 58 = .ok (.iload_n 3, 1) := by decide +kernel
theorem dX6_readScaled_59 : decode cX6_readScaled 59 = .ok (.iload 4, 2) := by decide +kernel
theorem dX6_readScaled_61 : decode cX6_readScaled 61 = .ok (.invokestatic 115, 3) := by decide +kernel
theorem dX6_readScaled_64 : decode cX6_readScaled 64 = .ok (.ifCond .lt 7, 3) := by decide +kernel
theorem dX6_readScaled_67 : decode cX6_readScaled 67 = .ok (.iconst 1, 1) := by decide +kernel
theorem dX6_readScaled_68 : decode cX6_readScaled 68 = .ok (.goto 4, 3) := by decide +kernel
theorem dX6_readScaled_71 : decode cX6_readScaled 71 = .ok (.iconst 0, 1) := by decide +kernel
theorem dX6_readScaled_72 : decode cX6_readScaled 72 = .ok (.invokevirtual 119, 3) := by decide +kernel
theorem dX6_readScaled_75 : decode cX6_readScaled 75 = .ok (.ifCond .eq 7, 3) := by decide +kernel
theorem dX6_readScaled_78 : decode cX6_readScaled 78 = .ok (.iconst 1, 1) := by decide +kernel
theorem dX6_readScaled_79 : decode cX6_readScaled 79 = .ok (.goto 4, 3) := by decide +kernel
theorem dX6_readScaled_82 : decode cX6_readScaled 82 = .ok (.iconst 0, 1) := by decide +kernel
theorem dX6_readScaled_83 : decode cX6_readScaled 83 = .ok (.ireturn, 1) := by decide +kernel
theorem dX6_readJoined_0 : decode cX6_readJoined 0 = .ok (.aload_n 0, 1) := by decide +kernel
theorem dX6_readJoined_1 : decode cX6_readJoined 1 = .ok (.iconst 0, 1) := by decide +kernel
theorem dX6_readJoined_2 : decode cX6_readJoined 2 = .ok (.bipush 10, 2) := by decide +kernel
theorem dX6_readJoined_4 : decode cX6_readJoined 4 = .ok (.iconst 0, 1) := by decide +kernel
theorem dX6_readJoined_5 : decode cX6_readJoined 5 = .ok (.bipush 11, 2) := by decide +kernel
theorem dX6_readJoined_7 : decode cX6_readJoined 7 = .ok (.invokevirtual 107, 3) := by decide +kernel
theorem dX6_readJoined_10 : decode cX6_readJoined 10 = .ok (.istore_n 3, 1) := by decide +kernel
theorem dX6_readJoined_11 : decode cX6_readJoined 11 = .ok (.aload_n 0, 1) := by decide +kernel
theorem dX6_readJoined_12 : decode cX6_readJoined 12 = .ok (.iload_n 3, 1) := by decide +kernel
theorem dX6_readJoined_13 : decode cX6_readJoined 13 = .ok (.bipush 10, 2) := by decide +kernel
theorem dX6_readJoined_15 : decode cX6_readJoined 15 = .ok (.iconst 0, 1) := by decide +kernel
theorem dX6_readJoined_16 : decode cX6_readJoined 16 = .ok (.bipush 11, 2) := by decide +kernel
theorem dX6_readJoined_18 : decode cX6_readJoined 18 = .ok (.invokevirtual 107, 3) := by decide +kernel
theorem dX6_readJoined_21 : decode cX6_readJoined 21 = .ok (.istore 4, 2) := by decide +kernel
theorem dX6_readJoined_23 : decode cX6_readJoined 23 = .ok (.iload 4, 2) := by decide +kernel
theorem dX6_readJoined_25 : decode cX6_readJoined 25 = .ok (.iconst (-1), 1) := by decide +kernel
theorem dX6_readJoined_26 : decode cX6_readJoined 26 = .ok (.if_icmp .eq 55, 3) := by decide +kernel
theorem dX6_readJoined_29 : decode cX6_readJoined 29 = .ok (.aload_n 0, 1) := by decide +kernel
theorem dX6_readJoined_30 : decode cX6_readJoined 30 = .ok (.aload_n 1, 1) := by decide +kernel
theorem dX6_readJoined_31 : decode cX6_readJoined 31 = .ok (.iload_n 3, 1) := by decide +kernel
theorem dX6_readJoined_32 : decode cX6_readJoined 32 = .ok (.invokestatic 123, 3) := by decide +kernel
theorem dX6_readJoined_35 : decode cX6_readJoined 35 = .ok (.ifCond .eq 35, 3) := by decide +kernel
theorem dX6_readJoined_38 : decode cX6_readJoined 38 = .ok (.aload_n 1, 1) := by decide +kernel
theorem dX6_readJoined_39 : decode cX6_readJoined 39 = .ok (.iload 4, 2) := by decide +kernel
theorem dX6_readJoined_41 : decode cX6_readJoined 41 = .ok (.invokestatic 123, 3) := by decide +kernel
theorem dX6_readJoined_44 : decode cX6_readJoined 44 = .ok (.ifCond .eq 26, 3) := by decide +kernel
theorem dX6_readJoined_47 : decode cX6_readJoined 47 = .ok (.aload_n 1, 1) := by decide +kernel
theorem dX6_readJoined_48 : decode cX6_readJoined 48 = .ok (.invokestatic 111, 3) := by decide +kernel
theorem dX6_readJoined_51 : decode cX6_readJoined 51 = .ok (.ifCond .eq 19, 3) := by decide +kernel
theorem dX6_readJoined_54 : decode cX6_readJoined 54 = .ok (.aload_n 1, 1) := by decide +kernel
theorem dX6_readJoined_55 : decode cX6_readJoined 55 = .ok (.iload_n 2, 1) := by decide +kernel
theorem dX6_readJoined_56 : decode cX6_readJoined 56 = .ok (.iload_n 3, 1) := by decide +kernel
theorem dX6_readJoined_57 : decode cX6_readJoined 57 = .ok (.iload 4, 2) := by decide +kernel
theorem dX6_readJoined_59 : decode cX6_readJoined 59 = .ok (.iconst 0, 1) := by decide +kernel
theorem dX6_readJoined_60 : decode cX6_readJoined 60 = .ok (.invokestatic 115, 3) := by decide +kernel
theorem dX6_readJoined_63 : decode cX6_readJoined 63 = .ok (.ifCond .lt 7, 3) := by decide +kernel
theorem dX6_readJoined_66 : decode cX6_readJoined 66 = .ok (.iconst 1, 1) := by decide +kernel
theorem dX6_readJoined_67 : decode cX6_readJoined 67 = .ok (.goto 4, 3) := by decide +kernel
theorem dX6_readJoined_70 : decode cX6_readJoined 70 = .ok (.iconst 0, 1) := by decide +kernel
theorem dX6_readJoined_71 : decode cX6_readJoined 71 = .ok (.invokevirtual 119, 3) := by decide +kernel
theorem dX6_readJoined_74 : decode cX6_readJoined 74 = .ok (.ifCond .eq 7, 3) := by decide +kernel
theorem dX6_readJoined_77 : decode cX6_readJoined 77 = .ok (.iconst 1, 1) := by decide +kernel
theorem dX6_readJoined_78 : decode cX6_readJoined 78 = .ok (.goto 4, 3) := by decide +kernel
theorem dX6_readJoined_81 : decode cX6_readJoined 81 = .ok (.iconst 0, 1) := by decide +kernel
theorem dX6_readJoined_82 : decode cX6_readJoined 82 = .ok (.ireturn, 1) := by decide +kernel
theorem dX6_readOne_0 : decode cX6_readOne 0 = .ok (.aload_n 0, 1) := by decide +kernel
theorem dX6_readOne_1 : decode cX6_readOne 1 = .ok (.iconst 0, 1) := by decide +kernel
theorem dX6_readOne_2 : decode cX6_readOne 2 = .ok (.bipush 10, 2) := by decide +kernel
theorem dX6_readOne_4 : decode cX6_readOne 4 = .ok (.iconst 0, 1) := by decide +kernel
theorem dX6_readOne_5 : decode cX6_readOne 5 = .ok (.bipush 11, 2) := by decide +kernel
theorem dX6_readOne_7 : decode cX6_readOne 7 = .ok (.invokevirtual 107, 3) := by decide +kernel
theorem dX6_readOne_10 : decode cX6_readOne 10 = .ok (.istore_n 3, 1) := by decide +kernel
theorem dX6_readOne_11 : decode cX6_readOne 11 = .ok (.iload_n 2, 1) := by decide +kernel
theorem dX6_readOne_12 : decode cX6_readOne 12 = .ok (.bipush 6, 2) := by decide +kernel
theorem dX6_readOne_14 : decode cX6_readOne 14 = .ok (.if_icmp .ne 15, 3) := by decide +kernel
theorem dX6_readOne_17 : decode cX6_readOne 17 = .ok (.aload_n 0, 1) := by decide +kernel
theorem dX6_readOne_18 : decode cX6_readOne 18 = .ok (.iload_n 3, 1) := by decide +kernel
theorem dX6_readOne_19 : decode cX6_readOne 19 = .ok (.iconst 1, 1) := by decide +kernel
theorem dX6_readOne_20 : decode cX6_readOne 20 = .ok (.iconst 1, 1) := by decide +kernel
theorem dX6_readOne_21 : decode cX6_readOne 21 = .ok (.bipush 9, 2) := by decide +kernel
theorem dX6_readOne_23 : decode cX6_readOne 23 = .ok (.invokevirtual 107, 3) := by decide +kernel
theorem dX6_readOne_26 : decode cX6_readOne 26 = .ok (.goto 4, 3) := by decide +kernel
theorem dX6_readOne_29 : decode cX6_readOne 29 = .ok (.iload_n 3, 1) := by decide +kernel
theorem dX6_readOne_30 : decode cX6_readOne 30 = .ok (.istore 4, 2) := by decide +kernel
theorem dX6_readOne_32 : decode cX6_readOne 32 = .ok (.iload 4, 2) := by decide +kernel
theorem dX6_readOne_34 : decode cX6_readOne 34 = .ok (.iconst (-1), 1) := by decide +kernel
theorem dX6_readOne_35 : decode cX6_readOne 35 = .ok (.if_icmp .eq 46, 3) := by decide +kernel
theorem dX6_readOne_38 : decode cX6_readOne 38 = .ok (.aload_n 0, 1) := by decide +kernel
theorem dX6_readOne_39 : decode cX6_readOne 39 = .ok (.aload_n 1, 1) := by decide +kernel
theorem dX6_readOne_40 : decode cX6_readOne 40 = .ok (.iload_n 3, 1) := by decide +kernel
theorem dX6_readOne_41 : decode cX6_readOne 41 = .ok (.invokestatic 123, 3) := by decide +kernel
theorem dX6_readOne_44 : decode cX6_readOne 44 = .ok (.ifCond .eq 26, 3) := by decide +kernel
theorem dX6_readOne_47 : decode cX6_readOne 47 = .ok (.aload_n 1, 1) := by decide +kernel
theorem dX6_readOne_48 : decode cX6_readOne 48 = .ok (.invokestatic 111, 3) := by decide +kernel
theorem dX6_readOne_51 : decode cX6_readOne 51 = .ok (.ifCond .eq 19, 3) := by decide +kernel
theorem dX6_readOne_54 : decode cX6_readOne 54 = .ok (.aload_n 1, 1) := by decide +kernel
theorem dX6_readOne_55 : decode cX6_readOne 55 = .ok (.iload_n 2, 1) := by decide +kernel
theorem dX6_readOne_56 : decode cX6_readOne 56 = .ok (.iload_n 3, 1) := by decide +kernel
theorem dX6_readOne_57 : decode cX6_readOne 57 = .ok (.iload 4, 2) := by decide +kernel
theorem dX6_readOne_59 : decode cX6_readOne 59 = .ok (.iconst 0, 1) := by decide +kernel
theorem dX6_readOne_60 : decode cX6_readOne 60 = .ok (.invokestatic 115, 3) := by decide +kernel
theorem dX6_readOne_63 : decode cX6_readOne 63 = .ok (.ifCond .lt 7, 3) := by decide +kernel
theorem dX6_readOne_66 : decode cX6_readOne 66 = .ok (.iconst 1, 1) := by decide +kernel
theorem dX6_readOne_67 : decode cX6_readOne 67 = .ok (.goto 4, 3) := by decide +kernel
theorem dX6_readOne_70 : decode cX6_readOne 70 = .ok (.iconst 0, 1) := by decide +kernel
theorem dX6_readOne_71 : decode cX6_readOne 71 = .ok (.invokevirtual 119, 3) := by decide +kernel
theorem dX6_readOne_74 : decode cX6_readOne 74 = .ok (.ifCond .eq 7, 3) := by decide +kernel
theorem dX6_readOne_77 : decode cX6_readOne 77 = .ok (.iconst 1, 1) := by decide +kernel
theorem dX6_readOne_78 : decode cX6_readOne 78 = .ok (.goto 4, 3) := by decide +kernel
theorem dX6_readOne_81 : decode cX6_readOne 81 = .ok (.iconst 0, 1) := by decide +kernel
theorem dX6_readOne_82 : decode cX6_readOne 82 = .ok (.ireturn, 1) := by decide +kernel
theorem dX6_readReader_0 : decode cX6_readReader 0 = .ok (.aload_n 0, 1) := by decide +kernel
theorem dX6_readReader_1 : decode cX6_readReader 1 = .ok (.iconst 0, 1) := by decide +kernel
theorem dX6_readReader_2 : decode cX6_readReader 2 = .ok (.iconst 1, 1) := by decide +kernel
theorem dX6_readReader_3 : decode cX6_readReader 3 = .ok (.iconst 0, 1) := by decide +kernel
theorem dX6_readReader_4 : decode cX6_readReader 4 = .ok (.iconst 3, 1) := by decide +kernel
theorem dX6_readReader_5 : decode cX6_readReader 5 = .ok (.invokevirtual 107, 3) := by decide +kernel
theorem dX6_readReader_8 : decode cX6_readReader 8 = .ok (.istore_n 3, 1) := by decide +kernel
theorem dX6_readReader_9 : decode cX6_readReader 9 = .ok (.iload_n 2, 1) := by decide +kernel
theorem dX6_readReader_10 : decode cX6_readReader 10 = .ok (.bipush 107, 2) := by decide +kernel
theorem dX6_readReader_12 : decode cX6_readReader 12 = .ok (.if_icmp .ne 16, 3) := by decide +kernel
theorem dX6_readReader_15 : decode cX6_readReader 15 = .ok (.aload_n 0, 1) := by decide +kernel
theorem dX6_readReader_16 : decode cX6_readReader 16 = .ok (.iload_n 3, 1) := by decide +kernel
theorem dX6_readReader_17 : decode cX6_readReader 17 = .ok (.bipush 10, 2) := by decide +kernel
theorem dX6_readReader_19 : decode cX6_readReader 19 = .ok (.iconst 1, 1) := by decide +kernel
theorem dX6_readReader_20 : decode cX6_readReader 20 = .ok (.bipush 99, 2) := by decide +kernel
theorem dX6_readReader_22 : decode cX6_readReader 22 = .ok (.invokevirtual 107, 3) := by decide +kernel
theorem dX6_readReader_25 : decode cX6_readReader 25 = .ok (.goto 4, 3) := by decide +kernel
theorem dX6_readReader_28 : decode cX6_readReader 28 = .ok (.iload_n 3, 1) := by decide +kernel
theorem dX6_readReader_29 : decode cX6_readReader 29 = .ok (.istore 4, 2) := by decide +kernel
theorem dX6_readReader_31 : decode cX6_readReader 31 = .ok (.iload 4, 2) := by decide +kernel
theorem dX6_readReader_33 : decode cX6_readReader 33 = .ok (.iconst (-1), 1) := by decide +kernel
theorem dX6_readReader_34 : decode cX6_readReader 34 = .ok (.if_icmp .ne 5, 3) := by decide +kernel
theorem dX6_readReader_37 : decode cX6_readReader 37 = .ok (.iconst 0, 1) := by decide +kernel
theorem dX6_readReader_38 : decode cX6_readReader 38 = .ok (.ireturn, 1) := by decide +kernel
theorem dX6_readReader_39 : decode cX6_readReader 39 = .ok (.aload_n 0, 1) := by decide +kernel
theorem dX6_readReader_40 : decode cX6_readReader 40 = .ok (.aload_n 1, 1) := by decide +kernel
theorem dX6_readReader_41 : decode cX6_readReader 41 = .ok (.invokevirtual 127, 3) := by decide +kernel
theorem dX6_readReader_44 : decode cX6_readReader 44 = .ok (.iload_n 2, 1) := by decide +kernel
theorem dX6_readReader_45 : decode cX6_readReader 45 = .ok (.lookupswitch 127 #[(107, 72), (110, 35), (122, 101)], 35) := by decide +kernel
theorem dX6_readReader_80 : decode cX6_readReader 80 = .ok (.aload_n 0, 1) := by decide +kernel
theorem dX6_readReader_81 : decode cX6_readReader 81 = .ok (.aload_n 1, 1) := by decide +kernel
theorem dX6_readReader_82 : decode cX6_readReader 82 = .ok (.iload_n 3, 1) := by decide +kernel
theorem dX6_readReader_83 : decode cX6_readReader 83 = .ok (.invokestatic 130, 3) := by decide +kernel
theorem dX6_readReader_86 : decode cX6_readReader 86 = .ok (.ifCond .eq 26, 3) := by decide +kernel
theorem dX6_readReader_89 : decode cX6_readReader 89 = .ok (.aload_n 0, 1) := by decide +kernel
theorem dX6_readReader_90 : decode cX6_readReader 90 = .ok (.aload_n 1, 1) := by decide +kernel
theorem dX6_readReader_91 : decode cX6_readReader 91 = .ok (.iload_n 3, 1) := by decide +kernel
theorem dX6_readReader_92 : decode cX6_readReader 92 = .ok (.invokevirtual 84, 3) := by decide +kernel
theorem dX6_readReader_95 : decode cX6_readReader 95 = .ok (.iconst (-1), 1) := by decide +kernel
theorem dX6_readReader_96 : decode cX6_readReader 96 = .ok (.if_icmp .eq 16, 3) := by decide +kernel
theorem dX6_readReader_99 : decode cX6_readReader 99 = .ok (.aload_n 0, 1) := by decide +kernel
theorem dX6_readReader_100 : decode cX6_readReader 100 = .ok (.aload_n 1, 1) := by decide +kernel
theorem dX6_readReader_101 : decode cX6_readReader 101 = .ok (.iload_n 3, 1) := by decide +kernel
theorem dX6_readReader_102 : decode cX6_readReader 102 = .ok (.invokevirtual 133, 3) := by decide +kernel
theorem dX6_readReader_105 : decode cX6_readReader 105 = .ok (.ifCond .lt 7, 3) := by decide +kernel
theorem dX6_readReader_108 : decode cX6_readReader 108 = .ok (.iconst 1, 1) := by decide +kernel
theorem dX6_readReader_109 : decode cX6_readReader 109 = .ok (.goto 4, 3) := by decide +kernel
theorem dX6_readReader_112 : decode cX6_readReader 112 = .ok (.iconst 0, 1) := by decide +kernel
theorem dX6_readReader_113 : decode cX6_readReader 113 = .ok (.invokevirtual 119, 3) := by decide +kernel
theorem dX6_readReader_116 : decode cX6_readReader 116 = .ok (.ireturn, 1) := by decide +kernel
theorem dX6_readReader_117 : decode cX6_readReader 117 = .ok (.aload_n 0, 1) := by decide +kernel
theorem dX6_readReader_118 : decode cX6_readReader 118 = .ok (.aload_n 1, 1) := by decide +kernel
theorem dX6_readReader_119 : decode cX6_readReader 119 = .ok (.iload_n 3, 1) := by decide +kernel
theorem dX6_readReader_120 : decode cX6_readReader 120 = .ok (.invokestatic 130, 3) := by decide +kernel
theorem dX6_readReader_123 : decode cX6_readReader 123 = .ok (.ifCond .eq 18, 3) := by decide +kernel
theorem dX6_readReader_126 : decode cX6_readReader 126 = .ok (.aload_n 0, 1) := by decide +kernel
theorem dX6_readReader_127 : decode cX6_readReader 127 = .ok (.aload_n 1, 1) := by decide +kernel
theorem dX6_readReader_128 : decode cX6_readReader 128 = .ok (.iload_n 3, 1) := by decide +kernel
theorem dX6_readReader_129 : decode cX6_readReader 129 = .ok (.iload 4, 2) := by decide +kernel
theorem dX6_readReader_131 : decode cX6_readReader 131 = .ok (.invokevirtual 136, 3) := by decide +kernel
theorem dX6_readReader_134 : decode cX6_readReader 134 = .ok (.ifCond .lt 7, 3) := by decide +kernel
theorem dX6_readReader_137 : decode cX6_readReader 137 = .ok (.iconst 1, 1) := by decide +kernel
theorem dX6_readReader_138 : decode cX6_readReader 138 = .ok (.goto 4, 3) := by decide +kernel
theorem dX6_readReader_141 : decode cX6_readReader 141 = .ok (.iconst 0, 1) := by decide +kernel
theorem dX6_readReader_142 : decode cX6_readReader 142 = .ok (.invokevirtual 119, 3) := by decide +kernel
theorem dX6_readReader_145 : decode cX6_readReader 145 = .ok (.ireturn, 1) := by decide +kernel
theorem dX6_readReader_146 : decode cX6_readReader 146 = .ok (.aload_n 0, 1) := by decide +kernel
theorem dX6_readReader_147 : decode cX6_readReader 147 = .ok (.aload_n 1, 1) := by decide +kernel
theorem dX6_readReader_148 : decode cX6_readReader 148 = .ok (.iload_n 3, 1) := by decide +kernel
theorem dX6_readReader_149 : decode cX6_readReader 149 = .ok (.invokestatic 130, 3) := by decide +kernel
theorem dX6_readReader_152 : decode cX6_readReader 152 = .ok (.ifCond .eq 15, 3) := by decide +kernel
theorem dX6_readReader_155 : decode cX6_readReader 155 = .ok (.aload_n 1, 1) := by decide +kernel
theorem dX6_readReader_156 : decode cX6_readReader 156 = .ok (.iload_n 3, 1) := by decide +kernel
theorem dX6_readReader_157 : decode cX6_readReader 157 = .ok (.invokestatic 139, 3) := by decide +kernel
theorem dX6_readReader_160 : decode cX6_readReader 160 = .ok (.ifCond .lt 7, 3) := by decide +kernel
theorem dX6_readReader_163 : decode cX6_readReader 163 = .ok (.iconst 1, 1) := by decide +kernel
theorem dX6_readReader_164 : decode cX6_readReader 164 = .ok (.goto 4, 3) := by decide +kernel
theorem dX6_readReader_167 : decode cX6_readReader 167 = .ok (.iconst 0, 1) := by decide +kernel
theorem dX6_readReader_168 : decode cX6_readReader 168 = .ok (.invokevirtual 119, 3) := by decide +kernel
theorem dX6_readReader_171 : decode cX6_readReader 171 = .ok (.ireturn, 1) := by decide +kernel
theorem dX6_readReader_172 : decode cX6_readReader 172 = .ok (.aload_n 0, 1) := by decide +kernel
theorem dX6_readReader_173 : decode cX6_readReader 173 = .ok (.aload_n 1, 1) := by decide +kernel
theorem dX6_readReader_174 : decode cX6_readReader 174 = .ok (.iload_n 3, 1) := by decide +kernel
theorem dX6_readReader_175 : decode cX6_readReader 175 = .ok (.invokestatic 130, 3) := by decide +kernel
theorem dX6_readReader_178 : decode cX6_readReader 178 = .ok (.ifCond .eq 15, 3) := by decide +kernel
theorem dX6_readReader_181 : decode cX6_readReader 181 = .ok (.aload_n 1, 1) := by decide +kernel
theorem dX6_readReader_182 : decode cX6_readReader 182 = .ok (.iload_n 3, 1) := by decide +kernel
theorem dX6_readReader_183 : decode cX6_readReader 183 = .ok (.invokestatic 142, 3) := by decide +kernel
theorem dX6_readReader_186 : decode cX6_readReader 186 = .ok (.ifCond .lt 7, 3) := by decide +kernel
theorem dX6_readReader_189 : decode cX6_readReader 189 = .ok (.iconst 1, 1) := by decide +kernel
theorem dX6_readReader_190 : decode cX6_readReader 190 = .ok (.goto 4, 3) := by decide +kernel
theorem dX6_readReader_193 : decode cX6_readReader 193 = .ok (.iconst 0, 1) := by decide +kernel
theorem dX6_readReader_194 : decode cX6_readReader 194 = .ok (.invokevirtual 119, 3) := by decide +kernel
theorem dX6_readReader_197 : decode cX6_readReader 197 = .ok (.ireturn, 1) := by decide +kernel
theorem dX6_readCommand_0 : decode cX6_readCommand 0 = .ok (.aload_n 0, 1) := by decide +kernel
theorem dX6_readCommand_1 : decode cX6_readCommand 1 = .ok (.getfield 7, 3) := by decide +kernel
theorem dX6_readCommand_4 : decode cX6_readCommand 4 = .ok (.aload_n 0, 1) := by decide +kernel
theorem dX6_readCommand_5 : decode cX6_readCommand 5 = .ok (.getfield 99, 3) := by decide +kernel
theorem dX6_readCommand_8 : decode cX6_readCommand 8 = .ok (.iaload, 1) := by decide +kernel
theorem dX6_readCommand_9 : decode cX6_readCommand 9 = .ok (.istore_n 2, 1) := by decide +kernel
theorem dX6_readCommand_10 : decode cX6_readCommand 10 = .ok (.aload_n 0, 1) := by decide +kernel
theorem dX6_readCommand_11 : decode cX6_readCommand 11 = .ok (.dup, 1) := by decide +kernel
theorem dX6_readCommand_12 : decode cX6_readCommand 12 = .ok (.getfield 99, 3) := by decide +kernel
theorem dX6_readCommand_15 : decode cX6_readCommand 15 = .ok (.iconst 1, 1) := by decide +kernel
theorem dX6_readCommand_16 : decode cX6_readCommand 16 = .ok (.iadd, 1) := by decide +kernel
theorem dX6_readCommand_17 : decode cX6_readCommand 17 = .ok (.putfield 99, 3) := by decide +kernel
theorem dX6_readCommand_20 : decode cX6_readCommand 20 = .ok (.iload_n 2, 1) := by decide +kernel
theorem dX6_readCommand_21 : decode cX6_readCommand 21 = .ok (.tableswitch 251 100 122 #[227, 147, 251, 251, 126, 251, 119, 220, 251, 251, 220, 251, 251, 220, 163, 107, 251, 155, 140, 133, 113, 251, 220], 107) := by decide +kernel
theorem dX6_readCommand_128 : decode cX6_readCommand 128 = .ok (.aload_n 0, 1) := by decide +kernel
theorem dX6_readCommand_129 : decode cX6_readCommand 129 = .ok (.aload_n 1, 1) := by decide +kernel
theorem dX6_readCommand_130 : decode cX6_readCommand 130 = .ok (.invokevirtual 145, 3) := by decide +kernel
theorem dX6_readCommand_133 : decode cX6_readCommand 133 = .ok (.ireturn, 1) := by decide +kernel
theorem dX6_readCommand_134 : decode cX6_readCommand 134 = .ok (.aload_n 0, 1) := by decide +kernel
theorem dX6_readCommand_135 : decode cX6_readCommand 135 = .ok (.aload_n 1, 1) := by decide +kernel
theorem dX6_readCommand_136 : decode cX6_readCommand 136 = .ok (.invokevirtual 148, 3) := by decide +kernel
theorem dX6_readCommand_139 : decode cX6_readCommand 139 = .ok (.ireturn, 1) := by decide +kernel
theorem dX6_readCommand_140 : decode cX6_readCommand 140 = .ok (.aload_n 0, 1) := by decide +kernel
theorem dX6_readCommand_141 : decode cX6_readCommand 141 = .ok (.aload_n 1, 1) := by decide +kernel
theorem dX6_readCommand_142 : decode cX6_readCommand 142 = .ok (.iconst 2, 1) := by decide +kernel
theorem dX6_readCommand_143 : decode cX6_readCommand 143 = .ok (.invokevirtual 151, 3) := by decide +kernel
theorem dX6_readCommand_146 : decode cX6_readCommand 146 = .ok (.ireturn, 1) := by decide +kernel
theorem dX6_readCommand_147 : decode cX6_readCommand 147 = .ok (.aload_n 0, 1) := by decide +kernel
theorem dX6_readCommand_148 : decode cX6_readCommand 148 = .ok (.aload_n 1, 1) := by decide +kernel
theorem dX6_readCommand_149 : decode cX6_readCommand 149 = .ok (.iconst 3, 1) := by decide +kernel
theorem dX6_readCommand_150 : decode cX6_readCommand 150 = .ok (.invokevirtual 151, 3) := by decide +kernel
theorem dX6_readCommand_153 : decode cX6_readCommand 153 = .ok (.ireturn, 1) := by decide +kernel
theorem dX6_readCommand_154 : decode cX6_readCommand 154 = .ok (.aload_n 0, 1) := by decide +kernel
theorem dX6_readCommand_155 : decode cX6_readCommand 155 = .ok (.aload_n 1, 1) := by decide +kernel
theorem dX6_readCommand_156 : decode cX6_readCommand 156 = .ok (.iconst 4, 1) := by decide +kernel
theorem dX6_readCommand_157 : decode cX6_readCommand 157 = .ok (.invokevirtual 151, 3) := by decide +kernel
theorem dX6_readCommand_160 : decode cX6_readCommand 160 = .ok (.ireturn, 1) := by decide +kernel
theorem dX6_readCommand_161 : decode cX6_readCommand 161 = .ok (.aload_n 0, 1) := by decide +kernel
theorem dX6_readCommand_162 : decode cX6_readCommand 162 = .ok (.aload_n 1, 1) := by decide +kernel
theorem dX6_readCommand_163 : decode cX6_readCommand 163 = .ok (.iconst 5, 1) := by decide +kernel
theorem dX6_readCommand_164 : decode cX6_readCommand 164 = .ok (.invokevirtual 154, 3) := by decide +kernel
theorem dX6_readCommand_167 : decode cX6_readCommand 167 = .ok (.ireturn, 1) := by decide +kernel
theorem dX6_readCommand_168 : decode cX6_readCommand 168 = .ok (.aload_n 0, 1) := by decide +kernel
theorem dX6_readCommand_169 : decode cX6_readCommand 169 = .ok (.aload_n 1, 1) := by decide +kernel
theorem dX6_readCommand_170 : decode cX6_readCommand 170 = .ok (.bipush 6, 2) := by decide +kernel
theorem dX6_readCommand_172 : decode cX6_readCommand 172 = .ok (.invokevirtual 154, 3) := by decide +kernel
theorem dX6_readCommand_175 : decode cX6_readCommand 175 = .ok (.ireturn, 1) := by decide +kernel
theorem dX6_readCommand_176 : decode cX6_readCommand 176 = .ok (.aload_n 0, 1) := by decide +kernel
theorem dX6_readCommand_177 : decode cX6_readCommand 177 = .ok (.aload_n 1, 1) := by decide +kernel
theorem dX6_readCommand_178 : decode cX6_readCommand 178 = .ok (.bipush 7, 2) := by decide +kernel
theorem dX6_readCommand_180 : decode cX6_readCommand 180 = .ok (.invokevirtual 154, 3) := by decide +kernel
theorem dX6_readCommand_183 : decode cX6_readCommand 183 = .ok (.ireturn, 1) := by decide +kernel
theorem dX6_readCommand_184 : decode cX6_readCommand 184 = .ok (.aload_n 0, 1) := by decide +kernel
theorem dX6_readCommand_185 : decode cX6_readCommand 185 = .ok (.iconst 0, 1) := by decide +kernel
theorem dX6_readCommand_186 : decode cX6_readCommand 186 = .ok (.bipush 10, 2) := by decide +kernel
theorem dX6_readCommand_188 : decode cX6_readCommand 188 = .ok (.iconst 0, 1) := by decide +kernel
theorem dX6_readCommand_189 : decode cX6_readCommand 189 = .ok (.bipush 11, 2) := by decide +kernel
theorem dX6_readCommand_191 : decode cX6_readCommand 191 = .ok (.invokevirtual 107, 3) := by decide +kernel
theorem dX6_readCommand_194 : decode cX6_readCommand 194 = .ok (.istore_n 3, 1) := by decide +kernel
theorem dX6_readCommand_195 : decode cX6_readCommand 195 = .ok (.iload_n 3, 1) := by decide +kernel
theorem dX6_readCommand_196 : decode cX6_readCommand 196 = .ok (.iconst (-1), 1) := by decide +kernel
theorem dX6_readCommand_197 : decode cX6_readCommand 197 = .ok (.if_icmp .eq 42, 3) := by decide +kernel
theorem dX6_readCommand_200 : decode cX6_readCommand 200 = .ok (.aload_n 0, 1) := by decide +kernel
theorem dX6_readCommand_201 : decode cX6_readCommand 201 = .ok (.aload_n 1, 1) := by decide +kernel
theorem dX6_readCommand_202 : decode cX6_readCommand 202 = .ok (.iload_n 3, 1) := by decide +kernel
theorem dX6_readCommand_203 : decode cX6_readCommand 203 = .ok (.invokestatic 123, 3) := by decide +kernel
theorem dX6_readCommand_206 : decode cX6_readCommand 206 = .ok (.ifCond .eq 22, 3) := by decide +kernel
theorem dX6_readCommand_209 : decode cX6_readCommand 209 = .ok (.aload_n 1, 1) := by decide +kernel
theorem dX6_readCommand_210 : decode cX6_readCommand 210 = .ok (.iconst 1, 1) := by decide +kernel
theorem dX6_readCommand_211 : decode cX6_readCommand 211 = .ok (.iaload, 1) := by decide +kernel
theorem dX6_readCommand_212 : decode cX6_readCommand 212 = .ok (.iconst 4, 1) := by decide +kernel
theorem dX6_readCommand_213 : decode cX6_readCommand 213 = .ok (.if_icmp .ge 15, 3) := by decide +kernel
theorem dX6_readCommand_216 : decode cX6_readCommand 216 = .ok (.aload_n 1, 1) := by decide +kernel
theorem dX6_readCommand_217 : decode cX6_readCommand 217 = .ok (.iload_n 3, 1) := by decide +kernel
theorem dX6_readCommand_218 : decode cX6_readCommand 218 = .ok (.invokestatic 157, 3) := by decide +kernel
theorem dX6_readCommand_221 : decode cX6_readCommand 221 = .ok (.ifCond .lt 7, 3) := by decide +kernel
theorem dX6_readCommand_224 : decode cX6_readCommand 224 = .ok (.iconst 1, 1) := by decide +kernel
theorem dX6_readCommand_225 : decode cX6_readCommand 225 = .ok (.goto 4, 3) := by decide +kernel
theorem dX6_readCommand_228 : decode cX6_readCommand 228 = .ok (.iconst 0, 1) := by decide +kernel
theorem dX6_readCommand_229 : decode cX6_readCommand 229 = .ok (.invokevirtual 119, 3) := by decide +kernel
theorem dX6_readCommand_232 : decode cX6_readCommand 232 = .ok (.ifCond .eq 7, 3) := by decide +kernel
theorem dX6_readCommand_235 : decode cX6_readCommand 235 = .ok (.iconst 1, 1) := by decide +kernel
theorem dX6_readCommand_236 : decode cX6_readCommand 236 = .ok (.goto 4, 3) := by decide +kernel
theorem dX6_readCommand_239 : decode cX6_readCommand 239 = .ok (.iconst 0, 1) := by decide +kernel
theorem dX6_readCommand_240 : decode cX6_readCommand 240 = .ok (.ireturn, 1) := by decide +kernel
theorem dX6_readCommand_241 : decode cX6_readCommand 241 = .ok (.aload_n 0, 1) := by decide +kernel
theorem dX6_readCommand_242 : decode cX6_readCommand 242 = .ok (.aload_n 1, 1) := by decide +kernel
theorem dX6_readCommand_243 : decode cX6_readCommand 243 = .ok (.iload_n 2, 1) := by decide +kernel
theorem dX6_readCommand_244 : decode cX6_readCommand 244 = .ok (.invokevirtual 160, 3) := by decide +kernel
theorem dX6_readCommand_247 : decode cX6_readCommand 247 = .ok (.ireturn, 1) := by decide +kernel
theorem dX6_readCommand_248 : decode cX6_readCommand 248 = .ok (.aload_n 0, 1) := by decide +kernel
theorem dX6_readCommand_249 : decode cX6_readCommand 249 = .ok (.aload_n 1, 1) := by decide +kernel
theorem dX6_readCommand_250 : decode cX6_readCommand 250 = .ok (.invokestatic 163, 3) := by decide +kernel
theorem dX6_readCommand_253 : decode cX6_readCommand 253 = .ok (.ifCond .ne 14, 3) := by decide +kernel
theorem dX6_readCommand_256 : decode cX6_readCommand 256 = .ok (.aload_n 1, 1) := by decide +kernel
theorem dX6_readCommand_257 : decode cX6_readCommand 257 = .ok (.invokestatic 167, 3) := by decide +kernel
theorem dX6_readCommand_260 : decode cX6_readCommand 260 = .ok (.ifCond .lt 7, 3) := by decide +kernel
theorem dX6_readCommand_263 : decode cX6_readCommand 263 = .ok (.iconst 1, 1) := by decide +kernel
theorem dX6_readCommand_264 : decode cX6_readCommand 264 = .ok (.goto 4, 3) := by decide +kernel
theorem dX6_readCommand_267 : decode cX6_readCommand 267 = .ok (.iconst 0, 1) := by decide +kernel
theorem dX6_readCommand_268 : decode cX6_readCommand 268 = .ok (.invokevirtual 119, 3) := by decide +kernel
theorem dX6_readCommand_271 : decode cX6_readCommand 271 = .ok (.ireturn, 1) := by decide +kernel
theorem dX6_readCommand_272 : decode cX6_readCommand 272 = .ok (.aload_n 0, 1) := by decide +kernel
theorem dX6_readCommand_273 : decode cX6_readCommand 273 = .ok (.dup, 1) := by decide +kernel
theorem dX6_readCommand_274 : decode cX6_readCommand 274 = .ok (.getfield 99, 3) := by decide +kernel
theorem dX6_readCommand_277 : decode cX6_readCommand 277 = .ok (.iconst 1, 1) := by decide +kernel
theorem dX6_readCommand_278 : decode cX6_readCommand 278 = .ok (.isub, 1) := by decide +kernel
theorem dX6_readCommand_279 : decode cX6_readCommand 279 = .ok (.putfield 99, 3) := by decide +kernel
theorem dX6_readCommand_282 : decode cX6_readCommand 282 = .ok (.iconst 0, 1) := by decide +kernel
theorem dX6_readCommand_283 : decode cX6_readCommand 283 = .ok (.ireturn, 1) := by decide +kernel
theorem dX6_readText_0 : decode cX6_readText 0 = .ok (.aload_n 1, 1) := by decide +kernel
theorem dX6_readText_1 : decode cX6_readText 1 = .ok (.invokestatic 35, 3) := by decide +kernel
theorem dX6_readText_4 : decode cX6_readText 4 = .ok (.aload_n 0, 1) := by decide +kernel
theorem dX6_readText_5 : decode cX6_readText 5 = .ok (.iconst 0, 1) := by decide +kernel
theorem dX6_readText_6 : decode cX6_readText 6 = .ok (.putfield 104, 3) := by decide +kernel
theorem dX6_readText_9 : decode cX6_readText 9 = .ok (.aload_n 0, 1) := by decide +kernel
theorem dX6_readText_10 : decode cX6_readText 10 = .ok (.iconst 0, 1) := by decide +kernel
theorem dX6_readText_11 : decode cX6_readText 11 = .ok (.putfield 99, 3) := by decide +kernel
theorem dX6_readText_14 : decode cX6_readText 14 = .ok (.aload_n 0, 1) := by decide +kernel
theorem dX6_readText_15 : decode cX6_readText 15 = .ok (.getfield 92, 3) := by decide +kernel
theorem dX6_readText_18 : decode cX6_readText 18 = .ok (.ifCond .eq 14, 3) := by decide +kernel
theorem dX6_readText_21 : decode cX6_readText 21 = .ok (.aload_n 0, 1) := by decide +kernel
theorem dX6_readText_22 : decode cX6_readText 22 = .ok (.getfield 7, 3) := by decide +kernel
theorem dX6_readText_25 : decode cX6_readText 25 = .ok (.iconst 0, 1) := by decide +kernel
theorem dX6_readText_26 : decode cX6_readText 26 = .ok (.iaload, 1) := by decide +kernel
theorem dX6_readText_27 : decode cX6_readText 27 = .ok (.bipush 76, 2) := by decide +kernel
theorem dX6_readText_29 : decode cX6_readText 29 = .ok (.if_icmp .eq 5, 3) := by decide +kernel
theorem dX6_readText_32 : decode cX6_readText 32 = .ok (.iconst 0, 1) := by decide +kernel
theorem dX6_readText_33 : decode cX6_readText 33 = .ok (.ireturn, 1) := by decide +kernel
theorem dX6_readText_34 : decode cX6_readText 34 = .ok (.aload_n 0, 1) := by decide +kernel
theorem dX6_readText_35 : decode cX6_readText 35 = .ok (.iconst 1, 1) := by decide +kernel
theorem dX6_readText_36 : decode cX6_readText 36 = .ok (.putfield 99, 3) := by decide +kernel
theorem dX6_readText_39 : decode cX6_readText 39 = .ok (.aload_n 0, 1) := by decide +kernel
theorem dX6_readText_40 : decode cX6_readText 40 = .ok (.getfield 99, 3) := by decide +kernel
theorem dX6_readText_43 : decode cX6_readText 43 = .ok (.aload_n 0, 1) := by decide +kernel
theorem dX6_readText_44 : decode cX6_readText 44 = .ok (.getfield 92, 3) := by decide +kernel
theorem dX6_readText_47 : decode cX6_readText 47 = .ok (.if_icmp .ge 16, 3) := by decide +kernel
theorem dX6_readText_50 : decode cX6_readText 50 = .ok (.aload_n 0, 1) := by decide +kernel
theorem dX6_readText_51 : decode cX6_readText 51 = .ok (.aload_n 1, 1) := by decide +kernel
theorem dX6_readText_52 : decode cX6_readText 52 = .ok (.invokevirtual 170, 3) := by decide +kernel
theorem dX6_readText_55 : decode cX6_readText 55 = .ok (.ifCond .ne (-16), 3) := by decide +kernel
theorem dX6_readText_58 : decode cX6_readText 58 = .ok (.aload_n 0, 1) := by decide +kernel
theorem dX6_readText_59 : decode cX6_readText 59 = .ok (.getfield 99, 3) := by decide +kernel
theorem dX6_readText_62 : decode cX6_readText 62 = .ok (.ireturn, 1) := by decide +kernel
theorem dX6_readText_63 : decode cX6_readText 63 = .ok (.iconst (-1), 1) := by decide +kernel
theorem dX6_readText_64 : decode cX6_readText 64 = .ok (.ireturn, 1) := by decide +kernel
theorem dX6_errorPosition_0 : decode cX6_errorPosition 0 = .ok (.aload_n 0, 1) := by decide +kernel
theorem dX6_errorPosition_1 : decode cX6_errorPosition 1 = .ok (.iconst 0, 1) := by decide +kernel
theorem dX6_errorPosition_2 : decode cX6_errorPosition 2 = .ok (.putfield 39, 3) := by decide +kernel
theorem dX6_errorPosition_5 : decode cX6_errorPosition 5 = .ok (.aload_n 0, 1) := by decide +kernel
theorem dX6_errorPosition_6 : decode cX6_errorPosition 6 = .ok (.aload_n 0, 1) := by decide +kernel
theorem dX6_errorPosition_7 : decode cX6_errorPosition 7 = .ok (.getfield 16, 3) := by decide +kernel
theorem dX6_errorPosition_10 : decode cX6_errorPosition 10 = .ok (.invokevirtual 173, 3) := by decide +kernel
theorem dX6_errorPosition_13 : decode cX6_errorPosition 13 = .ok (.ireturn, 1) := by decide +kernel
theorem dX6_load_0 : decode cX6_load 0 = .ok (.aload_n 0, 1) := by decide +kernel
theorem dX6_load_1 : decode cX6_load 1 = .ok (.aload_n 0, 1) := by decide +kernel
theorem dX6_load_2 : decode cX6_load 2 = .ok (.aload_n 0, 1) := by decide +kernel
theorem dX6_load_3 : decode cX6_load 3 = .ok (.getfield 16, 3) := by decide +kernel
theorem dX6_load_6 : decode cX6_load 6 = .ok (.invokevirtual 173, 3) := by decide +kernel
theorem dX6_load_9 : decode cX6_load 9 = .ok (.iconst (-1), 1) := by decide +kernel
theorem dX6_load_10 : decode cX6_load 10 = .ok (.if_icmp .ne 7, 3) := by decide +kernel
theorem dX6_load_13 : decode cX6_load 13 = .ok (.iconst 0, 1) := by decide +kernel
theorem dX6_load_14 : decode cX6_load 14 = .ok (.goto 4, 3) := by decide +kernel
theorem dX6_load_17 : decode cX6_load 17 = .ok (.iconst 1, 1) := by decide +kernel
theorem dX6_load_18 : decode cX6_load 18 = .ok (.invokevirtual 95, 3) := by decide +kernel
theorem dX6_load_21 : decode cX6_load 21 = .ok (.ifCond .eq 5, 3) := by decide +kernel
theorem dX6_load_24 : decode cX6_load 24 = .ok (.iconst 0, 1) := by decide +kernel
theorem dX6_load_25 : decode cX6_load 25 = .ok (.ireturn, 1) := by decide +kernel
theorem dX6_load_26 : decode cX6_load 26 = .ok (.aload_n 0, 1) := by decide +kernel
theorem dX6_load_27 : decode cX6_load 27 = .ok (.getfield 16, 3) := by decide +kernel
theorem dX6_load_30 : decode cX6_load 30 = .ok (.iconst 0, 1) := by decide +kernel
theorem dX6_load_31 : decode cX6_load 31 = .ok (.aload_n 0, 1) := by decide +kernel
theorem dX6_load_32 : decode cX6_load 32 = .ok (.getfield 13, 3) := by decide +kernel
theorem dX6_load_35 : decode cX6_load 35 = .ok (.iconst 0, 1) := by decide +kernel
theorem dX6_load_36 : decode cX6_load 36 = .ok (.invokestatic 176, 3) := by decide +kernel
theorem dX6_load_39 : decode cX6_load 39 = .ok (.aload_n 0, 1) := by decide +kernel
theorem dX6_load_40 : decode cX6_load 40 = .ok (.iconst 0, 1) := by decide +kernel
theorem dX6_load_41 : decode cX6_load 41 = .ok (.putfield 180, 3) := by decide +kernel
theorem dX6_load_44 : decode cX6_load 44 = .ok (.aload_n 0, 1) := by decide +kernel
theorem dX6_load_45 : decode cX6_load 45 = .ok (.getfield 25, 3) := by decide +kernel
theorem dX6_load_48 : decode cX6_load 48 = .ok (.iconst 0, 1) := by decide +kernel
theorem dX6_load_49 : decode cX6_load 49 = .ok (.iconst 0, 1) := by decide +kernel
theorem dX6_load_50 : decode cX6_load 50 = .ok (.bastore, 1) := by decide +kernel
theorem dX6_load_51 : decode cX6_load 51 = .ok (.aload_n 0, 1) := by decide +kernel
theorem dX6_load_52 : decode cX6_load 52 = .ok (.getfield 25, 3) := by decide +kernel
theorem dX6_load_55 : decode cX6_load 55 = .ok (.iconst 1, 1) := by decide +kernel
theorem dX6_load_56 : decode cX6_load 56 = .ok (.iconst 0, 1) := by decide +kernel
theorem dX6_load_57 : decode cX6_load 57 = .ok (.bastore, 1) := by decide +kernel
theorem dX6_load_58 : decode cX6_load 58 = .ok (.aload_n 0, 1) := by decide +kernel
theorem dX6_load_59 : decode cX6_load 59 = .ok (.getfield 104, 3) := by decide +kernel
theorem dX6_load_62 : decode cX6_load 62 = .ok (.ireturn, 1) := by decide +kernel
theorem dX6_remember_0 : decode cX6_remember 0 = .ok (.aload_n 0, 1) := by decide +kernel
theorem dX6_remember_1 : decode cX6_remember 1 = .ok (.getfield 180, 3) := by decide +kernel
theorem dX6_remember_4 : decode cX6_remember 4 = .ok (.bipush 14, 2) := by decide +kernel
theorem dX6_remember_6 : decode cX6_remember 6 = .ok (.if_icmp .ne 43, 3) := by decide +kernel
theorem dX6_remember_9 : decode cX6_remember 9 = .ok (.iconst 0, 1) := by decide +kernel
theorem dX6_remember_10 : decode cX6_remember 10 = .ok (.istore_n 1, 1) := by decide +kernel
theorem dX6_remember_11 : decode cX6_remember 11 = .ok (.iload_n 1, 1) := by decide +kernel
theorem dX6_remember_12 : decode cX6_remember 12 = .ok (.sipush 767, 3) := by decide +kernel
theorem dX6_remember_15 : decode cX6_remember 15 = .ok (.if_icmp .ge 24, 3) := by decide +kernel
theorem dX6_remember_18 : decode cX6_remember 18 = .ok (.aload_n 0, 1) := by decide +kernel
theorem dX6_remember_19 : decode cX6_remember 19 = .ok (.getfield 19, 3) := by decide +kernel
theorem dX6_remember_22 : decode cX6_remember 22 = .ok (.iload_n 1, 1) := by decide +kernel
theorem dX6_remember_23 : decode cX6_remember 23 = .ok (.aload_n 0, 1) := by decide +kernel
theorem dX6_remember_24 : decode cX6_remember 24 = .ok (.getfield 19, 3) := by decide +kernel
theorem dX6_remember_27 : decode cX6_remember 27 = .ok (.iload_n 1, 1) := by decide +kernel
theorem dX6_remember_28 : decode cX6_remember 28 = .ok (.bipush 59, 2) := by decide +kernel
theorem dX6_remember_30 : decode cX6_remember 30 = .ok (.iadd, 1) := by decide +kernel
theorem dX6_remember_31 : decode cX6_remember 31 = .ok (.iaload, 1) := by decide +kernel
theorem dX6_remember_32 : decode cX6_remember 32 = .ok (.iastore, 1) := by decide +kernel
theorem dX6_remember_33 : decode cX6_remember 33 = .ok (.iinc 1 1, 3) := by decide +kernel
theorem dX6_remember_36 : decode cX6_remember 36 = .ok (.goto (-25), 3) := by decide +kernel
theorem dX6_remember_39 : decode cX6_remember 39 = .ok (.aload_n 0, 1) := by decide +kernel
theorem dX6_remember_40 : decode cX6_remember 40 = .ok (.dup, 1) := by decide +kernel
theorem dX6_remember_41 : decode cX6_remember 41 = .ok (.getfield 180, 3) := by decide +kernel
theorem dX6_remember_44 : decode cX6_remember 44 = .ok (.iconst 1, 1) := by decide +kernel
theorem dX6_remember_45 : decode cX6_remember 45 = .ok (.isub, 1) := by decide +kernel
theorem dX6_remember_46 : decode cX6_remember 46 = .ok (.putfield 180, 3) := by decide +kernel
theorem dX6_remember_49 : decode cX6_remember 49 = .ok (.aload_n 0, 1) := by decide +kernel
theorem dX6_remember_50 : decode cX6_remember 50 = .ok (.getfield 13, 3) := by decide +kernel
theorem dX6_remember_53 : decode cX6_remember 53 = .ok (.iconst 0, 1) := by decide +kernel
theorem dX6_remember_54 : decode cX6_remember 54 = .ok (.aload_n 0, 1) := by decide +kernel
theorem dX6_remember_55 : decode cX6_remember 55 = .ok (.getfield 19, 3) := by decide +kernel
theorem dX6_remember_58 : decode cX6_remember 58 = .ok (.bipush 59, 2) := by decide +kernel
theorem dX6_remember_60 : decode cX6_remember 60 = .ok (.aload_n 0, 1) := by decide +kernel
theorem dX6_remember_61 : decode cX6_remember 61 = .ok (.getfield 180, 3) := by decide +kernel
theorem dX6_remember_64 : decode cX6_remember 64 = .ok (.imul, 1) := by decide +kernel
theorem dX6_remember_65 : decode cX6_remember 65 = .ok (.invokestatic 176, 3) := by decide +kernel
theorem dX6_remember_68 : decode cX6_remember 68 = .ok (.aload_n 0, 1) := by decide +kernel
theorem dX6_remember_69 : decode cX6_remember 69 = .ok (.dup, 1) := by decide +kernel
theorem dX6_remember_70 : decode cX6_remember 70 = .ok (.getfield 180, 3) := by decide +kernel
theorem dX6_remember_73 : decode cX6_remember 73 = .ok (.iconst 1, 1) := by decide +kernel
theorem dX6_remember_74 : decode cX6_remember 74 = .ok (.iadd, 1) := by decide +kernel
theorem dX6_remember_75 : decode cX6_remember 75 = .ok (.putfield 180, 3) := by decide +kernel
theorem dX6_remember_78 : decode cX6_remember 78 = .ok (.return_, 1) := by decide +kernel
theorem dX6_makes_0 : decode cX6_makes 0 = .ok (.aload_n 0, 1) := by decide +kernel
theorem dX6_makes_1 : decode cX6_makes 1 = .ok (.iload_n 1, 1) := by decide +kernel
theorem dX6_makes_2 : decode cX6_makes 2 = .ok (.ifCond .le 7, 3) := by decide +kernel
theorem dX6_makes_5 : decode cX6_makes 5 = .ok (.iload_n 1, 1) := by decide +kernel
theorem dX6_makes_6 : decode cX6_makes 6 = .ok (.goto 18, 3) := by decide +kernel
theorem dX6_makes_9 : decode cX6_makes 9 = .ok (.aload_n 0, 1) := by decide +kernel
theorem dX6_makes_10 : decode cX6_makes 10 = .ok (.getfield 13, 3) := by decide +kernel
theorem dX6_makes_13 : decode cX6_makes 13 = .ok (.invokestatic 111, 3) := by decide +kernel
theorem dX6_makes_16 : decode cX6_makes 16 = .ok (.ifCond .eq 7, 3) := by decide +kernel
theorem dX6_makes_19 : decode cX6_makes 19 = .ok (.iconst 0, 1) := by decide +kernel
theorem dX6_makes_20 : decode cX6_makes 20 = .ok (.goto 4, 3) := by decide +kernel
theorem dX6_makes_23 : decode cX6_makes 23 = .ok (.iload_n 2, 1) := by decide +kernel
theorem dX6_makes_24 : decode cX6_makes 24 = .ok (.invokevirtual 95, 3) := by decide +kernel
theorem dX6_makes_27 : decode cX6_makes 27 = .ok (.ifCond .eq 5, 3) := by decide +kernel
theorem dX6_makes_30 : decode cX6_makes 30 = .ok (.iconst 0, 1) := by decide +kernel
theorem dX6_makes_31 : decode cX6_makes 31 = .ok (.ireturn, 1) := by decide +kernel
theorem dX6_makes_32 : decode cX6_makes 32 = .ok (.aload_n 0, 1) := by decide +kernel
theorem dX6_makes_33 : decode cX6_makes 33 = .ok (.invokevirtual 183, 3) := by decide +kernel
theorem dX6_makes_36 : decode cX6_makes 36 = .ok (.aload_n 0, 1) := by decide +kernel
theorem dX6_makes_37 : decode cX6_makes 37 = .ok (.getfield 13, 3) := by decide +kernel
theorem dX6_makes_40 : decode cX6_makes 40 = .ok (.iload_n 3, 1) := by decide +kernel
theorem dX6_makes_41 : decode cX6_makes 41 = .ok (.iload 4, 2) := by decide +kernel
theorem dX6_makes_43 : decode cX6_makes 43 = .ok (.iload 5, 2) := by decide +kernel
theorem dX6_makes_45 : decode cX6_makes 45 = .ok (.iload 6, 2) := by decide +kernel
theorem dX6_makes_47 : decode cX6_makes 47 = .ok (.invokestatic 115, 3) := by decide +kernel
theorem dX6_makes_50 : decode cX6_makes 50 = .ok (.ireturn, 1) := by decide +kernel
theorem dX6_makeSteps_0 : decode cX6_makeSteps 0 = .ok (.aload_n 0, 1) := by decide +kernel
theorem dX6_makeSteps_1 : decode cX6_makeSteps 1 = .ok (.iload_n 1, 1) := by decide +kernel
theorem dX6_makeSteps_2 : decode cX6_makeSteps 2 = .ok (.i2l, 1) := by decide +kernel
theorem dX6_makeSteps_3 : decode cX6_makeSteps 3 = .ok (.lconst 0, 1) := by decide +kernel
theorem dX6_makeSteps_4 : decode cX6_makeSteps 4 = .ok (.ldc2_w 186, 3) := by decide +kernel
theorem dX6_makeSteps_7 : decode cX6_makeSteps 7 = .ok (.invokestatic 43, 3) := by decide +kernel
theorem dX6_makeSteps_10 : decode cX6_makeSteps 10 = .ok (.ifCond .eq 19, 3) := by decide +kernel
theorem dX6_makeSteps_13 : decode cX6_makeSteps 13 = .ok (.iload_n 2, 1) := by decide +kernel
theorem dX6_makeSteps_14 : decode cX6_makeSteps 14 = .ok (.i2l, 1) := by decide +kernel
theorem dX6_makeSteps_15 : decode cX6_makeSteps 15 = .ok (.lconst 1, 1) := by decide +kernel
theorem dX6_makeSteps_16 : decode cX6_makeSteps 16 = .ok (.ldc2_w 188, 3) := by decide +kernel
theorem dX6_makeSteps_19 : decode cX6_makeSteps 19 = .ok (.invokestatic 43, 3) := by decide +kernel
theorem dX6_makeSteps_22 : decode cX6_makeSteps 22 = .ok (.ifCond .eq 7, 3) := by decide +kernel
theorem dX6_makeSteps_25 : decode cX6_makeSteps 25 = .ok (.iconst 0, 1) := by decide +kernel
theorem dX6_makeSteps_26 : decode cX6_makeSteps 26 = .ok (.goto 4, 3) := by decide +kernel
theorem dX6_makeSteps_29 : decode cX6_makeSteps 29 = .ok (.iconst 1, 1) := by decide +kernel
theorem dX6_makeSteps_30 : decode cX6_makeSteps 30 = .ok (.iconst 2, 1) := by decide +kernel
theorem dX6_makeSteps_31 : decode cX6_makeSteps 31 = .ok (.iconst 0, 1) := by decide +kernel
theorem dX6_makeSteps_32 : decode cX6_makeSteps 32 = .ok (.iload_n 1, 1) := by decide +kernel
theorem dX6_makeSteps_33 : decode cX6_makeSteps 33 = .ok (.iload_n 2, 1) := by decide +kernel
theorem dX6_makeSteps_34 : decode cX6_makeSteps 34 = .ok (.iconst 0, 1) := by decide +kernel
theorem dX6_makeSteps_35 : decode cX6_makeSteps 35 = .ok (.invokevirtual 190, 3) := by decide +kernel
theorem dX6_makeSteps_38 : decode cX6_makeSteps 38 = .ok (.ireturn, 1) := by decide +kernel
theorem dX6_makeScaled_0 : decode cX6_makeScaled 0 = .ok (.aload_n 0, 1) := by decide +kernel
theorem dX6_makeScaled_1 : decode cX6_makeScaled 1 = .ok (.aload_n 0, 1) := by decide +kernel
theorem dX6_makeScaled_2 : decode cX6_makeScaled 2 = .ok (.getfield 13, 3) := by decide +kernel
theorem dX6_makeScaled_5 : decode cX6_makeScaled 5 = .ok (.iload_n 1, 1) := by decide +kernel
theorem dX6_makeScaled_6 : decode cX6_makeScaled 6 = .ok (.invokestatic 123, 3) := by decide +kernel
theorem dX6_makeScaled_9 : decode cX6_makeScaled 9 = .ok (.ifCond .ne 7, 3) := by decide +kernel
theorem dX6_makeScaled_12 : decode cX6_makeScaled 12 = .ok (.iconst 1, 1) := by decide +kernel
theorem dX6_makeScaled_13 : decode cX6_makeScaled 13 = .ok (.goto 32, 3) := by decide +kernel
theorem dX6_makeScaled_16 : decode cX6_makeScaled 16 = .ok (.iload_n 2, 1) := by decide +kernel
theorem dX6_makeScaled_17 : decode cX6_makeScaled 17 = .ok (.i2l, 1) := by decide +kernel
theorem dX6_makeScaled_18 : decode cX6_makeScaled 18 = .ok (.lconst 1, 1) := by decide +kernel
theorem dX6_makeScaled_19 : decode cX6_makeScaled 19 = .ok (.ldc2_w 102, 3) := by decide +kernel
theorem dX6_makeScaled_22 : decode cX6_makeScaled 22 = .ok (.invokestatic 43, 3) := by decide +kernel
theorem dX6_makeScaled_25 : decode cX6_makeScaled 25 = .ok (.ifCond .eq 19, 3) := by decide +kernel
theorem dX6_makeScaled_28 : decode cX6_makeScaled 28 = .ok (.iload_n 3, 1) := by decide +kernel
theorem dX6_makeScaled_29 : decode cX6_makeScaled 29 = .ok (.i2l, 1) := by decide +kernel
theorem dX6_makeScaled_30 : decode cX6_makeScaled 30 = .ok (.lconst 0, 1) := by decide +kernel
theorem dX6_makeScaled_31 : decode cX6_makeScaled 31 = .ok (.ldc2_w 188, 3) := by decide +kernel
theorem dX6_makeScaled_34 : decode cX6_makeScaled 34 = .ok (.invokestatic 43, 3) := by decide +kernel
theorem dX6_makeScaled_37 : decode cX6_makeScaled 37 = .ok (.ifCond .eq 7, 3) := by decide +kernel
theorem dX6_makeScaled_40 : decode cX6_makeScaled 40 = .ok (.iconst 0, 1) := by decide +kernel
theorem dX6_makeScaled_41 : decode cX6_makeScaled 41 = .ok (.goto 4, 3) := by decide +kernel
theorem dX6_makeScaled_44 : decode cX6_makeScaled 44 = .ok (.iconst 2, 1) := by decide +kernel
theorem dX6_makeScaled_45 : decode cX6_makeScaled 45 = .ok (.iconst 3, 1) := by decide +kernel
theorem dX6_makeScaled_46 : decode cX6_makeScaled 46 = .ok (.iconst 1, 1) := by decide +kernel
theorem dX6_makeScaled_47 : decode cX6_makeScaled 47 = .ok (.iload_n 1, 1) := by decide +kernel
theorem dX6_makeScaled_48 : decode cX6_makeScaled 48 = .ok (.iload_n 2, 1) := by decide +kernel
theorem dX6_makeScaled_49 : decode cX6_makeScaled 49 = .ok (.iload_n 3, 1) := by decide +kernel
theorem dX6_makeScaled_50 : decode cX6_makeScaled 50 = .ok (.invokevirtual 190, 3) := by decide +kernel
theorem dX6_makeScaled_53 : decode cX6_makeScaled 53 = .ok (.ireturn, 1) := by decide +kernel
theorem dX6_neither_0 : decode cX6_neither 0 = .ok (.aload_n 0, 1) := by decide +kernel
theorem dX6_neither_1 : decode cX6_neither 1 = .ok (.getfield 13, 3) := by decide +kernel
theorem dX6_neither_4 : decode cX6_neither 4 = .ok (.iload_n 1, 1) := by decide +kernel
theorem dX6_neither_5 : decode cX6_neither 5 = .ok (.invokestatic 123, 3) := by decide +kernel
theorem dX6_neither_8 : decode cX6_neither 8 = .ok (.ifCond .eq 18, 3) := by decide +kernel
theorem dX6_neither_11 : decode cX6_neither 11 = .ok (.aload_n 0, 1) := by decide +kernel
theorem dX6_neither_12 : decode cX6_neither 12 = .ok (.getfield 13, 3) := by decide +kernel
theorem dX6_neither_15 : decode cX6_neither 15 = .ok (.iload_n 2, 1) := by decide +kernel
theorem dX6_neither_16 : decode cX6_neither 16 = .ok (.invokestatic 123, 3) := by decide +kernel
theorem dX6_neither_19 : decode cX6_neither 19 = .ok (.ifCond .eq 7, 3) := by decide +kernel
theorem dX6_neither_22 : decode cX6_neither 22 = .ok (.iconst 0, 1) := by decide +kernel
theorem dX6_neither_23 : decode cX6_neither 23 = .ok (.goto 4, 3) := by decide +kernel
theorem dX6_neither_26 : decode cX6_neither 26 = .ok (.iconst 1, 1) := by decide +kernel
theorem dX6_neither_27 : decode cX6_neither 27 = .ok (.ireturn, 1) := by decide +kernel
theorem dX6_makeJoined_0 : decode cX6_makeJoined 0 = .ok (.aload_n 0, 1) := by decide +kernel
theorem dX6_makeJoined_1 : decode cX6_makeJoined 1 = .ok (.aload_n 0, 1) := by decide +kernel
theorem dX6_makeJoined_2 : decode cX6_makeJoined 2 = .ok (.iload_n 1, 1) := by decide +kernel
theorem dX6_makeJoined_3 : decode cX6_makeJoined 3 = .ok (.iload_n 2, 1) := by decide +kernel
theorem dX6_makeJoined_4 : decode cX6_makeJoined 4 = .ok (.invokevirtual 194, 3) := by decide +kernel
theorem dX6_makeJoined_7 : decode cX6_makeJoined 7 = .ok (.iconst 2, 1) := by decide +kernel
theorem dX6_makeJoined_8 : decode cX6_makeJoined 8 = .ok (.iconst 2, 1) := by decide +kernel
theorem dX6_makeJoined_9 : decode cX6_makeJoined 9 = .ok (.iload_n 1, 1) := by decide +kernel
theorem dX6_makeJoined_10 : decode cX6_makeJoined 10 = .ok (.iload_n 2, 1) := by decide +kernel
theorem dX6_makeJoined_11 : decode cX6_makeJoined 11 = .ok (.iconst 0, 1) := by decide +kernel
theorem dX6_makeJoined_12 : decode cX6_makeJoined 12 = .ok (.invokevirtual 190, 3) := by decide +kernel
theorem dX6_makeJoined_15 : decode cX6_makeJoined 15 = .ok (.ireturn, 1) := by decide +kernel
theorem dX6_makeShared_0 : decode cX6_makeShared 0 = .ok (.aload_n 0, 1) := by decide +kernel
theorem dX6_makeShared_1 : decode cX6_makeShared 1 = .ok (.aload_n 0, 1) := by decide +kernel
theorem dX6_makeShared_2 : decode cX6_makeShared 2 = .ok (.iload_n 1, 1) := by decide +kernel
theorem dX6_makeShared_3 : decode cX6_makeShared 3 = .ok (.iload_n 2, 1) := by decide +kernel
theorem dX6_makeShared_4 : decode cX6_makeShared 4 = .ok (.invokevirtual 194, 3) := by decide +kernel
theorem dX6_makeShared_7 : decode cX6_makeShared 7 = .ok (.iconst 2, 1) := by decide +kernel
theorem dX6_makeShared_8 : decode cX6_makeShared 8 = .ok (.iconst 3, 1) := by decide +kernel
theorem dX6_makeShared_9 : decode cX6_makeShared 9 = .ok (.iload_n 1, 1) := by decide +kernel
theorem dX6_makeShared_10 : decode cX6_makeShared 10 = .ok (.iload_n 2, 1) := by decide +kernel
theorem dX6_makeShared_11 : decode cX6_makeShared 11 = .ok (.iconst 0, 1) := by decide +kernel
theorem dX6_makeShared_12 : decode cX6_makeShared 12 = .ok (.invokevirtual 190, 3) := by decide +kernel
theorem dX6_makeShared_15 : decode cX6_makeShared 15 = .ok (.ireturn, 1) := by decide +kernel
theorem dX6_makeWithout_0 : decode cX6_makeWithout 0 = .ok (.aload_n 0, 1) := by decide +kernel
theorem dX6_makeWithout_1 : decode cX6_makeWithout 1 = .ok (.aload_n 0, 1) := by decide +kernel
theorem dX6_makeWithout_2 : decode cX6_makeWithout 2 = .ok (.iload_n 1, 1) := by decide +kernel
theorem dX6_makeWithout_3 : decode cX6_makeWithout 3 = .ok (.iload_n 2, 1) := by decide +kernel
theorem dX6_makeWithout_4 : decode cX6_makeWithout 4 = .ok (.invokevirtual 194, 3) := by decide +kernel
theorem dX6_makeWithout_7 : decode cX6_makeWithout 7 = .ok (.iconst 2, 1) := by decide +kernel
theorem dX6_makeWithout_8 : decode cX6_makeWithout 8 = .ok (.iconst 4, 1) := by decide +kernel
theorem dX6_makeWithout_9 : decode cX6_makeWithout 9 = .ok (.iload_n 1, 1) := by decide +kernel
theorem dX6_makeWithout_10 : decode cX6_makeWithout 10 = .ok (.iload_n 2, 1) := by decide +kernel
theorem dX6_makeWithout_11 : decode cX6_makeWithout 11 = .ok (.iconst 0, 1) := by decide +kernel
theorem dX6_makeWithout_12 : decode cX6_makeWithout 12 = .ok (.invokevirtual 190, 3) := by decide +kernel
theorem dX6_makeWithout_15 : decode cX6_makeWithout 15 = .ok (.ireturn, 1) := by decide +kernel
theorem dX6_makeSieved_0 : decode cX6_makeSieved 0 = .ok (.aload_n 0, 1) := by decide +kernel
theorem dX6_makeSieved_1 : decode cX6_makeSieved 1 = .ok (.aload_n 0, 1) := by decide +kernel
theorem dX6_makeSieved_2 : decode cX6_makeSieved 2 = .ok (.getfield 13, 3) := by decide +kernel
theorem dX6_makeSieved_5 : decode cX6_makeSieved 5 = .ok (.iload_n 1, 1) := by decide +kernel
theorem dX6_makeSieved_6 : decode cX6_makeSieved 6 = .ok (.invokestatic 123, 3) := by decide +kernel
theorem dX6_makeSieved_9 : decode cX6_makeSieved 9 = .ok (.ifCond .eq 7, 3) := by decide +kernel
theorem dX6_makeSieved_12 : decode cX6_makeSieved 12 = .ok (.iconst 0, 1) := by decide +kernel
theorem dX6_makeSieved_13 : decode cX6_makeSieved 13 = .ok (.goto 4, 3) := by decide +kernel
theorem dX6_makeSieved_16 : decode cX6_makeSieved 16 = .ok (.iconst 1, 1) := by decide +kernel
theorem dX6_makeSieved_17 : decode cX6_makeSieved 17 = .ok (.iconst 2, 1) := by decide +kernel
theorem dX6_makeSieved_18 : decode cX6_makeSieved 18 = .ok (.iconst 5, 1) := by decide +kernel
theorem dX6_makeSieved_19 : decode cX6_makeSieved 19 = .ok (.iload_n 1, 1) := by decide +kernel
theorem dX6_makeSieved_20 : decode cX6_makeSieved 20 = .ok (.iconst 0, 1) := by decide +kernel
theorem dX6_makeSieved_21 : decode cX6_makeSieved 21 = .ok (.iconst 0, 1) := by decide +kernel
theorem dX6_makeSieved_22 : decode cX6_makeSieved 22 = .ok (.invokevirtual 190, 3) := by decide +kernel
theorem dX6_makeSieved_25 : decode cX6_makeSieved 25 = .ok (.ireturn, 1) := by decide +kernel
theorem dX6_makeThinned_0 : decode cX6_makeThinned 0 = .ok (.aload_n 0, 1) := by decide +kernel
theorem dX6_makeThinned_1 : decode cX6_makeThinned 1 = .ok (.aload_n 0, 1) := by decide +kernel
theorem dX6_makeThinned_2 : decode cX6_makeThinned 2 = .ok (.getfield 13, 3) := by decide +kernel
theorem dX6_makeThinned_5 : decode cX6_makeThinned 5 = .ok (.iload_n 1, 1) := by decide +kernel
theorem dX6_makeThinned_6 : decode cX6_makeThinned 6 = .ok (.invokestatic 123, 3) := by decide +kernel
theorem dX6_makeThinned_9 : decode cX6_makeThinned 9 = .ok (.ifCond .ne 7, 3) := by decide +kernel
theorem dX6_makeThinned_12 : decode cX6_makeThinned 12 = .ok (.iconst 1, 1) := by decide +kernel
theorem dX6_makeThinned_13 : decode cX6_makeThinned 13 = .ok (.goto 20, 3) := by decide +kernel
theorem dX6_makeThinned_16 : decode cX6_makeThinned 16 = .ok (.iload_n 2, 1) := by decide +kernel
theorem dX6_makeThinned_17 : decode cX6_makeThinned 17 = .ok (.i2l, 1) := by decide +kernel
theorem dX6_makeThinned_18 : decode cX6_makeThinned 18 = .ok (.lconst 1, 1) := by decide +kernel
theorem dX6_makeThinned_19 : decode cX6_makeThinned 19 = .ok (.ldc2_w 102, 3) := by decide +kernel
theorem dX6_makeThinned_22 : decode cX6_makeThinned 22 = .ok (.invokestatic 43, 3) := by decide +kernel
theorem dX6_makeThinned_25 : decode cX6_makeThinned 25 = .ok (.ifCond .eq 7, 3) := by decide +kernel
theorem dX6_makeThinned_28 : decode cX6_makeThinned 28 = .ok (.iconst 0, 1) := by decide +kernel
theorem dX6_makeThinned_29 : decode cX6_makeThinned 29 = .ok (.goto 4, 3) := by decide +kernel
theorem dX6_makeThinned_32 : decode cX6_makeThinned 32 = .ok (.iconst 2, 1) := by decide +kernel
theorem dX6_makeThinned_33 : decode cX6_makeThinned 33 = .ok (.iconst 3, 1) := by decide +kernel
theorem dX6_makeThinned_34 : decode cX6_makeThinned 34 = .ok (.bipush 6, 2) := by decide +kernel
theorem dX6_makeThinned_36 : decode cX6_makeThinned 36 = .ok (.iload_n 1, 1) := by decide +kernel
theorem dX6_makeThinned_37 : decode cX6_makeThinned 37 = .ok (.iload_n 2, 1) := by decide +kernel
theorem dX6_makeThinned_38 : decode cX6_makeThinned 38 = .ok (.iconst 0, 1) := by decide +kernel
theorem dX6_makeThinned_39 : decode cX6_makeThinned 39 = .ok (.invokevirtual 190, 3) := by decide +kernel
theorem dX6_makeThinned_42 : decode cX6_makeThinned 42 = .ok (.ireturn, 1) := by decide +kernel
theorem dX6_makeAddedUp_0 : decode cX6_makeAddedUp 0 = .ok (.aload_n 0, 1) := by decide +kernel
theorem dX6_makeAddedUp_1 : decode cX6_makeAddedUp 1 = .ok (.aload_n 0, 1) := by decide +kernel
theorem dX6_makeAddedUp_2 : decode cX6_makeAddedUp 2 = .ok (.getfield 13, 3) := by decide +kernel
theorem dX6_makeAddedUp_5 : decode cX6_makeAddedUp 5 = .ok (.iload_n 1, 1) := by decide +kernel
theorem dX6_makeAddedUp_6 : decode cX6_makeAddedUp 6 = .ok (.invokestatic 123, 3) := by decide +kernel
theorem dX6_makeAddedUp_9 : decode cX6_makeAddedUp 9 = .ok (.ifCond .eq 7, 3) := by decide +kernel
theorem dX6_makeAddedUp_12 : decode cX6_makeAddedUp 12 = .ok (.iconst 0, 1) := by decide +kernel
theorem dX6_makeAddedUp_13 : decode cX6_makeAddedUp 13 = .ok (.goto 4, 3) := by decide +kernel
theorem dX6_makeAddedUp_16 : decode cX6_makeAddedUp 16 = .ok (.iconst 1, 1) := by decide +kernel
theorem dX6_makeAddedUp_17 : decode cX6_makeAddedUp 17 = .ok (.iconst 2, 1) := by decide +kernel
theorem dX6_makeAddedUp_18 : decode cX6_makeAddedUp 18 = .ok (.bipush 7, 2) := by decide +kernel
theorem dX6_makeAddedUp_20 : decode cX6_makeAddedUp 20 = .ok (.iload_n 1, 1) := by decide +kernel
theorem dX6_makeAddedUp_21 : decode cX6_makeAddedUp 21 = .ok (.iconst 0, 1) := by decide +kernel
theorem dX6_makeAddedUp_22 : decode cX6_makeAddedUp 22 = .ok (.iconst 0, 1) := by decide +kernel
theorem dX6_makeAddedUp_23 : decode cX6_makeAddedUp 23 = .ok (.invokevirtual 190, 3) := by decide +kernel
theorem dX6_makeAddedUp_26 : decode cX6_makeAddedUp 26 = .ok (.ireturn, 1) := by decide +kernel
theorem dX6_dropLast_0 : decode cX6_dropLast 0 = .ok (.aload_n 0, 1) := by decide +kernel
theorem dX6_dropLast_1 : decode cX6_dropLast 1 = .ok (.aload_n 0, 1) := by decide +kernel
theorem dX6_dropLast_2 : decode cX6_dropLast 2 = .ok (.getfield 13, 3) := by decide +kernel
theorem dX6_dropLast_5 : decode cX6_dropLast 5 = .ok (.invokestatic 163, 3) := by decide +kernel
theorem dX6_dropLast_8 : decode cX6_dropLast 8 = .ok (.ifCond .ne 7, 3) := by decide +kernel
theorem dX6_dropLast_11 : decode cX6_dropLast 11 = .ok (.iconst 0, 1) := by decide +kernel
theorem dX6_dropLast_12 : decode cX6_dropLast 12 = .ok (.goto 4, 3) := by decide +kernel
theorem dX6_dropLast_15 : decode cX6_dropLast 15 = .ok (.iconst 1, 1) := by decide +kernel
theorem dX6_dropLast_16 : decode cX6_dropLast 16 = .ok (.invokevirtual 95, 3) := by decide +kernel
theorem dX6_dropLast_19 : decode cX6_dropLast 19 = .ok (.ifCond .eq 5, 3) := by decide +kernel
theorem dX6_dropLast_22 : decode cX6_dropLast 22 = .ok (.iconst 0, 1) := by decide +kernel
theorem dX6_dropLast_23 : decode cX6_dropLast 23 = .ok (.ireturn, 1) := by decide +kernel
theorem dX6_dropLast_24 : decode cX6_dropLast 24 = .ok (.aload_n 0, 1) := by decide +kernel
theorem dX6_dropLast_25 : decode cX6_dropLast 25 = .ok (.invokevirtual 183, 3) := by decide +kernel
theorem dX6_dropLast_28 : decode cX6_dropLast 28 = .ok (.aload_n 0, 1) := by decide +kernel
theorem dX6_dropLast_29 : decode cX6_dropLast 29 = .ok (.getfield 13, 3) := by decide +kernel
theorem dX6_dropLast_32 : decode cX6_dropLast 32 = .ok (.invokestatic 167, 3) := by decide +kernel
theorem dX6_dropLast_35 : decode cX6_dropLast 35 = .ok (.ireturn, 1) := by decide +kernel
theorem dX6_beginReading_0 : decode cX6_beginReading 0 = .ok (.aload_n 0, 1) := by decide +kernel
theorem dX6_beginReading_1 : decode cX6_beginReading 1 = .ok (.aload_n 0, 1) := by decide +kernel
theorem dX6_beginReading_2 : decode cX6_beginReading 2 = .ok (.getfield 13, 3) := by decide +kernel
theorem dX6_beginReading_5 : decode cX6_beginReading 5 = .ok (.iload_n 1, 1) := by decide +kernel
theorem dX6_beginReading_6 : decode cX6_beginReading 6 = .ok (.invokestatic 123, 3) := by decide +kernel
theorem dX6_beginReading_9 : decode cX6_beginReading 9 = .ok (.ifCond .ne 7, 3) := by decide +kernel
theorem dX6_beginReading_12 : decode cX6_beginReading 12 = .ok (.iconst 1, 1) := by decide +kernel
theorem dX6_beginReading_13 : decode cX6_beginReading 13 = .ok (.goto 18, 3) := by decide +kernel
theorem dX6_beginReading_16 : decode cX6_beginReading 16 = .ok (.aload_n 0, 1) := by decide +kernel
theorem dX6_beginReading_17 : decode cX6_beginReading 17 = .ok (.getfield 13, 3) := by decide +kernel
theorem dX6_beginReading_20 : decode cX6_beginReading 20 = .ok (.iconst 1, 1) := by decide +kernel
theorem dX6_beginReading_21 : decode cX6_beginReading 21 = .ok (.iaload, 1) := by decide +kernel
theorem dX6_beginReading_22 : decode cX6_beginReading 22 = .ok (.iconst 4, 1) := by decide +kernel
theorem dX6_beginReading_23 : decode cX6_beginReading 23 = .ok (.if_icmp .ge 7, 3) := by decide +kernel
theorem dX6_beginReading_26 : decode cX6_beginReading 26 = .ok (.iconst 0, 1) := by decide +kernel
theorem dX6_beginReading_27 : decode cX6_beginReading 27 = .ok (.goto 4, 3) := by decide +kernel
theorem dX6_beginReading_30 : decode cX6_beginReading 30 = .ok (.iconst 2, 1) := by decide +kernel
theorem dX6_beginReading_31 : decode cX6_beginReading 31 = .ok (.invokevirtual 95, 3) := by decide +kernel
theorem dX6_beginReading_34 : decode cX6_beginReading 34 = .ok (.ifCond .eq 5, 3) := by decide +kernel
theorem dX6_beginReading_37 : decode cX6_beginReading 37 = .ok (.iconst 0, 1) := by decide +kernel
theorem dX6_beginReading_38 : decode cX6_beginReading 38 = .ok (.ireturn, 1) := by decide +kernel
theorem dX6_beginReading_39 : decode cX6_beginReading 39 = .ok (.aload_n 0, 1) := by decide +kernel
theorem dX6_beginReading_40 : decode cX6_beginReading 40 = .ok (.invokevirtual 183, 3) := by decide +kernel
theorem dX6_beginReading_43 : decode cX6_beginReading 43 = .ok (.aload_n 0, 1) := by decide +kernel
theorem dX6_beginReading_44 : decode cX6_beginReading 44 = .ok (.getfield 13, 3) := by decide +kernel
theorem dX6_beginReading_47 : decode cX6_beginReading 47 = .ok (.iload_n 1, 1) := by decide +kernel
theorem dX6_beginReading_48 : decode cX6_beginReading 48 = .ok (.invokestatic 157, 3) := by decide +kernel
theorem dX6_beginReading_51 : decode cX6_beginReading 51 = .ok (.ireturn, 1) := by decide +kernel
theorem dX6_read_0 : decode cX6_read 0 = .ok (.aload_n 0, 1) := by decide +kernel
theorem dX6_read_1 : decode cX6_read 1 = .ok (.aload_n 0, 1) := by decide +kernel
theorem dX6_read_2 : decode cX6_read 2 = .ok (.getfield 13, 3) := by decide +kernel
theorem dX6_read_5 : decode cX6_read 5 = .ok (.invokevirtual 127, 3) := by decide +kernel
theorem dX6_read_8 : decode cX6_read 8 = .ok (.aload_n 0, 1) := by decide +kernel
theorem dX6_read_9 : decode cX6_read 9 = .ok (.aload_n 0, 1) := by decide +kernel
theorem dX6_read_10 : decode cX6_read 10 = .ok (.getfield 13, 3) := by decide +kernel
theorem dX6_read_13 : decode cX6_read 13 = .ok (.iload_n 1, 1) := by decide +kernel
theorem dX6_read_14 : decode cX6_read 14 = .ok (.invokestatic 130, 3) := by decide +kernel
theorem dX6_read_17 : decode cX6_read 17 = .ok (.ifCond .ne 7, 3) := by decide +kernel
theorem dX6_read_20 : decode cX6_read 20 = .ok (.iconst 1, 1) := by decide +kernel
theorem dX6_read_21 : decode cX6_read 21 = .ok (.goto 21, 3) := by decide +kernel
theorem dX6_read_24 : decode cX6_read 24 = .ok (.aload_n 0, 1) := by decide +kernel
theorem dX6_read_25 : decode cX6_read 25 = .ok (.aload_n 0, 1) := by decide +kernel
theorem dX6_read_26 : decode cX6_read 26 = .ok (.getfield 13, 3) := by decide +kernel
theorem dX6_read_29 : decode cX6_read 29 = .ok (.iload_n 1, 1) := by decide +kernel
theorem dX6_read_30 : decode cX6_read 30 = .ok (.invokevirtual 84, 3) := by decide +kernel
theorem dX6_read_33 : decode cX6_read 33 = .ok (.iconst (-1), 1) := by decide +kernel
theorem dX6_read_34 : decode cX6_read 34 = .ok (.if_icmp .eq 7, 3) := by decide +kernel
theorem dX6_read_37 : decode cX6_read 37 = .ok (.iconst 0, 1) := by decide +kernel
theorem dX6_read_38 : decode cX6_read 38 = .ok (.goto 4, 3) := by decide +kernel
theorem dX6_read_41 : decode cX6_read 41 = .ok (.iconst 2, 1) := by decide +kernel
theorem dX6_read_42 : decode cX6_read 42 = .ok (.invokevirtual 95, 3) := by decide +kernel
theorem dX6_read_45 : decode cX6_read 45 = .ok (.ifCond .eq 5, 3) := by decide +kernel
theorem dX6_read_48 : decode cX6_read 48 = .ok (.iconst 0, 1) := by decide +kernel
theorem dX6_read_49 : decode cX6_read 49 = .ok (.ireturn, 1) := by decide +kernel
theorem dX6_read_50 : decode cX6_read 50 = .ok (.aload_n 0, 1) := by decide +kernel
theorem dX6_read_51 : decode cX6_read 51 = .ok (.invokevirtual 183, 3) := by decide +kernel
theorem dX6_read_54 : decode cX6_read 54 = .ok (.aload_n 0, 1) := by decide +kernel
theorem dX6_read_55 : decode cX6_read 55 = .ok (.aload_n 0, 1) := by decide +kernel
theorem dX6_read_56 : decode cX6_read 56 = .ok (.getfield 13, 3) := by decide +kernel
theorem dX6_read_59 : decode cX6_read 59 = .ok (.iload_n 1, 1) := by decide +kernel
theorem dX6_read_60 : decode cX6_read 60 = .ok (.invokevirtual 133, 3) := by decide +kernel
theorem dX6_read_63 : decode cX6_read 63 = .ok (.ireturn, 1) := by decide +kernel
theorem dX6_skip_0 : decode cX6_skip 0 = .ok (.aload_n 0, 1) := by decide +kernel
theorem dX6_skip_1 : decode cX6_skip 1 = .ok (.aload_n 0, 1) := by decide +kernel
theorem dX6_skip_2 : decode cX6_skip 2 = .ok (.getfield 13, 3) := by decide +kernel
theorem dX6_skip_5 : decode cX6_skip 5 = .ok (.iload_n 1, 1) := by decide +kernel
theorem dX6_skip_6 : decode cX6_skip 6 = .ok (.invokestatic 130, 3) := by decide +kernel
theorem dX6_skip_9 : decode cX6_skip 9 = .ok (.ifCond .ne 7, 3) := by decide +kernel
theorem dX6_skip_12 : decode cX6_skip 12 = .ok (.iconst 1, 1) := by decide +kernel
theorem dX6_skip_13 : decode cX6_skip 13 = .ok (.goto 20, 3) := by decide +kernel
theorem dX6_skip_16 : decode cX6_skip 16 = .ok (.iload_n 2, 1) := by decide +kernel
theorem dX6_skip_17 : decode cX6_skip 17 = .ok (.i2l, 1) := by decide +kernel
theorem dX6_skip_18 : decode cX6_skip 18 = .ok (.lconst 1, 1) := by decide +kernel
theorem dX6_skip_19 : decode cX6_skip 19 = .ok (.ldc2_w 188, 3) := by decide +kernel
theorem dX6_skip_22 : decode cX6_skip 22 = .ok (.invokestatic 43, 3) := by decide +kernel
theorem dX6_skip_25 : decode cX6_skip 25 = .ok (.ifCond .eq 7, 3) := by decide +kernel
theorem dX6_skip_28 : decode cX6_skip 28 = .ok (.iconst 0, 1) := by decide +kernel
theorem dX6_skip_29 : decode cX6_skip 29 = .ok (.goto 4, 3) := by decide +kernel
theorem dX6_skip_32 : decode cX6_skip 32 = .ok (.iconst 2, 1) := by decide +kernel
theorem dX6_skip_33 : decode cX6_skip 33 = .ok (.invokevirtual 95, 3) := by decide +kernel
theorem dX6_skip_36 : decode cX6_skip 36 = .ok (.ifCond .eq 5, 3) := by decide +kernel
theorem dX6_skip_39 : decode cX6_skip 39 = .ok (.iconst 0, 1) := by decide +kernel
theorem dX6_skip_40 : decode cX6_skip 40 = .ok (.ireturn, 1) := by decide +kernel
theorem dX6_skip_41 : decode cX6_skip 41 = .ok (.aload_n 0, 1) := by decide +kernel
theorem dX6_skip_42 : decode cX6_skip 42 = .ok (.aload_n 0, 1) := by decide +kernel
theorem dX6_skip_43 : decode cX6_skip 43 = .ok (.getfield 13, 3) := by decide +kernel
theorem dX6_skip_46 : decode cX6_skip 46 = .ok (.invokevirtual 127, 3) := by decide +kernel
theorem dX6_skip_49 : decode cX6_skip 49 = .ok (.aload_n 0, 1) := by decide +kernel
theorem dX6_skip_50 : decode cX6_skip 50 = .ok (.invokevirtual 183, 3) := by decide +kernel
theorem dX6_skip_53 : decode cX6_skip 53 = .ok (.aload_n 0, 1) := by decide +kernel
theorem dX6_skip_54 : decode cX6_skip 54 = .ok (.aload_n 0, 1) := by decide +kernel
theorem dX6_skip_55 : decode cX6_skip 55 = .ok (.getfield 13, 3) := by decide +kernel
theorem dX6_skip_58 : decode cX6_skip 58 = .ok (.iload_n 1, 1) := by decide +kernel
theorem dX6_skip_59 : decode cX6_skip 59 = .ok (.iload_n 2, 1) := by decide +kernel
theorem dX6_skip_60 : decode cX6_skip 60 = .ok (.invokevirtual 136, 3) := by decide +kernel
theorem dX6_skip_63 : decode cX6_skip 63 = .ok (.ireturn, 1) := by decide +kernel
theorem dX6_goBack_0 : decode cX6_goBack 0 = .ok (.aload_n 0, 1) := by decide +kernel
theorem dX6_goBack_1 : decode cX6_goBack 1 = .ok (.aload_n 0, 1) := by decide +kernel
theorem dX6_goBack_2 : decode cX6_goBack 2 = .ok (.getfield 13, 3) := by decide +kernel
theorem dX6_goBack_5 : decode cX6_goBack 5 = .ok (.iload_n 1, 1) := by decide +kernel
theorem dX6_goBack_6 : decode cX6_goBack 6 = .ok (.invokestatic 130, 3) := by decide +kernel
theorem dX6_goBack_9 : decode cX6_goBack 9 = .ok (.ifCond .eq 7, 3) := by decide +kernel
theorem dX6_goBack_12 : decode cX6_goBack 12 = .ok (.iconst 0, 1) := by decide +kernel
theorem dX6_goBack_13 : decode cX6_goBack 13 = .ok (.goto 4, 3) := by decide +kernel
theorem dX6_goBack_16 : decode cX6_goBack 16 = .ok (.iconst 1, 1) := by decide +kernel
theorem dX6_goBack_17 : decode cX6_goBack 17 = .ok (.invokevirtual 95, 3) := by decide +kernel
theorem dX6_goBack_20 : decode cX6_goBack 20 = .ok (.ifCond .eq 5, 3) := by decide +kernel
theorem dX6_goBack_23 : decode cX6_goBack 23 = .ok (.iconst 0, 1) := by decide +kernel
theorem dX6_goBack_24 : decode cX6_goBack 24 = .ok (.ireturn, 1) := by decide +kernel
theorem dX6_goBack_25 : decode cX6_goBack 25 = .ok (.aload_n 0, 1) := by decide +kernel
theorem dX6_goBack_26 : decode cX6_goBack 26 = .ok (.invokevirtual 183, 3) := by decide +kernel
theorem dX6_goBack_29 : decode cX6_goBack 29 = .ok (.aload_n 0, 1) := by decide +kernel
theorem dX6_goBack_30 : decode cX6_goBack 30 = .ok (.getfield 13, 3) := by decide +kernel
theorem dX6_goBack_33 : decode cX6_goBack 33 = .ok (.iload_n 1, 1) := by decide +kernel
theorem dX6_goBack_34 : decode cX6_goBack 34 = .ok (.invokestatic 139, 3) := by decide +kernel
theorem dX6_goBack_37 : decode cX6_goBack 37 = .ok (.ireturn, 1) := by decide +kernel
theorem dX6_stopReading_0 : decode cX6_stopReading 0 = .ok (.aload_n 0, 1) := by decide +kernel
theorem dX6_stopReading_1 : decode cX6_stopReading 1 = .ok (.aload_n 0, 1) := by decide +kernel
theorem dX6_stopReading_2 : decode cX6_stopReading 2 = .ok (.getfield 13, 3) := by decide +kernel
theorem dX6_stopReading_5 : decode cX6_stopReading 5 = .ok (.iload_n 1, 1) := by decide +kernel
theorem dX6_stopReading_6 : decode cX6_stopReading 6 = .ok (.invokestatic 130, 3) := by decide +kernel
theorem dX6_stopReading_9 : decode cX6_stopReading 9 = .ok (.ifCond .eq 7, 3) := by decide +kernel
theorem dX6_stopReading_12 : decode cX6_stopReading 12 = .ok (.iconst 0, 1) := by decide +kernel
theorem dX6_stopReading_13 : decode cX6_stopReading 13 = .ok (.goto 4, 3) := by decide +kernel
theorem dX6_stopReading_16 : decode cX6_stopReading 16 = .ok (.iconst 1, 1) := by decide +kernel
theorem dX6_stopReading_17 : decode cX6_stopReading 17 = .ok (.invokevirtual 95, 3) := by decide +kernel
theorem dX6_stopReading_20 : decode cX6_stopReading 20 = .ok (.ifCond .eq 5, 3) := by decide +kernel
theorem dX6_stopReading_23 : decode cX6_stopReading 23 = .ok (.iconst 0, 1) := by decide +kernel
theorem dX6_stopReading_24 : decode cX6_stopReading 24 = .ok (.ireturn, 1) := by decide +kernel
theorem dX6_stopReading_25 : decode cX6_stopReading 25 = .ok (.aload_n 0, 1) := by decide +kernel
theorem dX6_stopReading_26 : decode cX6_stopReading 26 = .ok (.invokevirtual 183, 3) := by decide +kernel
theorem dX6_stopReading_29 : decode cX6_stopReading 29 = .ok (.aload_n 0, 1) := by decide +kernel
theorem dX6_stopReading_30 : decode cX6_stopReading 30 = .ok (.getfield 13, 3) := by decide +kernel
theorem dX6_stopReading_33 : decode cX6_stopReading 33 = .ok (.iload_n 1, 1) := by decide +kernel
theorem dX6_stopReading_34 : decode cX6_stopReading 34 = .ok (.invokestatic 142, 3) := by decide +kernel
theorem dX6_stopReading_37 : decode cX6_stopReading 37 = .ok (.ireturn, 1) := by decide +kernel
theorem dX6_undo_0 : decode cX6_undo 0 = .ok (.aload_n 0, 1) := by decide +kernel
theorem dX6_undo_1 : decode cX6_undo 1 = .ok (.aload_n 0, 1) := by decide +kernel
theorem dX6_undo_2 : decode cX6_undo 2 = .ok (.getfield 180, 3) := by decide +kernel
theorem dX6_undo_5 : decode cX6_undo 5 = .ok (.ifCond .ne 7, 3) := by decide +kernel
theorem dX6_undo_8 : decode cX6_undo 8 = .ok (.iconst 1, 1) := by decide +kernel
theorem dX6_undo_9 : decode cX6_undo 9 = .ok (.goto 4, 3) := by decide +kernel
theorem dX6_undo_12 : decode cX6_undo 12 = .ok (.iconst 0, 1) := by decide +kernel
theorem dX6_undo_13 : decode cX6_undo 13 = .ok (.invokevirtual 95, 3) := by decide +kernel
theorem dX6_undo_16 : decode cX6_undo 16 = .ok (.ifCond .eq 5, 3) := by decide +kernel
theorem dX6_undo_19 : decode cX6_undo 19 = .ok (.iconst 0, 1) := by decide +kernel
theorem dX6_undo_20 : decode cX6_undo 20 = .ok (.ireturn, 1) := by decide +kernel
theorem dX6_undo_21 : decode cX6_undo 21 = .ok (.aload_n 0, 1) := by decide +kernel
theorem dX6_undo_22 : decode cX6_undo 22 = .ok (.dup, 1) := by decide +kernel
theorem dX6_undo_23 : decode cX6_undo 23 = .ok (.getfield 180, 3) := by decide +kernel
theorem dX6_undo_26 : decode cX6_undo 26 = .ok (.iconst 1, 1) := by decide +kernel
theorem dX6_undo_27 : decode cX6_undo 27 = .ok (.isub, 1) := by decide +kernel
theorem dX6_undo_28 : decode cX6_undo 28 = .ok (.putfield 180, 3) := by decide +kernel
theorem dX6_undo_31 : decode cX6_undo 31 = .ok (.aload_n 0, 1) := by decide +kernel
theorem dX6_undo_32 : decode cX6_undo 32 = .ok (.getfield 19, 3) := by decide +kernel
theorem dX6_undo_35 : decode cX6_undo 35 = .ok (.bipush 59, 2) := by decide +kernel
theorem dX6_undo_37 : decode cX6_undo 37 = .ok (.aload_n 0, 1) := by decide +kernel
theorem dX6_undo_38 : decode cX6_undo 38 = .ok (.getfield 180, 3) := by decide +kernel
theorem dX6_undo_41 : decode cX6_undo 41 = .ok (.imul, 1) := by decide +kernel
theorem dX6_undo_42 : decode cX6_undo 42 = .ok (.aload_n 0, 1) := by decide +kernel
theorem dX6_undo_43 : decode cX6_undo 43 = .ok (.getfield 13, 3) := by decide +kernel
theorem dX6_undo_46 : decode cX6_undo 46 = .ok (.iconst 0, 1) := by decide +kernel
theorem dX6_undo_47 : decode cX6_undo 47 = .ok (.invokestatic 176, 3) := by decide +kernel
theorem dX6_undo_50 : decode cX6_undo 50 = .ok (.aload_n 0, 1) := by decide +kernel
theorem dX6_undo_51 : decode cX6_undo 51 = .ok (.getfield 180, 3) := by decide +kernel
theorem dX6_undo_54 : decode cX6_undo 54 = .ok (.ireturn, 1) := by decide +kernel
theorem dX6_lists_0 : decode cX6_lists 0 = .ok (.aload_n 0, 1) := by decide +kernel
theorem dX6_lists_1 : decode cX6_lists 1 = .ok (.iconst 0, 1) := by decide +kernel
theorem dX6_lists_2 : decode cX6_lists 2 = .ok (.putfield 39, 3) := by decide +kernel
theorem dX6_lists_5 : decode cX6_lists 5 = .ok (.aload_n 0, 1) := by decide +kernel
theorem dX6_lists_6 : decode cX6_lists 6 = .ok (.getfield 13, 3) := by decide +kernel
theorem dX6_lists_9 : decode cX6_lists 9 = .ok (.iconst 0, 1) := by decide +kernel
theorem dX6_lists_10 : decode cX6_lists 10 = .ok (.iaload, 1) := by decide +kernel
theorem dX6_lists_11 : decode cX6_lists 11 = .ok (.ireturn, 1) := by decide +kernel
theorem dX6_wrong_0 : decode cX6_wrong 0 = .ok (.aload_n 0, 1) := by decide +kernel
theorem dX6_wrong_1 : decode cX6_wrong 1 = .ok (.aload_n 0, 1) := by decide +kernel
theorem dX6_wrong_2 : decode cX6_wrong 2 = .ok (.getfield 13, 3) := by decide +kernel
theorem dX6_wrong_5 : decode cX6_wrong 5 = .ok (.iload_n 1, 1) := by decide +kernel
theorem dX6_wrong_6 : decode cX6_wrong 6 = .ok (.invokestatic 123, 3) := by decide +kernel
theorem dX6_wrong_9 : decode cX6_wrong 9 = .ok (.ifCond .ne 7, 3) := by decide +kernel
theorem dX6_wrong_12 : decode cX6_wrong 12 = .ok (.iconst 1, 1) := by decide +kernel
theorem dX6_wrong_13 : decode cX6_wrong 13 = .ok (.goto 20, 3) := by decide +kernel
theorem dX6_wrong_16 : decode cX6_wrong 16 = .ok (.iload_n 2, 1) := by decide +kernel
theorem dX6_wrong_17 : decode cX6_wrong 17 = .ok (.i2l, 1) := by decide +kernel
theorem dX6_wrong_18 : decode cX6_wrong 18 = .ok (.lconst 0, 1) := by decide +kernel
theorem dX6_wrong_19 : decode cX6_wrong 19 = .ok (.ldc2_w 186, 3) := by decide +kernel
theorem dX6_wrong_22 : decode cX6_wrong 22 = .ok (.invokestatic 43, 3) := by decide +kernel
theorem dX6_wrong_25 : decode cX6_wrong 25 = .ok (.ifCond .eq 7, 3) := by decide +kernel
theorem dX6_wrong_28 : decode cX6_wrong 28 = .ok (.iconst 0, 1) := by decide +kernel
theorem dX6_wrong_29 : decode cX6_wrong 29 = .ok (.goto 4, 3) := by decide +kernel
theorem dX6_wrong_32 : decode cX6_wrong 32 = .ok (.iconst 2, 1) := by decide +kernel
theorem dX6_wrong_33 : decode cX6_wrong 33 = .ok (.invokevirtual 95, 3) := by decide +kernel
theorem dX6_wrong_36 : decode cX6_wrong 36 = .ok (.istore_n 3, 1) := by decide +kernel
theorem dX6_wrong_37 : decode cX6_wrong 37 = .ok (.iload_n 3, 1) := by decide +kernel
theorem dX6_wrong_38 : decode cX6_wrong 38 = .ok (.ifCond .ne 11, 3) := by decide +kernel
theorem dX6_wrong_41 : decode cX6_wrong 41 = .ok (.aload_n 0, 1) := by decide +kernel
theorem dX6_wrong_42 : decode cX6_wrong 42 = .ok (.aload_n 0, 1) := by decide +kernel
theorem dX6_wrong_43 : decode cX6_wrong 43 = .ok (.getfield 13, 3) := by decide +kernel
theorem dX6_wrong_46 : decode cX6_wrong 46 = .ok (.invokevirtual 127, 3) := by decide +kernel
theorem dX6_wrong_49 : decode cX6_wrong 49 = .ok (.iload_n 3, 1) := by decide +kernel
theorem dX6_wrong_50 : decode cX6_wrong 50 = .ok (.ireturn, 1) := by decide +kernel
theorem dX6_isMember_0 : decode cX6_isMember 0 = .ok (.aload_n 0, 1) := by decide +kernel
theorem dX6_isMember_1 : decode cX6_isMember 1 = .ok (.iload_n 1, 1) := by decide +kernel
theorem dX6_isMember_2 : decode cX6_isMember 2 = .ok (.iload_n 2, 1) := by decide +kernel
theorem dX6_isMember_3 : decode cX6_isMember 3 = .ok (.invokevirtual 197, 3) := by decide +kernel
theorem dX6_isMember_6 : decode cX6_isMember 6 = .ok (.ifCond .ne 16, 3) := by decide +kernel
theorem dX6_isMember_9 : decode cX6_isMember 9 = .ok (.aload_n 0, 1) := by decide +kernel
theorem dX6_isMember_10 : decode cX6_isMember 10 = .ok (.iload_n 1, 1) := by decide +kernel
theorem dX6_isMember_11 : decode cX6_isMember 11 = .ok (.iload_n 2, 1) := by decide +kernel
theorem dX6_isMember_12 : decode cX6_isMember 12 = .ok (.invokevirtual 51, 3) := by decide +kernel
theorem dX6_isMember_15 : decode cX6_isMember 15 = .ok (.ifCond .eq 7, 3) := by decide +kernel
theorem dX6_isMember_18 : decode cX6_isMember 18 = .ok (.iconst 1, 1) := by decide +kernel
theorem dX6_isMember_19 : decode cX6_isMember 19 = .ok (.goto 4, 3) := by decide +kernel
theorem dX6_isMember_22 : decode cX6_isMember 22 = .ok (.iconst 0, 1) := by decide +kernel
theorem dX6_isMember_23 : decode cX6_isMember 23 = .ok (.ireturn, 1) := by decide +kernel
theorem dX6_memberAt_0 : decode cX6_memberAt 0 = .ok (.aload_n 0, 1) := by decide +kernel
theorem dX6_memberAt_1 : decode cX6_memberAt 1 = .ok (.aload_n 0, 1) := by decide +kernel
theorem dX6_memberAt_2 : decode cX6_memberAt 2 = .ok (.getfield 13, 3) := by decide +kernel
theorem dX6_memberAt_5 : decode cX6_memberAt 5 = .ok (.iload_n 1, 1) := by decide +kernel
theorem dX6_memberAt_6 : decode cX6_memberAt 6 = .ok (.invokestatic 123, 3) := by decide +kernel
theorem dX6_memberAt_9 : decode cX6_memberAt 9 = .ok (.ifCond .eq 11, 3) := by decide +kernel
theorem dX6_memberAt_12 : decode cX6_memberAt 12 = .ok (.iload_n 2, 1) := by decide +kernel
theorem dX6_memberAt_13 : decode cX6_memberAt 13 = .ok (.ifCond .lt 7, 3) := by decide +kernel
theorem dX6_memberAt_16 : decode cX6_memberAt 16 = .ok (.iconst 0, 1) := by decide +kernel
theorem dX6_memberAt_17 : decode cX6_memberAt 17 = .ok (.goto 4, 3) := by decide +kernel
theorem dX6_memberAt_20 : decode cX6_memberAt 20 = .ok (.iconst 1, 1) := by decide +kernel
theorem dX6_memberAt_21 : decode cX6_memberAt 21 = .ok (.invokevirtual 95, 3) := by decide +kernel
theorem dX6_memberAt_24 : decode cX6_memberAt 24 = .ok (.ifCond .eq 5, 3) := by decide +kernel
theorem dX6_memberAt_27 : decode cX6_memberAt 27 = .ok (.iconst 0, 1) := by decide +kernel
theorem dX6_memberAt_28 : decode cX6_memberAt 28 = .ok (.ireturn, 1) := by decide +kernel
theorem dX6_memberAt_29 : decode cX6_memberAt 29 = .ok (.aload_n 0, 1) := by decide +kernel
theorem dX6_memberAt_30 : decode cX6_memberAt 30 = .ok (.aload_n 0, 1) := by decide +kernel
theorem dX6_memberAt_31 : decode cX6_memberAt 31 = .ok (.getfield 13, 3) := by decide +kernel
theorem dX6_memberAt_34 : decode cX6_memberAt 34 = .ok (.invokevirtual 127, 3) := by decide +kernel
theorem dX6_memberAt_37 : decode cX6_memberAt 37 = .ok (.aload_n 0, 1) := by decide +kernel
theorem dX6_memberAt_38 : decode cX6_memberAt 38 = .ok (.iload_n 1, 1) := by decide +kernel
theorem dX6_memberAt_39 : decode cX6_memberAt 39 = .ok (.iload_n 2, 1) := by decide +kernel
theorem dX6_memberAt_40 : decode cX6_memberAt 40 = .ok (.invokevirtual 80, 3) := by decide +kernel
theorem dX6_memberAt_43 : decode cX6_memberAt 43 = .ok (.ireturn, 1) := by decide +kernel
theorem dX6_memberByReading_0 : decode cX6_memberByReading 0 = .ok (.aload_n 0, 1) := by decide +kernel
theorem dX6_memberByReading_1 : decode cX6_memberByReading 1 = .ok (.iload_n 1, 1) := by decide +kernel
theorem dX6_memberByReading_2 : decode cX6_memberByReading 2 = .ok (.iload_n 2, 1) := by decide +kernel
theorem dX6_memberByReading_3 : decode cX6_memberByReading 3 = .ok (.invokevirtual 200, 3) := by decide +kernel
theorem dX6_memberByReading_6 : decode cX6_memberByReading 6 = .ok (.ireturn, 1) := by decide +kernel
theorem dX6_memberByTesting_0 : decode cX6_memberByTesting 0 = .ok (.aload_n 0, 1) := by decide +kernel
theorem dX6_memberByTesting_1 : decode cX6_memberByTesting 1 = .ok (.iload_n 1, 1) := by decide +kernel
theorem dX6_memberByTesting_2 : decode cX6_memberByTesting 2 = .ok (.iload_n 2, 1) := by decide +kernel
theorem dX6_memberByTesting_3 : decode cX6_memberByTesting 3 = .ok (.invokevirtual 200, 3) := by decide +kernel
theorem dX6_memberByTesting_6 : decode cX6_memberByTesting 6 = .ok (.ireturn, 1) := by decide +kernel
theorem dX6_placeOf_0 : decode cX6_placeOf 0 = .ok (.aload_n 0, 1) := by decide +kernel
theorem dX6_placeOf_1 : decode cX6_placeOf 1 = .ok (.iload_n 1, 1) := by decide +kernel
theorem dX6_placeOf_2 : decode cX6_placeOf 2 = .ok (.iload_n 2, 1) := by decide +kernel
theorem dX6_placeOf_3 : decode cX6_placeOf 3 = .ok (.invokevirtual 197, 3) := by decide +kernel
theorem dX6_placeOf_6 : decode cX6_placeOf 6 = .ok (.ifCond .eq 5, 3) := by decide +kernel
theorem dX6_placeOf_9 : decode cX6_placeOf 9 = .ok (.iconst 0, 1) := by decide +kernel
theorem dX6_placeOf_10 : decode cX6_placeOf 10 = .ok (.ireturn, 1) := by decide +kernel
theorem dX6_placeOf_11 : decode cX6_placeOf 11 = .ok (.aload_n 0, 1) := by decide +kernel
theorem dX6_placeOf_12 : decode cX6_placeOf 12 = .ok (.iload_n 1, 1) := by decide +kernel
theorem dX6_placeOf_13 : decode cX6_placeOf 13 = .ok (.iload_n 2, 1) := by decide +kernel
theorem dX6_placeOf_14 : decode cX6_placeOf 14 = .ok (.invokevirtual 51, 3) := by decide +kernel
theorem dX6_placeOf_17 : decode cX6_placeOf 17 = .ok (.ifCond .eq 14, 3) := by decide +kernel
theorem dX6_placeOf_20 : decode cX6_placeOf 20 = .ok (.aload_n 0, 1) := by decide +kernel
theorem dX6_placeOf_21 : decode cX6_placeOf 21 = .ok (.iload_n 1, 1) := by decide +kernel
theorem dX6_placeOf_22 : decode cX6_placeOf 22 = .ok (.iload_n 2, 1) := by decide +kernel
theorem dX6_placeOf_23 : decode cX6_placeOf 23 = .ok (.invokevirtual 87, 3) := by decide +kernel
theorem dX6_placeOf_26 : decode cX6_placeOf 26 = .ok (.iconst 1, 1) := by decide +kernel
theorem dX6_placeOf_27 : decode cX6_placeOf 27 = .ok (.isub, 1) := by decide +kernel
theorem dX6_placeOf_28 : decode cX6_placeOf 28 = .ok (.goto 4, 3) := by decide +kernel
theorem dX6_placeOf_31 : decode cX6_placeOf 31 = .ok (.iconst (-1), 1) := by decide +kernel
theorem dX6_placeOf_32 : decode cX6_placeOf 32 = .ok (.ireturn, 1) := by decide +kernel
theorem dX6_membersUpTo_0 : decode cX6_membersUpTo 0 = .ok (.aload_n 0, 1) := by decide +kernel
theorem dX6_membersUpTo_1 : decode cX6_membersUpTo 1 = .ok (.iload_n 1, 1) := by decide +kernel
theorem dX6_membersUpTo_2 : decode cX6_membersUpTo 2 = .ok (.iload_n 2, 1) := by decide +kernel
theorem dX6_membersUpTo_3 : decode cX6_membersUpTo 3 = .ok (.invokevirtual 197, 3) := by decide +kernel
theorem dX6_membersUpTo_6 : decode cX6_membersUpTo 6 = .ok (.ifCond .eq 7, 3) := by decide +kernel
theorem dX6_membersUpTo_9 : decode cX6_membersUpTo 9 = .ok (.iconst 0, 1) := by decide +kernel
theorem dX6_membersUpTo_10 : decode cX6_membersUpTo 10 = .ok (.goto 9, 3) := by decide +kernel
theorem dX6_membersUpTo_13 : decode cX6_membersUpTo 13 = .ok (.aload_n 0, 1) := by decide +kernel
theorem dX6_membersUpTo_14 : decode cX6_membersUpTo 14 = .ok (.iload_n 1, 1) := by decide +kernel
theorem dX6_membersUpTo_15 : decode cX6_membersUpTo 15 = .ok (.iload_n 2, 1) := by decide +kernel
theorem dX6_membersUpTo_16 : decode cX6_membersUpTo 16 = .ok (.invokevirtual 87, 3) := by decide +kernel
theorem dX6_membersUpTo_19 : decode cX6_membersUpTo 19 = .ok (.ireturn, 1) := by decide +kernel
theorem dX6_lastMember_0 : decode cX6_lastMember 0 = .ok (.aload_n 0, 1) := by decide +kernel
theorem dX6_lastMember_1 : decode cX6_lastMember 1 = .ok (.iload_n 1, 1) := by decide +kernel
theorem dX6_lastMember_2 : decode cX6_lastMember 2 = .ok (.iconst 0, 1) := by decide +kernel
theorem dX6_lastMember_3 : decode cX6_lastMember 3 = .ok (.invokevirtual 197, 3) := by decide +kernel
theorem dX6_lastMember_6 : decode cX6_lastMember 6 = .ok (.ifCond .eq 5, 3) := by decide +kernel
theorem dX6_lastMember_9 : decode cX6_lastMember 9 = .ok (.iconst 0, 1) := by decide +kernel
theorem dX6_lastMember_10 : decode cX6_lastMember 10 = .ok (.ireturn, 1) := by decide +kernel
theorem dX6_lastMember_11 : decode cX6_lastMember 11 = .ok (.aload_n 0, 1) := by decide +kernel
theorem dX6_lastMember_12 : decode cX6_lastMember 12 = .ok (.iload_n 1, 1) := by decide +kernel
theorem dX6_lastMember_13 : decode cX6_lastMember 13 = .ok (.aload_n 0, 1) := by decide +kernel
theorem dX6_lastMember_14 : decode cX6_lastMember 14 = .ok (.iload_n 1, 1) := by decide +kernel
theorem dX6_lastMember_15 : decode cX6_lastMember 15 = .ok (.sipush 999, 3) := by decide +kernel
theorem dX6_lastMember_18 : decode cX6_lastMember 18 = .ok (.invokevirtual 87, 3) := by decide +kernel
theorem dX6_lastMember_21 : decode cX6_lastMember 21 = .ok (.iconst 1, 1) := by decide +kernel
theorem dX6_lastMember_22 : decode cX6_lastMember 22 = .ok (.isub, 1) := by decide +kernel
theorem dX6_lastMember_23 : decode cX6_lastMember 23 = .ok (.invokevirtual 80, 3) := by decide +kernel
theorem dX6_lastMember_26 : decode cX6_lastMember 26 = .ok (.ireturn, 1) := by decide +kernel
theorem dX6_firstShared_0 : decode cX6_firstShared 0 = .ok (.aload_n 0, 1) := by decide +kernel
theorem dX6_firstShared_1 : decode cX6_firstShared 1 = .ok (.aload_n 0, 1) := by decide +kernel
theorem dX6_firstShared_2 : decode cX6_firstShared 2 = .ok (.iload_n 1, 1) := by decide +kernel
theorem dX6_firstShared_3 : decode cX6_firstShared 3 = .ok (.iload_n 2, 1) := by decide +kernel
theorem dX6_firstShared_4 : decode cX6_firstShared 4 = .ok (.invokevirtual 194, 3) := by decide +kernel
theorem dX6_firstShared_7 : decode cX6_firstShared 7 = .ok (.invokevirtual 95, 3) := by decide +kernel
theorem dX6_firstShared_10 : decode cX6_firstShared 10 = .ok (.ifCond .eq 5, 3) := by decide +kernel
theorem dX6_firstShared_13 : decode cX6_firstShared 13 = .ok (.iconst 0, 1) := by decide +kernel
theorem dX6_firstShared_14 : decode cX6_firstShared 14 = .ok (.ireturn, 1) := by decide +kernel
theorem dX6_firstShared_15 : decode cX6_firstShared 15 = .ok (.aload_n 0, 1) := by decide +kernel
theorem dX6_firstShared_16 : decode cX6_firstShared 16 = .ok (.aload_n 0, 1) := by decide +kernel
theorem dX6_firstShared_17 : decode cX6_firstShared 17 = .ok (.getfield 13, 3) := by decide +kernel
theorem dX6_firstShared_20 : decode cX6_firstShared 20 = .ok (.invokevirtual 127, 3) := by decide +kernel
theorem dX6_firstShared_23 : decode cX6_firstShared 23 = .ok (.iconst 0, 1) := by decide +kernel
theorem dX6_firstShared_24 : decode cX6_firstShared 24 = .ok (.istore_n 3, 1) := by decide +kernel
theorem dX6_firstShared_25 : decode cX6_firstShared 25 = .ok (.iload_n 3, 1) := by decide +kernel
theorem dX6_firstShared_26 : decode cX6_firstShared 26 = .ok (.sipush 999, 3) := by decide +kernel
theorem dX6_firstShared_29 : decode cX6_firstShared 29 = .ok (.if_icmp .gt 29, 3) := by decide +kernel
theorem dX6_firstShared_32 : decode cX6_firstShared 32 = .ok (.aload_n 0, 1) := by decide +kernel
theorem dX6_firstShared_33 : decode cX6_firstShared 33 = .ok (.iload_n 1, 1) := by decide +kernel
theorem dX6_firstShared_34 : decode cX6_firstShared 34 = .ok (.iload_n 3, 1) := by decide +kernel
theorem dX6_firstShared_35 : decode cX6_firstShared 35 = .ok (.invokevirtual 51, 3) := by decide +kernel
theorem dX6_firstShared_38 : decode cX6_firstShared 38 = .ok (.ifCond .eq 14, 3) := by decide +kernel
theorem dX6_firstShared_41 : decode cX6_firstShared 41 = .ok (.aload_n 0, 1) := by decide +kernel
theorem dX6_firstShared_42 : decode cX6_firstShared 42 = .ok (.iload_n 2, 1) := by decide +kernel
theorem dX6_firstShared_43 : decode cX6_firstShared 43 = .ok (.iload_n 3, 1) := by decide +kernel
theorem dX6_firstShared_44 : decode cX6_firstShared 44 = .ok (.invokevirtual 51, 3) := by decide +kernel
theorem dX6_firstShared_47 : decode cX6_firstShared 47 = .ok (.ifCond .eq 5, 3) := by decide +kernel
theorem dX6_firstShared_50 : decode cX6_firstShared 50 = .ok (.iload_n 3, 1) := by decide +kernel
theorem dX6_firstShared_51 : decode cX6_firstShared 51 = .ok (.ireturn, 1) := by decide +kernel
theorem dX6_firstShared_52 : decode cX6_firstShared 52 = .ok (.iinc 3 1, 3) := by decide +kernel
theorem dX6_firstShared_55 : decode cX6_firstShared 55 = .ok (.goto (-30), 3) := by decide +kernel
theorem dX6_firstShared_58 : decode cX6_firstShared 58 = .ok (.iconst (-1), 1) := by decide +kernel
theorem dX6_firstShared_59 : decode cX6_firstShared 59 = .ok (.ireturn, 1) := by decide +kernel
theorem dX6_widestGap_0 : decode cX6_widestGap 0 = .ok (.aload_n 0, 1) := by decide +kernel
theorem dX6_widestGap_1 : decode cX6_widestGap 1 = .ok (.iload_n 1, 1) := by decide +kernel
theorem dX6_widestGap_2 : decode cX6_widestGap 2 = .ok (.iconst 0, 1) := by decide +kernel
theorem dX6_widestGap_3 : decode cX6_widestGap 3 = .ok (.invokevirtual 197, 3) := by decide +kernel
theorem dX6_widestGap_6 : decode cX6_widestGap 6 = .ok (.ifCond .eq 5, 3) := by decide +kernel
theorem dX6_widestGap_9 : decode cX6_widestGap 9 = .ok (.iconst 0, 1) := by decide +kernel
theorem dX6_widestGap_10 : decode cX6_widestGap 10 = .ok (.ireturn, 1) := by decide +kernel
theorem dX6_widestGap_11 : decode cX6_widestGap 11 = .ok (.iconst 0, 1) := by decide +kernel
theorem dX6_widestGap_12 : decode cX6_widestGap 12 = .ok (.istore_n 2, 1) := by decide +kernel
theorem dX6_widestGap_13 : decode cX6_widestGap 13 = .ok (.iconst (-1), 1) := by decide +kernel
theorem dX6_widestGap_14 : decode cX6_widestGap 14 = .ok (.istore_n 3, 1) := by decide +kernel
theorem dX6_widestGap_15 : decode cX6_widestGap 15 = .ok (.iconst 0, 1) := by decide +kernel
theorem dX6_widestGap_16 : decode cX6_widestGap 16 = .ok (.istore 4, 2) := by decide +kernel
theorem dX6_widestGap_18 : decode cX6_widestGap 18 = .ok (.iload 4, 2) := by decide +kernel
theorem dX6_widestGap_20 : decode cX6_widestGap 20 = .ok (.sipush 999, 3) := by decide +kernel
theorem dX6_widestGap_23 : decode cX6_widestGap 23 = .ok (.if_icmp .gt 44, 3) := by decide +kernel
theorem dX6_widestGap_26 : decode cX6_widestGap 26 = .ok (.aload_n 0, 1) := by decide +kernel
theorem dX6_widestGap_27 : decode cX6_widestGap 27 = .ok (.iload_n 1, 1) := by decide +kernel
theorem dX6_widestGap_28 : decode cX6_widestGap 28 = .ok (.iload 4, 2) := by decide +kernel
theorem dX6_widestGap_30 : decode cX6_widestGap 30 = .ok (.invokevirtual 51, 3) := by decide +kernel
theorem dX6_widestGap_33 : decode cX6_widestGap 33 = .ok (.ifCond .eq 28, 3) := by decide +kernel
theorem dX6_widestGap_36 : decode cX6_widestGap 36 = .ok (.iload_n 3, 1) := by decide +kernel
theorem dX6_widestGap_37 : decode cX6_widestGap 37 = .ok (.iconst (-1), 1) := by decide +kernel
theorem dX6_widestGap_38 : decode cX6_widestGap 38 = .ok (.if_icmp .eq 18, 3) := by decide +kernel
theorem dX6_widestGap_41 : decode cX6_widestGap 41 = .ok (.iload 4, 2) := by decide +kernel
theorem dX6_widestGap_43 : decode cX6_widestGap 43 = .ok (.iload_n 3, 1) := by decide +kernel
theorem dX6_widestGap_44 : decode cX6_widestGap 44 = .ok (.isub, 1) := by decide +kernel
theorem dX6_widestGap_45 : decode cX6_widestGap 45 = .ok (.iload_n 2, 1) := by decide +kernel
theorem dX6_widestGap_46 : decode cX6_widestGap 46 = .ok (.if_icmp .le 10, 3) := by decide +kernel
theorem dX6_widestGap_49 : decode cX6_widestGap 49 = .ok (.iload 4, 2) := by decide +kernel
theorem dX6_widestGap_51 : decode cX6_widestGap 51 = .ok (.iload_n 3, 1) := by decide +kernel
theorem dX6_widestGap_52 : decode cX6_widestGap 52 = .ok (.isub, 1) := by decide +kernel
theorem dX6_widestGap_53 : decode cX6_widestGap 53 = .ok (.goto 4, 3) := by decide +kernel
theorem dX6_widestGap_56 : decode cX6_widestGap 56 = .ok (.iload_n 2, 1) := by decide +kernel
theorem dX6_widestGap_57 : decode cX6_widestGap 57 = .ok (.istore_n 2, 1) := by decide +kernel
theorem dX6_widestGap_58 : decode cX6_widestGap 58 = .ok (.iload 4, 2) := by decide +kernel
theorem dX6_widestGap_60 : decode cX6_widestGap 60 = .ok (.istore_n 3, 1) := by decide +kernel
theorem dX6_widestGap_61 : decode cX6_widestGap 61 = .ok (.iinc 4 1, 3) := by decide +kernel
theorem dX6_widestGap_64 : decode cX6_widestGap 64 = .ok (.goto (-46), 3) := by decide +kernel
theorem dX6_widestGap_67 : decode cX6_widestGap 67 = .ok (.iload_n 2, 1) := by decide +kernel
theorem dX6_widestGap_68 : decode cX6_widestGap 68 = .ok (.ireturn, 1) := by decide +kernel
theorem dX6_readers_0 : decode cX6_readers 0 = .ok (.aload_n 0, 1) := by decide +kernel
theorem dX6_readers_1 : decode cX6_readers 1 = .ok (.iconst 0, 1) := by decide +kernel
theorem dX6_readers_2 : decode cX6_readers 2 = .ok (.putfield 39, 3) := by decide +kernel
theorem dX6_readers_5 : decode cX6_readers 5 = .ok (.aload_n 0, 1) := by decide +kernel
theorem dX6_readers_6 : decode cX6_readers 6 = .ok (.getfield 13, 3) := by decide +kernel
theorem dX6_readers_9 : decode cX6_readers 9 = .ok (.iconst 1, 1) := by decide +kernel
theorem dX6_readers_10 : decode cX6_readers 10 = .ok (.iaload, 1) := by decide +kernel
theorem dX6_readers_11 : decode cX6_readers 11 = .ok (.ireturn, 1) := by decide +kernel
theorem dX6_listOf_0 : decode cX6_listOf 0 = .ok (.aload_n 0, 1) := by decide +kernel
theorem dX6_listOf_1 : decode cX6_listOf 1 = .ok (.aload_n 0, 1) := by decide +kernel
theorem dX6_listOf_2 : decode cX6_listOf 2 = .ok (.getfield 13, 3) := by decide +kernel
theorem dX6_listOf_5 : decode cX6_listOf 5 = .ok (.iload_n 1, 1) := by decide +kernel
theorem dX6_listOf_6 : decode cX6_listOf 6 = .ok (.invokestatic 130, 3) := by decide +kernel
theorem dX6_listOf_9 : decode cX6_listOf 9 = .ok (.ifCond .eq 7, 3) := by decide +kernel
theorem dX6_listOf_12 : decode cX6_listOf 12 = .ok (.iconst 0, 1) := by decide +kernel
theorem dX6_listOf_13 : decode cX6_listOf 13 = .ok (.goto 4, 3) := by decide +kernel
theorem dX6_listOf_16 : decode cX6_listOf 16 = .ok (.iconst 1, 1) := by decide +kernel
theorem dX6_listOf_17 : decode cX6_listOf 17 = .ok (.invokevirtual 95, 3) := by decide +kernel
theorem dX6_listOf_20 : decode cX6_listOf 20 = .ok (.ifCond .eq 5, 3) := by decide +kernel
theorem dX6_listOf_23 : decode cX6_listOf 23 = .ok (.iconst 0, 1) := by decide +kernel
theorem dX6_listOf_24 : decode cX6_listOf 24 = .ok (.ireturn, 1) := by decide +kernel
theorem dX6_listOf_25 : decode cX6_listOf 25 = .ok (.aload_n 0, 1) := by decide +kernel
theorem dX6_listOf_26 : decode cX6_listOf 26 = .ok (.getfield 13, 3) := by decide +kernel
theorem dX6_listOf_29 : decode cX6_listOf 29 = .ok (.iload_n 1, 1) := by decide +kernel
theorem dX6_listOf_30 : decode cX6_listOf 30 = .ok (.invokestatic 73, 3) := by decide +kernel
theorem dX6_listOf_33 : decode cX6_listOf 33 = .ok (.ireturn, 1) := by decide +kernel
theorem dX6_readSoFar_0 : decode cX6_readSoFar 0 = .ok (.aload_n 0, 1) := by decide +kernel
theorem dX6_readSoFar_1 : decode cX6_readSoFar 1 = .ok (.aload_n 0, 1) := by decide +kernel
theorem dX6_readSoFar_2 : decode cX6_readSoFar 2 = .ok (.getfield 13, 3) := by decide +kernel
theorem dX6_readSoFar_5 : decode cX6_readSoFar 5 = .ok (.iload_n 1, 1) := by decide +kernel
theorem dX6_readSoFar_6 : decode cX6_readSoFar 6 = .ok (.invokestatic 130, 3) := by decide +kernel
theorem dX6_readSoFar_9 : decode cX6_readSoFar 9 = .ok (.ifCond .eq 7, 3) := by decide +kernel
theorem dX6_readSoFar_12 : decode cX6_readSoFar 12 = .ok (.iconst 0, 1) := by decide +kernel
theorem dX6_readSoFar_13 : decode cX6_readSoFar 13 = .ok (.goto 4, 3) := by decide +kernel
theorem dX6_readSoFar_16 : decode cX6_readSoFar 16 = .ok (.iconst 1, 1) := by decide +kernel
theorem dX6_readSoFar_17 : decode cX6_readSoFar 17 = .ok (.invokevirtual 95, 3) := by decide +kernel
theorem dX6_readSoFar_20 : decode cX6_readSoFar 20 = .ok (.ifCond .eq 5, 3) := by decide +kernel
theorem dX6_readSoFar_23 : decode cX6_readSoFar 23 = .ok (.iconst 0, 1) := by decide +kernel
theorem dX6_readSoFar_24 : decode cX6_readSoFar 24 = .ok (.ireturn, 1) := by decide +kernel
theorem dX6_readSoFar_25 : decode cX6_readSoFar 25 = .ok (.aload_n 0, 1) := by decide +kernel
theorem dX6_readSoFar_26 : decode cX6_readSoFar 26 = .ok (.getfield 13, 3) := by decide +kernel
theorem dX6_readSoFar_29 : decode cX6_readSoFar 29 = .ok (.iload_n 1, 1) := by decide +kernel
theorem dX6_readSoFar_30 : decode cX6_readSoFar 30 = .ok (.invokestatic 77, 3) := by decide +kernel
theorem dX6_readSoFar_33 : decode cX6_readSoFar 33 = .ok (.ireturn, 1) := by decide +kernel
theorem dX6_nextOf_0 : decode cX6_nextOf 0 = .ok (.aload_n 0, 1) := by decide +kernel
theorem dX6_nextOf_1 : decode cX6_nextOf 1 = .ok (.aload_n 0, 1) := by decide +kernel
theorem dX6_nextOf_2 : decode cX6_nextOf 2 = .ok (.getfield 13, 3) := by decide +kernel
theorem dX6_nextOf_5 : decode cX6_nextOf 5 = .ok (.iload_n 1, 1) := by decide +kernel
theorem dX6_nextOf_6 : decode cX6_nextOf 6 = .ok (.invokestatic 130, 3) := by decide +kernel
theorem dX6_nextOf_9 : decode cX6_nextOf 9 = .ok (.ifCond .eq 7, 3) := by decide +kernel
theorem dX6_nextOf_12 : decode cX6_nextOf 12 = .ok (.iconst 0, 1) := by decide +kernel
theorem dX6_nextOf_13 : decode cX6_nextOf 13 = .ok (.goto 4, 3) := by decide +kernel
theorem dX6_nextOf_16 : decode cX6_nextOf 16 = .ok (.iconst 1, 1) := by decide +kernel
theorem dX6_nextOf_17 : decode cX6_nextOf 17 = .ok (.invokevirtual 95, 3) := by decide +kernel
theorem dX6_nextOf_20 : decode cX6_nextOf 20 = .ok (.ifCond .eq 5, 3) := by decide +kernel
theorem dX6_nextOf_23 : decode cX6_nextOf 23 = .ok (.iconst 0, 1) := by decide +kernel
theorem dX6_nextOf_24 : decode cX6_nextOf 24 = .ok (.ireturn, 1) := by decide +kernel
theorem dX6_nextOf_25 : decode cX6_nextOf 25 = .ok (.aload_n 0, 1) := by decide +kernel
theorem dX6_nextOf_26 : decode cX6_nextOf 26 = .ok (.aload_n 0, 1) := by decide +kernel
theorem dX6_nextOf_27 : decode cX6_nextOf 27 = .ok (.getfield 13, 3) := by decide +kernel
theorem dX6_nextOf_30 : decode cX6_nextOf 30 = .ok (.invokevirtual 127, 3) := by decide +kernel
theorem dX6_nextOf_33 : decode cX6_nextOf 33 = .ok (.aload_n 0, 1) := by decide +kernel
theorem dX6_nextOf_34 : decode cX6_nextOf 34 = .ok (.aload_n 0, 1) := by decide +kernel
theorem dX6_nextOf_35 : decode cX6_nextOf 35 = .ok (.getfield 13, 3) := by decide +kernel
theorem dX6_nextOf_38 : decode cX6_nextOf 38 = .ok (.iload_n 1, 1) := by decide +kernel
theorem dX6_nextOf_39 : decode cX6_nextOf 39 = .ok (.invokevirtual 84, 3) := by decide +kernel
theorem dX6_nextOf_42 : decode cX6_nextOf 42 = .ok (.ireturn, 1) := by decide +kernel
theorem dX6_readings_0 : decode cX6_readings 0 = .ok (.aload_n 0, 1) := by decide +kernel
theorem dX6_readings_1 : decode cX6_readings 1 = .ok (.iconst 0, 1) := by decide +kernel
theorem dX6_readings_2 : decode cX6_readings 2 = .ok (.putfield 39, 3) := by decide +kernel
theorem dX6_readings_5 : decode cX6_readings 5 = .ok (.aload_n 0, 1) := by decide +kernel
theorem dX6_readings_6 : decode cX6_readings 6 = .ok (.getfield 13, 3) := by decide +kernel
theorem dX6_readings_9 : decode cX6_readings 9 = .ok (.iconst 2, 1) := by decide +kernel
theorem dX6_readings_10 : decode cX6_readings 10 = .ok (.iaload, 1) := by decide +kernel
theorem dX6_readings_11 : decode cX6_readings 11 = .ok (.ireturn, 1) := by decide +kernel
theorem dX6_leastNext_0 : decode cX6_leastNext 0 = .ok (.aload_n 0, 1) := by decide +kernel
theorem dX6_leastNext_1 : decode cX6_leastNext 1 = .ok (.iconst 0, 1) := by decide +kernel
theorem dX6_leastNext_2 : decode cX6_leastNext 2 = .ok (.putfield 39, 3) := by decide +kernel
theorem dX6_leastNext_5 : decode cX6_leastNext 5 = .ok (.aload_n 0, 1) := by decide +kernel
theorem dX6_leastNext_6 : decode cX6_leastNext 6 = .ok (.aload_n 0, 1) := by decide +kernel
theorem dX6_leastNext_7 : decode cX6_leastNext 7 = .ok (.getfield 13, 3) := by decide +kernel
theorem dX6_leastNext_10 : decode cX6_leastNext 10 = .ok (.invokevirtual 127, 3) := by decide +kernel
theorem dX6_leastNext_13 : decode cX6_leastNext 13 = .ok (.iconst (-1), 1) := by decide +kernel
theorem dX6_leastNext_14 : decode cX6_leastNext 14 = .ok (.istore_n 1, 1) := by decide +kernel
theorem dX6_leastNext_15 : decode cX6_leastNext 15 = .ok (.iconst (-1), 1) := by decide +kernel
theorem dX6_leastNext_16 : decode cX6_leastNext 16 = .ok (.istore_n 2, 1) := by decide +kernel
theorem dX6_leastNext_17 : decode cX6_leastNext 17 = .ok (.iconst 0, 1) := by decide +kernel
theorem dX6_leastNext_18 : decode cX6_leastNext 18 = .ok (.istore_n 3, 1) := by decide +kernel
theorem dX6_leastNext_19 : decode cX6_leastNext 19 = .ok (.iload_n 3, 1) := by decide +kernel
theorem dX6_leastNext_20 : decode cX6_leastNext 20 = .ok (.aload_n 0, 1) := by decide +kernel
theorem dX6_leastNext_21 : decode cX6_leastNext 21 = .ok (.getfield 13, 3) := by decide +kernel
theorem dX6_leastNext_24 : decode cX6_leastNext 24 = .ok (.iconst 1, 1) := by decide +kernel
theorem dX6_leastNext_25 : decode cX6_leastNext 25 = .ok (.iaload, 1) := by decide +kernel
theorem dX6_leastNext_26 : decode cX6_leastNext 26 = .ok (.if_icmp .ge 67, 3) := by decide +kernel
theorem dX6_leastNext_29 : decode cX6_leastNext 29 = .ok (.aload_n 0, 1) := by decide +kernel
theorem dX6_leastNext_30 : decode cX6_leastNext 30 = .ok (.aload_n 0, 1) := by decide +kernel
theorem dX6_leastNext_31 : decode cX6_leastNext 31 = .ok (.getfield 13, 3) := by decide +kernel
theorem dX6_leastNext_34 : decode cX6_leastNext 34 = .ok (.iload_n 3, 1) := by decide +kernel
theorem dX6_leastNext_35 : decode cX6_leastNext 35 = .ok (.invokevirtual 84, 3) := by decide +kernel
theorem dX6_leastNext_38 : decode cX6_leastNext 38 = .ok (.istore 4, 2) := by decide +kernel
theorem dX6_leastNext_40 : decode cX6_leastNext 40 = .ok (.iload 4, 2) := by decide +kernel
theorem dX6_leastNext_42 : decode cX6_leastNext 42 = .ok (.iconst (-1), 1) := by decide +kernel
theorem dX6_leastNext_43 : decode cX6_leastNext 43 = .ok (.if_icmp .eq 18, 3) := by decide +kernel
theorem dX6_leastNext_46 : decode cX6_leastNext 46 = .ok (.iload_n 1, 1) := by decide +kernel
theorem dX6_leastNext_47 : decode cX6_leastNext 47 = .ok (.iconst (-1), 1) := by decide +kernel
theorem dX6_leastNext_48 : decode cX6_leastNext 48 = .ok (.if_icmp .eq 9, 3) := by decide +kernel
theorem dX6_leastNext_51 : decode cX6_leastNext 51 = .ok (.iload 4, 2) := by decide +kernel
theorem dX6_leastNext_53 : decode cX6_leastNext 53 = .ok (.iload_n 2, 1) := by decide +kernel
theorem dX6_leastNext_54 : decode cX6_leastNext 54 = .ok (.if_icmp .ge 7, 3) := by decide +kernel
theorem dX6_leastNext_57 : decode cX6_leastNext 57 = .ok (.iconst 1, 1) := by decide +kernel
theorem dX6_leastNext_58 : decode cX6_leastNext 58 = .ok (.goto 4, 3) := by decide +kernel
theorem dX6_leastNext_61 : decode cX6_leastNext 61 = .ok (.iconst 0, 1) := by decide +kernel
theorem dX6_leastNext_62 : decode cX6_leastNext 62 = .ok (.istore 5, 2) := by decide +kernel
theorem dX6_leastNext_64 : decode cX6_leastNext 64 = .ok (.iload 5, 2) := by decide +kernel
theorem dX6_leastNext_66 : decode cX6_leastNext 66 = .ok (.ifCond .eq 7, 3) := by decide +kernel
theorem dX6_leastNext_69 : decode cX6_leastNext 69 = .ok (.iload_n 3, 1) := by decide +kernel
theorem dX6_leastNext_70 : decode cX6_leastNext 70 = .ok (.goto 4, 3) := by decide +kernel
theorem dX6_leastNext_73 : decode cX6_leastNext 73 = .ok (.iload_n 1, 1) := by decide +kernel
theorem dX6_leastNext_74 : decode cX6_leastNext 74 = .ok (.istore_n 1, 1) := by decide +kernel
theorem dX6_leastNext_75 : decode cX6_leastNext 75 = .ok (.iload 5, 2) := by decide +kernel
theorem dX6_leastNext_77 : decode cX6_leastNext 77 = .ok (.ifCond .eq 8, 3) := by decide +kernel
theorem dX6_leastNext_80 : decode cX6_leastNext 80 = .ok (.iload 4, 2) := by decide +kernel
theorem dX6_leastNext_82 : decode cX6_leastNext 82 = .ok (.goto 4, 3) := by decide +kernel
theorem dX6_leastNext_85 : decode cX6_leastNext 85 = .ok (.iload_n 2, 1) := by decide +kernel
theorem dX6_leastNext_86 : decode cX6_leastNext 86 = .ok (.istore_n 2, 1) := by decide +kernel
theorem dX6_leastNext_87 : decode cX6_leastNext 87 = .ok (.iinc 3 1, 3) := by decide +kernel
theorem dX6_leastNext_90 : decode cX6_leastNext 90 = .ok (.goto (-71), 3) := by decide +kernel
theorem dX6_leastNext_93 : decode cX6_leastNext 93 = .ok (.iload_n 1, 1) := by decide +kernel
theorem dX6_leastNext_94 : decode cX6_leastNext 94 = .ok (.ireturn, 1) := by decide +kernel
theorem dX6_firstOfPair_0 : decode cX6_firstOfPair 0 = .ok (.aload_n 0, 1) := by decide +kernel
theorem dX6_firstOfPair_1 : decode cX6_firstOfPair 1 = .ok (.iload_n 1, 1) := by decide +kernel
theorem dX6_firstOfPair_2 : decode cX6_firstOfPair 2 = .ok (.i2l, 1) := by decide +kernel
theorem dX6_firstOfPair_3 : decode cX6_firstOfPair 3 = .ok (.lconst 0, 1) := by decide +kernel
theorem dX6_firstOfPair_4 : decode cX6_firstOfPair 4 = .ok (.ldc2_w 203, 3) := by decide +kernel
theorem dX6_firstOfPair_7 : decode cX6_firstOfPair 7 = .ok (.invokestatic 43, 3) := by decide +kernel
theorem dX6_firstOfPair_10 : decode cX6_firstOfPair 10 = .ok (.ifCond .eq 7, 3) := by decide +kernel
theorem dX6_firstOfPair_13 : decode cX6_firstOfPair 13 = .ok (.iconst 0, 1) := by decide +kernel
theorem dX6_firstOfPair_14 : decode cX6_firstOfPair 14 = .ok (.goto 4, 3) := by decide +kernel
theorem dX6_firstOfPair_17 : decode cX6_firstOfPair 17 = .ok (.iconst 1, 1) := by decide +kernel
theorem dX6_firstOfPair_18 : decode cX6_firstOfPair 18 = .ok (.invokevirtual 95, 3) := by decide +kernel
theorem dX6_firstOfPair_21 : decode cX6_firstOfPair 21 = .ok (.ifCond .eq 5, 3) := by decide +kernel
theorem dX6_firstOfPair_24 : decode cX6_firstOfPair 24 = .ok (.iconst 0, 1) := by decide +kernel
theorem dX6_firstOfPair_25 : decode cX6_firstOfPair 25 = .ok (.ireturn, 1) := by decide +kernel
theorem dX6_firstOfPair_26 : decode cX6_firstOfPair 26 = .ok (.iload_n 1, 1) := by decide +kernel
theorem dX6_firstOfPair_27 : decode cX6_firstOfPair 27 = .ok (.istore_n 2, 1) := by decide +kernel
theorem dX6_firstOfPair_28 : decode cX6_firstOfPair 28 = .ok (.iconst 0, 1) := by decide +kernel
theorem dX6_firstOfPair_29 : decode cX6_firstOfPair 29 = .ok (.istore_n 3, 1) := by decide +kernel
theorem dX6_firstOfPair_30 : decode cX6_firstOfPair 30 = .ok (.iload_n 2, 1) := by decide +kernel
theorem dX6_firstOfPair_31 : decode cX6_firstOfPair 31 = .ok (.iload_n 3, 1) := by decide +kernel
theorem dX6_firstOfPair_32 : decode cX6_firstOfPair 32 = .ok (.if_icmp .le 13, 3) := by decide +kernel
theorem dX6_firstOfPair_35 : decode cX6_firstOfPair 35 = .ok (.iinc 3 1, 3) := by decide +kernel
theorem dX6_firstOfPair_38 : decode cX6_firstOfPair 38 = .ok (.iload_n 2, 1) := by decide +kernel
theorem dX6_firstOfPair_39 : decode cX6_firstOfPair 39 = .ok (.iload_n 3, 1) := by decide +kernel
theorem dX6_firstOfPair_40 : decode cX6_firstOfPair 40 = .ok (.isub, 1) := by decide +kernel
theorem dX6_firstOfPair_41 : decode cX6_firstOfPair 41 = .ok (.istore_n 2, 1) := by decide +kernel
theorem dX6_firstOfPair_42 : decode cX6_firstOfPair 42 = .ok (.goto (-12), 3) := by decide +kernel
theorem dX6_firstOfPair_45 : decode cX6_firstOfPair 45 = .ok (.iload_n 2, 1) := by decide +kernel
theorem dX6_firstOfPair_46 : decode cX6_firstOfPair 46 = .ok (.ireturn, 1) := by decide +kernel
theorem dX6_firstOfPairByWalking_0 : decode cX6_firstOfPairByWalking 0 = .ok (.aload_n 0, 1) := by decide +kernel
theorem dX6_firstOfPairByWalking_1 : decode cX6_firstOfPairByWalking 1 = .ok (.iload_n 1, 1) := by decide +kernel
theorem dX6_firstOfPairByWalking_2 : decode cX6_firstOfPairByWalking 2 = .ok (.invokevirtual 205, 3) := by decide +kernel
theorem dX6_firstOfPairByWalking_5 : decode cX6_firstOfPairByWalking 5 = .ok (.ireturn, 1) := by decide +kernel
theorem dX6_firstOfPairByCounting_0 : decode cX6_firstOfPairByCounting 0 = .ok (.aload_n 0, 1) := by decide +kernel
theorem dX6_firstOfPairByCounting_1 : decode cX6_firstOfPairByCounting 1 = .ok (.iload_n 1, 1) := by decide +kernel
theorem dX6_firstOfPairByCounting_2 : decode cX6_firstOfPairByCounting 2 = .ok (.invokevirtual 205, 3) := by decide +kernel
theorem dX6_firstOfPairByCounting_5 : decode cX6_firstOfPairByCounting 5 = .ok (.ireturn, 1) := by decide +kernel
theorem dX6_numberOfPair_0 : decode cX6_numberOfPair 0 = .ok (.aload_n 0, 1) := by decide +kernel
theorem dX6_numberOfPair_1 : decode cX6_numberOfPair 1 = .ok (.iload_n 1, 1) := by decide +kernel
theorem dX6_numberOfPair_2 : decode cX6_numberOfPair 2 = .ok (.i2l, 1) := by decide +kernel
theorem dX6_numberOfPair_3 : decode cX6_numberOfPair 3 = .ok (.lconst 0, 1) := by decide +kernel
theorem dX6_numberOfPair_4 : decode cX6_numberOfPair 4 = .ok (.ldc2_w 209, 3) := by decide +kernel
theorem dX6_numberOfPair_7 : decode cX6_numberOfPair 7 = .ok (.invokestatic 43, 3) := by decide +kernel
theorem dX6_numberOfPair_10 : decode cX6_numberOfPair 10 = .ok (.ifCond .eq 19, 3) := by decide +kernel
theorem dX6_numberOfPair_13 : decode cX6_numberOfPair 13 = .ok (.iload_n 2, 1) := by decide +kernel
theorem dX6_numberOfPair_14 : decode cX6_numberOfPair 14 = .ok (.i2l, 1) := by decide +kernel
theorem dX6_numberOfPair_15 : decode cX6_numberOfPair 15 = .ok (.lconst 0, 1) := by decide +kernel
theorem dX6_numberOfPair_16 : decode cX6_numberOfPair 16 = .ok (.ldc2_w 209, 3) := by decide +kernel
theorem dX6_numberOfPair_19 : decode cX6_numberOfPair 19 = .ok (.invokestatic 43, 3) := by decide +kernel
theorem dX6_numberOfPair_22 : decode cX6_numberOfPair 22 = .ok (.ifCond .eq 7, 3) := by decide +kernel
theorem dX6_numberOfPair_25 : decode cX6_numberOfPair 25 = .ok (.iconst 0, 1) := by decide +kernel
theorem dX6_numberOfPair_26 : decode cX6_numberOfPair 26 = .ok (.goto 4, 3) := by decide +kernel
theorem dX6_numberOfPair_29 : decode cX6_numberOfPair 29 = .ok (.iconst 1, 1) := by decide +kernel
theorem dX6_numberOfPair_30 : decode cX6_numberOfPair 30 = .ok (.invokevirtual 95, 3) := by decide +kernel
theorem dX6_numberOfPair_33 : decode cX6_numberOfPair 33 = .ok (.ifCond .eq 5, 3) := by decide +kernel
theorem dX6_numberOfPair_36 : decode cX6_numberOfPair 36 = .ok (.iconst 0, 1) := by decide +kernel
theorem dX6_numberOfPair_37 : decode cX6_numberOfPair 37 = .ok (.ireturn, 1) := by decide +kernel
theorem dX6_numberOfPair_38 : decode cX6_numberOfPair 38 = .ok (.iload_n 1, 1) := by decide +kernel
theorem dX6_numberOfPair_39 : decode cX6_numberOfPair 39 = .ok (.iload_n 2, 1) := by decide +kernel
theorem dX6_numberOfPair_40 : decode cX6_numberOfPair 40 = .ok (.iadd, 1) := by decide +kernel
theorem dX6_numberOfPair_41 : decode cX6_numberOfPair 41 = .ok (.iload_n 1, 1) := by decide +kernel
theorem dX6_numberOfPair_42 : decode cX6_numberOfPair 42 = .ok (.iload_n 2, 1) := by decide +kernel
theorem dX6_numberOfPair_43 : decode cX6_numberOfPair 43 = .ok (.iadd, 1) := by decide +kernel
theorem dX6_numberOfPair_44 : decode cX6_numberOfPair 44 = .ok (.iconst 1, 1) := by decide +kernel
theorem dX6_numberOfPair_45 : decode cX6_numberOfPair 45 = .ok (.iadd, 1) := by decide +kernel
theorem dX6_numberOfPair_46 : decode cX6_numberOfPair 46 = .ok (.imul, 1) := by decide +kernel
theorem dX6_numberOfPair_47 : decode cX6_numberOfPair 47 = .ok (.iconst 2, 1) := by decide +kernel
theorem dX6_numberOfPair_48 : decode cX6_numberOfPair 48 = .ok (.idiv, 1) := by decide +kernel
theorem dX6_numberOfPair_49 : decode cX6_numberOfPair 49 = .ok (.iload_n 1, 1) := by decide +kernel
theorem dX6_numberOfPair_50 : decode cX6_numberOfPair 50 = .ok (.iadd, 1) := by decide +kernel
theorem dX6_numberOfPair_51 : decode cX6_numberOfPair 51 = .ok (.ireturn, 1) := by decide +kernel
theorem dX6_whyNoDrop_0 : decode cX6_whyNoDrop 0 = .ok (.aload_n 0, 1) := by decide +kernel
theorem dX6_whyNoDrop_1 : decode cX6_whyNoDrop 1 = .ok (.iconst 0, 1) := by decide +kernel
theorem dX6_whyNoDrop_2 : decode cX6_whyNoDrop 2 = .ok (.putfield 39, 3) := by decide +kernel
theorem dX6_whyNoDrop_5 : decode cX6_whyNoDrop 5 = .ok (.aload_n 0, 1) := by decide +kernel
theorem dX6_whyNoDrop_6 : decode cX6_whyNoDrop 6 = .ok (.getfield 13, 3) := by decide +kernel
theorem dX6_whyNoDrop_9 : decode cX6_whyNoDrop 9 = .ok (.invokestatic 163, 3) := by decide +kernel
theorem dX6_whyNoDrop_12 : decode cX6_whyNoDrop 12 = .ok (.ireturn, 1) := by decide +kernel
theorem dX6_membersIfJoined_0 : decode cX6_membersIfJoined 0 = .ok (.aload_n 0, 1) := by decide +kernel
theorem dX6_membersIfJoined_1 : decode cX6_membersIfJoined 1 = .ok (.aload_n 0, 1) := by decide +kernel
theorem dX6_membersIfJoined_2 : decode cX6_membersIfJoined 2 = .ok (.iload_n 1, 1) := by decide +kernel
theorem dX6_membersIfJoined_3 : decode cX6_membersIfJoined 3 = .ok (.iload_n 2, 1) := by decide +kernel
theorem dX6_membersIfJoined_4 : decode cX6_membersIfJoined 4 = .ok (.invokevirtual 194, 3) := by decide +kernel
theorem dX6_membersIfJoined_7 : decode cX6_membersIfJoined 7 = .ok (.invokevirtual 95, 3) := by decide +kernel
theorem dX6_membersIfJoined_10 : decode cX6_membersIfJoined 10 = .ok (.ifCond .eq 5, 3) := by decide +kernel
theorem dX6_membersIfJoined_13 : decode cX6_membersIfJoined 13 = .ok (.iconst 0, 1) := by decide +kernel
theorem dX6_membersIfJoined_14 : decode cX6_membersIfJoined 14 = .ok (.ireturn, 1) := by decide +kernel
theorem dX6_membersIfJoined_15 : decode cX6_membersIfJoined 15 = .ok (.aload_n 0, 1) := by decide +kernel
theorem dX6_membersIfJoined_16 : decode cX6_membersIfJoined 16 = .ok (.aload_n 0, 1) := by decide +kernel
theorem dX6_membersIfJoined_17 : decode cX6_membersIfJoined 17 = .ok (.getfield 13, 3) := by decide +kernel
theorem dX6_membersIfJoined_20 : decode cX6_membersIfJoined 20 = .ok (.invokevirtual 127, 3) := by decide +kernel
theorem dX6_membersIfJoined_23 : decode cX6_membersIfJoined 23 = .ok (.iconst 0, 1) := by decide +kernel
theorem dX6_membersIfJoined_24 : decode cX6_membersIfJoined 24 = .ok (.istore_n 3, 1) := by decide +kernel
theorem dX6_membersIfJoined_25 : decode cX6_membersIfJoined 25 = .ok (.iconst 0, 1) := by decide +kernel
theorem dX6_membersIfJoined_26 : decode cX6_membersIfJoined 26 = .ok (.istore 4, 2) := by decide +kernel
theorem dX6_membersIfJoined_28 : decode cX6_membersIfJoined 28 = .ok (.iload 4, 2) := by decide +kernel
theorem dX6_membersIfJoined_30 : decode cX6_membersIfJoined 30 = .ok (.sipush 999, 3) := by decide +kernel
theorem dX6_membersIfJoined_33 : decode cX6_membersIfJoined 33 = .ok (.if_icmp .gt 37, 3) := by decide +kernel
theorem dX6_membersIfJoined_36 : decode cX6_membersIfJoined 36 = .ok (.iload_n 3, 1) := by decide +kernel
theorem dX6_membersIfJoined_37 : decode cX6_membersIfJoined 37 = .ok (.aload_n 0, 1) := by decide +kernel
theorem dX6_membersIfJoined_38 : decode cX6_membersIfJoined 38 = .ok (.iload_n 1, 1) := by decide +kernel
theorem dX6_membersIfJoined_39 : decode cX6_membersIfJoined 39 = .ok (.iload 4, 2) := by decide +kernel
theorem dX6_membersIfJoined_41 : decode cX6_membersIfJoined 41 = .ok (.invokevirtual 51, 3) := by decide +kernel
theorem dX6_membersIfJoined_44 : decode cX6_membersIfJoined 44 = .ok (.ifCond .ne 13, 3) := by decide +kernel
theorem dX6_membersIfJoined_47 : decode cX6_membersIfJoined 47 = .ok (.aload_n 0, 1) := by decide +kernel
theorem dX6_membersIfJoined_48 : decode cX6_membersIfJoined 48 = .ok (.iload_n 2, 1) := by decide +kernel
theorem dX6_membersIfJoined_49 : decode cX6_membersIfJoined 49 = .ok (.iload 4, 2) := by decide +kernel
theorem dX6_membersIfJoined_51 : decode cX6_membersIfJoined 51 = .ok (.invokevirtual 51, 3) := by decide +kernel
theorem dX6_membersIfJoined_54 : decode cX6_membersIfJoined 54 = .ok (.ifCond .eq 7, 3) := by decide +kernel
theorem dX6_membersIfJoined_57 : decode cX6_membersIfJoined 57 = .ok (.iconst 1, 1) := by decide +kernel
theorem dX6_membersIfJoined_58 : decode cX6_membersIfJoined 58 = .ok (.goto 4, 3) := by decide +kernel
theorem dX6_membersIfJoined_61 : decode cX6_membersIfJoined 61 = .ok (.iconst 0, 1) := by decide +kernel
theorem dX6_membersIfJoined_62 : decode cX6_membersIfJoined 62 = .ok (.iadd, 1) := by decide +kernel
theorem dX6_membersIfJoined_63 : decode cX6_membersIfJoined 63 = .ok (.istore_n 3, 1) := by decide +kernel
theorem dX6_membersIfJoined_64 : decode cX6_membersIfJoined 64 = .ok (.iinc 4 1, 3) := by decide +kernel
theorem dX6_membersIfJoined_67 : decode cX6_membersIfJoined 67 = .ok (.goto (-39), 3) := by decide +kernel
theorem dX6_membersIfJoined_70 : decode cX6_membersIfJoined 70 = .ok (.iload_n 3, 1) := by decide +kernel
theorem dX6_membersIfJoined_71 : decode cX6_membersIfJoined 71 = .ok (.ireturn, 1) := by decide +kernel
theorem dX6_skipsTo_0 : decode cX6_skipsTo 0 = .ok (.aload_n 0, 1) := by decide +kernel
theorem dX6_skipsTo_1 : decode cX6_skipsTo 1 = .ok (.aload_n 0, 1) := by decide +kernel
theorem dX6_skipsTo_2 : decode cX6_skipsTo 2 = .ok (.getfield 13, 3) := by decide +kernel
theorem dX6_skipsTo_5 : decode cX6_skipsTo 5 = .ok (.iload_n 1, 1) := by decide +kernel
theorem dX6_skipsTo_6 : decode cX6_skipsTo 6 = .ok (.invokestatic 130, 3) := by decide +kernel
theorem dX6_skipsTo_9 : decode cX6_skipsTo 9 = .ok (.ifCond .ne 7, 3) := by decide +kernel
theorem dX6_skipsTo_12 : decode cX6_skipsTo 12 = .ok (.iconst 1, 1) := by decide +kernel
theorem dX6_skipsTo_13 : decode cX6_skipsTo 13 = .ok (.goto 20, 3) := by decide +kernel
theorem dX6_skipsTo_16 : decode cX6_skipsTo 16 = .ok (.iload_n 2, 1) := by decide +kernel
theorem dX6_skipsTo_17 : decode cX6_skipsTo 17 = .ok (.i2l, 1) := by decide +kernel
theorem dX6_skipsTo_18 : decode cX6_skipsTo 18 = .ok (.lconst 0, 1) := by decide +kernel
theorem dX6_skipsTo_19 : decode cX6_skipsTo 19 = .ok (.ldc2_w 186, 3) := by decide +kernel
theorem dX6_skipsTo_22 : decode cX6_skipsTo 22 = .ok (.invokestatic 43, 3) := by decide +kernel
theorem dX6_skipsTo_25 : decode cX6_skipsTo 25 = .ok (.ifCond .eq 7, 3) := by decide +kernel
theorem dX6_skipsTo_28 : decode cX6_skipsTo 28 = .ok (.iconst 0, 1) := by decide +kernel
theorem dX6_skipsTo_29 : decode cX6_skipsTo 29 = .ok (.goto 4, 3) := by decide +kernel
theorem dX6_skipsTo_32 : decode cX6_skipsTo 32 = .ok (.iconst 2, 1) := by decide +kernel
theorem dX6_skipsTo_33 : decode cX6_skipsTo 33 = .ok (.invokevirtual 95, 3) := by decide +kernel
theorem dX6_skipsTo_36 : decode cX6_skipsTo 36 = .ok (.ifCond .eq 5, 3) := by decide +kernel
theorem dX6_skipsTo_39 : decode cX6_skipsTo 39 = .ok (.iconst 0, 1) := by decide +kernel
theorem dX6_skipsTo_40 : decode cX6_skipsTo 40 = .ok (.ireturn, 1) := by decide +kernel
theorem dX6_skipsTo_41 : decode cX6_skipsTo 41 = .ok (.aload_n 0, 1) := by decide +kernel
theorem dX6_skipsTo_42 : decode cX6_skipsTo 42 = .ok (.aload_n 0, 1) := by decide +kernel
theorem dX6_skipsTo_43 : decode cX6_skipsTo 43 = .ok (.getfield 13, 3) := by decide +kernel
theorem dX6_skipsTo_46 : decode cX6_skipsTo 46 = .ok (.invokevirtual 127, 3) := by decide +kernel
theorem dX6_skipsTo_49 : decode cX6_skipsTo 49 = .ok (.aload_n 0, 1) := by decide +kernel
theorem dX6_skipsTo_50 : decode cX6_skipsTo 50 = .ok (.getfield 13, 3) := by decide +kernel
theorem dX6_skipsTo_53 : decode cX6_skipsTo 53 = .ok (.iload_n 1, 1) := by decide +kernel
theorem dX6_skipsTo_54 : decode cX6_skipsTo 54 = .ok (.invokestatic 73, 3) := by decide +kernel
theorem dX6_skipsTo_57 : decode cX6_skipsTo 57 = .ok (.istore_n 3, 1) := by decide +kernel
theorem dX6_skipsTo_58 : decode cX6_skipsTo 58 = .ok (.iload_n 2, 1) := by decide +kernel
theorem dX6_skipsTo_59 : decode cX6_skipsTo 59 = .ok (.ifCond .ne 7, 3) := by decide +kernel
theorem dX6_skipsTo_62 : decode cX6_skipsTo 62 = .ok (.iconst 0, 1) := by decide +kernel
theorem dX6_skipsTo_63 : decode cX6_skipsTo 63 = .ok (.goto 11, 3) := by decide +kernel
theorem dX6_skipsTo_66 : decode cX6_skipsTo 66 = .ok (.aload_n 0, 1) := by decide +kernel
theorem dX6_skipsTo_67 : decode cX6_skipsTo 67 = .ok (.iload_n 3, 1) := by decide +kernel
theorem dX6_skipsTo_68 : decode cX6_skipsTo 68 = .ok (.iload_n 2, 1) := by decide +kernel
theorem dX6_skipsTo_69 : decode cX6_skipsTo 69 = .ok (.iconst 1, 1) := by decide +kernel
theorem dX6_skipsTo_70 : decode cX6_skipsTo 70 = .ok (.isub, 1) := by decide +kernel
theorem dX6_skipsTo_71 : decode cX6_skipsTo 71 = .ok (.invokevirtual 87, 3) := by decide +kernel
theorem dX6_skipsTo_74 : decode cX6_skipsTo 74 = .ok (.istore 4, 2) := by decide +kernel
theorem dX6_skipsTo_76 : decode cX6_skipsTo 76 = .ok (.iload 4, 2) := by decide +kernel
theorem dX6_skipsTo_78 : decode cX6_skipsTo 78 = .ok (.aload_n 0, 1) := by decide +kernel
theorem dX6_skipsTo_79 : decode cX6_skipsTo 79 = .ok (.getfield 13, 3) := by decide +kernel
theorem dX6_skipsTo_82 : decode cX6_skipsTo 82 = .ok (.iload_n 1, 1) := by decide +kernel
theorem dX6_skipsTo_83 : decode cX6_skipsTo 83 = .ok (.invokestatic 77, 3) := by decide +kernel
theorem dX6_skipsTo_86 : decode cX6_skipsTo 86 = .ok (.if_icmp .le 8, 3) := by decide +kernel
theorem dX6_skipsTo_89 : decode cX6_skipsTo 89 = .ok (.iload 4, 2) := by decide +kernel
theorem dX6_skipsTo_91 : decode cX6_skipsTo 91 = .ok (.goto 11, 3) := by decide +kernel
theorem dX6_skipsTo_94 : decode cX6_skipsTo 94 = .ok (.aload_n 0, 1) := by decide +kernel
theorem dX6_skipsTo_95 : decode cX6_skipsTo 95 = .ok (.getfield 13, 3) := by decide +kernel
theorem dX6_skipsTo_98 : decode cX6_skipsTo 98 = .ok (.iload_n 1, 1) := by decide +kernel
theorem dX6_skipsTo_99 : decode cX6_skipsTo 99 = .ok (.invokestatic 77, 3) := by decide +kernel
theorem dX6_skipsTo_102 : decode cX6_skipsTo 102 = .ok (.istore 5, 2) := by decide +kernel
theorem dX6_skipsTo_104 : decode cX6_skipsTo 104 = .ok (.aload_n 0, 1) := by decide +kernel
theorem dX6_skipsTo_105 : decode cX6_skipsTo 105 = .ok (.iload_n 3, 1) := by decide +kernel
theorem dX6_skipsTo_106 : decode cX6_skipsTo 106 = .ok (.iload 5, 2) := by decide +kernel
theorem dX6_skipsTo_108 : decode cX6_skipsTo 108 = .ok (.invokevirtual 80, 3) := by decide +kernel
theorem dX6_skipsTo_111 : decode cX6_skipsTo 111 = .ok (.iconst (-1), 1) := by decide +kernel
theorem dX6_skipsTo_112 : decode cX6_skipsTo 112 = .ok (.if_icmp .ne 7, 3) := by decide +kernel
theorem dX6_skipsTo_115 : decode cX6_skipsTo 115 = .ok (.iconst (-1), 1) := by decide +kernel
theorem dX6_skipsTo_116 : decode cX6_skipsTo 116 = .ok (.goto 14, 3) := by decide +kernel
theorem dX6_skipsTo_119 : decode cX6_skipsTo 119 = .ok (.iload 5, 2) := by decide +kernel
theorem dX6_skipsTo_121 : decode cX6_skipsTo 121 = .ok (.aload_n 0, 1) := by decide +kernel
theorem dX6_skipsTo_122 : decode cX6_skipsTo 122 = .ok (.getfield 13, 3) := by decide +kernel
theorem dX6_skipsTo_125 : decode cX6_skipsTo 125 = .ok (.iload_n 1, 1) := by decide +kernel
theorem dX6_skipsTo_126 : decode cX6_skipsTo 126 = .ok (.invokestatic 77, 3) := by decide +kernel
theorem dX6_skipsTo_129 : decode cX6_skipsTo 129 = .ok (.isub, 1) := by decide +kernel
theorem dX6_skipsTo_130 : decode cX6_skipsTo 130 = .ok (.ireturn, 1) := by decide +kernel
theorem dX6_turnList_0 : decode cX6_turnList 0 = .ok (.iload_n 2, 1) := by decide +kernel
theorem dX6_turnList_1 : decode cX6_turnList 1 = .ok (.bipush 12, 2) := by decide +kernel
theorem dX6_turnList_3 : decode cX6_turnList 3 = .ok (.irem, 1) := by decide +kernel
theorem dX6_turnList_4 : decode cX6_turnList 4 = .ok (.istore_n 3, 1) := by decide +kernel
theorem dX6_turnList_5 : decode cX6_turnList 5 = .ok (.iload_n 2, 1) := by decide +kernel
theorem dX6_turnList_6 : decode cX6_turnList 6 = .ok (.bipush 16, 2) := by decide +kernel
theorem dX6_turnList_8 : decode cX6_turnList 8 = .ok (.idiv, 1) := by decide +kernel
theorem dX6_turnList_9 : decode cX6_turnList 9 = .ok (.bipush 12, 2) := by decide +kernel
theorem dX6_turnList_11 : decode cX6_turnList 11 = .ok (.irem, 1) := by decide +kernel
theorem dX6_turnList_12 : decode cX6_turnList 12 = .ok (.istore 4, 2) := by decide +kernel
theorem dX6_turnList_14 : decode cX6_turnList 14 = .ok (.aload_n 0, 1) := by decide +kernel
theorem dX6_turnList_15 : decode cX6_turnList 15 = .ok (.invokestatic 111, 3) := by decide +kernel
theorem dX6_turnList_18 : decode cX6_turnList 18 = .ok (.ifCond .ne 4, 3) := by decide +kernel
theorem dX6_turnList_21 : decode cX6_turnList 21 = .ok (.return_, 1) := by decide +kernel
theorem dX6_turnList_22 : decode cX6_turnList 22 = .ok (.iload_n 1, 1) := by decide +kernel
theorem dX6_turnList_23 : decode cX6_turnList 23 = .ok (.iconst 2, 1) := by decide +kernel
theorem dX6_turnList_24 : decode cX6_turnList 24 = .ok (.if_icmp .ge 27, 3) := by decide +kernel
theorem dX6_turnList_27 : decode cX6_turnList 27 = .ok (.aload_n 0, 1) := by decide +kernel
theorem dX6_turnList_28 : decode cX6_turnList 28 = .ok (.iconst 0, 1) := by decide +kernel
theorem dX6_turnList_29 : decode cX6_turnList 29 = .ok (.iload_n 2, 1) := by decide +kernel
theorem dX6_turnList_30 : decode cX6_turnList 30 = .ok (.bipush 100, 2) := by decide +kernel
theorem dX6_turnList_32 : decode cX6_turnList 32 = .ok (.irem, 1) := by decide +kernel
theorem dX6_turnList_33 : decode cX6_turnList 33 = .ok (.iconst 1, 1) := by decide +kernel
theorem dX6_turnList_34 : decode cX6_turnList 34 = .ok (.iload_n 2, 1) := by decide +kernel
theorem dX6_turnList_35 : decode cX6_turnList 35 = .ok (.sipush 128, 3) := by decide +kernel
theorem dX6_turnList_38 : decode cX6_turnList 38 = .ok (.idiv, 1) := by decide +kernel
theorem dX6_turnList_39 : decode cX6_turnList 39 = .ok (.bipush 20, 2) := by decide +kernel
theorem dX6_turnList_41 : decode cX6_turnList 41 = .ok (.irem, 1) := by decide +kernel
theorem dX6_turnList_42 : decode cX6_turnList 42 = .ok (.iadd, 1) := by decide +kernel
theorem dX6_turnList_43 : decode cX6_turnList 43 = .ok (.iconst 0, 1) := by decide +kernel
theorem dX6_turnList_44 : decode cX6_turnList 44 = .ok (.invokestatic 115, 3) := by decide +kernel
theorem dX6_turnList_47 : decode cX6_turnList 47 = .ok (.pop, 1) := by decide +kernel
theorem dX6_turnList_48 : decode cX6_turnList 48 = .ok (.goto 93, 3) := by decide +kernel
theorem dX6_turnList_51 : decode cX6_turnList 51 = .ok (.aload_n 0, 1) := by decide +kernel
theorem dX6_turnList_52 : decode cX6_turnList 52 = .ok (.iload_n 3, 1) := by decide +kernel
theorem dX6_turnList_53 : decode cX6_turnList 53 = .ok (.invokestatic 123, 3) := by decide +kernel
theorem dX6_turnList_56 : decode cX6_turnList 56 = .ok (.ifCond .eq 85, 3) := by decide +kernel
theorem dX6_turnList_59 : decode cX6_turnList 59 = .ok (.iload_n 1, 1) := by decide +kernel
theorem dX6_turnList_60 : decode cX6_turnList 60 = .ok (.iconst 2, 1) := by decide +kernel
theorem dX6_turnList_61 : decode cX6_turnList 61 = .ok (.if_icmp .ne 22, 3) := by decide +kernel
theorem dX6_turnList_64 : decode cX6_turnList 64 = .ok (.aload_n 0, 1) := by decide +kernel
theorem dX6_turnList_65 : decode cX6_turnList 65 = .ok (.iconst 1, 1) := by decide +kernel
theorem dX6_turnList_66 : decode cX6_turnList 66 = .ok (.iload_n 3, 1) := by decide +kernel
theorem dX6_turnList_67 : decode cX6_turnList 67 = .ok (.iconst 1, 1) := by decide +kernel
theorem dX6_turnList_68 : decode cX6_turnList 68 = .ok (.iload_n 2, 1) := by decide +kernel
theorem dX6_turnList_69 : decode cX6_turnList 69 = .ok (.bipush 16, 2) := by decide +kernel
theorem dX6_turnList_71 : decode cX6_turnList 71 = .ok (.idiv, 1) := by decide +kernel
theorem dX6_turnList_72 : decode cX6_turnList 72 = .ok (.iconst 3, 1) := by decide +kernel
theorem dX6_turnList_73 : decode cX6_turnList 73 = .ok (.irem, 1) := by decide +kernel
theorem dX6_turnList_74 : decode cX6_turnList 74 = .ok (.iadd, 1) := by decide +kernel
theorem dX6_turnList_75 : decode cX6_turnList 75 = .ok (.iconst 0, 1) := by decide +kernel
theorem dX6_turnList_76 : decode cX6_turnList 76 = .ok (.invokestatic 115, 3) := by decide +kernel
theorem dX6_turnList_79 : decode cX6_turnList 79 = .ok (.pop, 1) := by decide +kernel
theorem dX6_turnList_80 : decode cX6_turnList 80 = .ok (.goto 61, 3) := by decide +kernel
theorem dX6_turnList_83 : decode cX6_turnList 83 = .ok (.iload_n 1, 1) := by decide +kernel
theorem dX6_turnList_84 : decode cX6_turnList 84 = .ok (.bipush 6, 2) := by decide +kernel
theorem dX6_turnList_86 : decode cX6_turnList 86 = .ok (.if_icmp .ge 27, 3) := by decide +kernel
theorem dX6_turnList_89 : decode cX6_turnList 89 = .ok (.aload_n 0, 1) := by decide +kernel
theorem dX6_turnList_90 : decode cX6_turnList 90 = .ok (.iload 4, 2) := by decide +kernel
theorem dX6_turnList_92 : decode cX6_turnList 92 = .ok (.invokestatic 123, 3) := by decide +kernel
theorem dX6_turnList_95 : decode cX6_turnList 95 = .ok (.ifCond .eq 46, 3) := by decide +kernel
theorem dX6_turnList_98 : decode cX6_turnList 98 = .ok (.aload_n 0, 1) := by decide +kernel
theorem dX6_turnList_99 : decode cX6_turnList 99 = .ok (.iload_n 1, 1) := by decide +kernel
theorem dX6_turnList_100 : decode cX6_turnList 100 = .ok (.iconst 1, 1) := by decide +kernel
theorem dX6_turnList_101 : decode cX6_turnList 101 = .ok (.isub, 1) := by decide +kernel
theorem dX6_turnList_102 : decode cX6_turnList 102 = .ok (.iload_n 3, 1) := by decide +kernel
theorem dX6_turnList_103 : decode cX6_turnList 103 = .ok (.iload 4, 2) := by decide +kernel
theorem dX6_turnList_105 : decode cX6_turnList 105 = .ok (.iconst 0, 1) := by decide +kernel
theorem dX6_turnList_106 : decode cX6_turnList 106 = .ok (.invokestatic 115, 3) := by decide +kernel
theorem dX6_turnList_109 : decode cX6_turnList 109 = .ok (.pop, 1) := by decide +kernel
theorem dX6_turnList_110 : decode cX6_turnList 110 = .ok (.goto 31, 3) := by decide +kernel
theorem dX6_turnList_113 : decode cX6_turnList 113 = .ok (.aload_n 0, 1) := by decide +kernel
theorem dX6_turnList_114 : decode cX6_turnList 114 = .ok (.iload_n 1, 1) := by decide +kernel
theorem dX6_turnList_115 : decode cX6_turnList 115 = .ok (.iconst 1, 1) := by decide +kernel
theorem dX6_turnList_116 : decode cX6_turnList 116 = .ok (.isub, 1) := by decide +kernel
theorem dX6_turnList_117 : decode cX6_turnList 117 = .ok (.iload_n 3, 1) := by decide +kernel
theorem dX6_turnList_118 : decode cX6_turnList 118 = .ok (.iload_n 1, 1) := by decide +kernel
theorem dX6_turnList_119 : decode cX6_turnList 119 = .ok (.bipush 7, 2) := by decide +kernel
theorem dX6_turnList_121 : decode cX6_turnList 121 = .ok (.if_icmp .ne 14, 3) := by decide +kernel
theorem dX6_turnList_124 : decode cX6_turnList 124 = .ok (.iconst 1, 1) := by decide +kernel
theorem dX6_turnList_125 : decode cX6_turnList 125 = .ok (.iload_n 2, 1) := by decide +kernel
theorem dX6_turnList_126 : decode cX6_turnList 126 = .ok (.bipush 16, 2) := by decide +kernel
theorem dX6_turnList_128 : decode cX6_turnList 128 = .ok (.idiv, 1) := by decide +kernel
theorem dX6_turnList_129 : decode cX6_turnList 129 = .ok (.iconst 4, 1) := by decide +kernel
theorem dX6_turnList_130 : decode cX6_turnList 130 = .ok (.irem, 1) := by decide +kernel
theorem dX6_turnList_131 : decode cX6_turnList 131 = .ok (.iadd, 1) := by decide +kernel
theorem dX6_turnList_132 : decode cX6_turnList 132 = .ok (.goto 4, 3) := by decide +kernel
theorem dX6_turnList_135 : decode cX6_turnList 135 = .ok (.iconst 0, 1) := by decide +kernel
theorem dX6_turnList_136 : decode cX6_turnList 136 = .ok (.iconst 0, 1) := by decide +kernel
theorem dX6_turnList_137 : decode cX6_turnList 137 = .ok (.invokestatic 115, 3) := by decide +kernel
theorem dX6_turnList_140 : decode cX6_turnList 140 = .ok (.pop, 1) := by decide +kernel
theorem dX6_turnList_141 : decode cX6_turnList 141 = .ok (.return_, 1) := by decide +kernel
theorem dX6_turnOf_0 : decode cX6_turnOf 0 = .ok (.iload_n 2, 1) := by decide +kernel
theorem dX6_turnOf_1 : decode cX6_turnOf 1 = .ok (.bipush 9, 2) := by decide +kernel
theorem dX6_turnOf_3 : decode cX6_turnOf 3 = .ok (.if_icmp .ge 12, 3) := by decide +kernel
theorem dX6_turnOf_6 : decode cX6_turnOf 6 = .ok (.aload_n 1, 1) := by decide +kernel
theorem dX6_turnOf_7 : decode cX6_turnOf 7 = .ok (.iload_n 2, 1) := by decide +kernel
theorem dX6_turnOf_8 : decode cX6_turnOf 8 = .ok (.iload_n 3, 1) := by decide +kernel
theorem dX6_turnOf_9 : decode cX6_turnOf 9 = .ok (.invokestatic 211, 3) := by decide +kernel
theorem dX6_turnOf_12 : decode cX6_turnOf 12 = .ok (.goto 100, 3) := by decide +kernel
theorem dX6_turnOf_15 : decode cX6_turnOf 15 = .ok (.iload_n 2, 1) := by decide +kernel
theorem dX6_turnOf_16 : decode cX6_turnOf 16 = .ok (.bipush 9, 2) := by decide +kernel
theorem dX6_turnOf_18 : decode cX6_turnOf 18 = .ok (.if_icmp .ne 33, 3) := by decide +kernel
theorem dX6_turnOf_21 : decode cX6_turnOf 21 = .ok (.aload_n 1, 1) := by decide +kernel
theorem dX6_turnOf_22 : decode cX6_turnOf 22 = .ok (.iload_n 3, 1) := by decide +kernel
theorem dX6_turnOf_23 : decode cX6_turnOf 23 = .ok (.bipush 12, 2) := by decide +kernel
theorem dX6_turnOf_25 : decode cX6_turnOf 25 = .ok (.irem, 1) := by decide +kernel
theorem dX6_turnOf_26 : decode cX6_turnOf 26 = .ok (.invokestatic 123, 3) := by decide +kernel
theorem dX6_turnOf_29 : decode cX6_turnOf 29 = .ok (.ifCond .eq 83, 3) := by decide +kernel
theorem dX6_turnOf_32 : decode cX6_turnOf 32 = .ok (.aload_n 1, 1) := by decide +kernel
theorem dX6_turnOf_33 : decode cX6_turnOf 33 = .ok (.iconst 1, 1) := by decide +kernel
theorem dX6_turnOf_34 : decode cX6_turnOf 34 = .ok (.iaload, 1) := by decide +kernel
theorem dX6_turnOf_35 : decode cX6_turnOf 35 = .ok (.iconst 4, 1) := by decide +kernel
theorem dX6_turnOf_36 : decode cX6_turnOf 36 = .ok (.if_icmp .ge 76, 3) := by decide +kernel
theorem dX6_turnOf_39 : decode cX6_turnOf 39 = .ok (.aload_n 1, 1) := by decide +kernel
theorem dX6_turnOf_40 : decode cX6_turnOf 40 = .ok (.iload_n 3, 1) := by decide +kernel
theorem dX6_turnOf_41 : decode cX6_turnOf 41 = .ok (.bipush 12, 2) := by decide +kernel
theorem dX6_turnOf_43 : decode cX6_turnOf 43 = .ok (.irem, 1) := by decide +kernel
theorem dX6_turnOf_44 : decode cX6_turnOf 44 = .ok (.invokestatic 157, 3) := by decide +kernel
theorem dX6_turnOf_47 : decode cX6_turnOf 47 = .ok (.pop, 1) := by decide +kernel
theorem dX6_turnOf_48 : decode cX6_turnOf 48 = .ok (.goto 64, 3) := by decide +kernel
theorem dX6_turnOf_51 : decode cX6_turnOf 51 = .ok (.iload_n 2, 1) := by decide +kernel
theorem dX6_turnOf_52 : decode cX6_turnOf 52 = .ok (.bipush 10, 2) := by decide +kernel
theorem dX6_turnOf_54 : decode cX6_turnOf 54 = .ok (.if_icmp .ne 18, 3) := by decide +kernel
theorem dX6_turnOf_57 : decode cX6_turnOf 57 = .ok (.aload_n 1, 1) := by decide +kernel
theorem dX6_turnOf_58 : decode cX6_turnOf 58 = .ok (.invokestatic 163, 3) := by decide +kernel
theorem dX6_turnOf_61 : decode cX6_turnOf 61 = .ok (.ifCond .ne 51, 3) := by decide +kernel
theorem dX6_turnOf_64 : decode cX6_turnOf 64 = .ok (.aload_n 1, 1) := by decide +kernel
theorem dX6_turnOf_65 : decode cX6_turnOf 65 = .ok (.invokestatic 167, 3) := by decide +kernel
theorem dX6_turnOf_68 : decode cX6_turnOf 68 = .ok (.pop, 1) := by decide +kernel
theorem dX6_turnOf_69 : decode cX6_turnOf 69 = .ok (.goto 43, 3) := by decide +kernel
theorem dX6_turnOf_72 : decode cX6_turnOf 72 = .ok (.aload_n 1, 1) := by decide +kernel
theorem dX6_turnOf_73 : decode cX6_turnOf 73 = .ok (.iload_n 3, 1) := by decide +kernel
theorem dX6_turnOf_74 : decode cX6_turnOf 74 = .ok (.iconst 4, 1) := by decide +kernel
theorem dX6_turnOf_75 : decode cX6_turnOf 75 = .ok (.irem, 1) := by decide +kernel
theorem dX6_turnOf_76 : decode cX6_turnOf 76 = .ok (.invokestatic 130, 3) := by decide +kernel
theorem dX6_turnOf_79 : decode cX6_turnOf 79 = .ok (.ifCond .eq 33, 3) := by decide +kernel
theorem dX6_turnOf_82 : decode cX6_turnOf 82 = .ok (.aload_n 0, 1) := by decide +kernel
theorem dX6_turnOf_83 : decode cX6_turnOf 83 = .ok (.aload_n 1, 1) := by decide +kernel
theorem dX6_turnOf_84 : decode cX6_turnOf 84 = .ok (.invokevirtual 127, 3) := by decide +kernel
theorem dX6_turnOf_87 : decode cX6_turnOf 87 = .ok (.aload_n 0, 1) := by decide +kernel
theorem dX6_turnOf_88 : decode cX6_turnOf 88 = .ok (.aload_n 1, 1) := by decide +kernel
theorem dX6_turnOf_89 : decode cX6_turnOf 89 = .ok (.iload_n 3, 1) := by decide +kernel
theorem dX6_turnOf_90 : decode cX6_turnOf 90 = .ok (.iconst 4, 1) := by decide +kernel
theorem dX6_turnOf_91 : decode cX6_turnOf 91 = .ok (.irem, 1) := by decide +kernel
theorem dX6_turnOf_92 : decode cX6_turnOf 92 = .ok (.invokevirtual 84, 3) := by decide +kernel
theorem dX6_turnOf_95 : decode cX6_turnOf 95 = .ok (.iconst (-1), 1) := by decide +kernel
theorem dX6_turnOf_96 : decode cX6_turnOf 96 = .ok (.if_icmp .ne 7, 3) := by decide +kernel
theorem dX6_turnOf_99 : decode cX6_turnOf 99 = .ok (.iconst 0, 1) := by decide +kernel
theorem dX6_turnOf_100 : decode cX6_turnOf 100 = .ok (.goto 11, 3) := by decide +kernel
theorem dX6_turnOf_103 : decode cX6_turnOf 103 = .ok (.aload_n 0, 1) := by decide +kernel
theorem dX6_turnOf_104 : decode cX6_turnOf 104 = .ok (.aload_n 1, 1) := by decide +kernel
theorem dX6_turnOf_105 : decode cX6_turnOf 105 = .ok (.iload_n 3, 1) := by decide +kernel
theorem dX6_turnOf_106 : decode cX6_turnOf 106 = .ok (.iconst 4, 1) := by decide +kernel
theorem dX6_turnOf_107 : decode cX6_turnOf 107 = .ok (.irem, 1) := by decide +kernel
theorem dX6_turnOf_108 : decode cX6_turnOf 108 = .ok (.invokevirtual 133, 3) := by decide +kernel
theorem dX6_turnOf_111 : decode cX6_turnOf 111 = .ok (.ireturn, 1) := by decide +kernel
theorem dX6_turnOf_112 : decode cX6_turnOf 112 = .ok (.iconst 0, 1) := by decide +kernel
theorem dX6_turnOf_113 : decode cX6_turnOf 113 = .ok (.ireturn, 1) := by decide +kernel
theorem dX6_simulate_0 : decode cX6_simulate 0 = .ok (.aload_n 0, 1) := by decide +kernel
theorem dX6_simulate_1 : decode cX6_simulate 1 = .ok (.iload_n 3, 1) := by decide +kernel
theorem dX6_simulate_2 : decode cX6_simulate 2 = .ok (.i2l, 1) := by decide +kernel
theorem dX6_simulate_3 : decode cX6_simulate 3 = .ok (.lconst 1, 1) := by decide +kernel
theorem dX6_simulate_4 : decode cX6_simulate 4 = .ok (.ldc2_w 215, 3) := by decide +kernel
theorem dX6_simulate_7 : decode cX6_simulate 7 = .ok (.invokestatic 43, 3) := by decide +kernel
theorem dX6_simulate_10 : decode cX6_simulate 10 = .ok (.ifCond .eq 7, 3) := by decide +kernel
theorem dX6_simulate_13 : decode cX6_simulate 13 = .ok (.iconst 0, 1) := by decide +kernel
theorem dX6_simulate_14 : decode cX6_simulate 14 = .ok (.goto 4, 3) := by decide +kernel
theorem dX6_simulate_17 : decode cX6_simulate 17 = .ok (.iconst 1, 1) := by decide +kernel
theorem dX6_simulate_18 : decode cX6_simulate 18 = .ok (.invokevirtual 95, 3) := by decide +kernel
theorem dX6_simulate_21 : decode cX6_simulate 21 = .ok (.ifCond .eq 5, 3) := by decide +kernel
theorem dX6_simulate_24 : decode cX6_simulate 24 = .ok (.iconst 0, 1) := by decide +kernel
theorem dX6_simulate_25 : decode cX6_simulate 25 = .ok (.ireturn, 1) := by decide +kernel
theorem dX6_simulate_26 : decode cX6_simulate 26 = .ok (.aload_n 0, 1) := by decide +kernel
theorem dX6_simulate_27 : decode cX6_simulate 27 = .ok (.getfield 13, 3) := by decide +kernel
theorem dX6_simulate_30 : decode cX6_simulate 30 = .ok (.iconst 0, 1) := by decide +kernel
theorem dX6_simulate_31 : decode cX6_simulate 31 = .ok (.aload_n 0, 1) := by decide +kernel
theorem dX6_simulate_32 : decode cX6_simulate 32 = .ok (.getfield 16, 3) := by decide +kernel
theorem dX6_simulate_35 : decode cX6_simulate 35 = .ok (.iconst 0, 1) := by decide +kernel
theorem dX6_simulate_36 : decode cX6_simulate 36 = .ok (.invokestatic 176, 3) := by decide +kernel
theorem dX6_simulate_39 : decode cX6_simulate 39 = .ok (.iconst 0, 1) := by decide +kernel
theorem dX6_simulate_40 : decode cX6_simulate 40 = .ok (.istore 4, 2) := by decide +kernel
theorem dX6_simulate_42 : decode cX6_simulate 42 = .ok (.lload_n 1, 1) := by decide +kernel
theorem dX6_simulate_43 : decode cX6_simulate 43 = .ok (.lstore 5, 2) := by decide +kernel
theorem dX6_simulate_45 : decode cX6_simulate 45 = .ok (.iconst 0, 1) := by decide +kernel
theorem dX6_simulate_46 : decode cX6_simulate 46 = .ok (.istore 7, 2) := by decide +kernel
theorem dX6_simulate_48 : decode cX6_simulate 48 = .ok (.iload 7, 2) := by decide +kernel
theorem dX6_simulate_50 : decode cX6_simulate 50 = .ok (.iload_n 3, 1) := by decide +kernel
theorem dX6_simulate_51 : decode cX6_simulate 51 = .ok (.if_icmp .ge 52, 3) := by decide +kernel
theorem dX6_simulate_54 : decode cX6_simulate 54 = .ok (.lload 5, 2) := by decide +kernel
theorem dX6_simulate_56 : decode cX6_simulate 56 = .ok (.ldc2_w 217, 3) := by decide +kernel
theorem dX6_simulate_59 : decode cX6_simulate 59 = .ok (.lmul, 1) := by decide +kernel
theorem dX6_simulate_60 : decode cX6_simulate 60 = .ok (.ldc2_w 219, 3) := by decide +kernel
theorem dX6_simulate_63 : decode cX6_simulate 63 = .ok (.ladd, 1) := by decide +kernel
theorem dX6_simulate_64 : decode cX6_simulate 64 = .ok (.lstore 5, 2) := by decide +kernel
theorem dX6_simulate_66 : decode cX6_simulate 66 = .ok (.lload 5, 2) := by decide +kernel
theorem dX6_simulate_68 : decode cX6_simulate 68 = .ok (.bipush 33, 2) := by decide +kernel
theorem dX6_simulate_70 : decode cX6_simulate 70 = .ok (.lushr, 1) := by decide +kernel
theorem dX6_simulate_71 : decode cX6_simulate 71 = .ok (.l2i, 1) := by decide +kernel
theorem dX6_simulate_72 : decode cX6_simulate 72 = .ok (.istore 8, 2) := by decide +kernel
theorem dX6_simulate_74 : decode cX6_simulate 74 = .ok (.iload 4, 2) := by decide +kernel
theorem dX6_simulate_76 : decode cX6_simulate 76 = .ok (.aload_n 0, 1) := by decide +kernel
theorem dX6_simulate_77 : decode cX6_simulate 77 = .ok (.aload_n 0, 1) := by decide +kernel
theorem dX6_simulate_78 : decode cX6_simulate 78 = .ok (.getfield 16, 3) := by decide +kernel
theorem dX6_simulate_81 : decode cX6_simulate 81 = .ok (.iload 8, 2) := by decide +kernel
theorem dX6_simulate_83 : decode cX6_simulate 83 = .ok (.bipush 16, 2) := by decide +kernel
theorem dX6_simulate_85 : decode cX6_simulate 85 = .ok (.irem, 1) := by decide +kernel
theorem dX6_simulate_86 : decode cX6_simulate 86 = .ok (.iload 8, 2) := by decide +kernel
theorem dX6_simulate_88 : decode cX6_simulate 88 = .ok (.bipush 16, 2) := by decide +kernel
theorem dX6_simulate_90 : decode cX6_simulate 90 = .ok (.idiv, 1) := by decide +kernel
theorem dX6_simulate_91 : decode cX6_simulate 91 = .ok (.invokevirtual 221, 3) := by decide +kernel
theorem dX6_simulate_94 : decode cX6_simulate 94 = .ok (.iadd, 1) := by decide +kernel
theorem dX6_simulate_95 : decode cX6_simulate 95 = .ok (.istore 4, 2) := by decide +kernel
theorem dX6_simulate_97 : decode cX6_simulate 97 = .ok (.iinc 7 1, 3) := by decide +kernel
theorem dX6_simulate_100 : decode cX6_simulate 100 = .ok (.goto (-52), 3) := by decide +kernel
theorem dX6_simulate_103 : decode cX6_simulate 103 = .ok (.sipush 10000, 3) := by decide +kernel
theorem dX6_simulate_106 : decode cX6_simulate 106 = .ok (.aload_n 0, 1) := by decide +kernel
theorem dX6_simulate_107 : decode cX6_simulate 107 = .ok (.getfield 16, 3) := by decide +kernel
theorem dX6_simulate_110 : decode cX6_simulate 110 = .ok (.iconst 0, 1) := by decide +kernel
theorem dX6_simulate_111 : decode cX6_simulate 111 = .ok (.iaload, 1) := by decide +kernel
theorem dX6_simulate_112 : decode cX6_simulate 112 = .ok (.imul, 1) := by decide +kernel
theorem dX6_simulate_113 : decode cX6_simulate 113 = .ok (.iload 4, 2) := by decide +kernel
theorem dX6_simulate_115 : decode cX6_simulate 115 = .ok (.sipush 10000, 3) := by decide +kernel
theorem dX6_simulate_118 : decode cX6_simulate 118 = .ok (.irem, 1) := by decide +kernel
theorem dX6_simulate_119 : decode cX6_simulate 119 = .ok (.iadd, 1) := by decide +kernel
theorem dX6_simulate_120 : decode cX6_simulate 120 = .ok (.ireturn, 1) := by decide +kernel
theorem dX6_save_0 : decode cX6_save 0 = .ok (.aload_n 0, 1) := by decide +kernel
theorem dX6_save_1 : decode cX6_save 1 = .ok (.iload_n 1, 1) := by decide +kernel
theorem dX6_save_2 : decode cX6_save 2 = .ok (.i2l, 1) := by decide +kernel
theorem dX6_save_3 : decode cX6_save 3 = .ok (.lconst 0, 1) := by decide +kernel
theorem dX6_save_4 : decode cX6_save 4 = .ok (.lconst 1, 1) := by decide +kernel
theorem dX6_save_5 : decode cX6_save 5 = .ok (.invokestatic 43, 3) := by decide +kernel
theorem dX6_save_8 : decode cX6_save 8 = .ok (.ifCond .eq 7, 3) := by decide +kernel
theorem dX6_save_11 : decode cX6_save 11 = .ok (.iconst 0, 1) := by decide +kernel
theorem dX6_save_12 : decode cX6_save 12 = .ok (.goto 4, 3) := by decide +kernel
theorem dX6_save_15 : decode cX6_save 15 = .ok (.iconst 1, 1) := by decide +kernel
theorem dX6_save_16 : decode cX6_save 16 = .ok (.invokevirtual 95, 3) := by decide +kernel
theorem dX6_save_19 : decode cX6_save 19 = .ok (.ifCond .eq 5, 3) := by decide +kernel
theorem dX6_save_22 : decode cX6_save 22 = .ok (.iconst 0, 1) := by decide +kernel
theorem dX6_save_23 : decode cX6_save 23 = .ok (.ireturn, 1) := by decide +kernel
theorem dX6_save_24 : decode cX6_save 24 = .ok (.aload_n 0, 1) := by decide +kernel
theorem dX6_save_25 : decode cX6_save 25 = .ok (.getfield 13, 3) := by decide +kernel
theorem dX6_save_28 : decode cX6_save 28 = .ok (.iconst 0, 1) := by decide +kernel
theorem dX6_save_29 : decode cX6_save 29 = .ok (.aload_n 0, 1) := by decide +kernel
theorem dX6_save_30 : decode cX6_save 30 = .ok (.getfield 22, 3) := by decide +kernel
theorem dX6_save_33 : decode cX6_save 33 = .ok (.bipush 59, 2) := by decide +kernel
theorem dX6_save_35 : decode cX6_save 35 = .ok (.iload_n 1, 1) := by decide +kernel
theorem dX6_save_36 : decode cX6_save 36 = .ok (.imul, 1) := by decide +kernel
theorem dX6_save_37 : decode cX6_save 37 = .ok (.invokestatic 176, 3) := by decide +kernel
theorem dX6_save_40 : decode cX6_save 40 = .ok (.aload_n 0, 1) := by decide +kernel
theorem dX6_save_41 : decode cX6_save 41 = .ok (.getfield 25, 3) := by decide +kernel
theorem dX6_save_44 : decode cX6_save 44 = .ok (.iload_n 1, 1) := by decide +kernel
theorem dX6_save_45 : decode cX6_save 45 = .ok (.iconst 1, 1) := by decide +kernel
theorem dX6_save_46 : decode cX6_save 46 = .ok (.bastore, 1) := by decide +kernel
theorem dX6_save_47 : decode cX6_save 47 = .ok (.aload_n 0, 1) := by decide +kernel
theorem dX6_save_48 : decode cX6_save 48 = .ok (.getfield 13, 3) := by decide +kernel
theorem dX6_save_51 : decode cX6_save 51 = .ok (.iconst 0, 1) := by decide +kernel
theorem dX6_save_52 : decode cX6_save 52 = .ok (.iaload, 1) := by decide +kernel
theorem dX6_save_53 : decode cX6_save 53 = .ok (.ireturn, 1) := by decide +kernel
theorem dX6_restore_0 : decode cX6_restore 0 = .ok (.aload_n 0, 1) := by decide +kernel
theorem dX6_restore_1 : decode cX6_restore 1 = .ok (.iload_n 1, 1) := by decide +kernel
theorem dX6_restore_2 : decode cX6_restore 2 = .ok (.i2l, 1) := by decide +kernel
theorem dX6_restore_3 : decode cX6_restore 3 = .ok (.lconst 0, 1) := by decide +kernel
theorem dX6_restore_4 : decode cX6_restore 4 = .ok (.lconst 1, 1) := by decide +kernel
theorem dX6_restore_5 : decode cX6_restore 5 = .ok (.invokestatic 43, 3) := by decide +kernel
theorem dX6_restore_8 : decode cX6_restore 8 = .ok (.ifCond .ne 7, 3) := by decide +kernel
theorem dX6_restore_11 : decode cX6_restore 11 = .ok (.iconst 1, 1) := by decide +kernel
theorem dX6_restore_12 : decode cX6_restore 12 = .ok (.goto 17, 3) := by decide +kernel
theorem dX6_restore_15 : decode cX6_restore 15 = .ok (.aload_n 0, 1) := by decide +kernel
theorem dX6_restore_16 : decode cX6_restore 16 = .ok (.getfield 25, 3) := by decide +kernel
theorem dX6_restore_19 : decode cX6_restore 19 = .ok (.iload_n 1, 1) := by decide +kernel
theorem dX6_restore_20 : decode cX6_restore 20 = .ok (.baload, 1) := by decide +kernel
theorem dX6_restore_21 : decode cX6_restore 21 = .ok (.ifCond .ne 7, 3) := by decide +kernel
theorem dX6_restore_24 : decode cX6_restore 24 = .ok (.iconst 2, 1) := by decide +kernel
theorem dX6_restore_25 : decode cX6_restore 25 = .ok (.goto 4, 3) := by decide +kernel
theorem dX6_restore_28 : decode cX6_restore 28 = .ok (.iconst 0, 1) := by decide +kernel
theorem dX6_restore_29 : decode cX6_restore 29 = .ok (.invokevirtual 95, 3) := by decide +kernel
theorem dX6_restore_32 : decode cX6_restore 32 = .ok (.ifCond .eq 5, 3) := by decide +kernel
theorem dX6_restore_35 : decode cX6_restore 35 = .ok (.iconst 0, 1) := by decide +kernel
theorem dX6_restore_36 : decode cX6_restore 36 = .ok (.ireturn, 1) := by decide +kernel
theorem dX6_restore_37 : decode cX6_restore 37 = .ok (.aload_n 0, 1) := by decide +kernel
theorem dX6_restore_38 : decode cX6_restore 38 = .ok (.getfield 22, 3) := by decide +kernel
theorem dX6_restore_41 : decode cX6_restore 41 = .ok (.bipush 59, 2) := by decide +kernel
theorem dX6_restore_43 : decode cX6_restore 43 = .ok (.iload_n 1, 1) := by decide +kernel
theorem dX6_restore_44 : decode cX6_restore 44 = .ok (.imul, 1) := by decide +kernel
theorem dX6_restore_45 : decode cX6_restore 45 = .ok (.aload_n 0, 1) := by decide +kernel
theorem dX6_restore_46 : decode cX6_restore 46 = .ok (.getfield 13, 3) := by decide +kernel
theorem dX6_restore_49 : decode cX6_restore 49 = .ok (.iconst 0, 1) := by decide +kernel
theorem dX6_restore_50 : decode cX6_restore 50 = .ok (.invokestatic 176, 3) := by decide +kernel
theorem dX6_restore_53 : decode cX6_restore 53 = .ok (.aload_n 0, 1) := by decide +kernel
theorem dX6_restore_54 : decode cX6_restore 54 = .ok (.iconst 0, 1) := by decide +kernel
theorem dX6_restore_55 : decode cX6_restore 55 = .ok (.putfield 180, 3) := by decide +kernel
theorem dX6_restore_58 : decode cX6_restore 58 = .ok (.aload_n 0, 1) := by decide +kernel
theorem dX6_restore_59 : decode cX6_restore 59 = .ok (.getfield 13, 3) := by decide +kernel
theorem dX6_restore_62 : decode cX6_restore 62 = .ok (.iconst 0, 1) := by decide +kernel
theorem dX6_restore_63 : decode cX6_restore 63 = .ok (.iaload, 1) := by decide +kernel
theorem dX6_restore_64 : decode cX6_restore 64 = .ok (.ireturn, 1) := by decide +kernel
