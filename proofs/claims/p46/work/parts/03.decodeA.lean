theorem dJ13_bitCount_95d88_0 : decode cJ13_bitCount_95d88 0 = .ok (.lload_n 0, 1) := by decide +kernel
theorem dJ13_bitCount_95d88_1 : decode cJ13_bitCount_95d88 1 = .ok (.lload_n 0, 1) := by decide +kernel
theorem dJ13_bitCount_95d88_2 : decode cJ13_bitCount_95d88 2 = .ok (.iconst 1, 1) := by decide +kernel
theorem dJ13_bitCount_95d88_3 : decode cJ13_bitCount_95d88 3 = .ok (.lushr, 1) := by decide +kernel
theorem dJ13_bitCount_95d88_4 : decode cJ13_bitCount_95d88 4 = .ok (.ldc2_w 314, 3) := by decide +kernel
theorem dJ13_bitCount_95d88_7 : decode cJ13_bitCount_95d88 7 = .ok (.land, 1) := by decide +kernel
theorem dJ13_bitCount_95d88_8 : decode cJ13_bitCount_95d88 8 = .ok (.lsub, 1) := by decide +kernel
theorem dJ13_bitCount_95d88_9 : decode cJ13_bitCount_95d88 9 = .ok (.lstore_n 0, 1) := by decide +kernel
theorem dJ13_bitCount_95d88_10 : decode cJ13_bitCount_95d88 10 = .ok (.lload_n 0, 1) := by decide +kernel
theorem dJ13_bitCount_95d88_11 : decode cJ13_bitCount_95d88 11 = .ok (.ldc2_w 316, 3) := by decide +kernel
theorem dJ13_bitCount_95d88_14 : decode cJ13_bitCount_95d88 14 = .ok (.land, 1) := by decide +kernel
theorem dJ13_bitCount_95d88_15 : decode cJ13_bitCount_95d88 15 = .ok (.lload_n 0, 1) := by decide +kernel
theorem dJ13_bitCount_95d88_16 : decode cJ13_bitCount_95d88 16 = .ok (.iconst 2, 1) := by decide +kernel
theorem dJ13_bitCount_95d88_17 : decode cJ13_bitCount_95d88 17 = .ok (.lushr, 1) := by decide +kernel
theorem dJ13_bitCount_95d88_18 : decode cJ13_bitCount_95d88 18 = .ok (.ldc2_w 316, 3) := by decide +kernel
theorem dJ13_bitCount_95d88_21 : decode cJ13_bitCount_95d88 21 = .ok (.land, 1) := by decide +kernel
theorem dJ13_bitCount_95d88_22 : decode cJ13_bitCount_95d88 22 = .ok (.ladd, 1) := by decide +kernel
theorem dJ13_bitCount_95d88_23 : decode cJ13_bitCount_95d88 23 = .ok (.lstore_n 0, 1) := by decide +kernel
theorem dJ13_bitCount_95d88_24 : decode cJ13_bitCount_95d88 24 = .ok (.lload_n 0, 1) := by decide +kernel
theorem dJ13_bitCount_95d88_25 : decode cJ13_bitCount_95d88 25 = .ok (.lload_n 0, 1) := by decide +kernel
theorem dJ13_bitCount_95d88_26 : decode cJ13_bitCount_95d88 26 = .ok (.iconst 4, 1) := by decide +kernel
theorem dJ13_bitCount_95d88_27 : decode cJ13_bitCount_95d88 27 = .ok (.lushr, 1) := by decide +kernel
theorem dJ13_bitCount_95d88_28 : decode cJ13_bitCount_95d88 28 = .ok (.ladd, 1) := by decide +kernel
theorem dJ13_bitCount_95d88_29 : decode cJ13_bitCount_95d88 29 = .ok (.ldc2_w 318, 3) := by decide +kernel
theorem dJ13_bitCount_95d88_32 : decode cJ13_bitCount_95d88 32 = .ok (.land, 1) := by decide +kernel
theorem dJ13_bitCount_95d88_33 : decode cJ13_bitCount_95d88 33 = .ok (.lstore_n 0, 1) := by decide +kernel
theorem dJ13_bitCount_95d88_34 : decode cJ13_bitCount_95d88 34 = .ok (.lload_n 0, 1) := by decide +kernel
theorem dJ13_bitCount_95d88_35 : decode cJ13_bitCount_95d88 35 = .ok (.lload_n 0, 1) := by decide +kernel
theorem dJ13_bitCount_95d88_36 : decode cJ13_bitCount_95d88 36 = .ok (.bipush 8, 2) := by decide +kernel
theorem dJ13_bitCount_95d88_38 : decode cJ13_bitCount_95d88 38 = .ok (.lushr, 1) := by decide +kernel
theorem dJ13_bitCount_95d88_39 : decode cJ13_bitCount_95d88 39 = .ok (.ladd, 1) := by decide +kernel
theorem dJ13_bitCount_95d88_40 : decode cJ13_bitCount_95d88 40 = .ok (.lstore_n 0, 1) := by decide +kernel
theorem dJ13_bitCount_95d88_41 : decode cJ13_bitCount_95d88 41 = .ok (.lload_n 0, 1) := by decide +kernel
theorem dJ13_bitCount_95d88_42 : decode cJ13_bitCount_95d88 42 = .ok (.lload_n 0, 1) := by decide +kernel
theorem dJ13_bitCount_95d88_43 : decode cJ13_bitCount_95d88 43 = .ok (.bipush 16, 2) := by decide +kernel
theorem dJ13_bitCount_95d88_45 : decode cJ13_bitCount_95d88 45 = .ok (.lushr, 1) := by decide +kernel
theorem dJ13_bitCount_95d88_46 : decode cJ13_bitCount_95d88 46 = .ok (.ladd, 1) := by decide +kernel
theorem dJ13_bitCount_95d88_47 : decode cJ13_bitCount_95d88 47 = .ok (.lstore_n 0, 1) := by decide +kernel
theorem dJ13_bitCount_95d88_48 : decode cJ13_bitCount_95d88 48 = .ok (.lload_n 0, 1) := by decide +kernel
theorem dJ13_bitCount_95d88_49 : decode cJ13_bitCount_95d88 49 = .ok (.lload_n 0, 1) := by decide +kernel
theorem dJ13_bitCount_95d88_50 : decode cJ13_bitCount_95d88 50 = .ok (.bipush 32, 2) := by decide +kernel
theorem dJ13_bitCount_95d88_52 : decode cJ13_bitCount_95d88 52 = .ok (.lushr, 1) := by decide +kernel
theorem dJ13_bitCount_95d88_53 : decode cJ13_bitCount_95d88 53 = .ok (.ladd, 1) := by decide +kernel
theorem dJ13_bitCount_95d88_54 : decode cJ13_bitCount_95d88 54 = .ok (.lstore_n 0, 1) := by decide +kernel
theorem dJ13_bitCount_95d88_55 : decode cJ13_bitCount_95d88 55 = .ok (.lload_n 0, 1) := by decide +kernel
theorem dJ13_bitCount_95d88_56 : decode cJ13_bitCount_95d88 56 = .ok (.l2i, 1) := by decide +kernel
theorem dJ13_bitCount_95d88_57 : decode cJ13_bitCount_95d88 57 = .ok (.bipush 127, 2) := by decide +kernel
theorem dJ13_bitCount_95d88_59 : decode cJ13_bitCount_95d88 59 = .ok (.iand, 1) := by decide +kernel
theorem dJ13_bitCount_95d88_60 : decode cJ13_bitCount_95d88 60 = .ok (.ireturn, 1) := by decide +kernel
theorem dJ9_max_7cf53_0 : decode cJ9_max_7cf53 0 = .ok (.iload_n 0, 1) := by decide +kernel
theorem dJ9_max_7cf53_1 : decode cJ9_max_7cf53 1 = .ok (.iload_n 1, 1) := by decide +kernel
theorem dJ9_max_7cf53_2 : decode cJ9_max_7cf53 2 = .ok (.if_icmp .lt 7, 3) := by decide +kernel
theorem dJ9_max_7cf53_5 : decode cJ9_max_7cf53 5 = .ok (.iload_n 0, 1) := by decide +kernel
theorem dJ9_max_7cf53_6 : decode cJ9_max_7cf53 6 = .ok (.goto 4, 3) := by decide +kernel
theorem dJ9_max_7cf53_9 : decode cJ9_max_7cf53 9 = .ok (.iload_n 1, 1) := by decide +kernel
theorem dJ9_max_7cf53_10 : decode cJ9_max_7cf53 10 = .ok (.ireturn, 1) := by decide +kernel
theorem dJ9_min_7cf53_0 : decode cJ9_min_7cf53 0 = .ok (.iload_n 0, 1) := by decide +kernel
theorem dJ9_min_7cf53_1 : decode cJ9_min_7cf53 1 = .ok (.iload_n 1, 1) := by decide +kernel
theorem dJ9_min_7cf53_2 : decode cJ9_min_7cf53 2 = .ok (.if_icmp .gt 7, 3) := by decide +kernel
theorem dJ9_min_7cf53_5 : decode cJ9_min_7cf53 5 = .ok (.iload_n 0, 1) := by decide +kernel
theorem dJ9_min_7cf53_6 : decode cJ9_min_7cf53 6 = .ok (.goto 4, 3) := by decide +kernel
theorem dJ9_min_7cf53_9 : decode cJ9_min_7cf53 9 = .ok (.iload_n 1, 1) := by decide +kernel
theorem dJ9_min_7cf53_10 : decode cJ9_min_7cf53 10 = .ok (.ireturn, 1) := by decide +kernel
theorem dX0_init_0 : decode cX0_init 0 = .ok (.aload_n 0, 1) := by decide +kernel
theorem dX0_init_1 : decode cX0_init 1 = .ok (.invokespecial 3, 3) := by decide +kernel
theorem dX0_init_4 : decode cX0_init 4 = .ok (.aload_n 0, 1) := by decide +kernel
theorem dX0_init_5 : decode cX0_init 5 = .ok (.bipush 14, 2) := by decide +kernel
theorem dX0_init_7 : decode cX0_init 7 = .ok (.anewarray 9, 3) := by decide +kernel
theorem dX0_init_10 : decode cX0_init 10 = .ok (.putfield 11, 3) := by decide +kernel
theorem dX0_init_13 : decode cX0_init 13 = .ok (.iconst 0, 1) := by decide +kernel
theorem dX0_init_14 : decode cX0_init 14 = .ok (.istore_n 1, 1) := by decide +kernel
theorem dX0_init_15 : decode cX0_init 15 = .ok (.iload_n 1, 1) := by decide +kernel
theorem dX0_init_16 : decode cX0_init 16 = .ok (.bipush 14, 2) := by decide +kernel
theorem dX0_init_18 : decode cX0_init 18 = .ok (.if_icmp .ge 22, 3) := by decide +kernel
theorem dX0_init_21 : decode cX0_init 21 = .ok (.aload_n 0, 1) := by decide +kernel
theorem dX0_init_22 : decode cX0_init 22 = .ok (.getfield 11, 3) := by decide +kernel
theorem dX0_init_25 : decode cX0_init 25 = .ok (.iload_n 1, 1) := by decide +kernel
theorem dX0_init_26 : decode cX0_init 26 = .ok (.new 9, 3) := by decide +kernel
theorem dX0_init_29 : decode cX0_init 29 = .ok (.dup, 1) := by decide +kernel
theorem dX0_init_30 : decode cX0_init 30 = .ok (.invokespecial 17, 3) := by decide +kernel
theorem dX0_init_33 : decode cX0_init 33 = .ok (.aastore, 1) := by decide +kernel
theorem dX0_init_34 : decode cX0_init 34 = .ok (.iinc 1 1, 3) := by decide +kernel
theorem dX0_init_37 : decode cX0_init 37 = .ok (.goto (-22), 3) := by decide +kernel
theorem dX0_init_40 : decode cX0_init 40 = .ok (.return_, 1) := by decide +kernel
theorem dX0_forget_0 : decode cX0_forget 0 = .ok (.aload_n 0, 1) := by decide +kernel
theorem dX0_forget_1 : decode cX0_forget 1 = .ok (.iconst 0, 1) := by decide +kernel
theorem dX0_forget_2 : decode cX0_forget 2 = .ok (.putfield 18, 3) := by decide +kernel
theorem dX0_forget_5 : decode cX0_forget 5 = .ok (.return_, 1) := by decide +kernel
theorem dX0_remember_0 : decode cX0_remember 0 = .ok (.aload_n 0, 1) := by decide +kernel
theorem dX0_remember_1 : decode cX0_remember 1 = .ok (.getfield 11, 3) := by decide +kernel
theorem dX0_remember_4 : decode cX0_remember 4 = .ok (.aload_n 0, 1) := by decide +kernel
theorem dX0_remember_5 : decode cX0_remember 5 = .ok (.getfield 22, 3) := by decide +kernel
theorem dX0_remember_8 : decode cX0_remember 8 = .ok (.aload_n 0, 1) := by decide +kernel
theorem dX0_remember_9 : decode cX0_remember 9 = .ok (.getfield 18, 3) := by decide +kernel
theorem dX0_remember_12 : decode cX0_remember 12 = .ok (.iadd, 1) := by decide +kernel
theorem dX0_remember_13 : decode cX0_remember 13 = .ok (.bipush 14, 2) := by decide +kernel
theorem dX0_remember_15 : decode cX0_remember 15 = .ok (.irem, 1) := by decide +kernel
theorem dX0_remember_16 : decode cX0_remember 16 = .ok (.aaload, 1) := by decide +kernel
theorem dX0_remember_17 : decode cX0_remember 17 = .ok (.aload_n 1, 1) := by decide +kernel
theorem dX0_remember_18 : decode cX0_remember 18 = .ok (.invokevirtual 25, 3) := by decide +kernel
theorem dX0_remember_21 : decode cX0_remember 21 = .ok (.aload_n 0, 1) := by decide +kernel
theorem dX0_remember_22 : decode cX0_remember 22 = .ok (.getfield 18, 3) := by decide +kernel
theorem dX0_remember_25 : decode cX0_remember 25 = .ok (.bipush 14, 2) := by decide +kernel
theorem dX0_remember_27 : decode cX0_remember 27 = .ok (.if_icmp .ge 16, 3) := by decide +kernel
theorem dX0_remember_30 : decode cX0_remember 30 = .ok (.aload_n 0, 1) := by decide +kernel
theorem dX0_remember_31 : decode cX0_remember 31 = .ok (.dup, 1) := by decide +kernel
theorem dX0_remember_32 : decode cX0_remember 32 = .ok (.getfield 18, 3) := by decide +kernel
theorem dX0_remember_35 : decode cX0_remember 35 = .ok (.iconst 1, 1) := by decide +kernel
theorem dX0_remember_36 : decode cX0_remember 36 = .ok (.iadd, 1) := by decide +kernel
theorem dX0_remember_37 : decode cX0_remember 37 = .ok (.putfield 18, 3) := by decide +kernel
theorem dX0_remember_40 : decode cX0_remember 40 = .ok (.goto 16, 3) := by decide +kernel
theorem dX0_remember_43 : decode cX0_remember 43 = .ok (.aload_n 0, 1) := by decide +kernel
theorem dX0_remember_44 : decode cX0_remember 44 = .ok (.aload_n 0, 1) := by decide +kernel
theorem dX0_remember_45 : decode cX0_remember 45 = .ok (.getfield 22, 3) := by decide +kernel
theorem dX0_remember_48 : decode cX0_remember 48 = .ok (.iconst 1, 1) := by decide +kernel
theorem dX0_remember_49 : decode cX0_remember 49 = .ok (.iadd, 1) := by decide +kernel
theorem dX0_remember_50 : decode cX0_remember 50 = .ok (.bipush 14, 2) := by decide +kernel
theorem dX0_remember_52 : decode cX0_remember 52 = .ok (.irem, 1) := by decide +kernel
theorem dX0_remember_53 : decode cX0_remember 53 = .ok (.putfield 22, 3) := by decide +kernel
theorem dX0_remember_56 : decode cX0_remember 56 = .ok (.return_, 1) := by decide +kernel
theorem dX0_takeBack_0 : decode cX0_takeBack 0 = .ok (.aload_n 0, 1) := by decide +kernel
theorem dX0_takeBack_1 : decode cX0_takeBack 1 = .ok (.dup, 1) := by decide +kernel
theorem dX0_takeBack_2 : decode cX0_takeBack 2 = .ok (.getfield 18, 3) := by decide +kernel
theorem dX0_takeBack_5 : decode cX0_takeBack 5 = .ok (.iconst 1, 1) := by decide +kernel
theorem dX0_takeBack_6 : decode cX0_takeBack 6 = .ok (.isub, 1) := by decide +kernel
theorem dX0_takeBack_7 : decode cX0_takeBack 7 = .ok (.putfield 18, 3) := by decide +kernel
theorem dX0_takeBack_10 : decode cX0_takeBack 10 = .ok (.aload_n 1, 1) := by decide +kernel
theorem dX0_takeBack_11 : decode cX0_takeBack 11 = .ok (.aload_n 0, 1) := by decide +kernel
theorem dX0_takeBack_12 : decode cX0_takeBack 12 = .ok (.getfield 11, 3) := by decide +kernel
theorem dX0_takeBack_15 : decode cX0_takeBack 15 = .ok (.aload_n 0, 1) := by decide +kernel
theorem dX0_takeBack_16 : decode cX0_takeBack 16 = .ok (.getfield 22, 3) := by decide +kernel
theorem dX0_takeBack_19 : decode cX0_takeBack 19 = .ok (.aload_n 0, 1) := by decide +kernel
theorem dX0_takeBack_20 : decode cX0_takeBack 20 = .ok (.getfield 18, 3) := by decide +kernel
theorem dX0_takeBack_23 : decode cX0_takeBack 23 = .ok (.iadd, 1) := by decide +kernel
theorem dX0_takeBack_24 : decode cX0_takeBack 24 = .ok (.bipush 14, 2) := by decide +kernel
theorem dX0_takeBack_26 : decode cX0_takeBack 26 = .ok (.irem, 1) := by decide +kernel
theorem dX0_takeBack_27 : decode cX0_takeBack 27 = .ok (.aaload, 1) := by decide +kernel
theorem dX0_takeBack_28 : decode cX0_takeBack 28 = .ok (.invokevirtual 25, 3) := by decide +kernel
theorem dX0_takeBack_31 : decode cX0_takeBack 31 = .ok (.return_, 1) := by decide +kernel
theorem dX1_init_0 : decode cX1_init 0 = .ok (.aload_n 0, 1) := by decide +kernel
theorem dX1_init_1 : decode cX1_init 1 = .ok (.invokespecial 3, 3) := by decide +kernel
theorem dX1_init_4 : decode cX1_init 4 = .ok (.aload_n 0, 1) := by decide +kernel
theorem dX1_init_5 : decode cX1_init 5 = .ok (.sipush 192, 3) := by decide +kernel
theorem dX1_init_8 : decode cX1_init 8 = .ok (.newarray .long, 2) := by decide +kernel
theorem dX1_init_10 : decode cX1_init 10 = .ok (.putfield 11, 3) := by decide +kernel
theorem dX1_init_13 : decode cX1_init 13 = .ok (.return_, 1) := by decide +kernel
theorem dX1_copyFrom_0 : decode cX1_copyFrom 0 = .ok (.aload_n 0, 1) := by decide +kernel
theorem dX1_copyFrom_1 : decode cX1_copyFrom 1 = .ok (.aload_n 1, 1) := by decide +kernel
theorem dX1_copyFrom_2 : decode cX1_copyFrom 2 = .ok (.getfield 15, 3) := by decide +kernel
theorem dX1_copyFrom_5 : decode cX1_copyFrom 5 = .ok (.putfield 15, 3) := by decide +kernel
theorem dX1_copyFrom_8 : decode cX1_copyFrom 8 = .ok (.aload_n 1, 1) := by decide +kernel
theorem dX1_copyFrom_9 : decode cX1_copyFrom 9 = .ok (.getfield 11, 3) := by decide +kernel
theorem dX1_copyFrom_12 : decode cX1_copyFrom 12 = .ok (.iconst 0, 1) := by decide +kernel
theorem dX1_copyFrom_13 : decode cX1_copyFrom 13 = .ok (.aload_n 0, 1) := by decide +kernel
theorem dX1_copyFrom_14 : decode cX1_copyFrom 14 = .ok (.getfield 11, 3) := by decide +kernel
theorem dX1_copyFrom_17 : decode cX1_copyFrom 17 = .ok (.iconst 0, 1) := by decide +kernel
theorem dX1_copyFrom_18 : decode cX1_copyFrom 18 = .ok (.aload_n 0, 1) := by decide +kernel
theorem dX1_copyFrom_19 : decode cX1_copyFrom 19 = .ok (.getfield 11, 3) := by decide +kernel
theorem dX1_copyFrom_22 : decode cX1_copyFrom 22 = .ok (.arraylength, 1) := by decide +kernel
theorem dX1_copyFrom_23 : decode cX1_copyFrom 23 = .ok (.invokestatic 19, 3) := by decide +kernel
theorem dX1_copyFrom_26 : decode cX1_copyFrom 26 = .ok (.return_, 1) := by decide +kernel
theorem dX1_isList_0 : decode cX1_isList 0 = .ok (.iload_n 1, 1) := by decide +kernel
theorem dX1_isList_1 : decode cX1_isList 1 = .ok (.ifCond .lt 15, 3) := by decide +kernel
theorem dX1_isList_4 : decode cX1_isList 4 = .ok (.iload_n 1, 1) := by decide +kernel
theorem dX1_isList_5 : decode cX1_isList 5 = .ok (.aload_n 0, 1) := by decide +kernel
theorem dX1_isList_6 : decode cX1_isList 6 = .ok (.getfield 15, 3) := by decide +kernel
theorem dX1_isList_9 : decode cX1_isList 9 = .ok (.if_icmp .ge 7, 3) := by decide +kernel
theorem dX1_isList_12 : decode cX1_isList 12 = .ok (.iconst 1, 1) := by decide +kernel
theorem dX1_isList_13 : decode cX1_isList 13 = .ok (.goto 4, 3) := by decide +kernel
theorem dX1_isList_16 : decode cX1_isList 16 = .ok (.iconst 0, 1) := by decide +kernel
theorem dX1_isList_17 : decode cX1_isList 17 = .ok (.ireturn, 1) := by decide +kernel
theorem dX1_hasRoom_0 : decode cX1_hasRoom 0 = .ok (.aload_n 0, 1) := by decide +kernel
theorem dX1_hasRoom_1 : decode cX1_hasRoom 1 = .ok (.getfield 15, 3) := by decide +kernel
theorem dX1_hasRoom_4 : decode cX1_hasRoom 4 = .ok (.bipush 12, 2) := by decide +kernel
theorem dX1_hasRoom_6 : decode cX1_hasRoom 6 = .ok (.if_icmp .ge 7, 3) := by decide +kernel
theorem dX1_hasRoom_9 : decode cX1_hasRoom 9 = .ok (.iconst 1, 1) := by decide +kernel
theorem dX1_hasRoom_10 : decode cX1_hasRoom 10 = .ok (.goto 4, 3) := by decide +kernel
theorem dX1_hasRoom_13 : decode cX1_hasRoom 13 = .ok (.iconst 0, 1) := by decide +kernel
theorem dX1_hasRoom_14 : decode cX1_hasRoom 14 = .ok (.ireturn, 1) := by decide +kernel
theorem dX1_has_0 : decode cX1_has 0 = .ok (.iload_n 2, 1) := by decide +kernel
theorem dX1_has_1 : decode cX1_has 1 = .ok (.iconst 0, 1) := by decide +kernel
theorem dX1_has_2 : decode cX1_has 2 = .ok (.sipush 999, 3) := by decide +kernel
theorem dX1_has_5 : decode cX1_has 5 = .ok (.invokestatic 25, 3) := by decide +kernel
theorem dX1_has_8 : decode cX1_has 8 = .ok (.ifCond .eq 26, 3) := by decide +kernel
theorem dX1_has_11 : decode cX1_has 11 = .ok (.aload_n 0, 1) := by decide +kernel
theorem dX1_has_12 : decode cX1_has 12 = .ok (.getfield 11, 3) := by decide +kernel
theorem dX1_has_15 : decode cX1_has 15 = .ok (.iload_n 1, 1) := by decide +kernel
theorem dX1_has_16 : decode cX1_has 16 = .ok (.iload_n 2, 1) := by decide +kernel
theorem dX1_has_17 : decode cX1_has 17 = .ok (.invokestatic 29, 3) := by decide +kernel
theorem dX1_has_20 : decode cX1_has 20 = .ok (.laload, 1) := by decide +kernel
theorem dX1_has_21 : decode cX1_has 21 = .ok (.lconst 1, 1) := by decide +kernel
theorem dX1_has_22 : decode cX1_has 22 = .ok (.iload_n 2, 1) := by decide +kernel
theorem dX1_has_23 : decode cX1_has 23 = .ok (.lshl, 1) := by decide +kernel
theorem dX1_has_24 : decode cX1_has 24 = .ok (.land, 1) := by decide +kernel
theorem dX1_has_25 : decode cX1_has 25 = .ok (.lconst 0, 1) := by decide +kernel
theorem dX1_has_26 : decode cX1_has 26 = .ok (.lcmp, 1) := by decide +kernel
theorem dX1_has_27 : decode cX1_has 27 = .ok (.ifCond .eq 7, 3) := by decide +kernel
theorem dX1_has_30 : decode cX1_has 30 = .ok (.iconst 1, 1) := by decide +kernel
theorem dX1_has_31 : decode cX1_has 31 = .ok (.goto 4, 3) := by decide +kernel
theorem dX1_has_34 : decode cX1_has 34 = .ok (.iconst 0, 1) := by decide +kernel
theorem dX1_has_35 : decode cX1_has 35 = .ok (.ireturn, 1) := by decide +kernel
theorem dX1_nextFrom_0 : decode cX1_nextFrom 0 = .ok (.iload_n 2, 1) := by decide +kernel
theorem dX1_nextFrom_1 : decode cX1_nextFrom 1 = .ok (.iconst 0, 1) := by decide +kernel
theorem dX1_nextFrom_2 : decode cX1_nextFrom 2 = .ok (.sipush 999, 3) := by decide +kernel
theorem dX1_nextFrom_5 : decode cX1_nextFrom 5 = .ok (.invokestatic 25, 3) := by decide +kernel
theorem dX1_nextFrom_8 : decode cX1_nextFrom 8 = .ok (.ifCond .ne 5, 3) := by decide +kernel
theorem dX1_nextFrom_11 : decode cX1_nextFrom 11 = .ok (.iconst (-1), 1) := by decide +kernel
theorem dX1_nextFrom_12 : decode cX1_nextFrom 12 = .ok (.ireturn, 1) := by decide +kernel
theorem dX1_nextFrom_13 : decode cX1_nextFrom 13 = .ok (.ldc2_w 33, 3) := by decide +kernel
theorem dX1_nextFrom_16 : decode cX1_nextFrom 16 = .ok (.iload_n 2, 1) := by decide +kernel
theorem dX1_nextFrom_17 : decode cX1_nextFrom 17 = .ok (.lshl, 1) := by decide +kernel
theorem dX1_nextFrom_18 : decode cX1_nextFrom 18 = .ok (.lstore_n 3, 1) := by decide +kernel
theorem dX1_nextFrom_19 : decode cX1_nextFrom 19 = .ok (.iload_n 2, 1) := by decide +kernel
theorem dX1_nextFrom_20 : decode cX1_nextFrom 20 = .ok (.bipush 64, 2) := by decide +kernel
theorem dX1_nextFrom_22 : decode cX1_nextFrom 22 = .ok (.idiv, 1) := by decide +kernel
theorem dX1_nextFrom_23 : decode cX1_nextFrom 23 = .ok (.istore 5, 2) := by decide +kernel
theorem dX1_nextFrom_25 : decode cX1_nextFrom 25 = .ok (.iload 5, 2) := by decide +kernel
theorem dX1_nextFrom_27 : decode cX1_nextFrom 27 = .ok (.bipush 16, 2) := by decide +kernel
theorem dX1_nextFrom_29 : decode cX1_nextFrom 29 = .ok (.if_icmp .ge 48, 3) := by decide +kernel
theorem dX1_nextFrom_32 : decode cX1_nextFrom 32 = .ok (.aload_n 0, 1) := by decide +kernel
theorem dX1_nextFrom_33 : decode cX1_nextFrom 33 = .ok (.getfield 11, 3) := by decide +kernel
theorem dX1_nextFrom_36 : decode cX1_nextFrom 36 = .ok (.iload_n 1, 1) := by decide +kernel
theorem dX1_nextFrom_37 : decode cX1_nextFrom 37 = .ok (.bipush 16, 2) := by decide +kernel
theorem dX1_nextFrom_39 : decode cX1_nextFrom 39 = .ok (.imul, 1) := by decide +kernel
theorem dX1_nextFrom_40 : decode cX1_nextFrom 40 = .ok (.iload 5, 2) := by decide +kernel
theorem dX1_nextFrom_42 : decode cX1_nextFrom 42 = .ok (.iadd, 1) := by decide +kernel
theorem dX1_nextFrom_43 : decode cX1_nextFrom 43 = .ok (.laload, 1) := by decide +kernel
theorem dX1_nextFrom_44 : decode cX1_nextFrom 44 = .ok (.lload_n 3, 1) := by decide +kernel
theorem dX1_nextFrom_45 : decode cX1_nextFrom 45 = .ok (.land, 1) := by decide +kernel
theorem dX1_nextFrom_46 : decode cX1_nextFrom 46 = .ok (.lstore 6, 2) := by decide +kernel
theorem dX1_nextFrom_48 : decode cX1_nextFrom 48 = .ok (.lload 6, 2) := by decide +kernel
theorem dX1_nextFrom_50 : decode cX1_nextFrom 50 = .ok (.lconst 0, 1) := by decide +kernel
theorem dX1_nextFrom_51 : decode cX1_nextFrom 51 = .ok (.lcmp, 1) := by decide +kernel
theorem dX1_nextFrom_52 : decode cX1_nextFrom 52 = .ok (.ifCond .eq 15, 3) := by decide +kernel
theorem dX1_nextFrom_55 : decode cX1_nextFrom 55 = .ok (.iload 5, 2) := by decide +kernel
theorem dX1_nextFrom_57 : decode cX1_nextFrom 57 = .ok (.bipush 64, 2) := by decide +kernel
theorem dX1_nextFrom_59 : decode cX1_nextFrom 59 = .ok (.imul, 1) := by decide +kernel
theorem dX1_nextFrom_60 : decode cX1_nextFrom 60 = .ok (.lload 6, 2) := by decide +kernel
theorem dX1_nextFrom_62 : decode cX1_nextFrom 62 = .ok (.invokestatic 35, 3) := by decide +kernel
theorem dX1_nextFrom_65 : decode cX1_nextFrom 65 = .ok (.iadd, 1) := by decide +kernel
theorem dX1_nextFrom_66 : decode cX1_nextFrom 66 = .ok (.ireturn, 1) := by decide +kernel
theorem dX1_nextFrom_67 : decode cX1_nextFrom 67 = .ok (.ldc2_w 33, 3) := by decide +kernel
theorem dX1_nextFrom_70 : decode cX1_nextFrom 70 = .ok (.lstore_n 3, 1) := by decide +kernel
theorem dX1_nextFrom_71 : decode cX1_nextFrom 71 = .ok (.iinc 5 1, 3) := by decide +kernel
theorem dX1_nextFrom_74 : decode cX1_nextFrom 74 = .ok (.goto (-49), 3) := by decide +kernel
theorem dX1_nextFrom_77 : decode cX1_nextFrom 77 = .ok (.iconst (-1), 1) := by decide +kernel
theorem dX1_nextFrom_78 : decode cX1_nextFrom 78 = .ok (.ireturn, 1) := by decide +kernel
theorem dX1_memberReadAt_0 : decode cX1_memberReadAt 0 = .ok (.aload_n 0, 1) := by decide +kernel
theorem dX1_memberReadAt_1 : decode cX1_memberReadAt 1 = .ok (.iload_n 1, 1) := by decide +kernel
theorem dX1_memberReadAt_2 : decode cX1_memberReadAt 2 = .ok (.iconst 0, 1) := by decide +kernel
theorem dX1_memberReadAt_3 : decode cX1_memberReadAt 3 = .ok (.invokevirtual 39, 3) := by decide +kernel
theorem dX1_memberReadAt_6 : decode cX1_memberReadAt 6 = .ok (.istore_n 3, 1) := by decide +kernel
theorem dX1_memberReadAt_7 : decode cX1_memberReadAt 7 = .ok (.iconst 0, 1) := by decide +kernel
theorem dX1_memberReadAt_8 : decode cX1_memberReadAt 8 = .ok (.istore 4, 2) := by decide +kernel
theorem dX1_memberReadAt_10 : decode cX1_memberReadAt 10 = .ok (.iload 4, 2) := by decide +kernel
theorem dX1_memberReadAt_12 : decode cX1_memberReadAt 12 = .ok (.sipush 1000, 3) := by decide +kernel
theorem dX1_memberReadAt_15 : decode cX1_memberReadAt 15 = .ok (.if_icmp .ge 31, 3) := by decide +kernel
theorem dX1_memberReadAt_18 : decode cX1_memberReadAt 18 = .ok (.iload_n 3, 1) := by decide +kernel
theorem dX1_memberReadAt_19 : decode cX1_memberReadAt 19 = .ok (.iconst (-1), 1) := by decide +kernel
theorem dX1_memberReadAt_20 : decode cX1_memberReadAt 20 = .ok (.if_icmp .eq 26, 3) := by decide +kernel
theorem dX1_memberReadAt_23 : decode cX1_memberReadAt 23 = .ok (.iload 4, 2) := by decide +kernel
theorem dX1_memberReadAt_25 : decode cX1_memberReadAt 25 = .ok (.iload_n 2, 1) := by decide +kernel
theorem dX1_memberReadAt_26 : decode cX1_memberReadAt 26 = .ok (.if_icmp .ne 5, 3) := by decide +kernel
theorem dX1_memberReadAt_29 : decode cX1_memberReadAt 29 = .ok (.iload_n 3, 1) := by decide +kernel
theorem dX1_memberReadAt_30 : decode cX1_memberReadAt 30 = .ok (.ireturn, 1) := by decide +kernel
theorem dX1_memberReadAt_31 : decode cX1_memberReadAt 31 = .ok (.aload_n 0, 1) := by decide +kernel
theorem dX1_memberReadAt_32 : decode cX1_memberReadAt 32 = .ok (.iload_n 1, 1) := by decide +kernel
theorem dX1_memberReadAt_33 : decode cX1_memberReadAt 33 = .ok (.iload_n 3, 1) := by decide +kernel
theorem dX1_memberReadAt_34 : decode cX1_memberReadAt 34 = .ok (.iconst 1, 1) := by decide +kernel
theorem dX1_memberReadAt_35 : decode cX1_memberReadAt 35 = .ok (.iadd, 1) := by decide +kernel
theorem dX1_memberReadAt_36 : decode cX1_memberReadAt 36 = .ok (.invokevirtual 39, 3) := by decide +kernel
theorem dX1_memberReadAt_39 : decode cX1_memberReadAt 39 = .ok (.istore_n 3, 1) := by decide +kernel
theorem dX1_memberReadAt_40 : decode cX1_memberReadAt 40 = .ok (.iinc 4 1, 3) := by decide +kernel
theorem dX1_memberReadAt_43 : decode cX1_memberReadAt 43 = .ok (.goto (-33), 3) := by decide +kernel
theorem dX1_memberReadAt_46 : decode cX1_memberReadAt 46 = .ok (.iconst (-1), 1) := by decide +kernel
theorem dX1_memberReadAt_47 : decode cX1_memberReadAt 47 = .ok (.ireturn, 1) := by decide +kernel
theorem dX1_memberTestedAt_0 : decode cX1_memberTestedAt 0 = .ok (.iconst 0, 1) := by decide +kernel
theorem dX1_memberTestedAt_1 : decode cX1_memberTestedAt 1 = .ok (.istore_n 3, 1) := by decide +kernel
theorem dX1_memberTestedAt_2 : decode cX1_memberTestedAt 2 = .ok (.iconst 0, 1) := by decide +kernel
theorem dX1_memberTestedAt_3 : decode cX1_memberTestedAt 3 = .ok (.istore 4, 2) := by decide +kernel
theorem dX1_memberTestedAt_5 : decode cX1_memberTestedAt 5 = .ok (.iload 4, 2) := by decide +kernel
theorem dX1_memberTestedAt_7 : decode cX1_memberTestedAt 7 = .ok (.sipush 999, 3) := by decide +kernel
theorem dX1_memberTestedAt_10 : decode cX1_memberTestedAt 10 = .ok (.if_icmp .gt 30, 3) := by decide +kernel
theorem dX1_memberTestedAt_13 : decode cX1_memberTestedAt 13 = .ok (.aload_n 0, 1) := by decide +kernel
theorem dX1_memberTestedAt_14 : decode cX1_memberTestedAt 14 = .ok (.iload_n 1, 1) := by decide +kernel
theorem dX1_memberTestedAt_15 : decode cX1_memberTestedAt 15 = .ok (.iload 4, 2) := by decide +kernel
theorem dX1_memberTestedAt_17 : decode cX1_memberTestedAt 17 = .ok (.invokevirtual 42, 3) := by decide +kernel
theorem dX1_memberTestedAt_20 : decode cX1_memberTestedAt 20 = .ok (.ifCond .eq 14, 3) := by decide +kernel
theorem dX1_memberTestedAt_23 : decode cX1_memberTestedAt 23 = .ok (.iload_n 3, 1) := by decide +kernel
theorem dX1_memberTestedAt_24 : decode cX1_memberTestedAt 24 = .ok (.iload_n 2, 1) := by decide +kernel
theorem dX1_memberTestedAt_25 : decode cX1_memberTestedAt 25 = .ok (.if_icmp .ne 6, 3) := by decide +kernel
theorem dX1_memberTestedAt_28 : decode cX1_memberTestedAt 28 = .ok (.iload 4, 2) := by decide +kernel
theorem dX1_memberTestedAt_30 : decode cX1_memberTestedAt 30 = .ok (.ireturn, 1) := by decide +kernel
theorem dX1_memberTestedAt_31 : decode cX1_memberTestedAt 31 = .ok (.iinc 3 1, 3) := by decide +kernel
theorem dX1_memberTestedAt_34 : decode cX1_memberTestedAt 34 = .ok (.iinc 4 1, 3) := by decide +kernel
theorem dX1_memberTestedAt_37 : decode cX1_memberTestedAt 37 = .ok (.goto (-32), 3) := by decide +kernel
theorem dX1_memberTestedAt_40 : decode cX1_memberTestedAt 40 = .ok (.iconst (-1), 1) := by decide +kernel
theorem dX1_memberTestedAt_41 : decode cX1_memberTestedAt 41 = .ok (.ireturn, 1) := by decide +kernel
theorem dX1_countUpTo_0 : decode cX1_countUpTo 0 = .ok (.iconst 0, 1) := by decide +kernel
theorem dX1_countUpTo_1 : decode cX1_countUpTo 1 = .ok (.iload_n 2, 1) := by decide +kernel
theorem dX1_countUpTo_2 : decode cX1_countUpTo 2 = .ok (.sipush 999, 3) := by decide +kernel
theorem dX1_countUpTo_5 : decode cX1_countUpTo 5 = .ok (.invokestatic 46, 3) := by decide +kernel
theorem dX1_countUpTo_8 : decode cX1_countUpTo 8 = .ok (.invokestatic 51, 3) := by decide +kernel
theorem dX1_countUpTo_11 : decode cX1_countUpTo 11 = .ok (.istore_n 3, 1) := by decide +kernel
theorem dX1_countUpTo_12 : decode cX1_countUpTo 12 = .ok (.iconst 0, 1) := by decide +kernel
theorem dX1_countUpTo_13 : decode cX1_countUpTo 13 = .ok (.istore 4, 2) := by decide +kernel
theorem dX1_countUpTo_15 : decode cX1_countUpTo 15 = .ok (.iconst 0, 1) := by decide +kernel
theorem dX1_countUpTo_16 : decode cX1_countUpTo 16 = .ok (.istore 5, 2) := by decide +kernel
theorem dX1_countUpTo_18 : decode cX1_countUpTo 18 = .ok (.iload 5, 2) := by decide +kernel
theorem dX1_countUpTo_20 : decode cX1_countUpTo 20 = .ok (.iload_n 3, 1) := by decide +kernel
theorem dX1_countUpTo_21 : decode cX1_countUpTo 21 = .ok (.bipush 64, 2) := by decide +kernel
theorem dX1_countUpTo_23 : decode cX1_countUpTo 23 = .ok (.idiv, 1) := by decide +kernel
theorem dX1_countUpTo_24 : decode cX1_countUpTo 24 = .ok (.if_icmp .ge 29, 3) := by decide +kernel
theorem dX1_countUpTo_27 : decode cX1_countUpTo 27 = .ok (.iload 4, 2) := by decide +kernel
theorem dX1_countUpTo_29 : decode cX1_countUpTo 29 = .ok (.aload_n 0, 1) := by decide +kernel
theorem dX1_countUpTo_30 : decode cX1_countUpTo 30 = .ok (.getfield 11, 3) := by decide +kernel
theorem dX1_countUpTo_33 : decode cX1_countUpTo 33 = .ok (.iload_n 1, 1) := by decide +kernel
theorem dX1_countUpTo_34 : decode cX1_countUpTo 34 = .ok (.bipush 16, 2) := by decide +kernel
theorem dX1_countUpTo_36 : decode cX1_countUpTo 36 = .ok (.imul, 1) := by decide +kernel
theorem dX1_countUpTo_37 : decode cX1_countUpTo 37 = .ok (.iload 5, 2) := by decide +kernel
theorem dX1_countUpTo_39 : decode cX1_countUpTo 39 = .ok (.iadd, 1) := by decide +kernel
theorem dX1_countUpTo_40 : decode cX1_countUpTo 40 = .ok (.laload, 1) := by decide +kernel
theorem dX1_countUpTo_41 : decode cX1_countUpTo 41 = .ok (.invokestatic 54, 3) := by decide +kernel
theorem dX1_countUpTo_44 : decode cX1_countUpTo 44 = .ok (.iadd, 1) := by decide +kernel
theorem dX1_countUpTo_45 : decode cX1_countUpTo 45 = .ok (.istore 4, 2) := by decide +kernel
theorem dX1_countUpTo_47 : decode cX1_countUpTo 47 = .ok (.iinc 5 1, 3) := by decide +kernel
theorem dX1_countUpTo_50 : decode cX1_countUpTo 50 = .ok (.goto (-32), 3) := by decide +kernel
theorem dX1_countUpTo_53 : decode cX1_countUpTo 53 = .ok (.ldc2_w 33, 3) := by decide +kernel
theorem dX1_countUpTo_56 : decode cX1_countUpTo 56 = .ok (.bipush 63, 2) := by decide +kernel
theorem dX1_countUpTo_58 : decode cX1_countUpTo 58 = .ok (.iload_n 3, 1) := by decide +kernel
theorem dX1_countUpTo_59 : decode cX1_countUpTo 59 = .ok (.bipush 64, 2) := by decide +kernel
theorem dX1_countUpTo_61 : decode cX1_countUpTo 61 = .ok (.irem, 1) := by decide +kernel
theorem dX1_countUpTo_62 : decode cX1_countUpTo 62 = .ok (.isub, 1) := by decide +kernel
theorem dX1_countUpTo_63 : decode cX1_countUpTo 63 = .ok (.lushr, 1) := by decide +kernel
theorem dX1_countUpTo_64 : decode cX1_countUpTo 64 = .ok (.lstore 5, 2) := by decide +kernel
theorem dX1_countUpTo_66 : decode cX1_countUpTo 66 = .ok (.iload 4, 2) := by decide +kernel
theorem dX1_countUpTo_68 : decode cX1_countUpTo 68 = .ok (.aload_n 0, 1) := by decide +kernel
theorem dX1_countUpTo_69 : decode cX1_countUpTo 69 = .ok (.getfield 11, 3) := by decide +kernel
theorem dX1_countUpTo_72 : decode cX1_countUpTo 72 = .ok (.iload_n 1, 1) := by decide +kernel
theorem dX1_countUpTo_73 : decode cX1_countUpTo 73 = .ok (.iload_n 3, 1) := by decide +kernel
theorem dX1_countUpTo_74 : decode cX1_countUpTo 74 = .ok (.invokestatic 29, 3) := by decide +kernel
theorem dX1_countUpTo_77 : decode cX1_countUpTo 77 = .ok (.laload, 1) := by decide +kernel
theorem dX1_countUpTo_78 : decode cX1_countUpTo 78 = .ok (.lload 5, 2) := by decide +kernel
theorem dX1_countUpTo_80 : decode cX1_countUpTo 80 = .ok (.land, 1) := by decide +kernel
theorem dX1_countUpTo_81 : decode cX1_countUpTo 81 = .ok (.invokestatic 54, 3) := by decide +kernel
theorem dX1_countUpTo_84 : decode cX1_countUpTo 84 = .ok (.iadd, 1) := by decide +kernel
theorem dX1_countUpTo_85 : decode cX1_countUpTo 85 = .ok (.ireturn, 1) := by decide +kernel
theorem dX1_greatestOf_0 : decode cX1_greatestOf 0 = .ok (.sipush 999, 3) := by decide +kernel
theorem dX1_greatestOf_3 : decode cX1_greatestOf 3 = .ok (.istore_n 2, 1) := by decide +kernel
theorem dX1_greatestOf_4 : decode cX1_greatestOf 4 = .ok (.iload_n 2, 1) := by decide +kernel
theorem dX1_greatestOf_5 : decode cX1_greatestOf 5 = .ok (.ifCond .lt 20, 3) := by decide +kernel
theorem dX1_greatestOf_8 : decode cX1_greatestOf 8 = .ok (.aload_n 0, 1) := by decide +kernel
theorem dX1_greatestOf_9 : decode cX1_greatestOf 9 = .ok (.iload_n 1, 1) := by decide +kernel
theorem dX1_greatestOf_10 : decode cX1_greatestOf 10 = .ok (.iload_n 2, 1) := by decide +kernel
theorem dX1_greatestOf_11 : decode cX1_greatestOf 11 = .ok (.invokevirtual 42, 3) := by decide +kernel
theorem dX1_greatestOf_14 : decode cX1_greatestOf 14 = .ok (.ifCond .eq 5, 3) := by decide +kernel
theorem dX1_greatestOf_17 : decode cX1_greatestOf 17 = .ok (.iload_n 2, 1) := by decide +kernel
theorem dX1_greatestOf_18 : decode cX1_greatestOf 18 = .ok (.ireturn, 1) := by decide +kernel
theorem dX1_greatestOf_19 : decode cX1_greatestOf 19 = .ok (.iinc 2 (-1), 3) := by decide +kernel
theorem dX1_greatestOf_22 : decode cX1_greatestOf 22 = .ok (.goto (-18), 3) := by decide +kernel
theorem dX1_greatestOf_25 : decode cX1_greatestOf 25 = .ok (.iconst (-1), 1) := by decide +kernel
theorem dX1_greatestOf_26 : decode cX1_greatestOf 26 = .ok (.ireturn, 1) := by decide +kernel
theorem dX1_leastOfBoth_0 : decode cX1_leastOfBoth 0 = .ok (.iconst 0, 1) := by decide +kernel
theorem dX1_leastOfBoth_1 : decode cX1_leastOfBoth 1 = .ok (.istore_n 3, 1) := by decide +kernel
theorem dX1_leastOfBoth_2 : decode cX1_leastOfBoth 2 = .ok (.iload_n 3, 1) := by decide +kernel
theorem dX1_leastOfBoth_3 : decode cX1_leastOfBoth 3 = .ok (.bipush 16, 2) := by decide +kernel
theorem dX1_leastOfBoth_5 : decode cX1_leastOfBoth 5 = .ok (.if_icmp .ge 52, 3) := by decide +kernel
theorem dX1_leastOfBoth_8 : decode cX1_leastOfBoth 8 = .ok (.aload_n 0, 1) := by decide +kernel
theorem dX1_leastOfBoth_9 : decode cX1_leastOfBoth 9 = .ok (.getfield 11, 3) := by decide +kernel
theorem dX1_leastOfBoth_12 : decode cX1_leastOfBoth 12 = .ok (.iload_n 1, 1) := by decide +kernel
theorem dX1_leastOfBoth_13 : decode cX1_leastOfBoth 13 = .ok (.bipush 16, 2) := by decide +kernel
theorem dX1_leastOfBoth_15 : decode cX1_leastOfBoth 15 = .ok (.imul, 1) := by decide +kernel
theorem dX1_leastOfBoth_16 : decode cX1_leastOfBoth 16 = .ok (.iload_n 3, 1) := by decide +kernel
theorem dX1_leastOfBoth_17 : decode cX1_leastOfBoth 17 = .ok (.iadd, 1) := by decide +kernel
theorem dX1_leastOfBoth_18 : decode cX1_leastOfBoth 18 = .ok (.laload, 1) := by decide +kernel
theorem dX1_leastOfBoth_19 : decode cX1_leastOfBoth 19 = .ok (.aload_n 0, 1) := by decide +kernel
theorem dX1_leastOfBoth_20 : decode cX1_leastOfBoth 20 = .ok (.getfield 11, 3) := by decide +kernel
theorem dX1_leastOfBoth_23 : decode cX1_leastOfBoth 23 = .ok (.iload_n 2, 1) := by decide +kernel
theorem dX1_leastOfBoth_24 : decode cX1_leastOfBoth 24 = .ok (.bipush 16, 2) := by decide +kernel
theorem dX1_leastOfBoth_26 : decode cX1_leastOfBoth 26 = .ok (.imul, 1) := by decide +kernel
theorem dX1_leastOfBoth_27 : decode cX1_leastOfBoth 27 = .ok (.iload_n 3, 1) := by decide +kernel
theorem dX1_leastOfBoth_28 : decode cX1_leastOfBoth 28 = .ok (.iadd, 1) := by decide +kernel
theorem dX1_leastOfBoth_29 : decode cX1_leastOfBoth 29 = .ok (.laload, 1) := by decide +kernel
theorem dX1_leastOfBoth_30 : decode cX1_leastOfBoth 30 = .ok (.land, 1) := by decide +kernel
theorem dX1_leastOfBoth_31 : decode cX1_leastOfBoth 31 = .ok (.lstore 4, 2) := by decide +kernel
theorem dX1_leastOfBoth_33 : decode cX1_leastOfBoth 33 = .ok (.lload 4, 2) := by decide +kernel
theorem dX1_leastOfBoth_35 : decode cX1_leastOfBoth 35 = .ok (.lconst 0, 1) := by decide +kernel
theorem dX1_leastOfBoth_36 : decode cX1_leastOfBoth 36 = .ok (.lcmp, 1) := by decide +kernel
theorem dX1_leastOfBoth_37 : decode cX1_leastOfBoth 37 = .ok (.ifCond .eq 14, 3) := by decide +kernel
theorem dX1_leastOfBoth_40 : decode cX1_leastOfBoth 40 = .ok (.iload_n 3, 1) := by decide +kernel
theorem dX1_leastOfBoth_41 : decode cX1_leastOfBoth 41 = .ok (.bipush 64, 2) := by decide +kernel
theorem dX1_leastOfBoth_43 : decode cX1_leastOfBoth 43 = .ok (.imul, 1) := by decide +kernel
theorem dX1_leastOfBoth_44 : decode cX1_leastOfBoth 44 = .ok (.lload 4, 2) := by decide +kernel
theorem dX1_leastOfBoth_46 : decode cX1_leastOfBoth 46 = .ok (.invokestatic 35, 3) := by decide +kernel
theorem dX1_leastOfBoth_49 : decode cX1_leastOfBoth 49 = .ok (.iadd, 1) := by decide +kernel
theorem dX1_leastOfBoth_50 : decode cX1_leastOfBoth 50 = .ok (.ireturn, 1) := by decide +kernel
theorem dX1_leastOfBoth_51 : decode cX1_leastOfBoth 51 = .ok (.iinc 3 1, 3) := by decide +kernel
theorem dX1_leastOfBoth_54 : decode cX1_leastOfBoth 54 = .ok (.goto (-52), 3) := by decide +kernel
theorem dX1_leastOfBoth_57 : decode cX1_leastOfBoth 57 = .ok (.iconst (-1), 1) := by decide +kernel
theorem dX1_leastOfBoth_58 : decode cX1_leastOfBoth 58 = .ok (.ireturn, 1) := by decide +kernel
theorem dX1_countOfEither_0 : decode cX1_countOfEither 0 = .ok (.iconst 0, 1) := by decide +kernel
theorem dX1_countOfEither_1 : decode cX1_countOfEither 1 = .ok (.istore_n 3, 1) := by decide +kernel
theorem dX1_countOfEither_2 : decode cX1_countOfEither 2 = .ok (.iconst 0, 1) := by decide +kernel
theorem dX1_countOfEither_3 : decode cX1_countOfEither 3 = .ok (.istore 4, 2) := by decide +kernel
theorem dX1_countOfEither_5 : decode cX1_countOfEither 5 = .ok (.iload 4, 2) := by decide +kernel
theorem dX1_countOfEither_7 : decode cX1_countOfEither 7 = .ok (.bipush 16, 2) := by decide +kernel
theorem dX1_countOfEither_9 : decode cX1_countOfEither 9 = .ok (.if_icmp .ge 40, 3) := by decide +kernel
theorem dX1_countOfEither_12 : decode cX1_countOfEither 12 = .ok (.iload_n 3, 1) := by decide +kernel
theorem dX1_countOfEither_13 : decode cX1_countOfEither 13 = .ok (.aload_n 0, 1) := by decide +kernel
theorem dX1_countOfEither_14 : decode cX1_countOfEither 14 = .ok (.getfield 11, 3) := by decide +kernel
theorem dX1_countOfEither_17 : decode cX1_countOfEither 17 = .ok (.iload_n 1, 1) := by decide +kernel
theorem dX1_countOfEither_18 : decode cX1_countOfEither 18 = .ok (.bipush 16, 2) := by decide +kernel
theorem dX1_countOfEither_20 : decode cX1_countOfEither 20 = .ok (.imul, 1) := by decide +kernel
theorem dX1_countOfEither_21 : decode cX1_countOfEither 21 = .ok (.iload 4, 2) := by decide +kernel
theorem dX1_countOfEither_23 : decode cX1_countOfEither 23 = .ok (.iadd, 1) := by decide +kernel
theorem dX1_countOfEither_24 : decode cX1_countOfEither 24 = .ok (.laload, 1) := by decide +kernel
theorem dX1_countOfEither_25 : decode cX1_countOfEither 25 = .ok (.aload_n 0, 1) := by decide +kernel
theorem dX1_countOfEither_26 : decode cX1_countOfEither 26 = .ok (.getfield 11, 3) := by decide +kernel
theorem dX1_countOfEither_29 : decode cX1_countOfEither 29 = .ok (.iload_n 2, 1) := by decide +kernel
theorem dX1_countOfEither_30 : decode cX1_countOfEither 30 = .ok (.bipush 16, 2) := by decide +kernel
theorem dX1_countOfEither_32 : decode cX1_countOfEither 32 = .ok (.imul, 1) := by decide +kernel
theorem dX1_countOfEither_33 : decode cX1_countOfEither 33 = .ok (.iload 4, 2) := by decide +kernel
theorem dX1_countOfEither_35 : decode cX1_countOfEither 35 = .ok (.iadd, 1) := by decide +kernel
theorem dX1_countOfEither_36 : decode cX1_countOfEither 36 = .ok (.laload, 1) := by decide +kernel
theorem dX1_countOfEither_37 : decode cX1_countOfEither 37 = .ok (.lor, 1) := by decide +kernel
theorem dX1_countOfEither_38 : decode cX1_countOfEither 38 = .ok (.invokestatic 54, 3) := by decide +kernel
theorem dX1_countOfEither_41 : decode cX1_countOfEither 41 = .ok (.iadd, 1) := by decide +kernel
theorem dX1_countOfEither_42 : decode cX1_countOfEither 42 = .ok (.istore_n 3, 1) := by decide +kernel
theorem dX1_countOfEither_43 : decode cX1_countOfEither 43 = .ok (.iinc 4 1, 3) := by decide +kernel
theorem dX1_countOfEither_46 : decode cX1_countOfEither 46 = .ok (.goto (-41), 3) := by decide +kernel
theorem dX1_countOfEither_49 : decode cX1_countOfEither 49 = .ok (.iload_n 3, 1) := by decide +kernel
theorem dX1_countOfEither_50 : decode cX1_countOfEither 50 = .ok (.ireturn, 1) := by decide +kernel
theorem dX1_greatestGap_0 : decode cX1_greatestGap 0 = .ok (.iconst 0, 1) := by decide +kernel
theorem dX1_greatestGap_1 : decode cX1_greatestGap 1 = .ok (.istore_n 2, 1) := by decide +kernel
theorem dX1_greatestGap_2 : decode cX1_greatestGap 2 = .ok (.aload_n 0, 1) := by decide +kernel
theorem dX1_greatestGap_3 : decode cX1_greatestGap 3 = .ok (.iload_n 1, 1) := by decide +kernel
theorem dX1_greatestGap_4 : decode cX1_greatestGap 4 = .ok (.iconst 0, 1) := by decide +kernel
theorem dX1_greatestGap_5 : decode cX1_greatestGap 5 = .ok (.invokevirtual 39, 3) := by decide +kernel
theorem dX1_greatestGap_8 : decode cX1_greatestGap 8 = .ok (.istore_n 3, 1) := by decide +kernel
theorem dX1_greatestGap_9 : decode cX1_greatestGap 9 = .ok (.iconst 0, 1) := by decide +kernel
theorem dX1_greatestGap_10 : decode cX1_greatestGap 10 = .ok (.istore 4, 2) := by decide +kernel
theorem dX1_greatestGap_12 : decode cX1_greatestGap 12 = .ok (.iload 4, 2) := by decide +kernel
theorem dX1_greatestGap_14 : decode cX1_greatestGap 14 = .ok (.sipush 1000, 3) := by decide +kernel
theorem dX1_greatestGap_17 : decode cX1_greatestGap 17 = .ok (.if_icmp .ge 42, 3) := by decide +kernel
theorem dX1_greatestGap_20 : decode cX1_greatestGap 20 = .ok (.iload_n 3, 1) := by decide +kernel
theorem dX1_greatestGap_21 : decode cX1_greatestGap 21 = .ok (.iconst (-1), 1) := by decide +kernel
theorem dX1_greatestGap_22 : decode cX1_greatestGap 22 = .ok (.if_icmp .eq 37, 3) := by decide +kernel
theorem dX1_greatestGap_25 : decode cX1_greatestGap 25 = .ok (.aload_n 0, 1) := by decide +kernel
theorem dX1_greatestGap_26 : decode cX1_greatestGap 26 = .ok (.iload_n 1, 1) := by decide +kernel
theorem dX1_greatestGap_27 : decode cX1_greatestGap 27 = .ok (.iload_n 3, 1) := by decide +kernel
theorem dX1_greatestGap_28 : decode cX1_greatestGap 28 = .ok (.iconst 1, 1) := by decide +kernel
theorem dX1_greatestGap_29 : decode cX1_greatestGap 29 = .ok (.iadd, 1) := by decide +kernel
theorem dX1_greatestGap_30 : decode cX1_greatestGap 30 = .ok (.invokevirtual 39, 3) := by decide +kernel
theorem dX1_greatestGap_33 : decode cX1_greatestGap 33 = .ok (.istore 5, 2) := by decide +kernel
theorem dX1_greatestGap_35 : decode cX1_greatestGap 35 = .ok (.iload 5, 2) := by decide +kernel
theorem dX1_greatestGap_37 : decode cX1_greatestGap 37 = .ok (.iconst (-1), 1) := by decide +kernel
theorem dX1_greatestGap_38 : decode cX1_greatestGap 38 = .ok (.if_icmp .eq 12, 3) := by decide +kernel
theorem dX1_greatestGap_41 : decode cX1_greatestGap 41 = .ok (.iload_n 2, 1) := by decide +kernel
theorem dX1_greatestGap_42 : decode cX1_greatestGap 42 = .ok (.iload 5, 2) := by decide +kernel
theorem dX1_greatestGap_44 : decode cX1_greatestGap 44 = .ok (.iload_n 3, 1) := by decide +kernel
theorem dX1_greatestGap_45 : decode cX1_greatestGap 45 = .ok (.isub, 1) := by decide +kernel
theorem dX1_greatestGap_46 : decode cX1_greatestGap 46 = .ok (.invokestatic 51, 3) := by decide +kernel
theorem dX1_greatestGap_49 : decode cX1_greatestGap 49 = .ok (.istore_n 2, 1) := by decide +kernel
theorem dX1_greatestGap_50 : decode cX1_greatestGap 50 = .ok (.iload 5, 2) := by decide +kernel
theorem dX1_greatestGap_52 : decode cX1_greatestGap 52 = .ok (.istore_n 3, 1) := by decide +kernel
theorem dX1_greatestGap_53 : decode cX1_greatestGap 53 = .ok (.iinc 4 1, 3) := by decide +kernel
theorem dX1_greatestGap_56 : decode cX1_greatestGap 56 = .ok (.goto (-44), 3) := by decide +kernel
theorem dX1_greatestGap_59 : decode cX1_greatestGap 59 = .ok (.iload_n 2, 1) := by decide +kernel
theorem dX1_greatestGap_60 : decode cX1_greatestGap 60 = .ok (.ireturn, 1) := by decide +kernel
theorem dX1_addSteps_0 : decode cX1_addSteps 0 = .ok (.aload_n 0, 1) := by decide +kernel
theorem dX1_addSteps_1 : decode cX1_addSteps 1 = .ok (.invokevirtual 59, 3) := by decide +kernel
theorem dX1_addSteps_4 : decode cX1_addSteps 4 = .ok (.istore_n 3, 1) := by decide +kernel
theorem dX1_addSteps_5 : decode cX1_addSteps 5 = .ok (.iconst 0, 1) := by decide +kernel
theorem dX1_addSteps_6 : decode cX1_addSteps 6 = .ok (.istore 4, 2) := by decide +kernel
theorem dX1_addSteps_8 : decode cX1_addSteps 8 = .ok (.iload 4, 2) := by decide +kernel
theorem dX1_addSteps_10 : decode cX1_addSteps 10 = .ok (.sipush 1000, 3) := by decide +kernel
theorem dX1_addSteps_13 : decode cX1_addSteps 13 = .ok (.if_icmp .ge 32, 3) := by decide +kernel
theorem dX1_addSteps_16 : decode cX1_addSteps 16 = .ok (.iload_n 1, 1) := by decide +kernel
theorem dX1_addSteps_17 : decode cX1_addSteps 17 = .ok (.iload 4, 2) := by decide +kernel
theorem dX1_addSteps_19 : decode cX1_addSteps 19 = .ok (.iload_n 2, 1) := by decide +kernel
theorem dX1_addSteps_20 : decode cX1_addSteps 20 = .ok (.imul, 1) := by decide +kernel
theorem dX1_addSteps_21 : decode cX1_addSteps 21 = .ok (.iadd, 1) := by decide +kernel
theorem dX1_addSteps_22 : decode cX1_addSteps 22 = .ok (.sipush 999, 3) := by decide +kernel
theorem dX1_addSteps_25 : decode cX1_addSteps 25 = .ok (.if_icmp .gt 20, 3) := by decide +kernel
theorem dX1_addSteps_28 : decode cX1_addSteps 28 = .ok (.aload_n 0, 1) := by decide +kernel
theorem dX1_addSteps_29 : decode cX1_addSteps 29 = .ok (.iload_n 3, 1) := by decide +kernel
theorem dX1_addSteps_30 : decode cX1_addSteps 30 = .ok (.iload_n 1, 1) := by decide +kernel
theorem dX1_addSteps_31 : decode cX1_addSteps 31 = .ok (.iload 4, 2) := by decide +kernel
theorem dX1_addSteps_33 : decode cX1_addSteps 33 = .ok (.iload_n 2, 1) := by decide +kernel
theorem dX1_addSteps_34 : decode cX1_addSteps 34 = .ok (.imul, 1) := by decide +kernel
theorem dX1_addSteps_35 : decode cX1_addSteps 35 = .ok (.iadd, 1) := by decide +kernel
theorem dX1_addSteps_36 : decode cX1_addSteps 36 = .ok (.invokevirtual 63, 3) := by decide +kernel
theorem dX1_addSteps_39 : decode cX1_addSteps 39 = .ok (.iinc 4 1, 3) := by decide +kernel
theorem dX1_addSteps_42 : decode cX1_addSteps 42 = .ok (.goto (-34), 3) := by decide +kernel
theorem dX1_addSteps_45 : decode cX1_addSteps 45 = .ok (.iload_n 3, 1) := by decide +kernel
theorem dX1_addSteps_46 : decode cX1_addSteps 46 = .ok (.ireturn, 1) := by decide +kernel
theorem dX1_addScaled_0 : decode cX1_addScaled 0 = .ok (.aload_n 0, 1) := by decide +kernel
theorem dX1_addScaled_1 : decode cX1_addScaled 1 = .ok (.invokevirtual 59, 3) := by decide +kernel
theorem dX1_addScaled_4 : decode cX1_addScaled 4 = .ok (.istore 4, 2) := by decide +kernel
theorem dX1_addScaled_6 : decode cX1_addScaled 6 = .ok (.aload_n 0, 1) := by decide +kernel
theorem dX1_addScaled_7 : decode cX1_addScaled 7 = .ok (.iload_n 1, 1) := by decide +kernel
theorem dX1_addScaled_8 : decode cX1_addScaled 8 = .ok (.iconst 0, 1) := by decide +kernel
theorem dX1_addScaled_9 : decode cX1_addScaled 9 = .ok (.invokevirtual 39, 3) := by decide +kernel
theorem dX1_addScaled_12 : decode cX1_addScaled 12 = .ok (.istore 5, 2) := by decide +kernel
theorem dX1_addScaled_14 : decode cX1_addScaled 14 = .ok (.iconst 0, 1) := by decide +kernel
theorem dX1_addScaled_15 : decode cX1_addScaled 15 = .ok (.istore 6, 2) := by decide +kernel
theorem dX1_addScaled_17 : decode cX1_addScaled 17 = .ok (.iload 6, 2) := by decide +kernel
theorem dX1_addScaled_19 : decode cX1_addScaled 19 = .ok (.sipush 1000, 3) := by decide +kernel
theorem dX1_addScaled_22 : decode cX1_addScaled 22 = .ok (.if_icmp .ge 38, 3) := by decide +kernel
theorem dX1_addScaled_25 : decode cX1_addScaled 25 = .ok (.iload 5, 2) := by decide +kernel
theorem dX1_addScaled_27 : decode cX1_addScaled 27 = .ok (.iconst (-1), 1) := by decide +kernel
theorem dX1_addScaled_28 : decode cX1_addScaled 28 = .ok (.if_icmp .eq 32, 3) := by decide +kernel
theorem dX1_addScaled_31 : decode cX1_addScaled 31 = .ok (.aload_n 0, 1) := by decide +kernel
theorem dX1_addScaled_32 : decode cX1_addScaled 32 = .ok (.iload 4, 2) := by decide +kernel
theorem dX1_addScaled_34 : decode cX1_addScaled 34 = .ok (.iload 5, 2) := by decide +kernel
theorem dX1_addScaled_36 : decode cX1_addScaled 36 = .ok (.iload_n 2, 1) := by decide +kernel
theorem dX1_addScaled_37 : decode cX1_addScaled 37 = .ok (.imul, 1) := by decide +kernel
theorem dX1_addScaled_38 : decode cX1_addScaled 38 = .ok (.iload_n 3, 1) := by decide +kernel
theorem dX1_addScaled_39 : decode cX1_addScaled 39 = .ok (.iadd, 1) := by decide +kernel
theorem dX1_addScaled_40 : decode cX1_addScaled 40 = .ok (.invokevirtual 63, 3) := by decide +kernel
theorem dX1_addScaled_43 : decode cX1_addScaled 43 = .ok (.aload_n 0, 1) := by decide +kernel
theorem dX1_addScaled_44 : decode cX1_addScaled 44 = .ok (.iload_n 1, 1) := by decide +kernel
theorem dX1_addScaled_45 : decode cX1_addScaled 45 = .ok (.iload 5, 2) := by decide +kernel
theorem dX1_addScaled_47 : decode cX1_addScaled 47 = .ok (.iconst 1, 1) := by decide +kernel
theorem dX1_addScaled_48 : decode cX1_addScaled 48 = .ok (.iadd, 1) := by decide +kernel
theorem dX1_addScaled_49 : decode cX1_addScaled 49 = .ok (.invokevirtual 39, 3) := by decide +kernel
theorem dX1_addScaled_52 : decode cX1_addScaled 52 = .ok (.istore 5, 2) := by decide +kernel
theorem dX1_addScaled_54 : decode cX1_addScaled 54 = .ok (.iinc 6 1, 3) := by decide +kernel
theorem dX1_addScaled_57 : decode cX1_addScaled 57 = .ok (.goto (-40), 3) := by decide +kernel
theorem dX1_addScaled_60 : decode cX1_addScaled 60 = .ok (.iload 4, 2) := by decide +kernel
theorem dX1_addScaled_62 : decode cX1_addScaled 62 = .ok (.ireturn, 1) := by decide +kernel
theorem dX1_addJoined_0 : decode cX1_addJoined 0 = .ok (.aload_n 0, 1) := by decide +kernel
theorem dX1_addJoined_1 : decode cX1_addJoined 1 = .ok (.invokevirtual 59, 3) := by decide +kernel
theorem dX1_addJoined_4 : decode cX1_addJoined 4 = .ok (.istore_n 3, 1) := by decide +kernel
theorem dX1_addJoined_5 : decode cX1_addJoined 5 = .ok (.iconst 0, 1) := by decide +kernel
theorem dX1_addJoined_6 : decode cX1_addJoined 6 = .ok (.istore 4, 2) := by decide +kernel
theorem dX1_addJoined_8 : decode cX1_addJoined 8 = .ok (.iload 4, 2) := by decide +kernel
theorem dX1_addJoined_10 : decode cX1_addJoined 10 = .ok (.bipush 16, 2) := by decide +kernel
theorem dX1_addJoined_12 : decode cX1_addJoined 12 = .ok (.if_icmp .ge 46, 3) := by decide +kernel
theorem dX1_addJoined_15 : decode cX1_addJoined 15 = .ok (.aload_n 0, 1) := by decide +kernel
theorem dX1_addJoined_16 : decode cX1_addJoined 16 = .ok (.getfield 11, 3) := by decide +kernel
theorem dX1_addJoined_19 : decode cX1_addJoined 19 = .ok (.iload_n 3, 1) := by decide +kernel
theorem dX1_addJoined_20 : decode cX1_addJoined 20 = .ok (.bipush 16, 2) := by decide +kernel
theorem dX1_addJoined_22 : decode cX1_addJoined 22 = .ok (.imul, 1) := by decide +kernel
theorem dX1_addJoined_23 : decode cX1_addJoined 23 = .ok (.iload 4, 2) := by decide +kernel
theorem dX1_addJoined_25 : decode cX1_addJoined 25 = .ok (.iadd, 1) := by decide +kernel
theorem dX1_addJoined_26 : decode cX1_addJoined 26 = .ok (.aload_n 0, 1) := by decide +kernel
theorem dX1_addJoined_27 : decode cX1_addJoined 27 = .ok (.getfield 11, 3) := by decide +kernel
theorem dX1_addJoined_30 : decode cX1_addJoined 30 = .ok (.iload_n 1, 1) := by decide +kernel
theorem dX1_addJoined_31 : decode cX1_addJoined 31 = .ok (.bipush 16, 2) := by decide +kernel
theorem dX1_addJoined_33 : decode cX1_addJoined 33 = .ok (.imul, 1) := by decide +kernel
theorem dX1_addJoined_34 : decode cX1_addJoined 34 = .ok (.iload 4, 2) := by decide +kernel
theorem dX1_addJoined_36 : decode cX1_addJoined 36 = .ok (.iadd, 1) := by decide +kernel
theorem dX1_addJoined_37 : decode cX1_addJoined 37 = .ok (.laload, 1) := by decide +kernel
theorem dX1_addJoined_38 : decode cX1_addJoined 38 = .ok (.aload_n 0, 1) := by decide +kernel
theorem dX1_addJoined_39 : decode cX1_addJoined 39 = .ok (.getfield 11, 3) := by decide +kernel
theorem dX1_addJoined_42 : decode cX1_addJoined 42 = .ok (.iload_n 2, 1) := by decide +kernel
theorem dX1_addJoined_43 : decode cX1_addJoined 43 = .ok (.bipush 16, 2) := by decide +kernel
theorem dX1_addJoined_45 : decode cX1_addJoined 45 = .ok (.imul, 1) := by decide +kernel
theorem dX1_addJoined_46 : decode cX1_addJoined 46 = .ok (.iload 4, 2) := by decide +kernel
theorem dX1_addJoined_48 : decode cX1_addJoined 48 = .ok (.iadd, 1) := by decide +kernel
theorem dX1_addJoined_49 : decode cX1_addJoined 49 = .ok (.laload, 1) := by decide +kernel
theorem dX1_addJoined_50 : decode cX1_addJoined 50 = .ok (.lor, 1) := by decide +kernel
theorem dX1_addJoined_51 : decode cX1_addJoined 51 = .ok (.lastore, 1) := by decide +kernel
theorem dX1_addJoined_52 : decode cX1_addJoined 52 = .ok (.iinc 4 1, 3) := by decide +kernel
theorem dX1_addJoined_55 : decode cX1_addJoined 55 = .ok (.goto (-47), 3) := by decide +kernel
theorem dX1_addJoined_58 : decode cX1_addJoined 58 = .ok (.iload_n 3, 1) := by decide +kernel
theorem dX1_addJoined_59 : decode cX1_addJoined 59 = .ok (.ireturn, 1) := by decide +kernel
theorem dX1_addShared_0 : decode cX1_addShared 0 = .ok (.aload_n 0, 1) := by decide +kernel
theorem dX1_addShared_1 : decode cX1_addShared 1 = .ok (.invokevirtual 59, 3) := by decide +kernel
theorem dX1_addShared_4 : decode cX1_addShared 4 = .ok (.istore_n 3, 1) := by decide +kernel
theorem dX1_addShared_5 : decode cX1_addShared 5 = .ok (.iconst 0, 1) := by decide +kernel
theorem dX1_addShared_6 : decode cX1_addShared 6 = .ok (.istore 4, 2) := by decide +kernel
theorem dX1_addShared_8 : decode cX1_addShared 8 = .ok (.iload 4, 2) := by decide +kernel
theorem dX1_addShared_10 : decode cX1_addShared 10 = .ok (.bipush 16, 2) := by decide +kernel
theorem dX1_addShared_12 : decode cX1_addShared 12 = .ok (.if_icmp .ge 46, 3) := by decide +kernel
theorem dX1_addShared_15 : decode cX1_addShared 15 = .ok (.aload_n 0, 1) := by decide +kernel
theorem dX1_addShared_16 : decode cX1_addShared 16 = .ok (.getfield 11, 3) := by decide +kernel
theorem dX1_addShared_19 : decode cX1_addShared 19 = .ok (.iload_n 3, 1) := by decide +kernel
theorem dX1_addShared_20 : decode cX1_addShared 20 = .ok (.bipush 16, 2) := by decide +kernel
theorem dX1_addShared_22 : decode cX1_addShared 22 = .ok (.imul, 1) := by decide +kernel
theorem dX1_addShared_23 : decode cX1_addShared 23 = .ok (.iload 4, 2) := by decide +kernel
theorem dX1_addShared_25 : decode cX1_addShared 25 = .ok (.iadd, 1) := by decide +kernel
theorem dX1_addShared_26 : decode cX1_addShared 26 = .ok (.aload_n 0, 1) := by decide +kernel
theorem dX1_addShared_27 : decode cX1_addShared 27 = .ok (.getfield 11, 3) := by decide +kernel
theorem dX1_addShared_30 : decode cX1_addShared 30 = .ok (.iload_n 1, 1) := by decide +kernel
theorem dX1_addShared_31 : decode cX1_addShared 31 = .ok (.bipush 16, 2) := by decide +kernel
theorem dX1_addShared_33 : decode cX1_addShared 33 = .ok (.imul, 1) := by decide +kernel
theorem dX1_addShared_34 : decode cX1_addShared 34 = .ok (.iload 4, 2) := by decide +kernel
theorem dX1_addShared_36 : decode cX1_addShared 36 = .ok (.iadd, 1) := by decide +kernel
theorem dX1_addShared_37 : decode cX1_addShared 37 = .ok (.laload, 1) := by decide +kernel
theorem dX1_addShared_38 : decode cX1_addShared 38 = .ok (.aload_n 0, 1) := by decide +kernel
theorem dX1_addShared_39 : decode cX1_addShared 39 = .ok (.getfield 11, 3) := by decide +kernel
theorem dX1_addShared_42 : decode cX1_addShared 42 = .ok (.iload_n 2, 1) := by decide +kernel
theorem dX1_addShared_43 : decode cX1_addShared 43 = .ok (.bipush 16, 2) := by decide +kernel
theorem dX1_addShared_45 : decode cX1_addShared 45 = .ok (.imul, 1) := by decide +kernel
theorem dX1_addShared_46 : decode cX1_addShared 46 = .ok (.iload 4, 2) := by decide +kernel
theorem dX1_addShared_48 : decode cX1_addShared 48 = .ok (.iadd, 1) := by decide +kernel
theorem dX1_addShared_49 : decode cX1_addShared 49 = .ok (.laload, 1) := by decide +kernel
theorem dX1_addShared_50 : decode cX1_addShared 50 = .ok (.land, 1) := by decide +kernel
theorem dX1_addShared_51 : decode cX1_addShared 51 = .ok (.lastore, 1) := by decide +kernel
theorem dX1_addShared_52 : decode cX1_addShared 52 = .ok (.iinc 4 1, 3) := by decide +kernel
theorem dX1_addShared_55 : decode cX1_addShared 55 = .ok (.goto (-47), 3) := by decide +kernel
theorem dX1_addShared_58 : decode cX1_addShared 58 = .ok (.iload_n 3, 1) := by decide +kernel
theorem dX1_addShared_59 : decode cX1_addShared 59 = .ok (.ireturn, 1) := by decide +kernel
theorem dX1_addWithout_0 : decode cX1_addWithout 0 = .ok (.aload_n 0, 1) := by decide +kernel
theorem dX1_addWithout_1 : decode cX1_addWithout 1 = .ok (.invokevirtual 59, 3) := by decide +kernel
theorem dX1_addWithout_4 : decode cX1_addWithout 4 = .ok (.istore_n 3, 1) := by decide +kernel
theorem dX1_addWithout_5 : decode cX1_addWithout 5 = .ok (.iconst 0, 1) := by decide +kernel
theorem dX1_addWithout_6 : decode cX1_addWithout 6 = .ok (.istore 4, 2) := by decide +kernel
theorem dX1_addWithout_8 : decode cX1_addWithout 8 = .ok (.iload 4, 2) := by decide +kernel
theorem dX1_addWithout_10 : decode cX1_addWithout 10 = .ok (.bipush 16, 2) := by decide +kernel
theorem dX1_addWithout_12 : decode cX1_addWithout 12 = .ok (.if_icmp .ge 50, 3) := by decide +kernel
theorem dX1_addWithout_15 : decode cX1_addWithout 15 = .ok (.aload_n 0, 1) := by decide +kernel
theorem dX1_addWithout_16 : decode cX1_addWithout 16 = .ok (.getfield 11, 3) := by decide +kernel
theorem dX1_addWithout_19 : decode cX1_addWithout 19 = .ok (.iload_n 3, 1) := by decide +kernel
theorem dX1_addWithout_20 : decode cX1_addWithout 20 = .ok (.bipush 16, 2) := by decide +kernel
theorem dX1_addWithout_22 : decode cX1_addWithout 22 = .ok (.imul, 1) := by decide +kernel
theorem dX1_addWithout_23 : decode cX1_addWithout 23 = .ok (.iload 4, 2) := by decide +kernel
theorem dX1_addWithout_25 : decode cX1_addWithout 25 = .ok (.iadd, 1) := by decide +kernel
theorem dX1_addWithout_26 : decode cX1_addWithout 26 = .ok (.aload_n 0, 1) := by decide +kernel
theorem dX1_addWithout_27 : decode cX1_addWithout 27 = .ok (.getfield 11, 3) := by decide +kernel
theorem dX1_addWithout_30 : decode cX1_addWithout 30 = .ok (.iload_n 1, 1) := by decide +kernel
theorem dX1_addWithout_31 : decode cX1_addWithout 31 = .ok (.bipush 16, 2) := by decide +kernel
theorem dX1_addWithout_33 : decode cX1_addWithout 33 = .ok (.imul, 1) := by decide +kernel
theorem dX1_addWithout_34 : decode cX1_addWithout 34 = .ok (.iload 4, 2) := by decide +kernel
theorem dX1_addWithout_36 : decode cX1_addWithout 36 = .ok (.iadd, 1) := by decide +kernel
theorem dX1_addWithout_37 : decode cX1_addWithout 37 = .ok (.laload, 1) := by decide +kernel
theorem dX1_addWithout_38 : decode cX1_addWithout 38 = .ok (.aload_n 0, 1) := by decide +kernel
theorem dX1_addWithout_39 : decode cX1_addWithout 39 = .ok (.getfield 11, 3) := by decide +kernel
theorem dX1_addWithout_42 : decode cX1_addWithout 42 = .ok (.iload_n 2, 1) := by decide +kernel
theorem dX1_addWithout_43 : decode cX1_addWithout 43 = .ok (.bipush 16, 2) := by decide +kernel
theorem dX1_addWithout_45 : decode cX1_addWithout 45 = .ok (.imul, 1) := by decide +kernel
theorem dX1_addWithout_46 : decode cX1_addWithout 46 = .ok (.iload 4, 2) := by decide +kernel
theorem dX1_addWithout_48 : decode cX1_addWithout 48 = .ok (.iadd, 1) := by decide +kernel
theorem dX1_addWithout_49 : decode cX1_addWithout 49 = .ok (.laload, 1) := by decide +kernel
theorem dX1_addWithout_50 : decode cX1_addWithout 50 = .ok (.ldc2_w 33, 3) := by decide +kernel
theorem dX1_addWithout_53 : decode cX1_addWithout 53 = .ok (.lxor, 1) := by decide +kernel
theorem dX1_addWithout_54 : decode cX1_addWithout 54 = .ok (.land, 1) := by decide +kernel
theorem dX1_addWithout_55 : decode cX1_addWithout 55 = .ok (.lastore, 1) := by decide +kernel
theorem dX1_addWithout_56 : decode cX1_addWithout 56 = .ok (.iinc 4 1, 3) := by decide +kernel
theorem dX1_addWithout_59 : decode cX1_addWithout 59 = .ok (.goto (-51), 3) := by decide +kernel
theorem dX1_addWithout_62 : decode cX1_addWithout 62 = .ok (.iload_n 3, 1) := by decide +kernel
theorem dX1_addWithout_63 : decode cX1_addWithout 63 = .ok (.ireturn, 1) := by decide +kernel
theorem dX1_addSieved_0 : decode cX1_addSieved 0 = .ok (.aload_n 0, 1) := by decide +kernel
theorem dX1_addSieved_1 : decode cX1_addSieved 1 = .ok (.iload_n 1, 1) := by decide +kernel
theorem dX1_addSieved_2 : decode cX1_addSieved 2 = .ok (.iload_n 1, 1) := by decide +kernel
theorem dX1_addSieved_3 : decode cX1_addSieved 3 = .ok (.invokevirtual 67, 3) := by decide +kernel
theorem dX1_addSieved_6 : decode cX1_addSieved 6 = .ok (.istore_n 2, 1) := by decide +kernel
theorem dX1_addSieved_7 : decode cX1_addSieved 7 = .ok (.aload_n 0, 1) := by decide +kernel
theorem dX1_addSieved_8 : decode cX1_addSieved 8 = .ok (.iload_n 2, 1) := by decide +kernel
theorem dX1_addSieved_9 : decode cX1_addSieved 9 = .ok (.iconst 2, 1) := by decide +kernel
theorem dX1_addSieved_10 : decode cX1_addSieved 10 = .ok (.invokevirtual 39, 3) := by decide +kernel
theorem dX1_addSieved_13 : decode cX1_addSieved 13 = .ok (.istore_n 3, 1) := by decide +kernel
theorem dX1_addSieved_14 : decode cX1_addSieved 14 = .ok (.iconst 0, 1) := by decide +kernel
theorem dX1_addSieved_15 : decode cX1_addSieved 15 = .ok (.istore 4, 2) := by decide +kernel
theorem dX1_addSieved_17 : decode cX1_addSieved 17 = .ok (.iload 4, 2) := by decide +kernel
theorem dX1_addSieved_19 : decode cX1_addSieved 19 = .ok (.sipush 1000, 3) := by decide +kernel
theorem dX1_addSieved_22 : decode cX1_addSieved 22 = .ok (.if_icmp .ge 29, 3) := by decide +kernel
theorem dX1_addSieved_25 : decode cX1_addSieved 25 = .ok (.iload_n 3, 1) := by decide +kernel
theorem dX1_addSieved_26 : decode cX1_addSieved 26 = .ok (.iconst (-1), 1) := by decide +kernel
theorem dX1_addSieved_27 : decode cX1_addSieved 27 = .ok (.if_icmp .eq 24, 3) := by decide +kernel
theorem dX1_addSieved_30 : decode cX1_addSieved 30 = .ok (.aload_n 0, 1) := by decide +kernel
theorem dX1_addSieved_31 : decode cX1_addSieved 31 = .ok (.iload_n 2, 1) := by decide +kernel
theorem dX1_addSieved_32 : decode cX1_addSieved 32 = .ok (.iload_n 3, 1) := by decide +kernel
theorem dX1_addSieved_33 : decode cX1_addSieved 33 = .ok (.invokevirtual 70, 3) := by decide +kernel
theorem dX1_addSieved_36 : decode cX1_addSieved 36 = .ok (.aload_n 0, 1) := by decide +kernel
theorem dX1_addSieved_37 : decode cX1_addSieved 37 = .ok (.iload_n 2, 1) := by decide +kernel
theorem dX1_addSieved_38 : decode cX1_addSieved 38 = .ok (.iload_n 3, 1) := by decide +kernel
theorem dX1_addSieved_39 : decode cX1_addSieved 39 = .ok (.iconst 1, 1) := by decide +kernel
theorem dX1_addSieved_40 : decode cX1_addSieved 40 = .ok (.iadd, 1) := by decide +kernel
theorem dX1_addSieved_41 : decode cX1_addSieved 41 = .ok (.invokevirtual 39, 3) := by decide +kernel
theorem dX1_addSieved_44 : decode cX1_addSieved 44 = .ok (.istore_n 3, 1) := by decide +kernel
theorem dX1_addSieved_45 : decode cX1_addSieved 45 = .ok (.iinc 4 1, 3) := by decide +kernel
theorem dX1_addSieved_48 : decode cX1_addSieved 48 = .ok (.goto (-31), 3) := by decide +kernel
theorem dX1_addSieved_51 : decode cX1_addSieved 51 = .ok (.iload_n 2, 1) := by decide +kernel
theorem dX1_addSieved_52 : decode cX1_addSieved 52 = .ok (.ireturn, 1) := by decide +kernel
theorem dX1_addThinned_0 : decode cX1_addThinned 0 = .ok (.aload_n 0, 1) := by decide +kernel
theorem dX1_addThinned_1 : decode cX1_addThinned 1 = .ok (.invokevirtual 59, 3) := by decide +kernel
theorem dX1_addThinned_4 : decode cX1_addThinned 4 = .ok (.istore_n 3, 1) := by decide +kernel
theorem dX1_addThinned_5 : decode cX1_addThinned 5 = .ok (.aload_n 0, 1) := by decide +kernel
theorem dX1_addThinned_6 : decode cX1_addThinned 6 = .ok (.iload_n 1, 1) := by decide +kernel
theorem dX1_addThinned_7 : decode cX1_addThinned 7 = .ok (.iconst 0, 1) := by decide +kernel
theorem dX1_addThinned_8 : decode cX1_addThinned 8 = .ok (.invokevirtual 39, 3) := by decide +kernel
theorem dX1_addThinned_11 : decode cX1_addThinned 11 = .ok (.istore 4, 2) := by decide +kernel
theorem dX1_addThinned_13 : decode cX1_addThinned 13 = .ok (.iconst 0, 1) := by decide +kernel
theorem dX1_addThinned_14 : decode cX1_addThinned 14 = .ok (.istore 5, 2) := by decide +kernel
theorem dX1_addThinned_16 : decode cX1_addThinned 16 = .ok (.iconst 0, 1) := by decide +kernel
theorem dX1_addThinned_17 : decode cX1_addThinned 17 = .ok (.istore 6, 2) := by decide +kernel
theorem dX1_addThinned_19 : decode cX1_addThinned 19 = .ok (.iload 6, 2) := by decide +kernel
theorem dX1_addThinned_21 : decode cX1_addThinned 21 = .ok (.sipush 1000, 3) := by decide +kernel
theorem dX1_addThinned_24 : decode cX1_addThinned 24 = .ok (.if_icmp .ge 45, 3) := by decide +kernel
theorem dX1_addThinned_27 : decode cX1_addThinned 27 = .ok (.iload 4, 2) := by decide +kernel
theorem dX1_addThinned_29 : decode cX1_addThinned 29 = .ok (.iconst (-1), 1) := by decide +kernel
theorem dX1_addThinned_30 : decode cX1_addThinned 30 = .ok (.if_icmp .eq 39, 3) := by decide +kernel
theorem dX1_addThinned_33 : decode cX1_addThinned 33 = .ok (.iinc 5 1, 3) := by decide +kernel
theorem dX1_addThinned_36 : decode cX1_addThinned 36 = .ok (.iload 5, 2) := by decide +kernel
theorem dX1_addThinned_38 : decode cX1_addThinned 38 = .ok (.iload_n 2, 1) := by decide +kernel
theorem dX1_addThinned_39 : decode cX1_addThinned 39 = .ok (.if_icmp .ne 13, 3) := by decide +kernel
theorem dX1_addThinned_42 : decode cX1_addThinned 42 = .ok (.aload_n 0, 1) := by decide +kernel
theorem dX1_addThinned_43 : decode cX1_addThinned 43 = .ok (.iload_n 3, 1) := by decide +kernel
theorem dX1_addThinned_44 : decode cX1_addThinned 44 = .ok (.iload 4, 2) := by decide +kernel
theorem dX1_addThinned_46 : decode cX1_addThinned 46 = .ok (.invokevirtual 63, 3) := by decide +kernel
theorem dX1_addThinned_49 : decode cX1_addThinned 49 = .ok (.iconst 0, 1) := by decide +kernel
theorem dX1_addThinned_50 : decode cX1_addThinned 50 = .ok (.istore 5, 2) := by decide +kernel
theorem dX1_addThinned_52 : decode cX1_addThinned 52 = .ok (.aload_n 0, 1) := by decide +kernel
theorem dX1_addThinned_53 : decode cX1_addThinned 53 = .ok (.iload_n 1, 1) := by decide +kernel
theorem dX1_addThinned_54 : decode cX1_addThinned 54 = .ok (.iload 4, 2) := by decide +kernel
theorem dX1_addThinned_56 : decode cX1_addThinned 56 = .ok (.iconst 1, 1) := by decide +kernel
theorem dX1_addThinned_57 : decode cX1_addThinned 57 = .ok (.iadd, 1) := by decide +kernel
theorem dX1_addThinned_58 : decode cX1_addThinned 58 = .ok (.invokevirtual 39, 3) := by decide +kernel
theorem dX1_addThinned_61 : decode cX1_addThinned 61 = .ok (.istore 4, 2) := by decide +kernel
theorem dX1_addThinned_63 : decode cX1_addThinned 63 = .ok (.iinc 6 1, 3) := by decide +kernel
theorem dX1_addThinned_66 : decode cX1_addThinned 66 = .ok (.goto (-47), 3) := by decide +kernel
theorem dX1_addThinned_69 : decode cX1_addThinned 69 = .ok (.iload_n 3, 1) := by decide +kernel
theorem dX1_addThinned_70 : decode cX1_addThinned 70 = .ok (.ireturn, 1) := by decide +kernel
theorem dX1_addAddedUp_0 : decode cX1_addAddedUp 0 = .ok (.aload_n 0, 1) := by decide +kernel
theorem dX1_addAddedUp_1 : decode cX1_addAddedUp 1 = .ok (.invokevirtual 59, 3) := by decide +kernel
theorem dX1_addAddedUp_4 : decode cX1_addAddedUp 4 = .ok (.istore_n 2, 1) := by decide +kernel
theorem dX1_addAddedUp_5 : decode cX1_addAddedUp 5 = .ok (.iconst 0, 1) := by decide +kernel
theorem dX1_addAddedUp_6 : decode cX1_addAddedUp 6 = .ok (.istore_n 3, 1) := by decide +kernel
theorem dX1_addAddedUp_7 : decode cX1_addAddedUp 7 = .ok (.aload_n 0, 1) := by decide +kernel
theorem dX1_addAddedUp_8 : decode cX1_addAddedUp 8 = .ok (.iload_n 1, 1) := by decide +kernel
theorem dX1_addAddedUp_9 : decode cX1_addAddedUp 9 = .ok (.iconst 0, 1) := by decide +kernel
theorem dX1_addAddedUp_10 : decode cX1_addAddedUp 10 = .ok (.invokevirtual 39, 3) := by decide +kernel
theorem dX1_addAddedUp_13 : decode cX1_addAddedUp 13 = .ok (.istore 4, 2) := by decide +kernel
theorem dX1_addAddedUp_15 : decode cX1_addAddedUp 15 = .ok (.iconst 0, 1) := by decide +kernel
theorem dX1_addAddedUp_16 : decode cX1_addAddedUp 16 = .ok (.istore 5, 2) := by decide +kernel
theorem dX1_addAddedUp_18 : decode cX1_addAddedUp 18 = .ok (.iload 5, 2) := by decide +kernel
theorem dX1_addAddedUp_20 : decode cX1_addAddedUp 20 = .ok (.sipush 1000, 3) := by decide +kernel
theorem dX1_addAddedUp_23 : decode cX1_addAddedUp 23 = .ok (.if_icmp .ge 37, 3) := by decide +kernel
theorem dX1_addAddedUp_26 : decode cX1_addAddedUp 26 = .ok (.iload 4, 2) := by decide +kernel
theorem dX1_addAddedUp_28 : decode cX1_addAddedUp 28 = .ok (.iconst (-1), 1) := by decide +kernel
theorem dX1_addAddedUp_29 : decode cX1_addAddedUp 29 = .ok (.if_icmp .eq 31, 3) := by decide +kernel
theorem dX1_addAddedUp_32 : decode cX1_addAddedUp 32 = .ok (.iload_n 3, 1) := by decide +kernel
theorem dX1_addAddedUp_33 : decode cX1_addAddedUp 33 = .ok (.iload 4, 2) := by decide +kernel
theorem dX1_addAddedUp_35 : decode cX1_addAddedUp 35 = .ok (.iadd, 1) := by decide +kernel
theorem dX1_addAddedUp_36 : decode cX1_addAddedUp 36 = .ok (.istore_n 3, 1) := by decide +kernel
theorem dX1_addAddedUp_37 : decode cX1_addAddedUp 37 = .ok (.aload_n 0, 1) := by decide +kernel
theorem dX1_addAddedUp_38 : decode cX1_addAddedUp 38 = .ok (.iload_n 2, 1) := by decide +kernel
theorem dX1_addAddedUp_39 : decode cX1_addAddedUp 39 = .ok (.iload_n 3, 1) := by decide +kernel
theorem dX1_addAddedUp_40 : decode cX1_addAddedUp 40 = .ok (.invokevirtual 63, 3) := by decide +kernel
theorem dX1_addAddedUp_43 : decode cX1_addAddedUp 43 = .ok (.aload_n 0, 1) := by decide +kernel
theorem dX1_addAddedUp_44 : decode cX1_addAddedUp 44 = .ok (.iload_n 1, 1) := by decide +kernel
theorem dX1_addAddedUp_45 : decode cX1_addAddedUp 45 = .ok (.iload 4, 2) := by decide +kernel
theorem dX1_addAddedUp_47 : decode cX1_addAddedUp 47 = .ok (.iconst 1, 1) := by decide +kernel
theorem dX1_addAddedUp_48 : decode cX1_addAddedUp 48 = .ok (.iadd, 1) := by decide +kernel
theorem dX1_addAddedUp_49 : decode cX1_addAddedUp 49 = .ok (.invokevirtual 39, 3) := by decide +kernel
theorem dX1_addAddedUp_52 : decode cX1_addAddedUp 52 = .ok (.istore 4, 2) := by decide +kernel
theorem dX1_addAddedUp_54 : decode cX1_addAddedUp 54 = .ok (.iinc 5 1, 3) := by decide +kernel
theorem dX1_addAddedUp_57 : decode cX1_addAddedUp 57 = .ok (.goto (-39), 3) := by decide +kernel
theorem dX1_addAddedUp_60 : decode cX1_addAddedUp 60 = .ok (.iload_n 2, 1) := by decide +kernel
theorem dX1_addAddedUp_61 : decode cX1_addAddedUp 61 = .ok (.ireturn, 1) := by decide +kernel
theorem dX1_addEmpty_0 : decode cX1_addEmpty 0 = .ok (.aload_n 0, 1) := by decide +kernel
theorem dX1_addEmpty_1 : decode cX1_addEmpty 1 = .ok (.getfield 15, 3) := by decide +kernel
theorem dX1_addEmpty_4 : decode cX1_addEmpty 4 = .ok (.istore_n 1, 1) := by decide +kernel
theorem dX1_addEmpty_5 : decode cX1_addEmpty 5 = .ok (.iconst 0, 1) := by decide +kernel
theorem dX1_addEmpty_6 : decode cX1_addEmpty 6 = .ok (.istore_n 2, 1) := by decide +kernel
theorem dX1_addEmpty_7 : decode cX1_addEmpty 7 = .ok (.iload_n 2, 1) := by decide +kernel
theorem dX1_addEmpty_8 : decode cX1_addEmpty 8 = .ok (.bipush 16, 2) := by decide +kernel
theorem dX1_addEmpty_10 : decode cX1_addEmpty 10 = .ok (.if_icmp .ge 21, 3) := by decide +kernel
theorem dX1_addEmpty_13 : decode cX1_addEmpty 13 = .ok (.aload_n 0, 1) := by decide +kernel
theorem dX1_addEmpty_14 : decode cX1_addEmpty 14 = .ok (.getfield 11, 3) := by decide +kernel
theorem dX1_addEmpty_17 : decode cX1_addEmpty 17 = .ok (.iload_n 1, 1) := by decide +kernel
theorem dX1_addEmpty_18 : decode cX1_addEmpty 18 = .ok (.bipush 16, 2) := by decide +kernel
theorem dX1_addEmpty_20 : decode cX1_addEmpty 20 = .ok (.imul, 1) := by decide +kernel
theorem dX1_addEmpty_21 : decode cX1_addEmpty 21 = .ok (.iload_n 2, 1) := by decide +kernel
theorem dX1_addEmpty_22 : decode cX1_addEmpty 22 = .ok (.iadd, 1) := by decide +kernel
theorem dX1_addEmpty_23 : decode cX1_addEmpty 23 = .ok (.lconst 0, 1) := by decide +kernel
theorem dX1_addEmpty_24 : decode cX1_addEmpty 24 = .ok (.lastore, 1) := by decide +kernel
theorem dX1_addEmpty_25 : decode cX1_addEmpty 25 = .ok (.iinc 2 1, 3) := by decide +kernel
theorem dX1_addEmpty_28 : decode cX1_addEmpty 28 = .ok (.goto (-21), 3) := by decide +kernel
theorem dX1_addEmpty_31 : decode cX1_addEmpty 31 = .ok (.aload_n 0, 1) := by decide +kernel
theorem dX1_addEmpty_32 : decode cX1_addEmpty 32 = .ok (.dup, 1) := by decide +kernel
theorem dX1_addEmpty_33 : decode cX1_addEmpty 33 = .ok (.getfield 15, 3) := by decide +kernel
theorem dX1_addEmpty_36 : decode cX1_addEmpty 36 = .ok (.iconst 1, 1) := by decide +kernel
theorem dX1_addEmpty_37 : decode cX1_addEmpty 37 = .ok (.iadd, 1) := by decide +kernel
theorem dX1_addEmpty_38 : decode cX1_addEmpty 38 = .ok (.putfield 15, 3) := by decide +kernel
theorem dX1_addEmpty_41 : decode cX1_addEmpty 41 = .ok (.iload_n 1, 1) := by decide +kernel
theorem dX1_addEmpty_42 : decode cX1_addEmpty 42 = .ok (.ireturn, 1) := by decide +kernel
theorem dX1_put_0 : decode cX1_put 0 = .ok (.iload_n 2, 1) := by decide +kernel
theorem dX1_put_1 : decode cX1_put 1 = .ok (.iconst 0, 1) := by decide +kernel
theorem dX1_put_2 : decode cX1_put 2 = .ok (.sipush 999, 3) := by decide +kernel
theorem dX1_put_5 : decode cX1_put 5 = .ok (.invokestatic 25, 3) := by decide +kernel
theorem dX1_put_8 : decode cX1_put 8 = .ok (.ifCond .eq 19, 3) := by decide +kernel
theorem dX1_put_11 : decode cX1_put 11 = .ok (.aload_n 0, 1) := by decide +kernel
theorem dX1_put_12 : decode cX1_put 12 = .ok (.getfield 11, 3) := by decide +kernel
theorem dX1_put_15 : decode cX1_put 15 = .ok (.iload_n 1, 1) := by decide +kernel
theorem dX1_put_16 : decode cX1_put 16 = .ok (.iload_n 2, 1) := by decide +kernel
theorem dX1_put_17 : decode cX1_put 17 = .ok (.invokestatic 29, 3) := by decide +kernel
theorem dX1_put_20 : decode cX1_put 20 = .ok (.dup2, 1) := by decide +kernel
theorem dX1_put_21 : decode cX1_put 21 = .ok (.laload, 1) := by decide +kernel
theorem dX1_put_22 : decode cX1_put 22 = .ok (.lconst 1, 1) := by decide +kernel
theorem dX1_put_23 : decode cX1_put 23 = .ok (.iload_n 2, 1) := by decide +kernel
theorem dX1_put_24 : decode cX1_put 24 = .ok (.lshl, 1) := by decide +kernel
theorem dX1_put_25 : decode cX1_put 25 = .ok (.lor, 1) := by decide +kernel
theorem dX1_put_26 : decode cX1_put 26 = .ok (.lastore, 1) := by decide +kernel
theorem dX1_put_27 : decode cX1_put 27 = .ok (.return_, 1) := by decide +kernel
theorem dX1_strikeOutMultiples_0 : decode cX1_strikeOutMultiples 0 = .ok (.iconst 2, 1) := by decide +kernel
theorem dX1_strikeOutMultiples_1 : decode cX1_strikeOutMultiples 1 = .ok (.istore_n 3, 1) := by decide +kernel
theorem dX1_strikeOutMultiples_2 : decode cX1_strikeOutMultiples 2 = .ok (.iload_n 3, 1) := by decide +kernel
theorem dX1_strikeOutMultiples_3 : decode cX1_strikeOutMultiples 3 = .ok (.sipush 1000, 3) := by decide +kernel
theorem dX1_strikeOutMultiples_6 : decode cX1_strikeOutMultiples 6 = .ok (.if_icmp .ge 42, 3) := by decide +kernel
theorem dX1_strikeOutMultiples_9 : decode cX1_strikeOutMultiples 9 = .ok (.iload_n 3, 1) := by decide +kernel
theorem dX1_strikeOutMultiples_10 : decode cX1_strikeOutMultiples 10 = .ok (.iload_n 2, 1) := by decide +kernel
theorem dX1_strikeOutMultiples_11 : decode cX1_strikeOutMultiples 11 = .ok (.imul, 1) := by decide +kernel
theorem dX1_strikeOutMultiples_12 : decode cX1_strikeOutMultiples 12 = .ok (.sipush 999, 3) := by decide +kernel
theorem dX1_strikeOutMultiples_15 : decode cX1_strikeOutMultiples 15 = .ok (.if_icmp .gt 33, 3) := by decide +kernel
theorem dX1_strikeOutMultiples_18 : decode cX1_strikeOutMultiples 18 = .ok (.aload_n 0, 1) := by decide +kernel
theorem dX1_strikeOutMultiples_19 : decode cX1_strikeOutMultiples 19 = .ok (.getfield 11, 3) := by decide +kernel
theorem dX1_strikeOutMultiples_22 : decode cX1_strikeOutMultiples 22 = .ok (.iload_n 1, 1) := by decide +kernel
theorem dX1_strikeOutMultiples_23 : decode cX1_strikeOutMultiples 23 = .ok (.iload_n 3, 1) := by decide +kernel
theorem dX1_strikeOutMultiples_24 : decode cX1_strikeOutMultiples 24 = .ok (.iload_n 2, 1) := by decide +kernel
theorem dX1_strikeOutMultiples_25 : decode cX1_strikeOutMultiples 25 = .ok (.imul, 1) := by decide +kernel
theorem dX1_strikeOutMultiples_26 : decode cX1_strikeOutMultiples 26 = .ok (.invokestatic 29, 3) := by decide +kernel
theorem dX1_strikeOutMultiples_29 : decode cX1_strikeOutMultiples 29 = .ok (.dup2, 1) := by decide +kernel
theorem dX1_strikeOutMultiples_30 : decode cX1_strikeOutMultiples 30 = .ok (.laload, 1) := by decide +kernel
theorem dX1_strikeOutMultiples_31 : decode cX1_strikeOutMultiples 31 = .ok (.lconst 1, 1) := by decide +kernel
theorem dX1_strikeOutMultiples_32 : decode cX1_strikeOutMultiples 32 = .ok (.iload_n 3, 1) := by decide +kernel
theorem dX1_strikeOutMultiples_33 : decode cX1_strikeOutMultiples 33 = .ok (.iload_n 2, 1) := by decide +kernel
theorem dX1_strikeOutMultiples_34 : decode cX1_strikeOutMultiples 34 = .ok (.imul, 1) := by decide +kernel
theorem dX1_strikeOutMultiples_35 : decode cX1_strikeOutMultiples 35 = .ok (.lshl, 1) := by decide +kernel
theorem dX1_strikeOutMultiples_36 : decode cX1_strikeOutMultiples 36 = .ok (.ldc2_w 33, 3) := by decide +kernel
theorem dX1_strikeOutMultiples_39 : decode cX1_strikeOutMultiples 39 = .ok (.lxor, 1) := by decide +kernel
theorem dX1_strikeOutMultiples_40 : decode cX1_strikeOutMultiples 40 = .ok (.land, 1) := by decide +kernel
theorem dX1_strikeOutMultiples_41 : decode cX1_strikeOutMultiples 41 = .ok (.lastore, 1) := by decide +kernel
theorem dX1_strikeOutMultiples_42 : decode cX1_strikeOutMultiples 42 = .ok (.iinc 3 1, 3) := by decide +kernel
theorem dX1_strikeOutMultiples_45 : decode cX1_strikeOutMultiples 45 = .ok (.goto (-43), 3) := by decide +kernel
theorem dX1_strikeOutMultiples_48 : decode cX1_strikeOutMultiples 48 = .ok (.return_, 1) := by decide +kernel
theorem dX1_wordOf_0 : decode cX1_wordOf 0 = .ok (.iload_n 0, 1) := by decide +kernel
theorem dX1_wordOf_1 : decode cX1_wordOf 1 = .ok (.bipush 16, 2) := by decide +kernel
theorem dX1_wordOf_3 : decode cX1_wordOf 3 = .ok (.imul, 1) := by decide +kernel
theorem dX1_wordOf_4 : decode cX1_wordOf 4 = .ok (.iload_n 1, 1) := by decide +kernel
theorem dX1_wordOf_5 : decode cX1_wordOf 5 = .ok (.bipush 64, 2) := by decide +kernel
theorem dX1_wordOf_7 : decode cX1_wordOf 7 = .ok (.idiv, 1) := by decide +kernel
theorem dX1_wordOf_8 : decode cX1_wordOf 8 = .ok (.iadd, 1) := by decide +kernel
theorem dX1_wordOf_9 : decode cX1_wordOf 9 = .ok (.ireturn, 1) := by decide +kernel
theorem dX1_lowestBit_0 : decode cX1_lowestBit 0 = .ok (.lload_n 0, 1) := by decide +kernel
theorem dX1_lowestBit_1 : decode cX1_lowestBit 1 = .ok (.lload_n 0, 1) := by decide +kernel
theorem dX1_lowestBit_2 : decode cX1_lowestBit 2 = .ok (.lneg, 1) := by decide +kernel
theorem dX1_lowestBit_3 : decode cX1_lowestBit 3 = .ok (.land, 1) := by decide +kernel
theorem dX1_lowestBit_4 : decode cX1_lowestBit 4 = .ok (.lconst 1, 1) := by decide +kernel
theorem dX1_lowestBit_5 : decode cX1_lowestBit 5 = .ok (.lsub, 1) := by decide +kernel
theorem dX1_lowestBit_6 : decode cX1_lowestBit 6 = .ok (.invokestatic 54, 3) := by decide +kernel
theorem dX1_lowestBit_9 : decode cX1_lowestBit 9 = .ok (.ireturn, 1) := by decide +kernel
theorem dX2_init_0 : decode cX2_init 0 = .ok (.aload_n 0, 1) := by decide +kernel
theorem dX2_init_1 : decode cX2_init 1 = .ok (.invokespecial 3, 3) := by decide +kernel
theorem dX2_init_4 : decode cX2_init 4 = .ok (.aload_n 0, 1) := by decide +kernel
theorem dX2_init_5 : decode cX2_init 5 = .ok (.iconst 4, 1) := by decide +kernel
theorem dX2_init_6 : decode cX2_init 6 = .ok (.newarray .int, 2) := by decide +kernel
theorem dX2_init_8 : decode cX2_init 8 = .ok (.putfield 9, 3) := by decide +kernel
theorem dX2_init_11 : decode cX2_init 11 = .ok (.aload_n 0, 1) := by decide +kernel
theorem dX2_init_12 : decode cX2_init 12 = .ok (.iconst 4, 1) := by decide +kernel
theorem dX2_init_13 : decode cX2_init 13 = .ok (.newarray .int, 2) := by decide +kernel
theorem dX2_init_15 : decode cX2_init 15 = .ok (.putfield 15, 3) := by decide +kernel
theorem dX2_init_18 : decode cX2_init 18 = .ok (.aload_n 0, 1) := by decide +kernel
theorem dX2_init_19 : decode cX2_init 19 = .ok (.iconst 4, 1) := by decide +kernel
theorem dX2_init_20 : decode cX2_init 20 = .ok (.newarray .int, 2) := by decide +kernel
theorem dX2_init_22 : decode cX2_init 22 = .ok (.putfield 18, 3) := by decide +kernel
theorem dX2_init_25 : decode cX2_init 25 = .ok (.return_, 1) := by decide +kernel
theorem dX2_copyFrom_0 : decode cX2_copyFrom 0 = .ok (.aload_n 0, 1) := by decide +kernel
theorem dX2_copyFrom_1 : decode cX2_copyFrom 1 = .ok (.aload_n 1, 1) := by decide +kernel
theorem dX2_copyFrom_2 : decode cX2_copyFrom 2 = .ok (.getfield 21, 3) := by decide +kernel
theorem dX2_copyFrom_5 : decode cX2_copyFrom 5 = .ok (.putfield 21, 3) := by decide +kernel
theorem dX2_copyFrom_8 : decode cX2_copyFrom 8 = .ok (.aload_n 0, 1) := by decide +kernel
theorem dX2_copyFrom_9 : decode cX2_copyFrom 9 = .ok (.aload_n 1, 1) := by decide +kernel
theorem dX2_copyFrom_10 : decode cX2_copyFrom 10 = .ok (.getfield 25, 3) := by decide +kernel
theorem dX2_copyFrom_13 : decode cX2_copyFrom 13 = .ok (.putfield 25, 3) := by decide +kernel
theorem dX2_copyFrom_16 : decode cX2_copyFrom 16 = .ok (.iconst 0, 1) := by decide +kernel
theorem dX2_copyFrom_17 : decode cX2_copyFrom 17 = .ok (.istore_n 2, 1) := by decide +kernel
theorem dX2_copyFrom_18 : decode cX2_copyFrom 18 = .ok (.iload_n 2, 1) := by decide +kernel
theorem dX2_copyFrom_19 : decode cX2_copyFrom 19 = .ok (.iconst 4, 1) := by decide +kernel
theorem dX2_copyFrom_20 : decode cX2_copyFrom 20 = .ok (.if_icmp .ge 45, 3) := by decide +kernel
theorem dX2_copyFrom_23 : decode cX2_copyFrom 23 = .ok (.aload_n 0, 1) := by decide +kernel
theorem dX2_copyFrom_24 : decode cX2_copyFrom 24 = .ok (.getfield 9, 3) := by decide +kernel
theorem dX2_copyFrom_27 : decode cX2_copyFrom 27 = .ok (.iload_n 2, 1) := by decide +kernel
theorem dX2_copyFrom_28 : decode cX2_copyFrom 28 = .ok (.aload_n 1, 1) := by decide +kernel
theorem dX2_copyFrom_29 : decode cX2_copyFrom 29 = .ok (.getfield 9, 3) := by decide +kernel
theorem dX2_copyFrom_32 : decode cX2_copyFrom 32 = .ok (.iload_n 2, 1) := by decide +kernel
theorem dX2_copyFrom_33 : decode cX2_copyFrom 33 = .ok (.iaload, 1) := by decide +kernel
theorem dX2_copyFrom_34 : decode cX2_copyFrom 34 = .ok (.iastore, 1) := by decide +kernel
theorem dX2_copyFrom_35 : decode cX2_copyFrom 35 = .ok (.aload_n 0, 1) := by decide +kernel
theorem dX2_copyFrom_36 : decode cX2_copyFrom 36 = .ok (.getfield 15, 3) := by decide +kernel
theorem dX2_copyFrom_39 : decode cX2_copyFrom 39 = .ok (.iload_n 2, 1) := by decide +kernel
theorem dX2_copyFrom_40 : decode cX2_copyFrom 40 = .ok (.aload_n 1, 1) := by decide +kernel
theorem dX2_copyFrom_41 : decode cX2_copyFrom 41 = .ok (.getfield 15, 3) := by decide +kernel
theorem dX2_copyFrom_44 : decode cX2_copyFrom 44 = .ok (.iload_n 2, 1) := by decide +kernel
theorem dX2_copyFrom_45 : decode cX2_copyFrom 45 = .ok (.iaload, 1) := by decide +kernel
theorem dX2_copyFrom_46 : decode cX2_copyFrom 46 = .ok (.iastore, 1) := by decide +kernel
theorem dX2_copyFrom_47 : decode cX2_copyFrom 47 = .ok (.aload_n 0, 1) := by decide +kernel
theorem dX2_copyFrom_48 : decode cX2_copyFrom 48 = .ok (.getfield 18, 3) := by decide +kernel
theorem dX2_copyFrom_51 : decode cX2_copyFrom 51 = .ok (.iload_n 2, 1) := by decide +kernel
theorem dX2_copyFrom_52 : decode cX2_copyFrom 52 = .ok (.aload_n 1, 1) := by decide +kernel
theorem dX2_copyFrom_53 : decode cX2_copyFrom 53 = .ok (.getfield 18, 3) := by decide +kernel
theorem dX2_copyFrom_56 : decode cX2_copyFrom 56 = .ok (.iload_n 2, 1) := by decide +kernel
theorem dX2_copyFrom_57 : decode cX2_copyFrom 57 = .ok (.iaload, 1) := by decide +kernel
theorem dX2_copyFrom_58 : decode cX2_copyFrom 58 = .ok (.iastore, 1) := by decide +kernel
theorem dX2_copyFrom_59 : decode cX2_copyFrom 59 = .ok (.iinc 2 1, 3) := by decide +kernel
theorem dX2_copyFrom_62 : decode cX2_copyFrom 62 = .ok (.goto (-44), 3) := by decide +kernel
theorem dX2_copyFrom_65 : decode cX2_copyFrom 65 = .ok (.return_, 1) := by decide +kernel
theorem dX2_isReader_0 : decode cX2_isReader 0 = .ok (.iload_n 1, 1) := by decide +kernel
theorem dX2_isReader_1 : decode cX2_isReader 1 = .ok (.ifCond .lt 15, 3) := by decide +kernel
theorem dX2_isReader_4 : decode cX2_isReader 4 = .ok (.iload_n 1, 1) := by decide +kernel
theorem dX2_isReader_5 : decode cX2_isReader 5 = .ok (.aload_n 0, 1) := by decide +kernel
theorem dX2_isReader_6 : decode cX2_isReader 6 = .ok (.getfield 21, 3) := by decide +kernel
theorem dX2_isReader_9 : decode cX2_isReader 9 = .ok (.if_icmp .ge 7, 3) := by decide +kernel
theorem dX2_isReader_12 : decode cX2_isReader 12 = .ok (.iconst 1, 1) := by decide +kernel
theorem dX2_isReader_13 : decode cX2_isReader 13 = .ok (.goto 4, 3) := by decide +kernel
theorem dX2_isReader_16 : decode cX2_isReader 16 = .ok (.iconst 0, 1) := by decide +kernel
theorem dX2_isReader_17 : decode cX2_isReader 17 = .ok (.ireturn, 1) := by decide +kernel
theorem dX2_hasRoom_0 : decode cX2_hasRoom 0 = .ok (.aload_n 0, 1) := by decide +kernel
theorem dX2_hasRoom_1 : decode cX2_hasRoom 1 = .ok (.getfield 21, 3) := by decide +kernel
theorem dX2_hasRoom_4 : decode cX2_hasRoom 4 = .ok (.iconst 4, 1) := by decide +kernel
theorem dX2_hasRoom_5 : decode cX2_hasRoom 5 = .ok (.if_icmp .ge 7, 3) := by decide +kernel
theorem dX2_hasRoom_8 : decode cX2_hasRoom 8 = .ok (.iconst 1, 1) := by decide +kernel
theorem dX2_hasRoom_9 : decode cX2_hasRoom 9 = .ok (.goto 4, 3) := by decide +kernel
theorem dX2_hasRoom_12 : decode cX2_hasRoom 12 = .ok (.iconst 0, 1) := by decide +kernel
theorem dX2_hasRoom_13 : decode cX2_hasRoom 13 = .ok (.ireturn, 1) := by decide +kernel
theorem dX2_isRead_0 : decode cX2_isRead 0 = .ok (.iconst 0, 1) := by decide +kernel
theorem dX2_isRead_1 : decode cX2_isRead 1 = .ok (.istore_n 2, 1) := by decide +kernel
theorem dX2_isRead_2 : decode cX2_isRead 2 = .ok (.iload_n 2, 1) := by decide +kernel
theorem dX2_isRead_3 : decode cX2_isRead 3 = .ok (.aload_n 0, 1) := by decide +kernel
theorem dX2_isRead_4 : decode cX2_isRead 4 = .ok (.getfield 21, 3) := by decide +kernel
theorem dX2_isRead_7 : decode cX2_isRead 7 = .ok (.if_icmp .ge 21, 3) := by decide +kernel
theorem dX2_isRead_10 : decode cX2_isRead 10 = .ok (.aload_n 0, 1) := by decide +kernel
theorem dX2_isRead_11 : decode cX2_isRead 11 = .ok (.getfield 9, 3) := by decide +kernel
theorem dX2_isRead_14 : decode cX2_isRead 14 = .ok (.iload_n 2, 1) := by decide +kernel
theorem dX2_isRead_15 : decode cX2_isRead 15 = .ok (.iaload, 1) := by decide +kernel
theorem dX2_isRead_16 : decode cX2_isRead 16 = .ok (.iload_n 1, 1) := by decide +kernel
theorem dX2_isRead_17 : decode cX2_isRead 17 = .ok (.if_icmp .ne 5, 3) := by decide +kernel
theorem dX2_isRead_20 : decode cX2_isRead 20 = .ok (.iconst 1, 1) := by decide +kernel
theorem dX2_isRead_21 : decode cX2_isRead 21 = .ok (.ireturn, 1) := by decide +kernel
theorem dX2_isRead_22 : decode cX2_isRead 22 = .ok (.iinc 2 1, 3) := by decide +kernel
theorem dX2_isRead_25 : decode cX2_isRead 25 = .ok (.goto (-23), 3) := by decide +kernel
theorem dX2_isRead_28 : decode cX2_isRead 28 = .ok (.iconst 0, 1) := by decide +kernel
theorem dX2_isRead_29 : decode cX2_isRead 29 = .ok (.ireturn, 1) := by decide +kernel
theorem dX2_add_0 : decode cX2_add 0 = .ok (.aload_n 0, 1) := by decide +kernel
theorem dX2_add_1 : decode cX2_add 1 = .ok (.getfield 21, 3) := by decide +kernel
theorem dX2_add_4 : decode cX2_add 4 = .ok (.istore_n 2, 1) := by decide +kernel
theorem dX2_add_5 : decode cX2_add 5 = .ok (.aload_n 0, 1) := by decide +kernel
theorem dX2_add_6 : decode cX2_add 6 = .ok (.getfield 9, 3) := by decide +kernel
theorem dX2_add_9 : decode cX2_add 9 = .ok (.iload_n 2, 1) := by decide +kernel
theorem dX2_add_10 : decode cX2_add 10 = .ok (.iload_n 1, 1) := by decide +kernel
theorem dX2_add_11 : decode cX2_add 11 = .ok (.iastore, 1) := by decide +kernel
theorem dX2_add_12 : decode cX2_add 12 = .ok (.aload_n 0, 1) := by decide +kernel
theorem dX2_add_13 : decode cX2_add 13 = .ok (.getfield 15, 3) := by decide +kernel
theorem dX2_add_16 : decode cX2_add 16 = .ok (.iload_n 2, 1) := by decide +kernel
theorem dX2_add_17 : decode cX2_add 17 = .ok (.iconst 0, 1) := by decide +kernel
theorem dX2_add_18 : decode cX2_add 18 = .ok (.iastore, 1) := by decide +kernel
theorem dX2_add_19 : decode cX2_add 19 = .ok (.aload_n 0, 1) := by decide +kernel
theorem dX2_add_20 : decode cX2_add 20 = .ok (.getfield 18, 3) := by decide +kernel
theorem dX2_add_23 : decode cX2_add 23 = .ok (.iload_n 2, 1) := by decide +kernel
theorem dX2_add_24 : decode cX2_add 24 = .ok (.iconst 0, 1) := by decide +kernel
theorem dX2_add_25 : decode cX2_add 25 = .ok (.iastore, 1) := by decide +kernel
theorem dX2_add_26 : decode cX2_add 26 = .ok (.aload_n 0, 1) := by decide +kernel
theorem dX2_add_27 : decode cX2_add 27 = .ok (.dup, 1) := by decide +kernel
theorem dX2_add_28 : decode cX2_add 28 = .ok (.getfield 21, 3) := by decide +kernel
theorem dX2_add_31 : decode cX2_add 31 = .ok (.iconst 1, 1) := by decide +kernel
theorem dX2_add_32 : decode cX2_add 32 = .ok (.iadd, 1) := by decide +kernel
theorem dX2_add_33 : decode cX2_add 33 = .ok (.putfield 21, 3) := by decide +kernel
theorem dX2_add_36 : decode cX2_add 36 = .ok (.iload_n 2, 1) := by decide +kernel
theorem dX2_add_37 : decode cX2_add 37 = .ok (.ireturn, 1) := by decide +kernel
theorem dX2_pass_0 : decode cX2_pass 0 = .ok (.aload_n 0, 1) := by decide +kernel
theorem dX2_pass_1 : decode cX2_pass 1 = .ok (.getfield 15, 3) := by decide +kernel
theorem dX2_pass_4 : decode cX2_pass 4 = .ok (.iload_n 1, 1) := by decide +kernel
theorem dX2_pass_5 : decode cX2_pass 5 = .ok (.dup2, 1) := by decide +kernel
theorem dX2_pass_6 : decode cX2_pass 6 = .ok (.iaload, 1) := by decide +kernel
theorem dX2_pass_7 : decode cX2_pass 7 = .ok (.iconst 1, 1) := by decide +kernel
theorem dX2_pass_8 : decode cX2_pass 8 = .ok (.iadd, 1) := by decide +kernel
theorem dX2_pass_9 : decode cX2_pass 9 = .ok (.iastore, 1) := by decide +kernel
theorem dX2_pass_10 : decode cX2_pass 10 = .ok (.aload_n 0, 1) := by decide +kernel
theorem dX2_pass_11 : decode cX2_pass 11 = .ok (.getfield 18, 3) := by decide +kernel
theorem dX2_pass_14 : decode cX2_pass 14 = .ok (.iload_n 1, 1) := by decide +kernel
theorem dX2_pass_15 : decode cX2_pass 15 = .ok (.iload_n 2, 1) := by decide +kernel
theorem dX2_pass_16 : decode cX2_pass 16 = .ok (.iconst 1, 1) := by decide +kernel
theorem dX2_pass_17 : decode cX2_pass 17 = .ok (.iadd, 1) := by decide +kernel
theorem dX2_pass_18 : decode cX2_pass 18 = .ok (.iastore, 1) := by decide +kernel
theorem dX2_pass_19 : decode cX2_pass 19 = .ok (.return_, 1) := by decide +kernel
theorem dX2_sendBack_0 : decode cX2_sendBack 0 = .ok (.aload_n 0, 1) := by decide +kernel
theorem dX2_sendBack_1 : decode cX2_sendBack 1 = .ok (.getfield 15, 3) := by decide +kernel
theorem dX2_sendBack_4 : decode cX2_sendBack 4 = .ok (.iload_n 1, 1) := by decide +kernel
theorem dX2_sendBack_5 : decode cX2_sendBack 5 = .ok (.iaload, 1) := by decide +kernel
theorem dX2_sendBack_6 : decode cX2_sendBack 6 = .ok (.istore_n 2, 1) := by decide +kernel
theorem dX2_sendBack_7 : decode cX2_sendBack 7 = .ok (.aload_n 0, 1) := by decide +kernel
theorem dX2_sendBack_8 : decode cX2_sendBack 8 = .ok (.getfield 15, 3) := by decide +kernel
theorem dX2_sendBack_11 : decode cX2_sendBack 11 = .ok (.iload_n 1, 1) := by decide +kernel
theorem dX2_sendBack_12 : decode cX2_sendBack 12 = .ok (.iconst 0, 1) := by decide +kernel
theorem dX2_sendBack_13 : decode cX2_sendBack 13 = .ok (.iastore, 1) := by decide +kernel
theorem dX2_sendBack_14 : decode cX2_sendBack 14 = .ok (.aload_n 0, 1) := by decide +kernel
theorem dX2_sendBack_15 : decode cX2_sendBack 15 = .ok (.getfield 18, 3) := by decide +kernel
theorem dX2_sendBack_18 : decode cX2_sendBack 18 = .ok (.iload_n 1, 1) := by decide +kernel
theorem dX2_sendBack_19 : decode cX2_sendBack 19 = .ok (.iconst 0, 1) := by decide +kernel
theorem dX2_sendBack_20 : decode cX2_sendBack 20 = .ok (.iastore, 1) := by decide +kernel
theorem dX2_sendBack_21 : decode cX2_sendBack 21 = .ok (.iload_n 2, 1) := by decide +kernel
theorem dX2_sendBack_22 : decode cX2_sendBack 22 = .ok (.ireturn, 1) := by decide +kernel
theorem dX2_remove_0 : decode cX2_remove 0 = .ok (.aload_n 0, 1) := by decide +kernel
theorem dX2_remove_1 : decode cX2_remove 1 = .ok (.dup, 1) := by decide +kernel
theorem dX2_remove_2 : decode cX2_remove 2 = .ok (.getfield 21, 3) := by decide +kernel
theorem dX2_remove_5 : decode cX2_remove 5 = .ok (.iconst 1, 1) := by decide +kernel
theorem dX2_remove_6 : decode cX2_remove 6 = .ok (.isub, 1) := by decide +kernel
theorem dX2_remove_7 : decode cX2_remove 7 = .ok (.putfield 21, 3) := by decide +kernel
theorem dX2_remove_10 : decode cX2_remove 10 = .ok (.iload_n 1, 1) := by decide +kernel
theorem dX2_remove_11 : decode cX2_remove 11 = .ok (.istore_n 2, 1) := by decide +kernel
theorem dX2_remove_12 : decode cX2_remove 12 = .ok (.iload_n 2, 1) := by decide +kernel
theorem dX2_remove_13 : decode cX2_remove 13 = .ok (.aload_n 0, 1) := by decide +kernel
theorem dX2_remove_14 : decode cX2_remove 14 = .ok (.getfield 21, 3) := by decide +kernel
theorem dX2_remove_17 : decode cX2_remove 17 = .ok (.if_icmp .ge 51, 3) := by decide +kernel
theorem dX2_remove_20 : decode cX2_remove 20 = .ok (.aload_n 0, 1) := by decide +kernel
theorem dX2_remove_21 : decode cX2_remove 21 = .ok (.getfield 9, 3) := by decide +kernel
theorem dX2_remove_24 : decode cX2_remove 24 = .ok (.iload_n 2, 1) := by decide +kernel
theorem dX2_remove_25 : decode cX2_remove 25 = .ok (.aload_n 0, 1) := by decide +kernel
theorem dX2_remove_26 : decode cX2_remove 26 = .ok (.getfield 9, 3) := by decide +kernel
theorem dX2_remove_29 : decode cX2_remove 29 = .ok (.iload_n 2, 1) := by decide +kernel
theorem dX2_remove_30 : decode cX2_remove 30 = .ok (.iconst 1, 1) := by decide +kernel
theorem dX2_remove_31 : decode cX2_remove 31 = .ok (.iadd, 1) := by decide +kernel
theorem dX2_remove_32 : decode cX2_remove 32 = .ok (.iaload, 1) := by decide +kernel
theorem dX2_remove_33 : decode cX2_remove 33 = .ok (.iastore, 1) := by decide +kernel
theorem dX2_remove_34 : decode cX2_remove 34 = .ok (.aload_n 0, 1) := by decide +kernel
theorem dX2_remove_35 : decode cX2_remove 35 = .ok (.getfield 15, 3) := by decide +kernel
theorem dX2_remove_38 : decode cX2_remove 38 = .ok (.iload_n 2, 1) := by decide +kernel
theorem dX2_remove_39 : decode cX2_remove 39 = .ok (.aload_n 0, 1) := by decide +kernel
theorem dX2_remove_40 : decode cX2_remove 40 = .ok (.getfield 15, 3) := by decide +kernel
theorem dX2_remove_43 : decode cX2_remove 43 = .ok (.iload_n 2, 1) := by decide +kernel
theorem dX2_remove_44 : decode cX2_remove 44 = .ok (.iconst 1, 1) := by decide +kernel
theorem dX2_remove_45 : decode cX2_remove 45 = .ok (.iadd, 1) := by decide +kernel
theorem dX2_remove_46 : decode cX2_remove 46 = .ok (.iaload, 1) := by decide +kernel
theorem dX2_remove_47 : decode cX2_remove 47 = .ok (.iastore, 1) := by decide +kernel
theorem dX2_remove_48 : decode cX2_remove 48 = .ok (.aload_n 0, 1) := by decide +kernel
theorem dX2_remove_49 : decode cX2_remove 49 = .ok (.getfield 18, 3) := by decide +kernel
theorem dX2_remove_52 : decode cX2_remove 52 = .ok (.iload_n 2, 1) := by decide +kernel
theorem dX2_remove_53 : decode cX2_remove 53 = .ok (.aload_n 0, 1) := by decide +kernel
theorem dX2_remove_54 : decode cX2_remove 54 = .ok (.getfield 18, 3) := by decide +kernel
theorem dX2_remove_57 : decode cX2_remove 57 = .ok (.iload_n 2, 1) := by decide +kernel
theorem dX2_remove_58 : decode cX2_remove 58 = .ok (.iconst 1, 1) := by decide +kernel
theorem dX2_remove_59 : decode cX2_remove 59 = .ok (.iadd, 1) := by decide +kernel
theorem dX2_remove_60 : decode cX2_remove 60 = .ok (.iaload, 1) := by decide +kernel
theorem dX2_remove_61 : decode cX2_remove 61 = .ok (.iastore, 1) := by decide +kernel
theorem dX2_remove_62 : decode cX2_remove 62 = .ok (.iinc 2 1, 3) := by decide +kernel
theorem dX2_remove_65 : decode cX2_remove 65 = .ok (.goto (-53), 3) := by decide +kernel
theorem dX2_remove_68 : decode cX2_remove 68 = .ok (.aload_n 0, 1) := by decide +kernel
theorem dX2_remove_69 : decode cX2_remove 69 = .ok (.getfield 21, 3) := by decide +kernel
theorem dX2_remove_72 : decode cX2_remove 72 = .ok (.ireturn, 1) := by decide +kernel
theorem dX3_init_0 : decode cX3_init 0 = .ok (.aload_n 0, 1) := by decide +kernel
theorem dX3_init_1 : decode cX3_init 1 = .ok (.invokespecial 3, 3) := by decide +kernel
theorem dX3_init_4 : decode cX3_init 4 = .ok (.aload_n 0, 1) := by decide +kernel
theorem dX3_init_5 : decode cX3_init 5 = .ok (.new 9, 3) := by decide +kernel
theorem dX3_init_8 : decode cX3_init 8 = .ok (.dup, 1) := by decide +kernel
theorem dX3_init_9 : decode cX3_init 9 = .ok (.invokespecial 11, 3) := by decide +kernel
theorem dX3_init_12 : decode cX3_init 12 = .ok (.putfield 12, 3) := by decide +kernel
theorem dX3_init_15 : decode cX3_init 15 = .ok (.aload_n 0, 1) := by decide +kernel
theorem dX3_init_16 : decode cX3_init 16 = .ok (.new 18, 3) := by decide +kernel
theorem dX3_init_19 : decode cX3_init 19 = .ok (.dup, 1) := by decide +kernel
theorem dX3_init_20 : decode cX3_init 20 = .ok (.invokespecial 20, 3) := by decide +kernel
theorem dX3_init_23 : decode cX3_init 23 = .ok (.putfield 21, 3) := by decide +kernel
theorem dX3_init_26 : decode cX3_init 26 = .ok (.return_, 1) := by decide +kernel
theorem dX3_copyFrom_0 : decode cX3_copyFrom 0 = .ok (.aload_n 0, 1) := by decide +kernel
theorem dX3_copyFrom_1 : decode cX3_copyFrom 1 = .ok (.getfield 12, 3) := by decide +kernel
theorem dX3_copyFrom_4 : decode cX3_copyFrom 4 = .ok (.aload_n 1, 1) := by decide +kernel
theorem dX3_copyFrom_5 : decode cX3_copyFrom 5 = .ok (.getfield 12, 3) := by decide +kernel
theorem dX3_copyFrom_8 : decode cX3_copyFrom 8 = .ok (.invokevirtual 25, 3) := by decide +kernel
theorem dX3_copyFrom_11 : decode cX3_copyFrom 11 = .ok (.aload_n 0, 1) := by decide +kernel
theorem dX3_copyFrom_12 : decode cX3_copyFrom 12 = .ok (.getfield 21, 3) := by decide +kernel
theorem dX3_copyFrom_15 : decode cX3_copyFrom 15 = .ok (.aload_n 1, 1) := by decide +kernel
theorem dX3_copyFrom_16 : decode cX3_copyFrom 16 = .ok (.getfield 21, 3) := by decide +kernel
theorem dX3_copyFrom_19 : decode cX3_copyFrom 19 = .ok (.invokevirtual 29, 3) := by decide +kernel
theorem dX3_copyFrom_22 : decode cX3_copyFrom 22 = .ok (.return_, 1) := by decide +kernel
theorem dX3_empty_0 : decode cX3_empty 0 = .ok (.aload_n 0, 1) := by decide +kernel
theorem dX3_empty_1 : decode cX3_empty 1 = .ok (.getfield 12, 3) := by decide +kernel
theorem dX3_empty_4 : decode cX3_empty 4 = .ok (.iconst 0, 1) := by decide +kernel
theorem dX3_empty_5 : decode cX3_empty 5 = .ok (.putfield 32, 3) := by decide +kernel
theorem dX3_empty_8 : decode cX3_empty 8 = .ok (.aload_n 0, 1) := by decide +kernel
theorem dX3_empty_9 : decode cX3_empty 9 = .ok (.getfield 21, 3) := by decide +kernel
theorem dX3_empty_12 : decode cX3_empty 12 = .ok (.iconst 0, 1) := by decide +kernel
theorem dX3_empty_13 : decode cX3_empty 13 = .ok (.putfield 36, 3) := by decide +kernel
theorem dX3_empty_16 : decode cX3_empty 16 = .ok (.aload_n 0, 1) := by decide +kernel
theorem dX3_empty_17 : decode cX3_empty 17 = .ok (.getfield 21, 3) := by decide +kernel
theorem dX3_empty_20 : decode cX3_empty 20 = .ok (.iconst 0, 1) := by decide +kernel
theorem dX3_empty_21 : decode cX3_empty 21 = .ok (.putfield 37, 3) := by decide +kernel
theorem dX3_empty_24 : decode cX3_empty 24 = .ok (.return_, 1) := by decide +kernel
theorem dX3_objection_0 : decode cX3_objection 0 = .ok (.iload_n 1, 1) := by decide +kernel
theorem dX3_objection_1 : decode cX3_objection 1 = .ok (.tableswitch 374 100 122 #[275, 249, 374, 374, 190, 374, 190, 340, 374, 374, 313, 374, 374, 360, 293, 107, 374, 229, 229, 190, 145, 374, 360], 107) := by decide +kernel
theorem dX3_objection_108 : decode cX3_objection 108 = .ok (.iconst 1, 1) := by decide +kernel
theorem dX3_objection_109 : decode cX3_objection 109 = .ok (.iload_n 2, 1) := by decide +kernel
theorem dX3_objection_110 : decode cX3_objection 110 = .ok (.iconst 0, 1) := by decide +kernel
theorem dX3_objection_111 : decode cX3_objection 111 = .ok (.sipush 999, 3) := by decide +kernel
theorem dX3_objection_114 : decode cX3_objection 114 = .ok (.invokestatic 40, 3) := by decide +kernel
theorem dX3_objection_117 : decode cX3_objection 117 = .ok (.ifCond .eq 17, 3) := by decide +kernel
theorem dX3_objection_120 : decode cX3_objection 120 = .ok (.iload_n 3, 1) := by decide +kernel
theorem dX3_objection_121 : decode cX3_objection 121 = .ok (.iconst 1, 1) := by decide +kernel
theorem dX3_objection_122 : decode cX3_objection 122 = .ok (.bipush 99, 2) := by decide +kernel
theorem dX3_objection_124 : decode cX3_objection 124 = .ok (.invokestatic 40, 3) := by decide +kernel
theorem dX3_objection_127 : decode cX3_objection 127 = .ok (.ifCond .eq 7, 3) := by decide +kernel
theorem dX3_objection_130 : decode cX3_objection 130 = .ok (.iconst 1, 1) := by decide +kernel
theorem dX3_objection_131 : decode cX3_objection 131 = .ok (.goto 4, 3) := by decide +kernel
theorem dX3_objection_134 : decode cX3_objection 134 = .ok (.iconst 0, 1) := by decide +kernel
theorem dX3_objection_135 : decode cX3_objection 135 = .ok (.aload_n 0, 1) := by decide +kernel
theorem dX3_objection_136 : decode cX3_objection 136 = .ok (.getfield 12, 3) := by decide +kernel
theorem dX3_objection_139 : decode cX3_objection 139 = .ok (.invokevirtual 44, 3) := by decide +kernel
theorem dX3_objection_142 : decode cX3_objection 142 = .ok (.invokestatic 48, 3) := by decide +kernel
theorem dX3_objection_145 : decode cX3_objection 145 = .ok (.ireturn, 1) := by decide +kernel
theorem dX3_objection_146 : decode cX3_objection 146 = .ok (.aload_n 0, 1) := by decide +kernel
theorem dX3_objection_147 : decode cX3_objection 147 = .ok (.getfield 12, 3) := by decide +kernel
theorem dX3_objection_150 : decode cX3_objection 150 = .ok (.iload_n 2, 1) := by decide +kernel
theorem dX3_objection_151 : decode cX3_objection 151 = .ok (.invokevirtual 52, 3) := by decide +kernel
theorem dX3_objection_154 : decode cX3_objection 154 = .ok (.iload_n 3, 1) := by decide +kernel
theorem dX3_objection_155 : decode cX3_objection 155 = .ok (.iconst 1, 1) := by decide +kernel
theorem dX3_objection_156 : decode cX3_objection 156 = .ok (.bipush 9, 2) := by decide +kernel
theorem dX3_objection_158 : decode cX3_objection 158 = .ok (.invokestatic 40, 3) := by decide +kernel
theorem dX3_objection_161 : decode cX3_objection 161 = .ok (.ifCond .eq 18, 3) := by decide +kernel
theorem dX3_objection_164 : decode cX3_objection 164 = .ok (.iload 4, 2) := by decide +kernel
theorem dX3_objection_166 : decode cX3_objection 166 = .ok (.iconst 0, 1) := by decide +kernel
theorem dX3_objection_167 : decode cX3_objection 167 = .ok (.bipush 99, 2) := by decide +kernel
theorem dX3_objection_169 : decode cX3_objection 169 = .ok (.invokestatic 40, 3) := by decide +kernel
theorem dX3_objection_172 : decode cX3_objection 172 = .ok (.ifCond .eq 7, 3) := by decide +kernel
theorem dX3_objection_175 : decode cX3_objection 175 = .ok (.iconst 1, 1) := by decide +kernel
theorem dX3_objection_176 : decode cX3_objection 176 = .ok (.goto 4, 3) := by decide +kernel
theorem dX3_objection_179 : decode cX3_objection 179 = .ok (.iconst 0, 1) := by decide +kernel
theorem dX3_objection_180 : decode cX3_objection 180 = .ok (.aload_n 0, 1) := by decide +kernel
theorem dX3_objection_181 : decode cX3_objection 181 = .ok (.getfield 12, 3) := by decide +kernel
theorem dX3_objection_184 : decode cX3_objection 184 = .ok (.invokevirtual 44, 3) := by decide +kernel
theorem dX3_objection_187 : decode cX3_objection 187 = .ok (.invokestatic 48, 3) := by decide +kernel
theorem dX3_objection_190 : decode cX3_objection 190 = .ok (.ireturn, 1) := by decide +kernel
theorem dX3_objection_191 : decode cX3_objection 191 = .ok (.aload_n 0, 1) := by decide +kernel
theorem dX3_objection_192 : decode cX3_objection 192 = .ok (.getfield 12, 3) := by decide +kernel
theorem dX3_objection_195 : decode cX3_objection 195 = .ok (.iload_n 2, 1) := by decide +kernel
theorem dX3_objection_196 : decode cX3_objection 196 = .ok (.invokevirtual 52, 3) := by decide +kernel
theorem dX3_objection_199 : decode cX3_objection 199 = .ok (.ifCond .eq 18, 3) := by decide +kernel
theorem dX3_objection_202 : decode cX3_objection 202 = .ok (.aload_n 0, 1) := by decide +kernel
theorem dX3_objection_203 : decode cX3_objection 203 = .ok (.getfield 12, 3) := by decide +kernel
theorem dX3_objection_206 : decode cX3_objection 206 = .ok (.iload_n 3, 1) := by decide +kernel
theorem dX3_objection_207 : decode cX3_objection 207 = .ok (.invokevirtual 52, 3) := by decide +kernel
theorem dX3_objection_210 : decode cX3_objection 210 = .ok (.ifCond .eq 7, 3) := by decide +kernel
theorem dX3_objection_213 : decode cX3_objection 213 = .ok (.iconst 1, 1) := by decide +kernel
theorem dX3_objection_214 : decode cX3_objection 214 = .ok (.goto 4, 3) := by decide +kernel
theorem dX3_objection_217 : decode cX3_objection 217 = .ok (.iconst 0, 1) := by decide +kernel
theorem dX3_objection_218 : decode cX3_objection 218 = .ok (.iconst 1, 1) := by decide +kernel
theorem dX3_objection_219 : decode cX3_objection 219 = .ok (.aload_n 0, 1) := by decide +kernel
theorem dX3_objection_220 : decode cX3_objection 220 = .ok (.getfield 12, 3) := by decide +kernel
theorem dX3_objection_223 : decode cX3_objection 223 = .ok (.invokevirtual 44, 3) := by decide +kernel
theorem dX3_objection_226 : decode cX3_objection 226 = .ok (.invokestatic 48, 3) := by decide +kernel
theorem dX3_objection_229 : decode cX3_objection 229 = .ok (.ireturn, 1) := by decide +kernel
theorem dX3_objection_230 : decode cX3_objection 230 = .ok (.aload_n 0, 1) := by decide +kernel
theorem dX3_objection_231 : decode cX3_objection 231 = .ok (.getfield 12, 3) := by decide +kernel
theorem dX3_objection_234 : decode cX3_objection 234 = .ok (.iload_n 2, 1) := by decide +kernel
theorem dX3_objection_235 : decode cX3_objection 235 = .ok (.invokevirtual 52, 3) := by decide +kernel
theorem dX3_objection_238 : decode cX3_objection 238 = .ok (.iconst 1, 1) := by decide +kernel
theorem dX3_objection_239 : decode cX3_objection 239 = .ok (.aload_n 0, 1) := by decide +kernel
theorem dX3_objection_240 : decode cX3_objection 240 = .ok (.getfield 12, 3) := by decide +kernel
theorem dX3_objection_243 : decode cX3_objection 243 = .ok (.invokevirtual 44, 3) := by decide +kernel
theorem dX3_objection_246 : decode cX3_objection 246 = .ok (.invokestatic 48, 3) := by decide +kernel
theorem dX3_objection_249 : decode cX3_objection 249 = .ok (.ireturn, 1) := by decide +kernel
theorem dX3_objection_250 : decode cX3_objection 250 = .ok (.aload_n 0, 1) := by decide +kernel
theorem dX3_objection_251 : decode cX3_objection 251 = .ok (.getfield 12, 3) := by decide +kernel
theorem dX3_objection_254 : decode cX3_objection 254 = .ok (.iload_n 2, 1) := by decide +kernel
theorem dX3_objection_255 : decode cX3_objection 255 = .ok (.invokevirtual 52, 3) := by decide +kernel
theorem dX3_objection_258 : decode cX3_objection 258 = .ok (.iload_n 3, 1) := by decide +kernel
theorem dX3_objection_259 : decode cX3_objection 259 = .ok (.iconst 1, 1) := by decide +kernel
theorem dX3_objection_260 : decode cX3_objection 260 = .ok (.bipush 9, 2) := by decide +kernel
theorem dX3_objection_262 : decode cX3_objection 262 = .ok (.invokestatic 40, 3) := by decide +kernel
theorem dX3_objection_265 : decode cX3_objection 265 = .ok (.aload_n 0, 1) := by decide +kernel
theorem dX3_objection_266 : decode cX3_objection 266 = .ok (.getfield 12, 3) := by decide +kernel
theorem dX3_objection_269 : decode cX3_objection 269 = .ok (.invokevirtual 44, 3) := by decide +kernel
theorem dX3_objection_272 : decode cX3_objection 272 = .ok (.invokestatic 48, 3) := by decide +kernel
theorem dX3_objection_275 : decode cX3_objection 275 = .ok (.ireturn, 1) := by decide +kernel
theorem dX3_objection_276 : decode cX3_objection 276 = .ok (.iconst 1, 1) := by decide +kernel
theorem dX3_objection_277 : decode cX3_objection 277 = .ok (.iconst 1, 1) := by decide +kernel
theorem dX3_objection_278 : decode cX3_objection 278 = .ok (.aload_n 0, 1) := by decide +kernel
theorem dX3_objection_279 : decode cX3_objection 279 = .ok (.invokevirtual 56, 3) := by decide +kernel
theorem dX3_objection_282 : decode cX3_objection 282 = .ok (.ifCond .ne 7, 3) := by decide +kernel
theorem dX3_objection_285 : decode cX3_objection 285 = .ok (.iconst 1, 1) := by decide +kernel
theorem dX3_objection_286 : decode cX3_objection 286 = .ok (.goto 4, 3) := by decide +kernel
theorem dX3_objection_289 : decode cX3_objection 289 = .ok (.iconst 0, 1) := by decide +kernel
theorem dX3_objection_290 : decode cX3_objection 290 = .ok (.invokestatic 48, 3) := by decide +kernel
theorem dX3_objection_293 : decode cX3_objection 293 = .ok (.ireturn, 1) := by decide +kernel
theorem dX3_objection_294 : decode cX3_objection 294 = .ok (.aload_n 0, 1) := by decide +kernel
theorem dX3_objection_295 : decode cX3_objection 295 = .ok (.getfield 12, 3) := by decide +kernel
theorem dX3_objection_298 : decode cX3_objection 298 = .ok (.iload_n 2, 1) := by decide +kernel
theorem dX3_objection_299 : decode cX3_objection 299 = .ok (.invokevirtual 52, 3) := by decide +kernel
theorem dX3_objection_302 : decode cX3_objection 302 = .ok (.iconst 1, 1) := by decide +kernel
theorem dX3_objection_303 : decode cX3_objection 303 = .ok (.aload_n 0, 1) := by decide +kernel
theorem dX3_objection_304 : decode cX3_objection 304 = .ok (.getfield 21, 3) := by decide +kernel
theorem dX3_objection_307 : decode cX3_objection 307 = .ok (.invokevirtual 60, 3) := by decide +kernel
theorem dX3_objection_310 : decode cX3_objection 310 = .ok (.invokestatic 48, 3) := by decide +kernel
theorem dX3_objection_313 : decode cX3_objection 313 = .ok (.ireturn, 1) := by decide +kernel
theorem dX3_objection_314 : decode cX3_objection 314 = .ok (.aload_n 0, 1) := by decide +kernel
theorem dX3_objection_315 : decode cX3_objection 315 = .ok (.getfield 21, 3) := by decide +kernel
theorem dX3_objection_318 : decode cX3_objection 318 = .ok (.iload_n 2, 1) := by decide +kernel
theorem dX3_objection_319 : decode cX3_objection 319 = .ok (.invokevirtual 61, 3) := by decide +kernel
theorem dX3_objection_322 : decode cX3_objection 322 = .ok (.iconst 1, 1) := by decide +kernel
theorem dX3_objection_323 : decode cX3_objection 323 = .ok (.aload_n 0, 1) := by decide +kernel
theorem dX3_objection_324 : decode cX3_objection 324 = .ok (.iload_n 2, 1) := by decide +kernel
theorem dX3_objection_325 : decode cX3_objection 325 = .ok (.invokevirtual 64, 3) := by decide +kernel
theorem dX3_objection_328 : decode cX3_objection 328 = .ok (.iconst (-1), 1) := by decide +kernel
theorem dX3_objection_329 : decode cX3_objection 329 = .ok (.if_icmp .eq 7, 3) := by decide +kernel
theorem dX3_objection_332 : decode cX3_objection 332 = .ok (.iconst 1, 1) := by decide +kernel
theorem dX3_objection_333 : decode cX3_objection 333 = .ok (.goto 4, 3) := by decide +kernel
theorem dX3_objection_336 : decode cX3_objection 336 = .ok (.iconst 0, 1) := by decide +kernel
theorem dX3_objection_337 : decode cX3_objection 337 = .ok (.invokestatic 48, 3) := by decide +kernel
theorem dX3_objection_340 : decode cX3_objection 340 = .ok (.ireturn, 1) := by decide +kernel
theorem dX3_objection_341 : decode cX3_objection 341 = .ok (.aload_n 0, 1) := by decide +kernel
theorem dX3_objection_342 : decode cX3_objection 342 = .ok (.getfield 21, 3) := by decide +kernel
theorem dX3_objection_345 : decode cX3_objection 345 = .ok (.iload_n 2, 1) := by decide +kernel
theorem dX3_objection_346 : decode cX3_objection 346 = .ok (.invokevirtual 61, 3) := by decide +kernel
theorem dX3_objection_349 : decode cX3_objection 349 = .ok (.iload_n 3, 1) := by decide +kernel
theorem dX3_objection_350 : decode cX3_objection 350 = .ok (.iconst 1, 1) := by decide +kernel
theorem dX3_objection_351 : decode cX3_objection 351 = .ok (.bipush 99, 2) := by decide +kernel
theorem dX3_objection_353 : decode cX3_objection 353 = .ok (.invokestatic 40, 3) := by decide +kernel
theorem dX3_objection_356 : decode cX3_objection 356 = .ok (.iconst 1, 1) := by decide +kernel
theorem dX3_objection_357 : decode cX3_objection 357 = .ok (.invokestatic 48, 3) := by decide +kernel
theorem dX3_objection_360 : decode cX3_objection 360 = .ok (.ireturn, 1) := by decide +kernel
theorem dX3_objection_361 : decode cX3_objection 361 = .ok (.aload_n 0, 1) := by decide +kernel
theorem dX3_objection_362 : decode cX3_objection 362 = .ok (.getfield 21, 3) := by decide +kernel
theorem dX3_objection_365 : decode cX3_objection 365 = .ok (.iload_n 2, 1) := by decide +kernel
theorem dX3_objection_366 : decode cX3_objection 366 = .ok (.invokevirtual 61, 3) := by decide +kernel
theorem dX3_objection_369 : decode cX3_objection 369 = .ok (.iconst 1, 1) := by decide +kernel
theorem dX3_objection_370 : decode cX3_objection 370 = .ok (.iconst 1, 1) := by decide +kernel
theorem dX3_objection_371 : decode cX3_objection 371 = .ok (.invokestatic 48, 3) := by decide +kernel
theorem dX3_objection_374 : decode cX3_objection 374 = .ok (.ireturn, 1) := by decide +kernel
theorem dX3_objection_375 : decode cX3_objection 375 = .ok (.iconst 3, 1) := by decide +kernel
theorem dX3_objection_376 : decode cX3_objection 376 = .ok (.ireturn, 1) := by decide +kernel
theorem dX3_carryOut_0 : decode cX3_carryOut 0 = .ok (.iload_n 1, 1) := by decide +kernel
theorem dX3_carryOut_1 : decode cX3_carryOut 1 = .ok (.tableswitch 248 100 122 #[187, 168, 248, 248, 139, 248, 129, 223, 248, 248, 217, 248, 248, 239, 208, 107, 248, 178, 159, 149, 117, 248, 230], 107) := by decide +kernel
theorem dX3_carryOut_108 : decode cX3_carryOut 108 = .ok (.aload_n 0, 1) := by decide +kernel
theorem dX3_carryOut_109 : decode cX3_carryOut 109 = .ok (.getfield 12, 3) := by decide +kernel
theorem dX3_carryOut_112 : decode cX3_carryOut 112 = .ok (.iload_n 2, 1) := by decide +kernel
theorem dX3_carryOut_113 : decode cX3_carryOut 113 = .ok (.iload_n 3, 1) := by decide +kernel
theorem dX3_carryOut_114 : decode cX3_carryOut 114 = .ok (.invokevirtual 68, 3) := by decide +kernel
theorem dX3_carryOut_117 : decode cX3_carryOut 117 = .ok (.ireturn, 1) := by decide +kernel
theorem dX3_carryOut_118 : decode cX3_carryOut 118 = .ok (.aload_n 0, 1) := by decide +kernel
theorem dX3_carryOut_119 : decode cX3_carryOut 119 = .ok (.getfield 12, 3) := by decide +kernel
theorem dX3_carryOut_122 : decode cX3_carryOut 122 = .ok (.iload_n 2, 1) := by decide +kernel
theorem dX3_carryOut_123 : decode cX3_carryOut 123 = .ok (.iload_n 3, 1) := by decide +kernel
theorem dX3_carryOut_124 : decode cX3_carryOut 124 = .ok (.iload 4, 2) := by decide +kernel
theorem dX3_carryOut_126 : decode cX3_carryOut 126 = .ok (.invokevirtual 72, 3) := by decide +kernel
theorem dX3_carryOut_129 : decode cX3_carryOut 129 = .ok (.ireturn, 1) := by decide +kernel
theorem dX3_carryOut_130 : decode cX3_carryOut 130 = .ok (.aload_n 0, 1) := by decide +kernel
theorem dX3_carryOut_131 : decode cX3_carryOut 131 = .ok (.getfield 12, 3) := by decide +kernel
theorem dX3_carryOut_134 : decode cX3_carryOut 134 = .ok (.iload_n 2, 1) := by decide +kernel
theorem dX3_carryOut_135 : decode cX3_carryOut 135 = .ok (.iload_n 3, 1) := by decide +kernel
theorem dX3_carryOut_136 : decode cX3_carryOut 136 = .ok (.invokevirtual 76, 3) := by decide +kernel
theorem dX3_carryOut_139 : decode cX3_carryOut 139 = .ok (.ireturn, 1) := by decide +kernel
theorem dX3_carryOut_140 : decode cX3_carryOut 140 = .ok (.aload_n 0, 1) := by decide +kernel
theorem dX3_carryOut_141 : decode cX3_carryOut 141 = .ok (.getfield 12, 3) := by decide +kernel
theorem dX3_carryOut_144 : decode cX3_carryOut 144 = .ok (.iload_n 2, 1) := by decide +kernel
theorem dX3_carryOut_145 : decode cX3_carryOut 145 = .ok (.iload_n 3, 1) := by decide +kernel
theorem dX3_carryOut_146 : decode cX3_carryOut 146 = .ok (.invokevirtual 79, 3) := by decide +kernel
theorem dX3_carryOut_149 : decode cX3_carryOut 149 = .ok (.ireturn, 1) := by decide +kernel
theorem dX3_carryOut_150 : decode cX3_carryOut 150 = .ok (.aload_n 0, 1) := by decide +kernel
theorem dX3_carryOut_151 : decode cX3_carryOut 151 = .ok (.getfield 12, 3) := by decide +kernel
theorem dX3_carryOut_154 : decode cX3_carryOut 154 = .ok (.iload_n 2, 1) := by decide +kernel
theorem dX3_carryOut_155 : decode cX3_carryOut 155 = .ok (.iload_n 3, 1) := by decide +kernel
theorem dX3_carryOut_156 : decode cX3_carryOut 156 = .ok (.invokevirtual 82, 3) := by decide +kernel
theorem dX3_carryOut_159 : decode cX3_carryOut 159 = .ok (.ireturn, 1) := by decide +kernel
theorem dX3_carryOut_160 : decode cX3_carryOut 160 = .ok (.aload_n 0, 1) := by decide +kernel
theorem dX3_carryOut_161 : decode cX3_carryOut 161 = .ok (.getfield 12, 3) := by decide +kernel
theorem dX3_carryOut_164 : decode cX3_carryOut 164 = .ok (.iload_n 2, 1) := by decide +kernel
theorem dX3_carryOut_165 : decode cX3_carryOut 165 = .ok (.invokevirtual 85, 3) := by decide +kernel
theorem dX3_carryOut_168 : decode cX3_carryOut 168 = .ok (.ireturn, 1) := by decide +kernel
theorem dX3_carryOut_169 : decode cX3_carryOut 169 = .ok (.aload_n 0, 1) := by decide +kernel
theorem dX3_carryOut_170 : decode cX3_carryOut 170 = .ok (.getfield 12, 3) := by decide +kernel
theorem dX3_carryOut_173 : decode cX3_carryOut 173 = .ok (.iload_n 2, 1) := by decide +kernel
theorem dX3_carryOut_174 : decode cX3_carryOut 174 = .ok (.iload_n 3, 1) := by decide +kernel
theorem dX3_carryOut_175 : decode cX3_carryOut 175 = .ok (.invokevirtual 88, 3) := by decide +kernel
theorem dX3_carryOut_178 : decode cX3_carryOut 178 = .ok (.ireturn, 1) := by decide +kernel
theorem dX3_carryOut_179 : decode cX3_carryOut 179 = .ok (.aload_n 0, 1) := by decide +kernel
theorem dX3_carryOut_180 : decode cX3_carryOut 180 = .ok (.getfield 12, 3) := by decide +kernel
theorem dX3_carryOut_183 : decode cX3_carryOut 183 = .ok (.iload_n 2, 1) := by decide +kernel
theorem dX3_carryOut_184 : decode cX3_carryOut 184 = .ok (.invokevirtual 91, 3) := by decide +kernel
theorem dX3_carryOut_187 : decode cX3_carryOut 187 = .ok (.ireturn, 1) := by decide +kernel
theorem dX3_carryOut_188 : decode cX3_carryOut 188 = .ok (.aload_n 0, 1) := by decide +kernel
theorem dX3_carryOut_189 : decode cX3_carryOut 189 = .ok (.getfield 12, 3) := by decide +kernel
theorem dX3_carryOut_192 : decode cX3_carryOut 192 = .ok (.dup, 1) := by decide +kernel
theorem dX3_carryOut_193 : decode cX3_carryOut 193 = .ok (.getfield 32, 3) := by decide +kernel
theorem dX3_carryOut_196 : decode cX3_carryOut 196 = .ok (.iconst 1, 1) := by decide +kernel
theorem dX3_carryOut_197 : decode cX3_carryOut 197 = .ok (.isub, 1) := by decide +kernel
theorem dX3_carryOut_198 : decode cX3_carryOut 198 = .ok (.putfield 32, 3) := by decide +kernel
theorem dX3_carryOut_201 : decode cX3_carryOut 201 = .ok (.aload_n 0, 1) := by decide +kernel
theorem dX3_carryOut_202 : decode cX3_carryOut 202 = .ok (.getfield 12, 3) := by decide +kernel
theorem dX3_carryOut_205 : decode cX3_carryOut 205 = .ok (.getfield 32, 3) := by decide +kernel
theorem dX3_carryOut_208 : decode cX3_carryOut 208 = .ok (.ireturn, 1) := by decide +kernel
theorem dX3_carryOut_209 : decode cX3_carryOut 209 = .ok (.aload_n 0, 1) := by decide +kernel
theorem dX3_carryOut_210 : decode cX3_carryOut 210 = .ok (.getfield 21, 3) := by decide +kernel
theorem dX3_carryOut_213 : decode cX3_carryOut 213 = .ok (.iload_n 2, 1) := by decide +kernel
theorem dX3_carryOut_214 : decode cX3_carryOut 214 = .ok (.invokevirtual 94, 3) := by decide +kernel
theorem dX3_carryOut_217 : decode cX3_carryOut 217 = .ok (.ireturn, 1) := by decide +kernel
theorem dX3_carryOut_218 : decode cX3_carryOut 218 = .ok (.aload_n 0, 1) := by decide +kernel
theorem dX3_carryOut_219 : decode cX3_carryOut 219 = .ok (.iload_n 2, 1) := by decide +kernel
theorem dX3_carryOut_220 : decode cX3_carryOut 220 = .ok (.invokevirtual 97, 3) := by decide +kernel
theorem dX3_carryOut_223 : decode cX3_carryOut 223 = .ok (.ireturn, 1) := by decide +kernel
theorem dX3_carryOut_224 : decode cX3_carryOut 224 = .ok (.aload_n 0, 1) := by decide +kernel
theorem dX3_carryOut_225 : decode cX3_carryOut 225 = .ok (.iload_n 2, 1) := by decide +kernel
theorem dX3_carryOut_226 : decode cX3_carryOut 226 = .ok (.iload_n 3, 1) := by decide +kernel
theorem dX3_carryOut_227 : decode cX3_carryOut 227 = .ok (.invokevirtual 100, 3) := by decide +kernel
theorem dX3_carryOut_230 : decode cX3_carryOut 230 = .ok (.ireturn, 1) := by decide +kernel
theorem dX3_carryOut_231 : decode cX3_carryOut 231 = .ok (.aload_n 0, 1) := by decide +kernel
theorem dX3_carryOut_232 : decode cX3_carryOut 232 = .ok (.getfield 21, 3) := by decide +kernel
theorem dX3_carryOut_235 : decode cX3_carryOut 235 = .ok (.iload_n 2, 1) := by decide +kernel
theorem dX3_carryOut_236 : decode cX3_carryOut 236 = .ok (.invokevirtual 103, 3) := by decide +kernel
theorem dX3_carryOut_239 : decode cX3_carryOut 239 = .ok (.ireturn, 1) := by decide +kernel
theorem dX3_carryOut_240 : decode cX3_carryOut 240 = .ok (.aload_n 0, 1) := by decide +kernel
theorem dX3_carryOut_241 : decode cX3_carryOut 241 = .ok (.getfield 21, 3) := by decide +kernel
theorem dX3_carryOut_244 : decode cX3_carryOut 244 = .ok (.iload_n 2, 1) := by decide +kernel
theorem dX3_carryOut_245 : decode cX3_carryOut 245 = .ok (.invokevirtual 106, 3) := by decide +kernel
theorem dX3_carryOut_248 : decode cX3_carryOut 248 = .ok (.ireturn, 1) := by decide +kernel
theorem dX3_carryOut_249 : decode cX3_carryOut 249 = .ok (.iconst (-1), 1) := by decide +kernel
theorem dX3_carryOut_250 : decode cX3_carryOut 250 = .ok (.ireturn, 1) := by decide +kernel
theorem dX3_attempt_0 : decode cX3_attempt 0 = .ok (.aload_n 0, 1) := by decide +kernel
theorem dX3_attempt_1 : decode cX3_attempt 1 = .ok (.iload_n 1, 1) := by decide +kernel
theorem dX3_attempt_2 : decode cX3_attempt 2 = .ok (.iload_n 2, 1) := by decide +kernel
theorem dX3_attempt_3 : decode cX3_attempt 3 = .ok (.iload_n 3, 1) := by decide +kernel
theorem dX3_attempt_4 : decode cX3_attempt 4 = .ok (.iload 4, 2) := by decide +kernel
theorem dX3_attempt_6 : decode cX3_attempt 6 = .ok (.invokevirtual 109, 3) := by decide +kernel
theorem dX3_attempt_9 : decode cX3_attempt 9 = .ok (.ifCond .ne 15, 3) := by decide +kernel
theorem dX3_attempt_12 : decode cX3_attempt 12 = .ok (.aload_n 0, 1) := by decide +kernel
theorem dX3_attempt_13 : decode cX3_attempt 13 = .ok (.iload_n 1, 1) := by decide +kernel
theorem dX3_attempt_14 : decode cX3_attempt 14 = .ok (.iload_n 2, 1) := by decide +kernel
theorem dX3_attempt_15 : decode cX3_attempt 15 = .ok (.iload_n 3, 1) := by decide +kernel
theorem dX3_attempt_16 : decode cX3_attempt 16 = .ok (.iload 4, 2) := by decide +kernel
theorem dX3_attempt_18 : decode cX3_attempt 18 = .ok (.invokevirtual 113, 3) := by decide +kernel
theorem dX3_attempt_21 : decode cX3_attempt 21 = .ok (.goto 4, 3) := by decide +kernel
theorem dX3_attempt_24 : decode cX3_attempt 24 = .ok (.iconst (-1), 1) := by decide +kernel
theorem dX3_attempt_25 : decode cX3_attempt 25 = .ok (.ireturn, 1) := by decide +kernel
theorem dX3_reasonAgainstDrop_0 : decode cX3_reasonAgainstDrop 0 = .ok (.aload_n 0, 1) := by decide +kernel
theorem dX3_reasonAgainstDrop_1 : decode cX3_reasonAgainstDrop 1 = .ok (.getfield 12, 3) := by decide +kernel
theorem dX3_reasonAgainstDrop_4 : decode cX3_reasonAgainstDrop 4 = .ok (.getfield 32, 3) := by decide +kernel
theorem dX3_reasonAgainstDrop_7 : decode cX3_reasonAgainstDrop 7 = .ok (.ifCond .ne 5, 3) := by decide +kernel
theorem dX3_reasonAgainstDrop_10 : decode cX3_reasonAgainstDrop 10 = .ok (.iconst 1, 1) := by decide +kernel
theorem dX3_reasonAgainstDrop_11 : decode cX3_reasonAgainstDrop 11 = .ok (.ireturn, 1) := by decide +kernel
theorem dX3_reasonAgainstDrop_12 : decode cX3_reasonAgainstDrop 12 = .ok (.aload_n 0, 1) := by decide +kernel
theorem dX3_reasonAgainstDrop_13 : decode cX3_reasonAgainstDrop 13 = .ok (.getfield 21, 3) := by decide +kernel
theorem dX3_reasonAgainstDrop_16 : decode cX3_reasonAgainstDrop 16 = .ok (.aload_n 0, 1) := by decide +kernel
theorem dX3_reasonAgainstDrop_17 : decode cX3_reasonAgainstDrop 17 = .ok (.getfield 12, 3) := by decide +kernel
theorem dX3_reasonAgainstDrop_20 : decode cX3_reasonAgainstDrop 20 = .ok (.getfield 32, 3) := by decide +kernel
theorem dX3_reasonAgainstDrop_23 : decode cX3_reasonAgainstDrop 23 = .ok (.iconst 1, 1) := by decide +kernel
theorem dX3_reasonAgainstDrop_24 : decode cX3_reasonAgainstDrop 24 = .ok (.isub, 1) := by decide +kernel
theorem dX3_reasonAgainstDrop_25 : decode cX3_reasonAgainstDrop 25 = .ok (.invokevirtual 116, 3) := by decide +kernel
theorem dX3_reasonAgainstDrop_28 : decode cX3_reasonAgainstDrop 28 = .ok (.ifCond .eq 7, 3) := by decide +kernel
theorem dX3_reasonAgainstDrop_31 : decode cX3_reasonAgainstDrop 31 = .ok (.iconst 2, 1) := by decide +kernel
theorem dX3_reasonAgainstDrop_32 : decode cX3_reasonAgainstDrop 32 = .ok (.goto 4, 3) := by decide +kernel
theorem dX3_reasonAgainstDrop_35 : decode cX3_reasonAgainstDrop 35 = .ok (.iconst 0, 1) := by decide +kernel
theorem dX3_reasonAgainstDrop_36 : decode cX3_reasonAgainstDrop 36 = .ok (.ireturn, 1) := by decide +kernel
theorem dX3_upcoming_0 : decode cX3_upcoming 0 = .ok (.aload_n 0, 1) := by decide +kernel
theorem dX3_upcoming_1 : decode cX3_upcoming 1 = .ok (.getfield 21, 3) := by decide +kernel
theorem dX3_upcoming_4 : decode cX3_upcoming 4 = .ok (.iload_n 1, 1) := by decide +kernel
theorem dX3_upcoming_5 : decode cX3_upcoming 5 = .ok (.invokevirtual 61, 3) := by decide +kernel
theorem dX3_upcoming_8 : decode cX3_upcoming 8 = .ok (.ifCond .ne 5, 3) := by decide +kernel
theorem dX3_upcoming_11 : decode cX3_upcoming 11 = .ok (.iconst (-1), 1) := by decide +kernel
theorem dX3_upcoming_12 : decode cX3_upcoming 12 = .ok (.ireturn, 1) := by decide +kernel
theorem dX3_upcoming_13 : decode cX3_upcoming 13 = .ok (.aload_n 0, 1) := by decide +kernel
theorem dX3_upcoming_14 : decode cX3_upcoming 14 = .ok (.getfield 12, 3) := by decide +kernel
theorem dX3_upcoming_17 : decode cX3_upcoming 17 = .ok (.aload_n 0, 1) := by decide +kernel
theorem dX3_upcoming_18 : decode cX3_upcoming 18 = .ok (.getfield 21, 3) := by decide +kernel
theorem dX3_upcoming_21 : decode cX3_upcoming 21 = .ok (.getfield 119, 3) := by decide +kernel
theorem dX3_upcoming_24 : decode cX3_upcoming 24 = .ok (.iload_n 1, 1) := by decide +kernel
theorem dX3_upcoming_25 : decode cX3_upcoming 25 = .ok (.iaload, 1) := by decide +kernel
theorem dX3_upcoming_26 : decode cX3_upcoming 26 = .ok (.aload_n 0, 1) := by decide +kernel
theorem dX3_upcoming_27 : decode cX3_upcoming 27 = .ok (.getfield 21, 3) := by decide +kernel
theorem dX3_upcoming_30 : decode cX3_upcoming 30 = .ok (.getfield 123, 3) := by decide +kernel
theorem dX3_upcoming_33 : decode cX3_upcoming 33 = .ok (.iload_n 1, 1) := by decide +kernel
theorem dX3_upcoming_34 : decode cX3_upcoming 34 = .ok (.iaload, 1) := by decide +kernel
theorem dX3_upcoming_35 : decode cX3_upcoming 35 = .ok (.invokevirtual 126, 3) := by decide +kernel
theorem dX3_upcoming_38 : decode cX3_upcoming 38 = .ok (.ireturn, 1) := by decide +kernel
theorem dX3_readerOfLeast_0 : decode cX3_readerOfLeast 0 = .ok (.iconst (-1), 1) := by decide +kernel
theorem dX3_readerOfLeast_1 : decode cX3_readerOfLeast 1 = .ok (.istore_n 1, 1) := by decide +kernel
theorem dX3_readerOfLeast_2 : decode cX3_readerOfLeast 2 = .ok (.sipush 1000, 3) := by decide +kernel
theorem dX3_readerOfLeast_5 : decode cX3_readerOfLeast 5 = .ok (.istore_n 2, 1) := by decide +kernel
theorem dX3_readerOfLeast_6 : decode cX3_readerOfLeast 6 = .ok (.iconst 0, 1) := by decide +kernel
theorem dX3_readerOfLeast_7 : decode cX3_readerOfLeast 7 = .ok (.istore_n 3, 1) := by decide +kernel
theorem dX3_readerOfLeast_8 : decode cX3_readerOfLeast 8 = .ok (.iload_n 3, 1) := by decide +kernel
theorem dX3_readerOfLeast_9 : decode cX3_readerOfLeast 9 = .ok (.aload_n 0, 1) := by decide +kernel
theorem dX3_readerOfLeast_10 : decode cX3_readerOfLeast 10 = .ok (.getfield 21, 3) := by decide +kernel
theorem dX3_readerOfLeast_13 : decode cX3_readerOfLeast 13 = .ok (.getfield 36, 3) := by decide +kernel
theorem dX3_readerOfLeast_16 : decode cX3_readerOfLeast 16 = .ok (.if_icmp .ge 33, 3) := by decide +kernel
theorem dX3_readerOfLeast_19 : decode cX3_readerOfLeast 19 = .ok (.aload_n 0, 1) := by decide +kernel
theorem dX3_readerOfLeast_20 : decode cX3_readerOfLeast 20 = .ok (.iload_n 3, 1) := by decide +kernel
theorem dX3_readerOfLeast_21 : decode cX3_readerOfLeast 21 = .ok (.invokevirtual 64, 3) := by decide +kernel
theorem dX3_readerOfLeast_24 : decode cX3_readerOfLeast 24 = .ok (.istore 4, 2) := by decide +kernel
theorem dX3_readerOfLeast_26 : decode cX3_readerOfLeast 26 = .ok (.iload 4, 2) := by decide +kernel
theorem dX3_readerOfLeast_28 : decode cX3_readerOfLeast 28 = .ok (.iconst (-1), 1) := by decide +kernel
theorem dX3_readerOfLeast_29 : decode cX3_readerOfLeast 29 = .ok (.if_icmp .eq 14, 3) := by decide +kernel
theorem dX3_readerOfLeast_32 : decode cX3_readerOfLeast 32 = .ok (.iload 4, 2) := by decide +kernel
theorem dX3_readerOfLeast_34 : decode cX3_readerOfLeast 34 = .ok (.iload_n 2, 1) := by decide +kernel
theorem dX3_readerOfLeast_35 : decode cX3_readerOfLeast 35 = .ok (.if_icmp .ge 8, 3) := by decide +kernel
theorem dX3_readerOfLeast_38 : decode cX3_readerOfLeast 38 = .ok (.iload_n 3, 1) := by decide +kernel
theorem dX3_readerOfLeast_39 : decode cX3_readerOfLeast 39 = .ok (.istore_n 1, 1) := by decide +kernel
theorem dX3_readerOfLeast_40 : decode cX3_readerOfLeast 40 = .ok (.iload 4, 2) := by decide +kernel
theorem dX3_readerOfLeast_42 : decode cX3_readerOfLeast 42 = .ok (.istore_n 2, 1) := by decide +kernel
theorem dX3_readerOfLeast_43 : decode cX3_readerOfLeast 43 = .ok (.iinc 3 1, 3) := by decide +kernel
theorem dX3_readerOfLeast_46 : decode cX3_readerOfLeast 46 = .ok (.goto (-38), 3) := by decide +kernel
theorem dX3_readerOfLeast_49 : decode cX3_readerOfLeast 49 = .ok (.iload_n 1, 1) := by decide +kernel
theorem dX3_readerOfLeast_50 : decode cX3_readerOfLeast 50 = .ok (.ireturn, 1) := by decide +kernel
theorem dX3_skipsUntil_0 : decode cX3_skipsUntil 0 = .ok (.aload_n 0, 1) := by decide +kernel
theorem dX3_skipsUntil_1 : decode cX3_skipsUntil 1 = .ok (.getfield 21, 3) := by decide +kernel
theorem dX3_skipsUntil_4 : decode cX3_skipsUntil 4 = .ok (.getfield 119, 3) := by decide +kernel
theorem dX3_skipsUntil_7 : decode cX3_skipsUntil 7 = .ok (.iload_n 1, 1) := by decide +kernel
theorem dX3_skipsUntil_8 : decode cX3_skipsUntil 8 = .ok (.iaload, 1) := by decide +kernel
theorem dX3_skipsUntil_9 : decode cX3_skipsUntil 9 = .ok (.istore_n 3, 1) := by decide +kernel
theorem dX3_skipsUntil_10 : decode cX3_skipsUntil 10 = .ok (.aload_n 0, 1) := by decide +kernel
theorem dX3_skipsUntil_11 : decode cX3_skipsUntil 11 = .ok (.iload_n 1, 1) := by decide +kernel
theorem dX3_skipsUntil_12 : decode cX3_skipsUntil 12 = .ok (.invokevirtual 64, 3) := by decide +kernel
theorem dX3_skipsUntil_15 : decode cX3_skipsUntil 15 = .ok (.istore 4, 2) := by decide +kernel
theorem dX3_skipsUntil_17 : decode cX3_skipsUntil 17 = .ok (.iconst 0, 1) := by decide +kernel
theorem dX3_skipsUntil_18 : decode cX3_skipsUntil 18 = .ok (.istore 5, 2) := by decide +kernel
theorem dX3_skipsUntil_20 : decode cX3_skipsUntil 20 = .ok (.iload 5, 2) := by decide +kernel
theorem dX3_skipsUntil_22 : decode cX3_skipsUntil 22 = .ok (.sipush 1000, 3) := by decide +kernel
theorem dX3_skipsUntil_25 : decode cX3_skipsUntil 25 = .ok (.if_icmp .ge 38, 3) := by decide +kernel
theorem dX3_skipsUntil_28 : decode cX3_skipsUntil 28 = .ok (.iload 4, 2) := by decide +kernel
theorem dX3_skipsUntil_30 : decode cX3_skipsUntil 30 = .ok (.iconst (-1), 1) := by decide +kernel
theorem dX3_skipsUntil_31 : decode cX3_skipsUntil 31 = .ok (.if_icmp .eq 32, 3) := by decide +kernel
theorem dX3_skipsUntil_34 : decode cX3_skipsUntil 34 = .ok (.iload 4, 2) := by decide +kernel
theorem dX3_skipsUntil_36 : decode cX3_skipsUntil 36 = .ok (.iload_n 2, 1) := by decide +kernel
theorem dX3_skipsUntil_37 : decode cX3_skipsUntil 37 = .ok (.if_icmp .lt 6, 3) := by decide +kernel
theorem dX3_skipsUntil_40 : decode cX3_skipsUntil 40 = .ok (.iload 5, 2) := by decide +kernel
theorem dX3_skipsUntil_42 : decode cX3_skipsUntil 42 = .ok (.ireturn, 1) := by decide +kernel
theorem dX3_skipsUntil_43 : decode cX3_skipsUntil 43 = .ok (.aload_n 0, 1) := by decide +kernel
theorem dX3_skipsUntil_44 : decode cX3_skipsUntil 44 = .ok (.getfield 12, 3) := by decide +kernel
theorem dX3_skipsUntil_47 : decode cX3_skipsUntil 47 = .ok (.iload_n 3, 1) := by decide +kernel
theorem dX3_skipsUntil_48 : decode cX3_skipsUntil 48 = .ok (.iload 4, 2) := by decide +kernel
theorem dX3_skipsUntil_50 : decode cX3_skipsUntil 50 = .ok (.iconst 1, 1) := by decide +kernel
theorem dX3_skipsUntil_51 : decode cX3_skipsUntil 51 = .ok (.iadd, 1) := by decide +kernel
theorem dX3_skipsUntil_52 : decode cX3_skipsUntil 52 = .ok (.invokevirtual 126, 3) := by decide +kernel
theorem dX3_skipsUntil_55 : decode cX3_skipsUntil 55 = .ok (.istore 4, 2) := by decide +kernel
theorem dX3_skipsUntil_57 : decode cX3_skipsUntil 57 = .ok (.iinc 5 1, 3) := by decide +kernel
theorem dX3_skipsUntil_60 : decode cX3_skipsUntil 60 = .ok (.goto (-40), 3) := by decide +kernel
theorem dX3_skipsUntil_63 : decode cX3_skipsUntil 63 = .ok (.iconst (-1), 1) := by decide +kernel
theorem dX3_skipsUntil_64 : decode cX3_skipsUntil 64 = .ok (.ireturn, 1) := by decide +kernel
theorem dX3_readOne_0 : decode cX3_readOne 0 = .ok (.aload_n 0, 1) := by decide +kernel
theorem dX3_readOne_1 : decode cX3_readOne 1 = .ok (.getfield 12, 3) := by decide +kernel
theorem dX3_readOne_4 : decode cX3_readOne 4 = .ok (.aload_n 0, 1) := by decide +kernel
theorem dX3_readOne_5 : decode cX3_readOne 5 = .ok (.getfield 21, 3) := by decide +kernel
theorem dX3_readOne_8 : decode cX3_readOne 8 = .ok (.getfield 119, 3) := by decide +kernel
theorem dX3_readOne_11 : decode cX3_readOne 11 = .ok (.iload_n 1, 1) := by decide +kernel
theorem dX3_readOne_12 : decode cX3_readOne 12 = .ok (.iaload, 1) := by decide +kernel
theorem dX3_readOne_13 : decode cX3_readOne 13 = .ok (.aload_n 0, 1) := by decide +kernel
theorem dX3_readOne_14 : decode cX3_readOne 14 = .ok (.getfield 21, 3) := by decide +kernel
theorem dX3_readOne_17 : decode cX3_readOne 17 = .ok (.getfield 123, 3) := by decide +kernel
theorem dX3_readOne_20 : decode cX3_readOne 20 = .ok (.iload_n 1, 1) := by decide +kernel
theorem dX3_readOne_21 : decode cX3_readOne 21 = .ok (.iaload, 1) := by decide +kernel
theorem dX3_readOne_22 : decode cX3_readOne 22 = .ok (.invokevirtual 126, 3) := by decide +kernel
theorem dX3_readOne_25 : decode cX3_readOne 25 = .ok (.istore_n 2, 1) := by decide +kernel
theorem dX3_readOne_26 : decode cX3_readOne 26 = .ok (.aload_n 0, 1) := by decide +kernel
theorem dX3_readOne_27 : decode cX3_readOne 27 = .ok (.getfield 21, 3) := by decide +kernel
theorem dX3_readOne_30 : decode cX3_readOne 30 = .ok (.iload_n 1, 1) := by decide +kernel
theorem dX3_readOne_31 : decode cX3_readOne 31 = .ok (.iload_n 2, 1) := by decide +kernel
theorem dX3_readOne_32 : decode cX3_readOne 32 = .ok (.invokevirtual 129, 3) := by decide +kernel
theorem dX3_readOne_35 : decode cX3_readOne 35 = .ok (.aload_n 0, 1) := by decide +kernel
theorem dX3_readOne_36 : decode cX3_readOne 36 = .ok (.getfield 21, 3) := by decide +kernel
theorem dX3_readOne_39 : decode cX3_readOne 39 = .ok (.dup, 1) := by decide +kernel
theorem dX3_readOne_40 : decode cX3_readOne 40 = .ok (.getfield 37, 3) := by decide +kernel
theorem dX3_readOne_43 : decode cX3_readOne 43 = .ok (.iconst 1, 1) := by decide +kernel
theorem dX3_readOne_44 : decode cX3_readOne 44 = .ok (.iadd, 1) := by decide +kernel
theorem dX3_readOne_45 : decode cX3_readOne 45 = .ok (.putfield 37, 3) := by decide +kernel
theorem dX3_readOne_48 : decode cX3_readOne 48 = .ok (.iload_n 2, 1) := by decide +kernel
theorem dX3_readOne_49 : decode cX3_readOne 49 = .ok (.ireturn, 1) := by decide +kernel
theorem dX3_skipSome_0 : decode cX3_skipSome 0 = .ok (.iconst 0, 1) := by decide +kernel
theorem dX3_skipSome_1 : decode cX3_skipSome 1 = .ok (.istore_n 3, 1) := by decide +kernel
theorem dX3_skipSome_2 : decode cX3_skipSome 2 = .ok (.iload_n 3, 1) := by decide +kernel
theorem dX3_skipSome_3 : decode cX3_skipSome 3 = .ok (.iload_n 2, 1) := by decide +kernel
theorem dX3_skipSome_4 : decode cX3_skipSome 4 = .ok (.if_icmp .ge 54, 3) := by decide +kernel
theorem dX3_skipSome_7 : decode cX3_skipSome 7 = .ok (.aload_n 0, 1) := by decide +kernel
theorem dX3_skipSome_8 : decode cX3_skipSome 8 = .ok (.getfield 12, 3) := by decide +kernel
theorem dX3_skipSome_11 : decode cX3_skipSome 11 = .ok (.aload_n 0, 1) := by decide +kernel
theorem dX3_skipSome_12 : decode cX3_skipSome 12 = .ok (.getfield 21, 3) := by decide +kernel
theorem dX3_skipSome_15 : decode cX3_skipSome 15 = .ok (.getfield 119, 3) := by decide +kernel
theorem dX3_skipSome_18 : decode cX3_skipSome 18 = .ok (.iload_n 1, 1) := by decide +kernel
theorem dX3_skipSome_19 : decode cX3_skipSome 19 = .ok (.iaload, 1) := by decide +kernel
theorem dX3_skipSome_20 : decode cX3_skipSome 20 = .ok (.aload_n 0, 1) := by decide +kernel
theorem dX3_skipSome_21 : decode cX3_skipSome 21 = .ok (.getfield 21, 3) := by decide +kernel
theorem dX3_skipSome_24 : decode cX3_skipSome 24 = .ok (.getfield 123, 3) := by decide +kernel
theorem dX3_skipSome_27 : decode cX3_skipSome 27 = .ok (.iload_n 1, 1) := by decide +kernel
theorem dX3_skipSome_28 : decode cX3_skipSome 28 = .ok (.iaload, 1) := by decide +kernel
theorem dX3_skipSome_29 : decode cX3_skipSome 29 = .ok (.invokevirtual 126, 3) := by decide +kernel
theorem dX3_skipSome_32 : decode cX3_skipSome 32 = .ok (.istore 4, 2) := by decide +kernel
theorem dX3_skipSome_34 : decode cX3_skipSome 34 = .ok (.iload 4, 2) := by decide +kernel
theorem dX3_skipSome_36 : decode cX3_skipSome 36 = .ok (.iconst (-1), 1) := by decide +kernel
theorem dX3_skipSome_37 : decode cX3_skipSome 37 = .ok (.if_icmp .ne 5, 3) := by decide +kernel
theorem dX3_skipSome_40 : decode cX3_skipSome 40 = .ok (.iload_n 3, 1) := by decide +kernel
theorem dX3_skipSome_41 : decode cX3_skipSome 41 = .ok (.ireturn, 1) := by decide +kernel
theorem dX3_skipSome_42 : decode cX3_skipSome 42 = .ok (.aload_n 0, 1) := by decide +kernel
theorem dX3_skipSome_43 : decode cX3_skipSome 43 = .ok (.getfield 21, 3) := by decide +kernel
theorem dX3_skipSome_46 : decode cX3_skipSome 46 = .ok (.iload_n 1, 1) := by decide +kernel
theorem dX3_skipSome_47 : decode cX3_skipSome 47 = .ok (.iload 4, 2) := by decide +kernel
theorem dX3_skipSome_49 : decode cX3_skipSome 49 = .ok (.invokevirtual 129, 3) := by decide +kernel
theorem dX3_skipSome_52 : decode cX3_skipSome 52 = .ok (.iinc 3 1, 3) := by decide +kernel
theorem dX3_skipSome_55 : decode cX3_skipSome 55 = .ok (.goto (-53), 3) := by decide +kernel
theorem dX3_skipSome_58 : decode cX3_skipSome 58 = .ok (.iload_n 2, 1) := by decide +kernel
theorem dX3_skipSome_59 : decode cX3_skipSome 59 = .ok (.ireturn, 1) := by decide +kernel
theorem dX3_first_0 : decode cX3_first 0 = .ok (.iload_n 0, 1) := by decide +kernel
theorem dX3_first_1 : decode cX3_first 1 = .ok (.ifCond .ne 5, 3) := by decide +kernel
theorem dX3_first_4 : decode cX3_first 4 = .ok (.iconst 1, 1) := by decide +kernel
theorem dX3_first_5 : decode cX3_first 5 = .ok (.ireturn, 1) := by decide +kernel
theorem dX3_first_6 : decode cX3_first 6 = .ok (.iload_n 1, 1) := by decide +kernel
theorem dX3_first_7 : decode cX3_first 7 = .ok (.ifCond .ne 5, 3) := by decide +kernel
theorem dX3_first_10 : decode cX3_first 10 = .ok (.iconst 2, 1) := by decide +kernel
theorem dX3_first_11 : decode cX3_first 11 = .ok (.ireturn, 1) := by decide +kernel
theorem dX3_first_12 : decode cX3_first 12 = .ok (.iload_n 2, 1) := by decide +kernel
theorem dX3_first_13 : decode cX3_first 13 = .ok (.ifCond .eq 7, 3) := by decide +kernel
theorem dX3_first_16 : decode cX3_first 16 = .ok (.iconst 0, 1) := by decide +kernel
theorem dX3_first_17 : decode cX3_first 17 = .ok (.goto 4, 3) := by decide +kernel
theorem dX3_first_20 : decode cX3_first 20 = .ok (.iconst 3, 1) := by decide +kernel
theorem dX3_first_21 : decode cX3_first 21 = .ok (.ireturn, 1) := by decide +kernel
theorem dX4_init_0 : decode cX4_init 0 = .ok (.aload_n 0, 1) := by decide +kernel
theorem dX4_init_1 : decode cX4_init 1 = .ok (.invokespecial 3, 3) := by decide +kernel
theorem dX4_init_4 : decode cX4_init 4 = .ok (.aload_n 0, 1) := by decide +kernel
theorem dX4_init_5 : decode cX4_init 5 = .ok (.bipush 120, 2) := by decide +kernel
theorem dX4_init_7 : decode cX4_init 7 = .ok (.newarray .char, 2) := by decide +kernel
theorem dX4_init_9 : decode cX4_init 9 = .ok (.putfield 9, 3) := by decide +kernel
theorem dX4_init_12 : decode cX4_init 12 = .ok (.aload_n 0, 1) := by decide +kernel
theorem dX4_init_13 : decode cX4_init 13 = .ok (.iconst 3, 1) := by decide +kernel
theorem dX4_init_14 : decode cX4_init 14 = .ok (.newarray .int, 2) := by decide +kernel
theorem dX4_init_16 : decode cX4_init 16 = .ok (.putfield 15, 3) := by decide +kernel
theorem dX4_init_19 : decode cX4_init 19 = .ok (.return_, 1) := by decide +kernel
theorem dX4_add_0 : decode cX4_add 0 = .ok (.aload_n 0, 1) := by decide +kernel
theorem dX4_add_1 : decode cX4_add 1 = .ok (.getfield 9, 3) := by decide +kernel
theorem dX4_add_4 : decode cX4_add 4 = .ok (.aload_n 0, 1) := by decide +kernel
theorem dX4_add_5 : decode cX4_add 5 = .ok (.getfield 19, 3) := by decide +kernel
theorem dX4_add_8 : decode cX4_add 8 = .ok (.iload_n 1, 1) := by decide +kernel
theorem dX4_add_9 : decode cX4_add 9 = .ok (.castore, 1) := by decide +kernel
theorem dX4_add_10 : decode cX4_add 10 = .ok (.aload_n 0, 1) := by decide +kernel
theorem dX4_add_11 : decode cX4_add 11 = .ok (.dup, 1) := by decide +kernel
theorem dX4_add_12 : decode cX4_add 12 = .ok (.getfield 19, 3) := by decide +kernel
theorem dX4_add_15 : decode cX4_add 15 = .ok (.iconst 1, 1) := by decide +kernel
theorem dX4_add_16 : decode cX4_add 16 = .ok (.iadd, 1) := by decide +kernel
theorem dX4_add_17 : decode cX4_add 17 = .ok (.putfield 19, 3) := by decide +kernel
theorem dX4_add_20 : decode cX4_add 20 = .ok (.aload_n 0, 1) := by decide +kernel
theorem dX4_add_21 : decode cX4_add 21 = .ok (.getfield 19, 3) := by decide +kernel
theorem dX4_add_24 : decode cX4_add 24 = .ok (.ireturn, 1) := by decide +kernel
theorem dX4_findError_0 : decode cX4_findError 0 = .ok (.aload_n 0, 1) := by decide +kernel
theorem dX4_findError_1 : decode cX4_findError 1 = .ok (.invokevirtual 23, 3) := by decide +kernel
theorem dX4_findError_4 : decode cX4_findError 4 = .ok (.iconst 0, 1) := by decide +kernel
theorem dX4_findError_5 : decode cX4_findError 5 = .ok (.istore_n 1, 1) := by decide +kernel
theorem dX4_findError_6 : decode cX4_findError 6 = .ok (.iload_n 1, 1) := by decide +kernel
theorem dX4_findError_7 : decode cX4_findError 7 = .ok (.bipush 120, 2) := by decide +kernel
theorem dX4_findError_9 : decode cX4_findError 9 = .ok (.if_icmp .ge 20, 3) := by decide +kernel
theorem dX4_findError_12 : decode cX4_findError 12 = .ok (.aload_n 0, 1) := by decide +kernel
theorem dX4_findError_13 : decode cX4_findError 13 = .ok (.invokevirtual 26, 3) := by decide +kernel
theorem dX4_findError_16 : decode cX4_findError 16 = .ok (.ifCond .eq 13, 3) := by decide +kernel
theorem dX4_findError_19 : decode cX4_findError 19 = .ok (.aload_n 0, 1) := by decide +kernel
theorem dX4_findError_20 : decode cX4_findError 20 = .ok (.invokevirtual 30, 3) := by decide +kernel
theorem dX4_findError_23 : decode cX4_findError 23 = .ok (.iinc 1 1, 3) := by decide +kernel
theorem dX4_findError_26 : decode cX4_findError 26 = .ok (.goto (-20), 3) := by decide +kernel
theorem dX4_findError_29 : decode cX4_findError 29 = .ok (.aload_n 0, 1) := by decide +kernel
theorem dX4_findError_30 : decode cX4_findError 30 = .ok (.getfield 33, 3) := by decide +kernel
theorem dX4_findError_33 : decode cX4_findError 33 = .ok (.ireturn, 1) := by decide +kernel
theorem dX4_begin_0 : decode cX4_begin 0 = .ok (.aload_n 0, 1) := by decide +kernel
theorem dX4_begin_1 : decode cX4_begin 1 = .ok (.getfield 19, 3) := by decide +kernel
theorem dX4_begin_4 : decode cX4_begin 4 = .ok (.ifCond .le 18, 3) := by decide +kernel
theorem dX4_begin_7 : decode cX4_begin 7 = .ok (.aload_n 0, 1) := by decide +kernel
theorem dX4_begin_8 : decode cX4_begin 8 = .ok (.getfield 9, 3) := by decide +kernel
theorem dX4_begin_11 : decode cX4_begin 11 = .ok (.iconst 0, 1) := by decide +kernel
theorem dX4_begin_12 : decode cX4_begin 12 = .ok (.caload, 1) := by decide +kernel
theorem dX4_begin_13 : decode cX4_begin 13 = .ok (.bipush 76, 2) := by decide +kernel
theorem dX4_begin_15 : decode cX4_begin 15 = .ok (.if_icmp .ne 7, 3) := by decide +kernel
theorem dX4_begin_18 : decode cX4_begin 18 = .ok (.iconst 1, 1) := by decide +kernel
theorem dX4_begin_19 : decode cX4_begin 19 = .ok (.goto 4, 3) := by decide +kernel
theorem dX4_begin_22 : decode cX4_begin 22 = .ok (.iconst 0, 1) := by decide +kernel
theorem dX4_begin_23 : decode cX4_begin 23 = .ok (.istore_n 1, 1) := by decide +kernel
theorem dX4_begin_24 : decode cX4_begin 24 = .ok (.aload_n 0, 1) := by decide +kernel
theorem dX4_begin_25 : decode cX4_begin 25 = .ok (.iload_n 1, 1) := by decide +kernel
theorem dX4_begin_26 : decode cX4_begin 26 = .ok (.ifCond .eq 7, 3) := by decide +kernel
theorem dX4_begin_29 : decode cX4_begin 29 = .ok (.iconst 1, 1) := by decide +kernel
theorem dX4_begin_30 : decode cX4_begin 30 = .ok (.goto 4, 3) := by decide +kernel
theorem dX4_begin_33 : decode cX4_begin 33 = .ok (.iconst 0, 1) := by decide +kernel
theorem dX4_begin_34 : decode cX4_begin 34 = .ok (.putfield 36, 3) := by decide +kernel
theorem dX4_begin_37 : decode cX4_begin 37 = .ok (.aload_n 0, 1) := by decide +kernel
theorem dX4_begin_38 : decode cX4_begin 38 = .ok (.iload_n 1, 1) := by decide +kernel
theorem dX4_begin_39 : decode cX4_begin 39 = .ok (.ifCond .eq 7, 3) := by decide +kernel
theorem dX4_begin_42 : decode cX4_begin 42 = .ok (.iconst (-1), 1) := by decide +kernel
theorem dX4_begin_43 : decode cX4_begin 43 = .ok (.goto 4, 3) := by decide +kernel
theorem dX4_begin_46 : decode cX4_begin 46 = .ok (.iconst 0, 1) := by decide +kernel
theorem dX4_begin_47 : decode cX4_begin 47 = .ok (.putfield 33, 3) := by decide +kernel
theorem dX4_begin_50 : decode cX4_begin 50 = .ok (.return_, 1) := by decide +kernel
theorem dX4_hasMore_0 : decode cX4_hasMore 0 = .ok (.aload_n 0, 1) := by decide +kernel
theorem dX4_hasMore_1 : decode cX4_hasMore 1 = .ok (.getfield 33, 3) := by decide +kernel
theorem dX4_hasMore_4 : decode cX4_hasMore 4 = .ok (.iconst (-1), 1) := by decide +kernel
theorem dX4_hasMore_5 : decode cX4_hasMore 5 = .ok (.if_icmp .ne 18, 3) := by decide +kernel
theorem dX4_hasMore_8 : decode cX4_hasMore 8 = .ok (.aload_n 0, 1) := by decide +kernel
theorem dX4_hasMore_9 : decode cX4_hasMore 9 = .ok (.getfield 36, 3) := by decide +kernel
theorem dX4_hasMore_12 : decode cX4_hasMore 12 = .ok (.aload_n 0, 1) := by decide +kernel
theorem dX4_hasMore_13 : decode cX4_hasMore 13 = .ok (.getfield 19, 3) := by decide +kernel
theorem dX4_hasMore_16 : decode cX4_hasMore 16 = .ok (.if_icmp .ge 7, 3) := by decide +kernel
theorem dX4_hasMore_19 : decode cX4_hasMore 19 = .ok (.iconst 1, 1) := by decide +kernel
theorem dX4_hasMore_20 : decode cX4_hasMore 20 = .ok (.goto 4, 3) := by decide +kernel
theorem dX4_hasMore_23 : decode cX4_hasMore 23 = .ok (.iconst 0, 1) := by decide +kernel
theorem dX4_hasMore_24 : decode cX4_hasMore 24 = .ok (.ireturn, 1) := by decide +kernel
theorem dX4_takeCommand_0 : decode cX4_takeCommand 0 = .ok (.iconst 0, 1) := by decide +kernel
theorem dX4_takeCommand_1 : decode cX4_takeCommand 1 = .ok (.istore_n 1, 1) := by decide +kernel
theorem dX4_takeCommand_2 : decode cX4_takeCommand 2 = .ok (.iload_n 1, 1) := by decide +kernel
theorem dX4_takeCommand_3 : decode cX4_takeCommand 3 = .ok (.aload_n 0, 1) := by decide +kernel
theorem dX4_takeCommand_4 : decode cX4_takeCommand 4 = .ok (.getfield 15, 3) := by decide +kernel
theorem dX4_takeCommand_7 : decode cX4_takeCommand 7 = .ok (.arraylength, 1) := by decide +kernel
theorem dX4_takeCommand_8 : decode cX4_takeCommand 8 = .ok (.if_icmp .ge 16, 3) := by decide +kernel
theorem dX4_takeCommand_11 : decode cX4_takeCommand 11 = .ok (.aload_n 0, 1) := by decide +kernel
theorem dX4_takeCommand_12 : decode cX4_takeCommand 12 = .ok (.getfield 15, 3) := by decide +kernel
theorem dX4_takeCommand_15 : decode cX4_takeCommand 15 = .ok (.iload_n 1, 1) := by decide +kernel
theorem dX4_takeCommand_16 : decode cX4_takeCommand 16 = .ok (.iconst 0, 1) := by decide +kernel
theorem dX4_takeCommand_17 : decode cX4_takeCommand 17 = .ok (.iastore, 1) := by decide +kernel
theorem dX4_takeCommand_18 : decode cX4_takeCommand 18 = .ok (.iinc 1 1, 3) := by decide +kernel
theorem dX4_takeCommand_21 : decode cX4_takeCommand 21 = .ok (.goto (-19), 3) := by decide +kernel
theorem dX4_takeCommand_24 : decode cX4_takeCommand 24 = .ok (.aload_n 0, 1) := by decide +kernel
theorem dX4_takeCommand_25 : decode cX4_takeCommand 25 = .ok (.aload_n 0, 1) := by decide +kernel
theorem dX4_takeCommand_26 : decode cX4_takeCommand 26 = .ok (.getfield 9, 3) := by decide +kernel
theorem dX4_takeCommand_29 : decode cX4_takeCommand 29 = .ok (.aload_n 0, 1) := by decide +kernel
theorem dX4_takeCommand_30 : decode cX4_takeCommand 30 = .ok (.getfield 36, 3) := by decide +kernel
theorem dX4_takeCommand_33 : decode cX4_takeCommand 33 = .ok (.caload, 1) := by decide +kernel
theorem dX4_takeCommand_34 : decode cX4_takeCommand 34 = .ok (.putfield 39, 3) := by decide +kernel
theorem dX4_takeCommand_37 : decode cX4_takeCommand 37 = .ok (.aload_n 0, 1) := by decide +kernel
theorem dX4_takeCommand_38 : decode cX4_takeCommand 38 = .ok (.dup, 1) := by decide +kernel
theorem dX4_takeCommand_39 : decode cX4_takeCommand 39 = .ok (.getfield 36, 3) := by decide +kernel
theorem dX4_takeCommand_42 : decode cX4_takeCommand 42 = .ok (.iconst 1, 1) := by decide +kernel
theorem dX4_takeCommand_43 : decode cX4_takeCommand 43 = .ok (.iadd, 1) := by decide +kernel
theorem dX4_takeCommand_44 : decode cX4_takeCommand 44 = .ok (.putfield 36, 3) := by decide +kernel
theorem dX4_takeCommand_47 : decode cX4_takeCommand 47 = .ok (.aload_n 0, 1) := by decide +kernel
theorem dX4_takeCommand_48 : decode cX4_takeCommand 48 = .ok (.getfield 39, 3) := by decide +kernel
theorem dX4_takeCommand_51 : decode cX4_takeCommand 51 = .ok (.tableswitch 219 100 122 #[216, 174, 219, 219, 153, 219, 153, 199, 219, 219, 191, 219, 219, 191, 166, 105, 219, 166, 166, 153, 127, 219, 191], 105) := by decide +kernel
theorem dX4_takeCommand_156 : decode cX4_takeCommand 156 = .ok (.aload_n 0, 1) := by decide +kernel
theorem dX4_takeCommand_157 : decode cX4_takeCommand 157 = .ok (.iconst 0, 1) := by decide +kernel
theorem dX4_takeCommand_158 : decode cX4_takeCommand 158 = .ok (.iconst 3, 1) := by decide +kernel
theorem dX4_takeCommand_159 : decode cX4_takeCommand 159 = .ok (.iconst 0, 1) := by decide +kernel
theorem dX4_takeCommand_160 : decode cX4_takeCommand 160 = .ok (.sipush 999, 3) := by decide +kernel
theorem dX4_takeCommand_163 : decode cX4_takeCommand 163 = .ok (.invokevirtual 42, 3) := by decide +kernel
theorem dX4_takeCommand_166 : decode cX4_takeCommand 166 = .ok (.aload_n 0, 1) := by decide +kernel
theorem dX4_takeCommand_167 : decode cX4_takeCommand 167 = .ok (.iconst 1, 1) := by decide +kernel
theorem dX4_takeCommand_168 : decode cX4_takeCommand 168 = .ok (.iconst 2, 1) := by decide +kernel
theorem dX4_takeCommand_169 : decode cX4_takeCommand 169 = .ok (.iconst 1, 1) := by decide +kernel
theorem dX4_takeCommand_170 : decode cX4_takeCommand 170 = .ok (.bipush 99, 2) := by decide +kernel
theorem dX4_takeCommand_172 : decode cX4_takeCommand 172 = .ok (.invokevirtual 42, 3) := by decide +kernel
theorem dX4_takeCommand_175 : decode cX4_takeCommand 175 = .ok (.goto 105, 3) := by decide +kernel
theorem dX4_takeCommand_178 : decode cX4_takeCommand 178 = .ok (.aload_n 0, 1) := by decide +kernel
theorem dX4_takeCommand_179 : decode cX4_takeCommand 179 = .ok (.iconst 0, 1) := by decide +kernel
theorem dX4_takeCommand_180 : decode cX4_takeCommand 180 = .ok (.invokevirtual 46, 3) := by decide +kernel
theorem dX4_takeCommand_183 : decode cX4_takeCommand 183 = .ok (.aload_n 0, 1) := by decide +kernel
theorem dX4_takeCommand_184 : decode cX4_takeCommand 184 = .ok (.iconst 1, 1) := by decide +kernel
theorem dX4_takeCommand_185 : decode cX4_takeCommand 185 = .ok (.iconst 1, 1) := by decide +kernel
theorem dX4_takeCommand_186 : decode cX4_takeCommand 186 = .ok (.iconst 1, 1) := by decide +kernel
theorem dX4_takeCommand_187 : decode cX4_takeCommand 187 = .ok (.bipush 9, 2) := by decide +kernel
theorem dX4_takeCommand_189 : decode cX4_takeCommand 189 = .ok (.invokevirtual 42, 3) := by decide +kernel
theorem dX4_takeCommand_192 : decode cX4_takeCommand 192 = .ok (.aload_n 0, 1) := by decide +kernel
theorem dX4_takeCommand_193 : decode cX4_takeCommand 193 = .ok (.iconst 2, 1) := by decide +kernel
theorem dX4_takeCommand_194 : decode cX4_takeCommand 194 = .ok (.iconst 2, 1) := by decide +kernel
theorem dX4_takeCommand_195 : decode cX4_takeCommand 195 = .ok (.iconst 0, 1) := by decide +kernel
theorem dX4_takeCommand_196 : decode cX4_takeCommand 196 = .ok (.bipush 99, 2) := by decide +kernel
theorem dX4_takeCommand_198 : decode cX4_takeCommand 198 = .ok (.invokevirtual 42, 3) := by decide +kernel
theorem dX4_takeCommand_201 : decode cX4_takeCommand 201 = .ok (.goto 79, 3) := by decide +kernel
theorem dX4_takeCommand_204 : decode cX4_takeCommand 204 = .ok (.aload_n 0, 1) := by decide +kernel
theorem dX4_takeCommand_205 : decode cX4_takeCommand 205 = .ok (.iconst 0, 1) := by decide +kernel
theorem dX4_takeCommand_206 : decode cX4_takeCommand 206 = .ok (.invokevirtual 46, 3) := by decide +kernel
theorem dX4_takeCommand_209 : decode cX4_takeCommand 209 = .ok (.aload_n 0, 1) := by decide +kernel
theorem dX4_takeCommand_210 : decode cX4_takeCommand 210 = .ok (.iconst 1, 1) := by decide +kernel
theorem dX4_takeCommand_211 : decode cX4_takeCommand 211 = .ok (.invokevirtual 46, 3) := by decide +kernel
theorem dX4_takeCommand_214 : decode cX4_takeCommand 214 = .ok (.goto 66, 3) := by decide +kernel
theorem dX4_takeCommand_217 : decode cX4_takeCommand 217 = .ok (.aload_n 0, 1) := by decide +kernel
theorem dX4_takeCommand_218 : decode cX4_takeCommand 218 = .ok (.iconst 0, 1) := by decide +kernel
theorem dX4_takeCommand_219 : decode cX4_takeCommand 219 = .ok (.invokevirtual 46, 3) := by decide +kernel
theorem dX4_takeCommand_222 : decode cX4_takeCommand 222 = .ok (.goto 58, 3) := by decide +kernel
theorem dX4_takeCommand_225 : decode cX4_takeCommand 225 = .ok (.aload_n 0, 1) := by decide +kernel
theorem dX4_takeCommand_226 : decode cX4_takeCommand 226 = .ok (.iconst 0, 1) := by decide +kernel
theorem dX4_takeCommand_227 : decode cX4_takeCommand 227 = .ok (.invokevirtual 46, 3) := by decide +kernel
theorem dX4_takeCommand_230 : decode cX4_takeCommand 230 = .ok (.aload_n 0, 1) := by decide +kernel
theorem dX4_takeCommand_231 : decode cX4_takeCommand 231 = .ok (.iconst 1, 1) := by decide +kernel
theorem dX4_takeCommand_232 : decode cX4_takeCommand 232 = .ok (.iconst 1, 1) := by decide +kernel
theorem dX4_takeCommand_233 : decode cX4_takeCommand 233 = .ok (.iconst 1, 1) := by decide +kernel
theorem dX4_takeCommand_234 : decode cX4_takeCommand 234 = .ok (.bipush 9, 2) := by decide +kernel
theorem dX4_takeCommand_236 : decode cX4_takeCommand 236 = .ok (.invokevirtual 42, 3) := by decide +kernel
theorem dX4_takeCommand_239 : decode cX4_takeCommand 239 = .ok (.goto 41, 3) := by decide +kernel
theorem dX4_takeCommand_242 : decode cX4_takeCommand 242 = .ok (.aload_n 0, 1) := by decide +kernel
theorem dX4_takeCommand_243 : decode cX4_takeCommand 243 = .ok (.iconst 0, 1) := by decide +kernel
theorem dX4_takeCommand_244 : decode cX4_takeCommand 244 = .ok (.invokevirtual 50, 3) := by decide +kernel
theorem dX4_takeCommand_247 : decode cX4_takeCommand 247 = .ok (.goto 33, 3) := by decide +kernel
theorem dX4_takeCommand_250 : decode cX4_takeCommand 250 = .ok (.aload_n 0, 1) := by decide +kernel
theorem dX4_takeCommand_251 : decode cX4_takeCommand 251 = .ok (.iconst 0, 1) := by decide +kernel
theorem dX4_takeCommand_252 : decode cX4_takeCommand 252 = .ok (.invokevirtual 50, 3) := by decide +kernel
theorem dX4_takeCommand_255 : decode cX4_takeCommand 255 = .ok (.aload_n 0, 1) := by decide +kernel
theorem dX4_takeCommand_256 : decode cX4_takeCommand 256 = .ok (.iconst 1, 1) := by decide +kernel
theorem dX4_takeCommand_257 : decode cX4_takeCommand 257 = .ok (.iconst 2, 1) := by decide +kernel
theorem dX4_takeCommand_258 : decode cX4_takeCommand 258 = .ok (.iconst 1, 1) := by decide +kernel
theorem dX4_takeCommand_259 : decode cX4_takeCommand 259 = .ok (.bipush 99, 2) := by decide +kernel
theorem dX4_takeCommand_261 : decode cX4_takeCommand 261 = .ok (.invokevirtual 42, 3) := by decide +kernel
theorem dX4_takeCommand_264 : decode cX4_takeCommand 264 = .ok (.goto 16, 3) := by decide +kernel
theorem dX4_takeCommand_267 : decode cX4_takeCommand 267 = .ok (.goto 13, 3) := by decide +kernel
theorem dX4_takeCommand_270 : decode cX4_takeCommand 270 = .ok (.aload_n 0, 1) := by decide +kernel
theorem dX4_takeCommand_271 : decode cX4_takeCommand 271 = .ok (.aload_n 0, 1) := by decide +kernel
theorem dX4_takeCommand_272 : decode cX4_takeCommand 272 = .ok (.getfield 36, 3) := by decide +kernel
theorem dX4_takeCommand_275 : decode cX4_takeCommand 275 = .ok (.iconst 1, 1) := by decide +kernel
theorem dX4_takeCommand_276 : decode cX4_takeCommand 276 = .ok (.isub, 1) := by decide +kernel
theorem dX4_takeCommand_277 : decode cX4_takeCommand 277 = .ok (.putfield 33, 3) := by decide +kernel
theorem dX4_takeCommand_280 : decode cX4_takeCommand 280 = .ok (.return_, 1) := by decide +kernel
theorem dX4_takeList_0 : decode cX4_takeList 0 = .ok (.aload_n 0, 1) := by decide +kernel
theorem dX4_takeList_1 : decode cX4_takeList 1 = .ok (.iload_n 1, 1) := by decide +kernel
theorem dX4_takeList_2 : decode cX4_takeList 2 = .ok (.iconst 2, 1) := by decide +kernel
theorem dX4_takeList_3 : decode cX4_takeList 3 = .ok (.iconst 0, 1) := by decide +kernel
theorem dX4_takeList_4 : decode cX4_takeList 4 = .ok (.bipush 11, 2) := by decide +kernel
theorem dX4_takeList_6 : decode cX4_takeList 6 = .ok (.invokevirtual 42, 3) := by decide +kernel
theorem dX4_takeList_9 : decode cX4_takeList 9 = .ok (.return_, 1) := by decide +kernel
theorem dX4_takeReader_0 : decode cX4_takeReader 0 = .ok (.aload_n 0, 1) := by decide +kernel
theorem dX4_takeReader_1 : decode cX4_takeReader 1 = .ok (.iload_n 1, 1) := by decide +kernel
theorem dX4_takeReader_2 : decode cX4_takeReader 2 = .ok (.iconst 1, 1) := by decide +kernel
theorem dX4_takeReader_3 : decode cX4_takeReader 3 = .ok (.iconst 0, 1) := by decide +kernel
theorem dX4_takeReader_4 : decode cX4_takeReader 4 = .ok (.iconst 3, 1) := by decide +kernel
theorem dX4_takeReader_5 : decode cX4_takeReader 5 = .ok (.invokevirtual 42, 3) := by decide +kernel
theorem dX4_takeReader_8 : decode cX4_takeReader 8 = .ok (.return_, 1) := by decide +kernel
theorem dX4_takeNumber_0 : decode cX4_takeNumber 0 = .ok (.iconst 0, 1) := by decide +kernel
theorem dX4_takeNumber_1 : decode cX4_takeNumber 1 = .ok (.istore 5, 2) := by decide +kernel
theorem dX4_takeNumber_3 : decode cX4_takeNumber 3 = .ok (.iload_n 2, 1) := by decide +kernel
theorem dX4_takeNumber_4 : decode cX4_takeNumber 4 = .ok (.iconst 3, 1) := by decide +kernel
theorem dX4_takeNumber_5 : decode cX4_takeNumber 5 = .ok (.if_icmp .ne 9, 3) := by decide +kernel
theorem dX4_takeNumber_8 : decode cX4_takeNumber 8 = .ok (.sipush 1000, 3) := by decide +kernel
theorem dX4_takeNumber_11 : decode cX4_takeNumber 11 = .ok (.goto 15, 3) := by decide +kernel
theorem dX4_takeNumber_14 : decode cX4_takeNumber 14 = .ok (.iload_n 2, 1) := by decide +kernel
theorem dX4_takeNumber_15 : decode cX4_takeNumber 15 = .ok (.iconst 2, 1) := by decide +kernel
theorem dX4_takeNumber_16 : decode cX4_takeNumber 16 = .ok (.if_icmp .ne 8, 3) := by decide +kernel
theorem dX4_takeNumber_19 : decode cX4_takeNumber 19 = .ok (.bipush 100, 2) := by decide +kernel
theorem dX4_takeNumber_21 : decode cX4_takeNumber 21 = .ok (.goto 5, 3) := by decide +kernel
theorem dX4_takeNumber_24 : decode cX4_takeNumber 24 = .ok (.bipush 10, 2) := by decide +kernel
theorem dX4_takeNumber_26 : decode cX4_takeNumber 26 = .ok (.istore 6, 2) := by decide +kernel
theorem dX4_takeNumber_28 : decode cX4_takeNumber 28 = .ok (.iconst 0, 1) := by decide +kernel
theorem dX4_takeNumber_29 : decode cX4_takeNumber 29 = .ok (.istore 7, 2) := by decide +kernel
theorem dX4_takeNumber_31 : decode cX4_takeNumber 31 = .ok (.iload 7, 2) := by decide +kernel
theorem dX4_takeNumber_33 : decode cX4_takeNumber 33 = .ok (.iload_n 2, 1) := by decide +kernel
theorem dX4_takeNumber_34 : decode cX4_takeNumber 34 = .ok (.if_icmp .ge 98, 3) := by decide +kernel
theorem dX4_takeNumber_37 : decode cX4_takeNumber 37 = .ok (.aload_n 0, 1) := by decide +kernel
theorem dX4_takeNumber_38 : decode cX4_takeNumber 38 = .ok (.getfield 33, 3) := by decide +kernel
theorem dX4_takeNumber_41 : decode cX4_takeNumber 41 = .ok (.iconst (-1), 1) := by decide +kernel
theorem dX4_takeNumber_42 : decode cX4_takeNumber 42 = .ok (.if_icmp .ne 90, 3) := by decide +kernel
theorem dX4_takeNumber_45 : decode cX4_takeNumber 45 = .ok (.iload 6, 2) := by decide +kernel
theorem dX4_takeNumber_47 : decode cX4_takeNumber 47 = .ok (.bipush 10, 2) := by decide +kernel
theorem dX4_takeNumber_49 : decode cX4_takeNumber 49 = .ok (.idiv, 1) := by decide +kernel
theorem dX4_takeNumber_50 : decode cX4_takeNumber 50 = .ok (.istore 6, 2) := by decide +kernel
theorem dX4_takeNumber_52 : decode cX4_takeNumber 52 = .ok (.aload_n 0, 1) := by decide +kernel
theorem dX4_takeNumber_53 : decode cX4_takeNumber 53 = .ok (.invokevirtual 53, 3) := by decide +kernel
theorem dX4_takeNumber_56 : decode cX4_takeNumber 56 = .ok (.istore 8, 2) := by decide +kernel
theorem dX4_takeNumber_58 : decode cX4_takeNumber 58 = .ok (.iload 5, 2) := by decide +kernel
theorem dX4_takeNumber_60 : decode cX4_takeNumber 60 = .ok (.bipush 10, 2) := by decide +kernel
theorem dX4_takeNumber_62 : decode cX4_takeNumber 62 = .ok (.imul, 1) := by decide +kernel
theorem dX4_takeNumber_63 : decode cX4_takeNumber 63 = .ok (.iload 8, 2) := by decide +kernel
theorem dX4_takeNumber_65 : decode cX4_takeNumber 65 = .ok (.iadd, 1) := by decide +kernel
theorem dX4_takeNumber_66 : decode cX4_takeNumber 66 = .ok (.iload 6, 2) := by decide +kernel
theorem dX4_takeNumber_68 : decode cX4_takeNumber 68 = .ok (.imul, 1) := by decide +kernel
theorem dX4_takeNumber_69 : decode cX4_takeNumber 69 = .ok (.istore 9, 2) := by decide +kernel
theorem dX4_takeNumber_71 : decode cX4_takeNumber 71 = .ok (.iload 8, 2) := by decide +kernel
theorem dX4_takeNumber_73 : decode cX4_takeNumber 73 = .ok (.iconst (-1), 1) := by decide +kernel
theorem dX4_takeNumber_74 : decode cX4_takeNumber 74 = .ok (.if_icmp .eq 21, 3) := by decide +kernel
theorem dX4_takeNumber_77 : decode cX4_takeNumber 77 = .ok (.iload 9, 2) := by decide +kernel
theorem dX4_takeNumber_79 : decode cX4_takeNumber 79 = .ok (.iload 4, 2) := by decide +kernel
theorem dX4_takeNumber_81 : decode cX4_takeNumber 81 = .ok (.if_icmp .gt 14, 3) := by decide +kernel
theorem dX4_takeNumber_84 : decode cX4_takeNumber 84 = .ok (.iload 9, 2) := by decide +kernel
theorem dX4_takeNumber_86 : decode cX4_takeNumber 86 = .ok (.iload 6, 2) := by decide +kernel
theorem dX4_takeNumber_88 : decode cX4_takeNumber 88 = .ok (.iadd, 1) := by decide +kernel
theorem dX4_takeNumber_89 : decode cX4_takeNumber 89 = .ok (.iconst 1, 1) := by decide +kernel
theorem dX4_takeNumber_90 : decode cX4_takeNumber 90 = .ok (.isub, 1) := by decide +kernel
theorem dX4_takeNumber_91 : decode cX4_takeNumber 91 = .ok (.iload_n 3, 1) := by decide +kernel
theorem dX4_takeNumber_92 : decode cX4_takeNumber 92 = .ok (.if_icmp .ge 14, 3) := by decide +kernel
theorem dX4_takeNumber_95 : decode cX4_takeNumber 95 = .ok (.aload_n 0, 1) := by decide +kernel
theorem dX4_takeNumber_96 : decode cX4_takeNumber 96 = .ok (.aload_n 0, 1) := by decide +kernel
theorem dX4_takeNumber_97 : decode cX4_takeNumber 97 = .ok (.getfield 36, 3) := by decide +kernel
theorem dX4_takeNumber_100 : decode cX4_takeNumber 100 = .ok (.putfield 33, 3) := by decide +kernel
theorem dX4_takeNumber_103 : decode cX4_takeNumber 103 = .ok (.goto 23, 3) := by decide +kernel
theorem dX4_takeNumber_106 : decode cX4_takeNumber 106 = .ok (.iload 5, 2) := by decide +kernel
theorem dX4_takeNumber_108 : decode cX4_takeNumber 108 = .ok (.bipush 10, 2) := by decide +kernel
theorem dX4_takeNumber_110 : decode cX4_takeNumber 110 = .ok (.imul, 1) := by decide +kernel
theorem dX4_takeNumber_111 : decode cX4_takeNumber 111 = .ok (.iload 8, 2) := by decide +kernel
theorem dX4_takeNumber_113 : decode cX4_takeNumber 113 = .ok (.iadd, 1) := by decide +kernel
theorem dX4_takeNumber_114 : decode cX4_takeNumber 114 = .ok (.istore 5, 2) := by decide +kernel
theorem dX4_takeNumber_116 : decode cX4_takeNumber 116 = .ok (.aload_n 0, 1) := by decide +kernel
theorem dX4_takeNumber_117 : decode cX4_takeNumber 117 = .ok (.dup, 1) := by decide +kernel
theorem dX4_takeNumber_118 : decode cX4_takeNumber 118 = .ok (.getfield 36, 3) := by decide +kernel
theorem dX4_takeNumber_121 : decode cX4_takeNumber 121 = .ok (.iconst 1, 1) := by decide +kernel
theorem dX4_takeNumber_122 : decode cX4_takeNumber 122 = .ok (.iadd, 1) := by decide +kernel
theorem dX4_takeNumber_123 : decode cX4_takeNumber 123 = .ok (.putfield 36, 3) := by decide +kernel
theorem dX4_takeNumber_126 : decode cX4_takeNumber 126 = .ok (.iinc 7 1, 3) := by decide +kernel
theorem dX4_takeNumber_129 : decode cX4_takeNumber 129 = .ok (.goto (-98), 3) := by decide +kernel
theorem dX4_takeNumber_132 : decode cX4_takeNumber 132 = .ok (.aload_n 0, 1) := by decide +kernel
theorem dX4_takeNumber_133 : decode cX4_takeNumber 133 = .ok (.getfield 15, 3) := by decide +kernel
theorem dX4_takeNumber_136 : decode cX4_takeNumber 136 = .ok (.iload_n 1, 1) := by decide +kernel
theorem dX4_takeNumber_137 : decode cX4_takeNumber 137 = .ok (.iload 5, 2) := by decide +kernel
theorem dX4_takeNumber_139 : decode cX4_takeNumber 139 = .ok (.iastore, 1) := by decide +kernel
theorem dX4_takeNumber_140 : decode cX4_takeNumber 140 = .ok (.return_, 1) := by decide +kernel
theorem dX4_digitHere_0 : decode cX4_digitHere 0 = .ok (.aload_n 0, 1) := by decide +kernel
theorem dX4_digitHere_1 : decode cX4_digitHere 1 = .ok (.getfield 36, 3) := by decide +kernel
theorem dX4_digitHere_4 : decode cX4_digitHere 4 = .ok (.aload_n 0, 1) := by decide +kernel
theorem dX4_digitHere_5 : decode cX4_digitHere 5 = .ok (.getfield 19, 3) := by decide +kernel
theorem dX4_digitHere_8 : decode cX4_digitHere 8 = .ok (.if_icmp .ge 31, 3) := by decide +kernel
theorem dX4_digitHere_11 : decode cX4_digitHere 11 = .ok (.aload_n 0, 1) := by decide +kernel
theorem dX4_digitHere_12 : decode cX4_digitHere 12 = .ok (.getfield 9, 3) := by decide +kernel
theorem dX4_digitHere_15 : decode cX4_digitHere 15 = .ok (.aload_n 0, 1) := by decide +kernel
theorem dX4_digitHere_16 : decode cX4_digitHere 16 = .ok (.getfield 36, 3) := by decide +kernel
theorem dX4_digitHere_19 : decode cX4_digitHere 19 = .ok (.caload, 1) := by decide +kernel
theorem dX4_digitHere_20 : decode cX4_digitHere 20 = .ok (.bipush 48, 2) := by decide +kernel
theorem dX4_digitHere_22 : decode cX4_digitHere 22 = .ok (.if_icmp .lt 17, 3) := by decide +kernel
theorem dX4_digitHere_25 : decode cX4_digitHere 25 = .ok (.aload_n 0, 1) := by decide +kernel
theorem dX4_digitHere_26 : decode cX4_digitHere 26 = .ok (.getfield 9, 3) := by decide +kernel
theorem dX4_digitHere_29 : decode cX4_digitHere 29 = .ok (.aload_n 0, 1) := by decide +kernel
theorem dX4_digitHere_30 : decode cX4_digitHere 30 = .ok (.getfield 36, 3) := by decide +kernel
theorem dX4_digitHere_33 : decode cX4_digitHere 33 = .ok (.caload, 1) := by decide +kernel
theorem dX4_digitHere_34 : decode cX4_digitHere 34 = .ok (.bipush 57, 2) := by decide +kernel
theorem dX4_digitHere_36 : decode cX4_digitHere 36 = .ok (.if_icmp .le 5, 3) := by decide +kernel
theorem dX4_digitHere_39 : decode cX4_digitHere 39 = .ok (.iconst (-1), 1) := by decide +kernel
theorem dX4_digitHere_40 : decode cX4_digitHere 40 = .ok (.ireturn, 1) := by decide +kernel
theorem dX4_digitHere_41 : decode cX4_digitHere 41 = .ok (.aload_n 0, 1) := by decide +kernel
theorem dX4_digitHere_42 : decode cX4_digitHere 42 = .ok (.getfield 9, 3) := by decide +kernel
theorem dX4_digitHere_45 : decode cX4_digitHere 45 = .ok (.aload_n 0, 1) := by decide +kernel
theorem dX4_digitHere_46 : decode cX4_digitHere 46 = .ok (.getfield 36, 3) := by decide +kernel
theorem dX4_digitHere_49 : decode cX4_digitHere 49 = .ok (.caload, 1) := by decide +kernel
theorem dX4_digitHere_50 : decode cX4_digitHere 50 = .ok (.bipush 48, 2) := by decide +kernel
theorem dX4_digitHere_52 : decode cX4_digitHere 52 = .ok (.isub, 1) := by decide +kernel
theorem dX4_digitHere_53 : decode cX4_digitHere 53 = .ok (.ireturn, 1) := by decide +kernel
theorem dX5_init_0 : decode cX5_init 0 = .ok (.aload_n 0, 1) := by decide +kernel
theorem dX5_init_1 : decode cX5_init 1 = .ok (.invokespecial 1, 3) := by decide +kernel
theorem dX5_init_4 : decode cX5_init 4 = .ok (.aload_n 0, 1) := by decide +kernel
theorem dX5_init_5 : decode cX5_init 5 = .ok (.new 7, 3) := by decide +kernel
theorem dX5_init_8 : decode cX5_init 8 = .ok (.dup, 1) := by decide +kernel
theorem dX5_init_9 : decode cX5_init 9 = .ok (.invokespecial 9, 3) := by decide +kernel
theorem dX5_init_12 : decode cX5_init 12 = .ok (.putfield 10, 3) := by decide +kernel
theorem dX5_init_15 : decode cX5_init 15 = .ok (.aload_n 0, 1) := by decide +kernel
theorem dX5_init_16 : decode cX5_init 16 = .ok (.new 16, 3) := by decide +kernel
theorem dX5_init_19 : decode cX5_init 19 = .ok (.dup, 1) := by decide +kernel
theorem dX5_init_20 : decode cX5_init 20 = .ok (.invokespecial 18, 3) := by decide +kernel
theorem dX5_init_23 : decode cX5_init 23 = .ok (.putfield 19, 3) := by decide +kernel
theorem dX5_init_26 : decode cX5_init 26 = .ok (.aload_n 0, 1) := by decide +kernel
theorem dX5_init_27 : decode cX5_init 27 = .ok (.new 23, 3) := by decide +kernel
theorem dX5_init_30 : decode cX5_init 30 = .ok (.dup, 1) := by decide +kernel
theorem dX5_init_31 : decode cX5_init 31 = .ok (.invokespecial 25, 3) := by decide +kernel
theorem dX5_init_34 : decode cX5_init 34 = .ok (.putfield 26, 3) := by decide +kernel
theorem dX5_init_37 : decode cX5_init 37 = .ok (.aload_n 0, 1) := by decide +kernel
theorem dX5_init_38 : decode cX5_init 38 = .ok (.iconst 2, 1) := by decide +kernel
theorem dX5_init_39 : decode cX5_init 39 = .ok (.anewarray 16, 3) := by decide +kernel
theorem dX5_init_42 : decode cX5_init 42 = .ok (.putfield 30, 3) := by decide +kernel
theorem dX5_init_45 : decode cX5_init 45 = .ok (.aload_n 0, 1) := by decide +kernel
theorem dX5_init_46 : decode cX5_init 46 = .ok (.iconst 2, 1) := by decide +kernel
theorem dX5_init_47 : decode cX5_init 47 = .ok (.newarray .boolean, 2) := by decide +kernel
theorem dX5_init_49 : decode cX5_init 49 = .ok (.putfield 34, 3) := by decide +kernel
theorem dX5_init_52 : decode cX5_init 52 = .ok (.aload_n 0, 1) := by decide +kernel
theorem dX5_init_53 : decode cX5_init 53 = .ok (.new 16, 3) := by decide +kernel
theorem dX5_init_56 : decode cX5_init 56 = .ok (.dup, 1) := by decide +kernel
theorem dX5_init_57 : decode cX5_init 57 = .ok (.invokespecial 18, 3) := by decide +kernel
theorem dX5_init_60 : decode cX5_init 60 = .ok (.putfield 38, 3) := by decide +kernel
theorem dX5_init_63 : decode cX5_init 63 = .ok (.iconst 0, 1) := by decide +kernel
theorem dX5_init_64 : decode cX5_init 64 = .ok (.istore_n 1, 1) := by decide +kernel
theorem dX5_init_65 : decode cX5_init 65 = .ok (.iload_n 1, 1) := by decide +kernel
theorem dX5_init_66 : decode cX5_init 66 = .ok (.iconst 2, 1) := by decide +kernel
theorem dX5_init_67 : decode cX5_init 67 = .ok (.if_icmp .ge 22, 3) := by decide +kernel
theorem dX5_init_70 : decode cX5_init 70 = .ok (.aload_n 0, 1) := by decide +kernel
theorem dX5_init_71 : decode cX5_init 71 = .ok (.getfield 30, 3) := by decide +kernel
theorem dX5_init_74 : decode cX5_init 74 = .ok (.iload_n 1, 1) := by decide +kernel
theorem dX5_init_75 : decode cX5_init 75 = .ok (.new 16, 3) := by decide +kernel
theorem dX5_init_78 : decode cX5_init 78 = .ok (.dup, 1) := by decide +kernel
theorem dX5_init_79 : decode cX5_init 79 = .ok (.invokespecial 18, 3) := by decide +kernel
theorem dX5_init_82 : decode cX5_init 82 = .ok (.aastore, 1) := by decide +kernel
theorem dX5_init_83 : decode cX5_init 83 = .ok (.iinc 1 1, 3) := by decide +kernel
theorem dX5_init_86 : decode cX5_init 86 = .ok (.goto (-21), 3) := by decide +kernel
theorem dX5_init_89 : decode cX5_init 89 = .ok (.return_, 1) := by decide +kernel
theorem dX5_append_0 : decode cX5_append 0 = .ok (.iload_n 1, 1) := by decide +kernel
theorem dX5_append_1 : decode cX5_append 1 = .ok (.iconst 0, 1) := by decide +kernel
theorem dX5_append_2 : decode cX5_append 2 = .ok (.sipush 255, 3) := by decide +kernel
theorem dX5_append_5 : decode cX5_append 5 = .ok (.invokestatic 41, 3) := by decide +kernel
theorem dX5_append_8 : decode cX5_append 8 = .ok (.aload_n 0, 1) := by decide +kernel
theorem dX5_append_9 : decode cX5_append 9 = .ok (.getfield 10, 3) := by decide +kernel
theorem dX5_append_12 : decode cX5_append 12 = .ok (.getfield 45, 3) := by decide +kernel
theorem dX5_append_15 : decode cX5_append 15 = .ok (.bipush 120, 2) := by decide +kernel
theorem dX5_append_17 : decode cX5_append 17 = .ok (.if_icmp .lt 13, 3) := by decide +kernel
theorem dX5_append_20 : decode cX5_append 20 = .ok (.new 49, 3) := by decide +kernel
theorem dX5_append_23 : decode cX5_append 23 = .ok (.dup, 1) := by decide +kernel
theorem dX5_append_24 : decode cX5_append 24 = .ok (.ldc 51, 2) := by decide +kernel
theorem dX5_append_26 : decode cX5_append 26 = .ok (.invokespecial 53, 3) := by decide +kernel
theorem dX5_append_29 : decode cX5_append 29 = .ok (.athrow, 1) := by decide +kernel
theorem dX5_append_30 : decode cX5_append 30 = .ok (.aload_n 0, 1) := by decide +kernel
theorem dX5_append_31 : decode cX5_append 31 = .ok (.getfield 10, 3) := by decide +kernel
theorem dX5_append_34 : decode cX5_append 34 = .ok (.iload_n 1, 1) := by decide +kernel
theorem dX5_append_35 : decode cX5_append 35 = .ok (.i2c, 1) := by decide +kernel
theorem dX5_append_36 : decode cX5_append 36 = .ok (.invokevirtual 56, 3) := by decide +kernel
theorem dX5_append_39 : decode cX5_append 39 = .ok (.ireturn, 1) := by decide +kernel
theorem dX5_load_0 : decode cX5_load 0 = .ok (.aload_n 0, 1) := by decide +kernel
theorem dX5_load_1 : decode cX5_load 1 = .ok (.getfield 10, 3) := by decide +kernel
theorem dX5_load_4 : decode cX5_load 4 = .ok (.invokevirtual 60, 3) := by decide +kernel
theorem dX5_load_7 : decode cX5_load 7 = .ok (.iconst (-1), 1) := by decide +kernel
theorem dX5_load_8 : decode cX5_load 8 = .ok (.if_icmp .eq 13, 3) := by decide +kernel
theorem dX5_load_11 : decode cX5_load 11 = .ok (.new 49, 3) := by decide +kernel
theorem dX5_load_14 : decode cX5_load 14 = .ok (.dup, 1) := by decide +kernel
theorem dX5_load_15 : decode cX5_load 15 = .ok (.ldc 64, 2) := by decide +kernel
theorem dX5_load_17 : decode cX5_load 17 = .ok (.invokespecial 53, 3) := by decide +kernel
theorem dX5_load_20 : decode cX5_load 20 = .ok (.athrow, 1) := by decide +kernel
theorem dX5_load_21 : decode cX5_load 21 = .ok (.aload_n 0, 1) := by decide +kernel
theorem dX5_load_22 : decode cX5_load 22 = .ok (.getfield 19, 3) := by decide +kernel
theorem dX5_load_25 : decode cX5_load 25 = .ok (.invokevirtual 66, 3) := by decide +kernel
theorem dX5_load_28 : decode cX5_load 28 = .ok (.aload_n 0, 1) := by decide +kernel
theorem dX5_load_29 : decode cX5_load 29 = .ok (.getfield 26, 3) := by decide +kernel
theorem dX5_load_32 : decode cX5_load 32 = .ok (.invokevirtual 69, 3) := by decide +kernel
theorem dX5_load_35 : decode cX5_load 35 = .ok (.iconst 0, 1) := by decide +kernel
theorem dX5_load_36 : decode cX5_load 36 = .ok (.istore_n 1, 1) := by decide +kernel
theorem dX5_load_37 : decode cX5_load 37 = .ok (.iload_n 1, 1) := by decide +kernel
theorem dX5_load_38 : decode cX5_load 38 = .ok (.iconst 2, 1) := by decide +kernel
theorem dX5_load_39 : decode cX5_load 39 = .ok (.if_icmp .ge 16, 3) := by decide +kernel
theorem dX5_load_42 : decode cX5_load 42 = .ok (.aload_n 0, 1) := by decide +kernel
theorem dX5_load_43 : decode cX5_load 43 = .ok (.getfield 34, 3) := by decide +kernel
theorem dX5_load_46 : decode cX5_load 46 = .ok (.iload_n 1, 1) := by decide +kernel
theorem dX5_load_47 : decode cX5_load 47 = .ok (.iconst 0, 1) := by decide +kernel
theorem dX5_load_48 : decode cX5_load 48 = .ok (.bastore, 1) := by decide +kernel
theorem dX5_load_49 : decode cX5_load 49 = .ok (.iinc 1 1, 3) := by decide +kernel
theorem dX5_load_52 : decode cX5_load 52 = .ok (.goto (-15), 3) := by decide +kernel
theorem dX5_load_55 : decode cX5_load 55 = .ok (.aload_n 0, 1) := by decide +kernel
theorem dX5_load_56 : decode cX5_load 56 = .ok (.invokevirtual 72, 3) := by decide +kernel
theorem dX5_load_59 : decode cX5_load 59 = .ok (.ireturn, 1) := by decide +kernel
theorem dX5_makeSteps_0 : decode cX5_makeSteps 0 = .ok (.aload_n 0, 1) := by decide +kernel
theorem dX5_makeSteps_1 : decode cX5_makeSteps 1 = .ok (.bipush 115, 2) := by decide +kernel
theorem dX5_makeSteps_3 : decode cX5_makeSteps 3 = .ok (.iload_n 1, 1) := by decide +kernel
theorem dX5_makeSteps_4 : decode cX5_makeSteps 4 = .ok (.iload_n 2, 1) := by decide +kernel
theorem dX5_makeSteps_5 : decode cX5_makeSteps 5 = .ok (.iconst 0, 1) := by decide +kernel
theorem dX5_makeSteps_6 : decode cX5_makeSteps 6 = .ok (.invokevirtual 75, 3) := by decide +kernel
theorem dX5_makeSteps_9 : decode cX5_makeSteps 9 = .ok (.ireturn, 1) := by decide +kernel
theorem dX5_makeScaled_0 : decode cX5_makeScaled 0 = .ok (.aload_n 0, 1) := by decide +kernel
theorem dX5_makeScaled_1 : decode cX5_makeScaled 1 = .ok (.bipush 120, 2) := by decide +kernel
theorem dX5_makeScaled_3 : decode cX5_makeScaled 3 = .ok (.iload_n 1, 1) := by decide +kernel
theorem dX5_makeScaled_4 : decode cX5_makeScaled 4 = .ok (.iload_n 2, 1) := by decide +kernel
theorem dX5_makeScaled_5 : decode cX5_makeScaled 5 = .ok (.iload_n 3, 1) := by decide +kernel
theorem dX5_makeScaled_6 : decode cX5_makeScaled 6 = .ok (.invokevirtual 75, 3) := by decide +kernel
theorem dX5_makeScaled_9 : decode cX5_makeScaled 9 = .ok (.ireturn, 1) := by decide +kernel
theorem dX5_makeJoined_0 : decode cX5_makeJoined 0 = .ok (.aload_n 0, 1) := by decide +kernel
theorem dX5_makeJoined_1 : decode cX5_makeJoined 1 = .ok (.bipush 106, 2) := by decide +kernel
theorem dX5_makeJoined_3 : decode cX5_makeJoined 3 = .ok (.iload_n 1, 1) := by decide +kernel
theorem dX5_makeJoined_4 : decode cX5_makeJoined 4 = .ok (.iload_n 2, 1) := by decide +kernel
theorem dX5_makeJoined_5 : decode cX5_makeJoined 5 = .ok (.iconst 0, 1) := by decide +kernel
theorem dX5_makeJoined_6 : decode cX5_makeJoined 6 = .ok (.invokevirtual 75, 3) := by decide +kernel
theorem dX5_makeJoined_9 : decode cX5_makeJoined 9 = .ok (.ireturn, 1) := by decide +kernel
theorem dX5_makeShared_0 : decode cX5_makeShared 0 = .ok (.aload_n 0, 1) := by decide +kernel
theorem dX5_makeShared_1 : decode cX5_makeShared 1 = .ok (.bipush 104, 2) := by decide +kernel
theorem dX5_makeShared_3 : decode cX5_makeShared 3 = .ok (.iload_n 1, 1) := by decide +kernel
theorem dX5_makeShared_4 : decode cX5_makeShared 4 = .ok (.iload_n 2, 1) := by decide +kernel
theorem dX5_makeShared_5 : decode cX5_makeShared 5 = .ok (.iconst 0, 1) := by decide +kernel
theorem dX5_makeShared_6 : decode cX5_makeShared 6 = .ok (.invokevirtual 75, 3) := by decide +kernel
theorem dX5_makeShared_9 : decode cX5_makeShared 9 = .ok (.ireturn, 1) := by decide +kernel
theorem dX5_makeWithout_0 : decode cX5_makeWithout 0 = .ok (.aload_n 0, 1) := by decide +kernel
theorem dX5_makeWithout_1 : decode cX5_makeWithout 1 = .ok (.bipush 119, 2) := by decide +kernel
theorem dX5_makeWithout_3 : decode cX5_makeWithout 3 = .ok (.iload_n 1, 1) := by decide +kernel
theorem dX5_makeWithout_4 : decode cX5_makeWithout 4 = .ok (.iload_n 2, 1) := by decide +kernel
theorem dX5_makeWithout_5 : decode cX5_makeWithout 5 = .ok (.iconst 0, 1) := by decide +kernel
theorem dX5_makeWithout_6 : decode cX5_makeWithout 6 = .ok (.invokevirtual 75, 3) := by decide +kernel
theorem dX5_makeWithout_9 : decode cX5_makeWithout 9 = .ok (.ireturn, 1) := by decide +kernel
theorem dX5_makeSieved_0 : decode cX5_makeSieved 0 = .ok (.aload_n 0, 1) := by decide +kernel
theorem dX5_makeSieved_1 : decode cX5_makeSieved 1 = .ok (.bipush 118, 2) := by decide +kernel
theorem dX5_makeSieved_3 : decode cX5_makeSieved 3 = .ok (.iload_n 1, 1) := by decide +kernel
theorem dX5_makeSieved_4 : decode cX5_makeSieved 4 = .ok (.iconst 0, 1) := by decide +kernel
theorem dX5_makeSieved_5 : decode cX5_makeSieved 5 = .ok (.iconst 0, 1) := by decide +kernel
theorem dX5_makeSieved_6 : decode cX5_makeSieved 6 = .ok (.invokevirtual 75, 3) := by decide +kernel
theorem dX5_makeSieved_9 : decode cX5_makeSieved 9 = .ok (.ireturn, 1) := by decide +kernel
theorem dX5_makeThinned_0 : decode cX5_makeThinned 0 = .ok (.aload_n 0, 1) := by decide +kernel
theorem dX5_makeThinned_1 : decode cX5_makeThinned 1 = .ok (.bipush 101, 2) := by decide +kernel
theorem dX5_makeThinned_3 : decode cX5_makeThinned 3 = .ok (.iload_n 1, 1) := by decide +kernel
theorem dX5_makeThinned_4 : decode cX5_makeThinned 4 = .ok (.iload_n 2, 1) := by decide +kernel
theorem dX5_makeThinned_5 : decode cX5_makeThinned 5 = .ok (.iconst 0, 1) := by decide +kernel
theorem dX5_makeThinned_6 : decode cX5_makeThinned 6 = .ok (.invokevirtual 75, 3) := by decide +kernel
theorem dX5_makeThinned_9 : decode cX5_makeThinned 9 = .ok (.ireturn, 1) := by decide +kernel
theorem dX5_makeAddedUp_0 : decode cX5_makeAddedUp 0 = .ok (.aload_n 0, 1) := by decide +kernel
theorem dX5_makeAddedUp_1 : decode cX5_makeAddedUp 1 = .ok (.bipush 117, 2) := by decide +kernel
theorem dX5_makeAddedUp_3 : decode cX5_makeAddedUp 3 = .ok (.iload_n 1, 1) := by decide +kernel
theorem dX5_makeAddedUp_4 : decode cX5_makeAddedUp 4 = .ok (.iconst 0, 1) := by decide +kernel
theorem dX5_makeAddedUp_5 : decode cX5_makeAddedUp 5 = .ok (.iconst 0, 1) := by decide +kernel
theorem dX5_makeAddedUp_6 : decode cX5_makeAddedUp 6 = .ok (.invokevirtual 75, 3) := by decide +kernel
theorem dX5_makeAddedUp_9 : decode cX5_makeAddedUp 9 = .ok (.ireturn, 1) := by decide +kernel
theorem dX5_dropLast_0 : decode cX5_dropLast 0 = .ok (.aload_n 0, 1) := by decide +kernel
theorem dX5_dropLast_1 : decode cX5_dropLast 1 = .ok (.bipush 100, 2) := by decide +kernel
theorem dX5_dropLast_3 : decode cX5_dropLast 3 = .ok (.iconst 0, 1) := by decide +kernel
theorem dX5_dropLast_4 : decode cX5_dropLast 4 = .ok (.iconst 0, 1) := by decide +kernel
theorem dX5_dropLast_5 : decode cX5_dropLast 5 = .ok (.iconst 0, 1) := by decide +kernel
theorem dX5_dropLast_6 : decode cX5_dropLast 6 = .ok (.invokevirtual 75, 3) := by decide +kernel
theorem dX5_dropLast_9 : decode cX5_dropLast 9 = .ok (.ireturn, 1) := by decide +kernel
theorem dX5_beginReading_0 : decode cX5_beginReading 0 = .ok (.aload_n 0, 1) := by decide +kernel
theorem dX5_beginReading_1 : decode cX5_beginReading 1 = .ok (.bipush 114, 2) := by decide +kernel
theorem dX5_beginReading_3 : decode cX5_beginReading 3 = .ok (.iload_n 1, 1) := by decide +kernel
theorem dX5_beginReading_4 : decode cX5_beginReading 4 = .ok (.iconst 0, 1) := by decide +kernel
theorem dX5_beginReading_5 : decode cX5_beginReading 5 = .ok (.iconst 0, 1) := by decide +kernel
theorem dX5_beginReading_6 : decode cX5_beginReading 6 = .ok (.invokevirtual 75, 3) := by decide +kernel
theorem dX5_beginReading_9 : decode cX5_beginReading 9 = .ok (.ireturn, 1) := by decide +kernel
theorem dX5_read_0 : decode cX5_read 0 = .ok (.aload_n 0, 1) := by decide +kernel
theorem dX5_read_1 : decode cX5_read 1 = .ok (.bipush 110, 2) := by decide +kernel
theorem dX5_read_3 : decode cX5_read 3 = .ok (.iload_n 1, 1) := by decide +kernel
theorem dX5_read_4 : decode cX5_read 4 = .ok (.iconst 0, 1) := by decide +kernel
theorem dX5_read_5 : decode cX5_read 5 = .ok (.iconst 0, 1) := by decide +kernel
theorem dX5_read_6 : decode cX5_read 6 = .ok (.invokevirtual 75, 3) := by decide +kernel
theorem dX5_read_9 : decode cX5_read 9 = .ok (.ireturn, 1) := by decide +kernel
theorem dX5_skip_0 : decode cX5_skip 0 = .ok (.aload_n 0, 1) := by decide +kernel
theorem dX5_skip_1 : decode cX5_skip 1 = .ok (.bipush 107, 2) := by decide +kernel
theorem dX5_skip_3 : decode cX5_skip 3 = .ok (.iload_n 1, 1) := by decide +kernel
theorem dX5_skip_4 : decode cX5_skip 4 = .ok (.iload_n 2, 1) := by decide +kernel
theorem dX5_skip_5 : decode cX5_skip 5 = .ok (.iconst 0, 1) := by decide +kernel
theorem dX5_skip_6 : decode cX5_skip 6 = .ok (.invokevirtual 75, 3) := by decide +kernel
theorem dX5_skip_9 : decode cX5_skip 9 = .ok (.ireturn, 1) := by decide +kernel
theorem dX5_goBack_0 : decode cX5_goBack 0 = .ok (.aload_n 0, 1) := by decide +kernel
theorem dX5_goBack_1 : decode cX5_goBack 1 = .ok (.bipush 122, 2) := by decide +kernel
theorem dX5_goBack_3 : decode cX5_goBack 3 = .ok (.iload_n 1, 1) := by decide +kernel
theorem dX5_goBack_4 : decode cX5_goBack 4 = .ok (.iconst 0, 1) := by decide +kernel
theorem dX5_goBack_5 : decode cX5_goBack 5 = .ok (.iconst 0, 1) := by decide +kernel
theorem dX5_goBack_6 : decode cX5_goBack 6 = .ok (.invokevirtual 75, 3) := by decide +kernel
theorem dX5_goBack_9 : decode cX5_goBack 9 = .ok (.ireturn, 1) := by decide +kernel
theorem dX5_stopReading_0 : decode cX5_stopReading 0 = .ok (.aload_n 0, 1) := by decide +kernel
theorem dX5_stopReading_1 : decode cX5_stopReading 1 = .ok (.bipush 113, 2) := by decide +kernel
theorem dX5_stopReading_3 : decode cX5_stopReading 3 = .ok (.iload_n 1, 1) := by decide +kernel
theorem dX5_stopReading_4 : decode cX5_stopReading 4 = .ok (.iconst 0, 1) := by decide +kernel
theorem dX5_stopReading_5 : decode cX5_stopReading 5 = .ok (.iconst 0, 1) := by decide +kernel
theorem dX5_stopReading_6 : decode cX5_stopReading 6 = .ok (.invokevirtual 75, 3) := by decide +kernel
theorem dX5_stopReading_9 : decode cX5_stopReading 9 = .ok (.ireturn, 1) := by decide +kernel
theorem dX5_undo_0 : decode cX5_undo 0 = .ok (.aload_n 0, 1) := by decide +kernel
theorem dX5_undo_1 : decode cX5_undo 1 = .ok (.getfield 26, 3) := by decide +kernel
theorem dX5_undo_4 : decode cX5_undo 4 = .ok (.getfield 79, 3) := by decide +kernel
theorem dX5_undo_7 : decode cX5_undo 7 = .ok (.ifCond .ne 13, 3) := by decide +kernel
theorem dX5_undo_10 : decode cX5_undo 10 = .ok (.new 49, 3) := by decide +kernel
theorem dX5_undo_13 : decode cX5_undo 13 = .ok (.dup, 1) := by decide +kernel
theorem dX5_undo_14 : decode cX5_undo 14 = .ok (.ldc 82, 2) := by decide +kernel
theorem dX5_undo_16 : decode cX5_undo 16 = .ok (.invokespecial 53, 3) := by decide +kernel
theorem dX5_undo_19 : decode cX5_undo 19 = .ok (.athrow, 1) := by decide +kernel
theorem dX5_undo_20 : decode cX5_undo 20 = .ok (.aload_n 0, 1) := by decide +kernel
theorem dX5_undo_21 : decode cX5_undo 21 = .ok (.getfield 26, 3) := by decide +kernel
theorem dX5_undo_24 : decode cX5_undo 24 = .ok (.aload_n 0, 1) := by decide +kernel
theorem dX5_undo_25 : decode cX5_undo 25 = .ok (.getfield 19, 3) := by decide +kernel
theorem dX5_undo_28 : decode cX5_undo 28 = .ok (.invokevirtual 84, 3) := by decide +kernel
theorem dX5_undo_31 : decode cX5_undo 31 = .ok (.aload_n 0, 1) := by decide +kernel
theorem dX5_undo_32 : decode cX5_undo 32 = .ok (.getfield 26, 3) := by decide +kernel
theorem dX5_undo_35 : decode cX5_undo 35 = .ok (.getfield 79, 3) := by decide +kernel
theorem dX5_undo_38 : decode cX5_undo 38 = .ok (.ireturn, 1) := by decide +kernel
theorem dX5_lists_0 : decode cX5_lists 0 = .ok (.aload_n 0, 1) := by decide +kernel
theorem dX5_lists_1 : decode cX5_lists 1 = .ok (.getfield 19, 3) := by decide +kernel
theorem dX5_lists_4 : decode cX5_lists 4 = .ok (.getfield 88, 3) := by decide +kernel
theorem dX5_lists_7 : decode cX5_lists 7 = .ok (.getfield 92, 3) := by decide +kernel
theorem dX5_lists_10 : decode cX5_lists 10 = .ok (.ireturn, 1) := by decide +kernel
theorem dX5_isMember_0 : decode cX5_isMember 0 = .ok (.aload_n 0, 1) := by decide +kernel
theorem dX5_isMember_1 : decode cX5_isMember 1 = .ok (.iload_n 1, 1) := by decide +kernel
theorem dX5_isMember_2 : decode cX5_isMember 2 = .ok (.invokevirtual 95, 3) := by decide +kernel
theorem dX5_isMember_5 : decode cX5_isMember 5 = .ok (.iload_n 2, 1) := by decide +kernel
theorem dX5_isMember_6 : decode cX5_isMember 6 = .ok (.iconst 0, 1) := by decide +kernel
theorem dX5_isMember_7 : decode cX5_isMember 7 = .ok (.sipush 999, 3) := by decide +kernel
theorem dX5_isMember_10 : decode cX5_isMember 10 = .ok (.invokestatic 41, 3) := by decide +kernel
theorem dX5_isMember_13 : decode cX5_isMember 13 = .ok (.aload_n 0, 1) := by decide +kernel
theorem dX5_isMember_14 : decode cX5_isMember 14 = .ok (.getfield 19, 3) := by decide +kernel
theorem dX5_isMember_17 : decode cX5_isMember 17 = .ok (.getfield 88, 3) := by decide +kernel
theorem dX5_isMember_20 : decode cX5_isMember 20 = .ok (.iload_n 1, 1) := by decide +kernel
theorem dX5_isMember_21 : decode cX5_isMember 21 = .ok (.iload_n 2, 1) := by decide +kernel
theorem dX5_isMember_22 : decode cX5_isMember 22 = .ok (.invokevirtual 99, 3) := by decide +kernel
theorem dX5_isMember_25 : decode cX5_isMember 25 = .ok (.ireturn, 1) := by decide +kernel
theorem dX5_memberByReading_0 : decode cX5_memberByReading 0 = .ok (.aload_n 0, 1) := by decide +kernel
theorem dX5_memberByReading_1 : decode cX5_memberByReading 1 = .ok (.iload_n 1, 1) := by decide +kernel
theorem dX5_memberByReading_2 : decode cX5_memberByReading 2 = .ok (.invokevirtual 95, 3) := by decide +kernel
theorem dX5_memberByReading_5 : decode cX5_memberByReading 5 = .ok (.iload_n 2, 1) := by decide +kernel
theorem dX5_memberByReading_6 : decode cX5_memberByReading 6 = .ok (.invokestatic 103, 3) := by decide +kernel
theorem dX5_memberByReading_9 : decode cX5_memberByReading 9 = .ok (.aload_n 0, 1) := by decide +kernel
theorem dX5_memberByReading_10 : decode cX5_memberByReading 10 = .ok (.getfield 19, 3) := by decide +kernel
theorem dX5_memberByReading_13 : decode cX5_memberByReading 13 = .ok (.getfield 88, 3) := by decide +kernel
theorem dX5_memberByReading_16 : decode cX5_memberByReading 16 = .ok (.iload_n 1, 1) := by decide +kernel
theorem dX5_memberByReading_17 : decode cX5_memberByReading 17 = .ok (.iload_n 2, 1) := by decide +kernel
theorem dX5_memberByReading_18 : decode cX5_memberByReading 18 = .ok (.invokevirtual 106, 3) := by decide +kernel
theorem dX5_memberByReading_21 : decode cX5_memberByReading 21 = .ok (.ireturn, 1) := by decide +kernel
theorem dX5_memberByTesting_0 : decode cX5_memberByTesting 0 = .ok (.aload_n 0, 1) := by decide +kernel
theorem dX5_memberByTesting_1 : decode cX5_memberByTesting 1 = .ok (.iload_n 1, 1) := by decide +kernel
theorem dX5_memberByTesting_2 : decode cX5_memberByTesting 2 = .ok (.invokevirtual 95, 3) := by decide +kernel
theorem dX5_memberByTesting_5 : decode cX5_memberByTesting 5 = .ok (.iload_n 2, 1) := by decide +kernel
theorem dX5_memberByTesting_6 : decode cX5_memberByTesting 6 = .ok (.invokestatic 103, 3) := by decide +kernel
theorem dX5_memberByTesting_9 : decode cX5_memberByTesting 9 = .ok (.aload_n 0, 1) := by decide +kernel
theorem dX5_memberByTesting_10 : decode cX5_memberByTesting 10 = .ok (.getfield 19, 3) := by decide +kernel
theorem dX5_memberByTesting_13 : decode cX5_memberByTesting 13 = .ok (.getfield 88, 3) := by decide +kernel
theorem dX5_memberByTesting_16 : decode cX5_memberByTesting 16 = .ok (.iload_n 1, 1) := by decide +kernel
theorem dX5_memberByTesting_17 : decode cX5_memberByTesting 17 = .ok (.iload_n 2, 1) := by decide +kernel
theorem dX5_memberByTesting_18 : decode cX5_memberByTesting 18 = .ok (.invokevirtual 110, 3) := by decide +kernel
theorem dX5_memberByTesting_21 : decode cX5_memberByTesting 21 = .ok (.ireturn, 1) := by decide +kernel
theorem dX5_placeOf_0 : decode cX5_placeOf 0 = .ok (.aload_n 0, 1) := by decide +kernel
theorem dX5_placeOf_1 : decode cX5_placeOf 1 = .ok (.iload_n 1, 1) := by decide +kernel
theorem dX5_placeOf_2 : decode cX5_placeOf 2 = .ok (.invokevirtual 95, 3) := by decide +kernel
theorem dX5_placeOf_5 : decode cX5_placeOf 5 = .ok (.iload_n 2, 1) := by decide +kernel
theorem dX5_placeOf_6 : decode cX5_placeOf 6 = .ok (.iconst 0, 1) := by decide +kernel
theorem dX5_placeOf_7 : decode cX5_placeOf 7 = .ok (.sipush 999, 3) := by decide +kernel
theorem dX5_placeOf_10 : decode cX5_placeOf 10 = .ok (.invokestatic 41, 3) := by decide +kernel
theorem dX5_placeOf_13 : decode cX5_placeOf 13 = .ok (.aload_n 0, 1) := by decide +kernel
theorem dX5_placeOf_14 : decode cX5_placeOf 14 = .ok (.getfield 19, 3) := by decide +kernel
theorem dX5_placeOf_17 : decode cX5_placeOf 17 = .ok (.getfield 88, 3) := by decide +kernel
theorem dX5_placeOf_20 : decode cX5_placeOf 20 = .ok (.iload_n 1, 1) := by decide +kernel
theorem dX5_placeOf_21 : decode cX5_placeOf 21 = .ok (.iload_n 2, 1) := by decide +kernel
theorem dX5_placeOf_22 : decode cX5_placeOf 22 = .ok (.invokevirtual 99, 3) := by decide +kernel
theorem dX5_placeOf_25 : decode cX5_placeOf 25 = .ok (.ifCond .eq 20, 3) := by decide +kernel
theorem dX5_placeOf_28 : decode cX5_placeOf 28 = .ok (.aload_n 0, 1) := by decide +kernel
theorem dX5_placeOf_29 : decode cX5_placeOf 29 = .ok (.getfield 19, 3) := by decide +kernel
theorem dX5_placeOf_32 : decode cX5_placeOf 32 = .ok (.getfield 88, 3) := by decide +kernel
theorem dX5_placeOf_35 : decode cX5_placeOf 35 = .ok (.iload_n 1, 1) := by decide +kernel
theorem dX5_placeOf_36 : decode cX5_placeOf 36 = .ok (.iload_n 2, 1) := by decide +kernel
theorem dX5_placeOf_37 : decode cX5_placeOf 37 = .ok (.invokevirtual 113, 3) := by decide +kernel
theorem dX5_placeOf_40 : decode cX5_placeOf 40 = .ok (.iconst 1, 1) := by decide +kernel
theorem dX5_placeOf_41 : decode cX5_placeOf 41 = .ok (.isub, 1) := by decide +kernel
theorem dX5_placeOf_42 : decode cX5_placeOf 42 = .ok (.goto 4, 3) := by decide +kernel
theorem dX5_placeOf_45 : decode cX5_placeOf 45 = .ok (.iconst (-1), 1) := by decide +kernel
theorem dX5_placeOf_46 : decode cX5_placeOf 46 = .ok (.ireturn, 1) := by decide +kernel
theorem dX5_membersUpTo_0 : decode cX5_membersUpTo 0 = .ok (.aload_n 0, 1) := by decide +kernel
theorem dX5_membersUpTo_1 : decode cX5_membersUpTo 1 = .ok (.iload_n 1, 1) := by decide +kernel
theorem dX5_membersUpTo_2 : decode cX5_membersUpTo 2 = .ok (.invokevirtual 95, 3) := by decide +kernel
theorem dX5_membersUpTo_5 : decode cX5_membersUpTo 5 = .ok (.iload_n 2, 1) := by decide +kernel
theorem dX5_membersUpTo_6 : decode cX5_membersUpTo 6 = .ok (.iconst 0, 1) := by decide +kernel
theorem dX5_membersUpTo_7 : decode cX5_membersUpTo 7 = .ok (.sipush 999, 3) := by decide +kernel
theorem dX5_membersUpTo_10 : decode cX5_membersUpTo 10 = .ok (.invokestatic 41, 3) := by decide +kernel
theorem dX5_membersUpTo_13 : decode cX5_membersUpTo 13 = .ok (.aload_n 0, 1) := by decide +kernel
theorem dX5_membersUpTo_14 : decode cX5_membersUpTo 14 = .ok (.getfield 19, 3) := by decide +kernel
theorem dX5_membersUpTo_17 : decode cX5_membersUpTo 17 = .ok (.getfield 88, 3) := by decide +kernel
theorem dX5_membersUpTo_20 : decode cX5_membersUpTo 20 = .ok (.iload_n 1, 1) := by decide +kernel
theorem dX5_membersUpTo_21 : decode cX5_membersUpTo 21 = .ok (.iload_n 2, 1) := by decide +kernel
theorem dX5_membersUpTo_22 : decode cX5_membersUpTo 22 = .ok (.invokevirtual 113, 3) := by decide +kernel
theorem dX5_membersUpTo_25 : decode cX5_membersUpTo 25 = .ok (.ireturn, 1) := by decide +kernel
theorem dX5_lastMember_0 : decode cX5_lastMember 0 = .ok (.aload_n 0, 1) := by decide +kernel
theorem dX5_lastMember_1 : decode cX5_lastMember 1 = .ok (.iload_n 1, 1) := by decide +kernel
theorem dX5_lastMember_2 : decode cX5_lastMember 2 = .ok (.invokevirtual 95, 3) := by decide +kernel
theorem dX5_lastMember_5 : decode cX5_lastMember 5 = .ok (.aload_n 0, 1) := by decide +kernel
theorem dX5_lastMember_6 : decode cX5_lastMember 6 = .ok (.getfield 19, 3) := by decide +kernel
theorem dX5_lastMember_9 : decode cX5_lastMember 9 = .ok (.getfield 88, 3) := by decide +kernel
theorem dX5_lastMember_12 : decode cX5_lastMember 12 = .ok (.iload_n 1, 1) := by decide +kernel
theorem dX5_lastMember_13 : decode cX5_lastMember 13 = .ok (.invokevirtual 116, 3) := by decide +kernel
theorem dX5_lastMember_16 : decode cX5_lastMember 16 = .ok (.ireturn, 1) := by decide +kernel
theorem dX5_firstShared_0 : decode cX5_firstShared 0 = .ok (.aload_n 0, 1) := by decide +kernel
theorem dX5_firstShared_1 : decode cX5_firstShared 1 = .ok (.iload_n 1, 1) := by decide +kernel
theorem dX5_firstShared_2 : decode cX5_firstShared 2 = .ok (.invokevirtual 95, 3) := by decide +kernel
theorem dX5_firstShared_5 : decode cX5_firstShared 5 = .ok (.aload_n 0, 1) := by decide +kernel
theorem dX5_firstShared_6 : decode cX5_firstShared 6 = .ok (.iload_n 2, 1) := by decide +kernel
theorem dX5_firstShared_7 : decode cX5_firstShared 7 = .ok (.invokevirtual 95, 3) := by decide +kernel
theorem dX5_firstShared_10 : decode cX5_firstShared 10 = .ok (.aload_n 0, 1) := by decide +kernel
theorem dX5_firstShared_11 : decode cX5_firstShared 11 = .ok (.getfield 19, 3) := by decide +kernel
theorem dX5_firstShared_14 : decode cX5_firstShared 14 = .ok (.getfield 88, 3) := by decide +kernel
theorem dX5_firstShared_17 : decode cX5_firstShared 17 = .ok (.iload_n 1, 1) := by decide +kernel
theorem dX5_firstShared_18 : decode cX5_firstShared 18 = .ok (.iload_n 2, 1) := by decide +kernel
theorem dX5_firstShared_19 : decode cX5_firstShared 19 = .ok (.invokevirtual 120, 3) := by decide +kernel
theorem dX5_firstShared_22 : decode cX5_firstShared 22 = .ok (.ireturn, 1) := by decide +kernel
theorem dX5_widestGap_0 : decode cX5_widestGap 0 = .ok (.aload_n 0, 1) := by decide +kernel
theorem dX5_widestGap_1 : decode cX5_widestGap 1 = .ok (.iload_n 1, 1) := by decide +kernel
theorem dX5_widestGap_2 : decode cX5_widestGap 2 = .ok (.invokevirtual 95, 3) := by decide +kernel
theorem dX5_widestGap_5 : decode cX5_widestGap 5 = .ok (.aload_n 0, 1) := by decide +kernel
theorem dX5_widestGap_6 : decode cX5_widestGap 6 = .ok (.getfield 19, 3) := by decide +kernel
theorem dX5_widestGap_9 : decode cX5_widestGap 9 = .ok (.getfield 88, 3) := by decide +kernel
theorem dX5_widestGap_12 : decode cX5_widestGap 12 = .ok (.iload_n 1, 1) := by decide +kernel
theorem dX5_widestGap_13 : decode cX5_widestGap 13 = .ok (.invokevirtual 123, 3) := by decide +kernel
theorem dX5_widestGap_16 : decode cX5_widestGap 16 = .ok (.ireturn, 1) := by decide +kernel
theorem dX5_readers_0 : decode cX5_readers 0 = .ok (.aload_n 0, 1) := by decide +kernel
theorem dX5_readers_1 : decode cX5_readers 1 = .ok (.getfield 19, 3) := by decide +kernel
theorem dX5_readers_4 : decode cX5_readers 4 = .ok (.getfield 126, 3) := by decide +kernel
theorem dX5_readers_7 : decode cX5_readers 7 = .ok (.getfield 130, 3) := by decide +kernel
theorem dX5_readers_10 : decode cX5_readers 10 = .ok (.ireturn, 1) := by decide +kernel
theorem dX5_listOf_0 : decode cX5_listOf 0 = .ok (.aload_n 0, 1) := by decide +kernel
theorem dX5_listOf_1 : decode cX5_listOf 1 = .ok (.iload_n 1, 1) := by decide +kernel
theorem dX5_listOf_2 : decode cX5_listOf 2 = .ok (.invokevirtual 133, 3) := by decide +kernel
theorem dX5_listOf_5 : decode cX5_listOf 5 = .ok (.aload_n 0, 1) := by decide +kernel
theorem dX5_listOf_6 : decode cX5_listOf 6 = .ok (.getfield 19, 3) := by decide +kernel
theorem dX5_listOf_9 : decode cX5_listOf 9 = .ok (.getfield 126, 3) := by decide +kernel
theorem dX5_listOf_12 : decode cX5_listOf 12 = .ok (.getfield 136, 3) := by decide +kernel
theorem dX5_listOf_15 : decode cX5_listOf 15 = .ok (.iload_n 1, 1) := by decide +kernel
theorem dX5_listOf_16 : decode cX5_listOf 16 = .ok (.iaload, 1) := by decide +kernel
theorem dX5_listOf_17 : decode cX5_listOf 17 = .ok (.ireturn, 1) := by decide +kernel
theorem dX5_readSoFar_0 : decode cX5_readSoFar 0 = .ok (.aload_n 0, 1) := by decide +kernel
theorem dX5_readSoFar_1 : decode cX5_readSoFar 1 = .ok (.iload_n 1, 1) := by decide +kernel
theorem dX5_readSoFar_2 : decode cX5_readSoFar 2 = .ok (.invokevirtual 133, 3) := by decide +kernel
theorem dX5_readSoFar_5 : decode cX5_readSoFar 5 = .ok (.aload_n 0, 1) := by decide +kernel
theorem dX5_readSoFar_6 : decode cX5_readSoFar 6 = .ok (.getfield 19, 3) := by decide +kernel
theorem dX5_readSoFar_9 : decode cX5_readSoFar 9 = .ok (.getfield 126, 3) := by decide +kernel
theorem dX5_readSoFar_12 : decode cX5_readSoFar 12 = .ok (.getfield 140, 3) := by decide +kernel
theorem dX5_readSoFar_15 : decode cX5_readSoFar 15 = .ok (.iload_n 1, 1) := by decide +kernel
theorem dX5_readSoFar_16 : decode cX5_readSoFar 16 = .ok (.iaload, 1) := by decide +kernel
theorem dX5_readSoFar_17 : decode cX5_readSoFar 17 = .ok (.ireturn, 1) := by decide +kernel
theorem dX5_nextOf_0 : decode cX5_nextOf 0 = .ok (.aload_n 0, 1) := by decide +kernel
theorem dX5_nextOf_1 : decode cX5_nextOf 1 = .ok (.iload_n 1, 1) := by decide +kernel
theorem dX5_nextOf_2 : decode cX5_nextOf 2 = .ok (.invokevirtual 133, 3) := by decide +kernel
theorem dX5_nextOf_5 : decode cX5_nextOf 5 = .ok (.aload_n 0, 1) := by decide +kernel
theorem dX5_nextOf_6 : decode cX5_nextOf 6 = .ok (.getfield 19, 3) := by decide +kernel
theorem dX5_nextOf_9 : decode cX5_nextOf 9 = .ok (.iload_n 1, 1) := by decide +kernel
theorem dX5_nextOf_10 : decode cX5_nextOf 10 = .ok (.invokevirtual 143, 3) := by decide +kernel
theorem dX5_nextOf_13 : decode cX5_nextOf 13 = .ok (.ireturn, 1) := by decide +kernel
theorem dX5_readings_0 : decode cX5_readings 0 = .ok (.aload_n 0, 1) := by decide +kernel
theorem dX5_readings_1 : decode cX5_readings 1 = .ok (.getfield 19, 3) := by decide +kernel
theorem dX5_readings_4 : decode cX5_readings 4 = .ok (.getfield 126, 3) := by decide +kernel
theorem dX5_readings_7 : decode cX5_readings 7 = .ok (.getfield 146, 3) := by decide +kernel
theorem dX5_readings_10 : decode cX5_readings 10 = .ok (.ireturn, 1) := by decide +kernel
theorem dX5_leastNext_0 : decode cX5_leastNext 0 = .ok (.aload_n 0, 1) := by decide +kernel
theorem dX5_leastNext_1 : decode cX5_leastNext 1 = .ok (.getfield 19, 3) := by decide +kernel
theorem dX5_leastNext_4 : decode cX5_leastNext 4 = .ok (.invokevirtual 149, 3) := by decide +kernel
theorem dX5_leastNext_7 : decode cX5_leastNext 7 = .ok (.ireturn, 1) := by decide +kernel
theorem dX5_firstOfPairByWalking_0 : decode cX5_firstOfPairByWalking 0 = .ok (.iload_n 1, 1) := by decide +kernel
theorem dX5_firstOfPairByWalking_1 : decode cX5_firstOfPairByWalking 1 = .ok (.iconst 0, 1) := by decide +kernel
theorem dX5_firstOfPairByWalking_2 : decode cX5_firstOfPairByWalking 2 = .ok (.ldc 152, 2) := by decide +kernel
theorem dX5_firstOfPairByWalking_4 : decode cX5_firstOfPairByWalking 4 = .ok (.invokestatic 41, 3) := by decide +kernel
theorem dX5_firstOfPairByWalking_7 : decode cX5_firstOfPairByWalking 7 = .ok (.iload_n 1, 1) := by decide +kernel
theorem dX5_firstOfPairByWalking_8 : decode cX5_firstOfPairByWalking 8 = .ok (.istore_n 2, 1) := by decide +kernel
theorem dX5_firstOfPairByWalking_9 : decode cX5_firstOfPairByWalking 9 = .ok (.iconst 0, 1) := by decide +kernel
theorem dX5_firstOfPairByWalking_10 : decode cX5_firstOfPairByWalking 10 = .ok (.istore_n 3, 1) := by decide +kernel
theorem dX5_firstOfPairByWalking_11 : decode cX5_firstOfPairByWalking 11 = .ok (.iload_n 3, 1) := by decide +kernel
theorem dX5_firstOfPairByWalking_12 : decode cX5_firstOfPairByWalking 12 = .ok (.sipush 447, 3) := by decide +kernel
theorem dX5_firstOfPairByWalking_15 : decode cX5_firstOfPairByWalking 15 = .ok (.if_icmp .ge 20, 3) := by decide +kernel
theorem dX5_firstOfPairByWalking_18 : decode cX5_firstOfPairByWalking 18 = .ok (.iload_n 2, 1) := by decide +kernel
theorem dX5_firstOfPairByWalking_19 : decode cX5_firstOfPairByWalking 19 = .ok (.iload_n 3, 1) := by decide +kernel
theorem dX5_firstOfPairByWalking_20 : decode cX5_firstOfPairByWalking 20 = .ok (.if_icmp .le 15, 3) := by decide +kernel
theorem dX5_firstOfPairByWalking_23 : decode cX5_firstOfPairByWalking 23 = .ok (.iload_n 2, 1) := by decide +kernel
theorem dX5_firstOfPairByWalking_24 : decode cX5_firstOfPairByWalking 24 = .ok (.iload_n 3, 1) := by decide +kernel
theorem dX5_firstOfPairByWalking_25 : decode cX5_firstOfPairByWalking 25 = .ok (.iconst 1, 1) := by decide +kernel
theorem dX5_firstOfPairByWalking_26 : decode cX5_firstOfPairByWalking 26 = .ok (.iadd, 1) := by decide +kernel
theorem dX5_firstOfPairByWalking_27 : decode cX5_firstOfPairByWalking 27 = .ok (.isub, 1) := by decide +kernel
theorem dX5_firstOfPairByWalking_28 : decode cX5_firstOfPairByWalking 28 = .ok (.istore_n 2, 1) := by decide +kernel
theorem dX5_firstOfPairByWalking_29 : decode cX5_firstOfPairByWalking 29 = .ok (.iinc 3 1, 3) := by decide +kernel
theorem dX5_firstOfPairByWalking_32 : decode cX5_firstOfPairByWalking 32 = .ok (.goto (-21), 3) := by decide +kernel
theorem dX5_firstOfPairByWalking_35 : decode cX5_firstOfPairByWalking 35 = .ok (.iload_n 2, 1) := by decide +kernel
theorem dX5_firstOfPairByWalking_36 : decode cX5_firstOfPairByWalking 36 = .ok (.ireturn, 1) := by decide +kernel
theorem dX5_firstOfPairByCounting_0 : decode cX5_firstOfPairByCounting 0 = .ok (.iload_n 1, 1) := by decide +kernel
theorem dX5_firstOfPairByCounting_1 : decode cX5_firstOfPairByCounting 1 = .ok (.iconst 0, 1) := by decide +kernel
theorem dX5_firstOfPairByCounting_2 : decode cX5_firstOfPairByCounting 2 = .ok (.ldc 152, 2) := by decide +kernel
theorem dX5_firstOfPairByCounting_4 : decode cX5_firstOfPairByCounting 4 = .ok (.invokestatic 41, 3) := by decide +kernel
theorem dX5_firstOfPairByCounting_7 : decode cX5_firstOfPairByCounting 7 = .ok (.iconst 0, 1) := by decide +kernel
theorem dX5_firstOfPairByCounting_8 : decode cX5_firstOfPairByCounting 8 = .ok (.istore_n 2, 1) := by decide +kernel
theorem dX5_firstOfPairByCounting_9 : decode cX5_firstOfPairByCounting 9 = .ok (.bipush 8, 2) := by decide +kernel
theorem dX5_firstOfPairByCounting_11 : decode cX5_firstOfPairByCounting 11 = .ok (.istore_n 3, 1) := by decide +kernel
theorem dX5_firstOfPairByCounting_12 : decode cX5_firstOfPairByCounting 12 = .ok (.iload_n 3, 1) := by decide +kernel
theorem dX5_firstOfPairByCounting_13 : decode cX5_firstOfPairByCounting 13 = .ok (.ifCond .lt 28, 3) := by decide +kernel
theorem dX5_firstOfPairByCounting_16 : decode cX5_firstOfPairByCounting 16 = .ok (.iload_n 2, 1) := by decide +kernel
theorem dX5_firstOfPairByCounting_17 : decode cX5_firstOfPairByCounting 17 = .ok (.iconst 1, 1) := by decide +kernel
theorem dX5_firstOfPairByCounting_18 : decode cX5_firstOfPairByCounting 18 = .ok (.iload_n 3, 1) := by decide +kernel
theorem dX5_firstOfPairByCounting_19 : decode cX5_firstOfPairByCounting 19 = .ok (.ishl, 1) := by decide +kernel
theorem dX5_firstOfPairByCounting_20 : decode cX5_firstOfPairByCounting 20 = .ok (.iadd, 1) := by decide +kernel
theorem dX5_firstOfPairByCounting_21 : decode cX5_firstOfPairByCounting 21 = .ok (.istore 4, 2) := by decide +kernel
theorem dX5_firstOfPairByCounting_23 : decode cX5_firstOfPairByCounting 23 = .ok (.iload 4, 2) := by decide +kernel
theorem dX5_firstOfPairByCounting_25 : decode cX5_firstOfPairByCounting 25 = .ok (.invokestatic 153, 3) := by decide +kernel
theorem dX5_firstOfPairByCounting_28 : decode cX5_firstOfPairByCounting 28 = .ok (.iload_n 1, 1) := by decide +kernel
theorem dX5_firstOfPairByCounting_29 : decode cX5_firstOfPairByCounting 29 = .ok (.if_icmp .gt 6, 3) := by decide +kernel
theorem dX5_firstOfPairByCounting_32 : decode cX5_firstOfPairByCounting 32 = .ok (.iload 4, 2) := by decide +kernel
theorem dX5_firstOfPairByCounting_34 : decode cX5_firstOfPairByCounting 34 = .ok (.istore_n 2, 1) := by decide +kernel
theorem dX5_firstOfPairByCounting_35 : decode cX5_firstOfPairByCounting 35 = .ok (.iinc 3 (-1), 3) := by decide +kernel
theorem dX5_firstOfPairByCounting_38 : decode cX5_firstOfPairByCounting 38 = .ok (.goto (-26), 3) := by decide +kernel
theorem dX5_firstOfPairByCounting_41 : decode cX5_firstOfPairByCounting 41 = .ok (.iload_n 1, 1) := by decide +kernel
theorem dX5_firstOfPairByCounting_42 : decode cX5_firstOfPairByCounting 42 = .ok (.iload_n 2, 1) := by decide +kernel
theorem dX5_firstOfPairByCounting_43 : decode cX5_firstOfPairByCounting 43 = .ok (.invokestatic 153, 3) := by decide +kernel
theorem dX5_firstOfPairByCounting_46 : decode cX5_firstOfPairByCounting 46 = .ok (.isub, 1) := by decide +kernel
theorem dX5_firstOfPairByCounting_47 : decode cX5_firstOfPairByCounting 47 = .ok (.ireturn, 1) := by decide +kernel
theorem dX5_numberOfPair_0 : decode cX5_numberOfPair 0 = .ok (.iload_n 1, 1) := by decide +kernel
theorem dX5_numberOfPair_1 : decode cX5_numberOfPair 1 = .ok (.iconst 0, 1) := by decide +kernel
theorem dX5_numberOfPair_2 : decode cX5_numberOfPair 2 = .ok (.sipush 200, 3) := by decide +kernel
theorem dX5_numberOfPair_5 : decode cX5_numberOfPair 5 = .ok (.invokestatic 41, 3) := by decide +kernel
theorem dX5_numberOfPair_8 : decode cX5_numberOfPair 8 = .ok (.iload_n 2, 1) := by decide +kernel
theorem dX5_numberOfPair_9 : decode cX5_numberOfPair 9 = .ok (.iconst 0, 1) := by decide +kernel
theorem dX5_numberOfPair_10 : decode cX5_numberOfPair 10 = .ok (.sipush 200, 3) := by decide +kernel
theorem dX5_numberOfPair_13 : decode cX5_numberOfPair 13 = .ok (.invokestatic 41, 3) := by decide +kernel
theorem dX5_numberOfPair_16 : decode cX5_numberOfPair 16 = .ok (.iload_n 1, 1) := by decide +kernel
theorem dX5_numberOfPair_17 : decode cX5_numberOfPair 17 = .ok (.iload_n 2, 1) := by decide +kernel
theorem dX5_numberOfPair_18 : decode cX5_numberOfPair 18 = .ok (.iadd, 1) := by decide +kernel
theorem dX5_numberOfPair_19 : decode cX5_numberOfPair 19 = .ok (.invokestatic 153, 3) := by decide +kernel
theorem dX5_numberOfPair_22 : decode cX5_numberOfPair 22 = .ok (.iload_n 1, 1) := by decide +kernel
theorem dX5_numberOfPair_23 : decode cX5_numberOfPair 23 = .ok (.iadd, 1) := by decide +kernel
theorem dX5_numberOfPair_24 : decode cX5_numberOfPair 24 = .ok (.ireturn, 1) := by decide +kernel
theorem dX5_whyNoDrop_0 : decode cX5_whyNoDrop 0 = .ok (.aload_n 0, 1) := by decide +kernel
theorem dX5_whyNoDrop_1 : decode cX5_whyNoDrop 1 = .ok (.getfield 19, 3) := by decide +kernel
theorem dX5_whyNoDrop_4 : decode cX5_whyNoDrop 4 = .ok (.invokevirtual 156, 3) := by decide +kernel
theorem dX5_whyNoDrop_7 : decode cX5_whyNoDrop 7 = .ok (.ireturn, 1) := by decide +kernel
theorem dX5_membersIfJoined_0 : decode cX5_membersIfJoined 0 = .ok (.aload_n 0, 1) := by decide +kernel
theorem dX5_membersIfJoined_1 : decode cX5_membersIfJoined 1 = .ok (.iload_n 1, 1) := by decide +kernel
theorem dX5_membersIfJoined_2 : decode cX5_membersIfJoined 2 = .ok (.invokevirtual 95, 3) := by decide +kernel
theorem dX5_membersIfJoined_5 : decode cX5_membersIfJoined 5 = .ok (.aload_n 0, 1) := by decide +kernel
theorem dX5_membersIfJoined_6 : decode cX5_membersIfJoined 6 = .ok (.iload_n 2, 1) := by decide +kernel
theorem dX5_membersIfJoined_7 : decode cX5_membersIfJoined 7 = .ok (.invokevirtual 95, 3) := by decide +kernel
theorem dX5_membersIfJoined_10 : decode cX5_membersIfJoined 10 = .ok (.aload_n 0, 1) := by decide +kernel
theorem dX5_membersIfJoined_11 : decode cX5_membersIfJoined 11 = .ok (.getfield 19, 3) := by decide +kernel
theorem dX5_membersIfJoined_14 : decode cX5_membersIfJoined 14 = .ok (.getfield 88, 3) := by decide +kernel
theorem dX5_membersIfJoined_17 : decode cX5_membersIfJoined 17 = .ok (.iload_n 1, 1) := by decide +kernel
theorem dX5_membersIfJoined_18 : decode cX5_membersIfJoined 18 = .ok (.iload_n 2, 1) := by decide +kernel
theorem dX5_membersIfJoined_19 : decode cX5_membersIfJoined 19 = .ok (.invokevirtual 159, 3) := by decide +kernel
theorem dX5_membersIfJoined_22 : decode cX5_membersIfJoined 22 = .ok (.ireturn, 1) := by decide +kernel
theorem dX5_skipsTo_0 : decode cX5_skipsTo 0 = .ok (.aload_n 0, 1) := by decide +kernel
theorem dX5_skipsTo_1 : decode cX5_skipsTo 1 = .ok (.iload_n 1, 1) := by decide +kernel
theorem dX5_skipsTo_2 : decode cX5_skipsTo 2 = .ok (.invokevirtual 133, 3) := by decide +kernel
theorem dX5_skipsTo_5 : decode cX5_skipsTo 5 = .ok (.iload_n 2, 1) := by decide +kernel
theorem dX5_skipsTo_6 : decode cX5_skipsTo 6 = .ok (.iconst 0, 1) := by decide +kernel
theorem dX5_skipsTo_7 : decode cX5_skipsTo 7 = .ok (.sipush 999, 3) := by decide +kernel
theorem dX5_skipsTo_10 : decode cX5_skipsTo 10 = .ok (.invokestatic 41, 3) := by decide +kernel
theorem dX5_skipsTo_13 : decode cX5_skipsTo 13 = .ok (.aload_n 0, 1) := by decide +kernel
theorem dX5_skipsTo_14 : decode cX5_skipsTo 14 = .ok (.getfield 19, 3) := by decide +kernel
theorem dX5_skipsTo_17 : decode cX5_skipsTo 17 = .ok (.iload_n 1, 1) := by decide +kernel
theorem dX5_skipsTo_18 : decode cX5_skipsTo 18 = .ok (.iload_n 2, 1) := by decide +kernel
theorem dX5_skipsTo_19 : decode cX5_skipsTo 19 = .ok (.invokevirtual 162, 3) := by decide +kernel
theorem dX5_skipsTo_22 : decode cX5_skipsTo 22 = .ok (.ireturn, 1) := by decide +kernel
theorem dX5_simulate_0 : decode cX5_simulate 0 = .ok (.iload_n 3, 1) := by decide +kernel
theorem dX5_simulate_1 : decode cX5_simulate 1 = .ok (.iconst 1, 1) := by decide +kernel
theorem dX5_simulate_2 : decode cX5_simulate 2 = .ok (.bipush 60, 2) := by decide +kernel
theorem dX5_simulate_4 : decode cX5_simulate 4 = .ok (.invokestatic 41, 3) := by decide +kernel
theorem dX5_simulate_7 : decode cX5_simulate 7 = .ok (.aload_n 0, 1) := by decide +kernel
theorem dX5_simulate_8 : decode cX5_simulate 8 = .ok (.getfield 38, 3) := by decide +kernel
theorem dX5_simulate_11 : decode cX5_simulate 11 = .ok (.aload_n 0, 1) := by decide +kernel
theorem dX5_simulate_12 : decode cX5_simulate 12 = .ok (.getfield 19, 3) := by decide +kernel
theorem dX5_simulate_15 : decode cX5_simulate 15 = .ok (.invokevirtual 165, 3) := by decide +kernel
theorem dX5_simulate_18 : decode cX5_simulate 18 = .ok (.lload_n 1, 1) := by decide +kernel
theorem dX5_simulate_19 : decode cX5_simulate 19 = .ok (.lstore 4, 2) := by decide +kernel
theorem dX5_simulate_21 : decode cX5_simulate 21 = .ok (.iconst 0, 1) := by decide +kernel
theorem dX5_simulate_22 : decode cX5_simulate 22 = .ok (.istore 6, 2) := by decide +kernel
theorem dX5_simulate_24 : decode cX5_simulate 24 = .ok (.iconst 0, 1) := by decide +kernel
theorem dX5_simulate_25 : decode cX5_simulate 25 = .ok (.istore 7, 2) := by decide +kernel
theorem dX5_simulate_27 : decode cX5_simulate 27 = .ok (.iload 7, 2) := by decide +kernel
theorem dX5_simulate_29 : decode cX5_simulate 29 = .ok (.iload_n 3, 1) := by decide +kernel
theorem dX5_simulate_30 : decode cX5_simulate 30 = .ok (.if_icmp .ge 36, 3) := by decide +kernel
theorem dX5_simulate_33 : decode cX5_simulate 33 = .ok (.lload 4, 2) := by decide +kernel
theorem dX5_simulate_35 : decode cX5_simulate 35 = .ok (.ldc2_w 168, 3) := by decide +kernel
theorem dX5_simulate_38 : decode cX5_simulate 38 = .ok (.lmul, 1) := by decide +kernel
theorem dX5_simulate_39 : decode cX5_simulate 39 = .ok (.ldc2_w 170, 3) := by decide +kernel
theorem dX5_simulate_42 : decode cX5_simulate 42 = .ok (.ladd, 1) := by decide +kernel
theorem dX5_simulate_43 : decode cX5_simulate 43 = .ok (.lstore 4, 2) := by decide +kernel
theorem dX5_simulate_45 : decode cX5_simulate 45 = .ok (.iload 6, 2) := by decide +kernel
theorem dX5_simulate_47 : decode cX5_simulate 47 = .ok (.aload_n 0, 1) := by decide +kernel
theorem dX5_simulate_48 : decode cX5_simulate 48 = .ok (.lload 4, 2) := by decide +kernel
theorem dX5_simulate_50 : decode cX5_simulate 50 = .ok (.bipush 33, 2) := by decide +kernel
theorem dX5_simulate_52 : decode cX5_simulate 52 = .ok (.lushr, 1) := by decide +kernel
theorem dX5_simulate_53 : decode cX5_simulate 53 = .ok (.l2i, 1) := by decide +kernel
theorem dX5_simulate_54 : decode cX5_simulate 54 = .ok (.invokevirtual 172, 3) := by decide +kernel
theorem dX5_simulate_57 : decode cX5_simulate 57 = .ok (.iadd, 1) := by decide +kernel
theorem dX5_simulate_58 : decode cX5_simulate 58 = .ok (.istore 6, 2) := by decide +kernel
theorem dX5_simulate_60 : decode cX5_simulate 60 = .ok (.iinc 7 1, 3) := by decide +kernel
theorem dX5_simulate_63 : decode cX5_simulate 63 = .ok (.goto (-36), 3) := by decide +kernel
theorem dX5_simulate_66 : decode cX5_simulate 66 = .ok (.sipush 10000, 3) := by decide +kernel
theorem dX5_simulate_69 : decode cX5_simulate 69 = .ok (.aload_n 0, 1) := by decide +kernel
theorem dX5_simulate_70 : decode cX5_simulate 70 = .ok (.getfield 38, 3) := by decide +kernel
theorem dX5_simulate_73 : decode cX5_simulate 73 = .ok (.getfield 88, 3) := by decide +kernel
theorem dX5_simulate_76 : decode cX5_simulate 76 = .ok (.getfield 92, 3) := by decide +kernel
theorem dX5_simulate_79 : decode cX5_simulate 79 = .ok (.imul, 1) := by decide +kernel
theorem dX5_simulate_80 : decode cX5_simulate 80 = .ok (.iload 6, 2) := by decide +kernel
theorem dX5_simulate_82 : decode cX5_simulate 82 = .ok (.sipush 10000, 3) := by decide +kernel
theorem dX5_simulate_85 : decode cX5_simulate 85 = .ok (.irem, 1) := by decide +kernel
theorem dX5_simulate_86 : decode cX5_simulate 86 = .ok (.iadd, 1) := by decide +kernel
theorem dX5_simulate_87 : decode cX5_simulate 87 = .ok (.ireturn, 1) := by decide +kernel
theorem dX5_save_0 : decode cX5_save 0 = .ok (.iload_n 1, 1) := by decide +kernel
theorem dX5_save_1 : decode cX5_save 1 = .ok (.invokestatic 175, 3) := by decide +kernel
theorem dX5_save_4 : decode cX5_save 4 = .ok (.aload_n 0, 1) := by decide +kernel
theorem dX5_save_5 : decode cX5_save 5 = .ok (.getfield 30, 3) := by decide +kernel
theorem dX5_save_8 : decode cX5_save 8 = .ok (.iload_n 1, 1) := by decide +kernel
theorem dX5_save_9 : decode cX5_save 9 = .ok (.aaload, 1) := by decide +kernel
theorem dX5_save_10 : decode cX5_save 10 = .ok (.aload_n 0, 1) := by decide +kernel
theorem dX5_save_11 : decode cX5_save 11 = .ok (.getfield 19, 3) := by decide +kernel
theorem dX5_save_14 : decode cX5_save 14 = .ok (.invokevirtual 165, 3) := by decide +kernel
theorem dX5_save_17 : decode cX5_save 17 = .ok (.aload_n 0, 1) := by decide +kernel
theorem dX5_save_18 : decode cX5_save 18 = .ok (.getfield 34, 3) := by decide +kernel
theorem dX5_save_21 : decode cX5_save 21 = .ok (.iload_n 1, 1) := by decide +kernel
theorem dX5_save_22 : decode cX5_save 22 = .ok (.iconst 1, 1) := by decide +kernel
theorem dX5_save_23 : decode cX5_save 23 = .ok (.bastore, 1) := by decide +kernel
theorem dX5_save_24 : decode cX5_save 24 = .ok (.aload_n 0, 1) := by decide +kernel
theorem dX5_save_25 : decode cX5_save 25 = .ok (.getfield 19, 3) := by decide +kernel
theorem dX5_save_28 : decode cX5_save 28 = .ok (.getfield 88, 3) := by decide +kernel
theorem dX5_save_31 : decode cX5_save 31 = .ok (.getfield 92, 3) := by decide +kernel
theorem dX5_save_34 : decode cX5_save 34 = .ok (.ireturn, 1) := by decide +kernel
theorem dX5_restore_0 : decode cX5_restore 0 = .ok (.iload_n 1, 1) := by decide +kernel
theorem dX5_restore_1 : decode cX5_restore 1 = .ok (.invokestatic 175, 3) := by decide +kernel
theorem dX5_restore_4 : decode cX5_restore 4 = .ok (.aload_n 0, 1) := by decide +kernel
theorem dX5_restore_5 : decode cX5_restore 5 = .ok (.getfield 34, 3) := by decide +kernel
theorem dX5_restore_8 : decode cX5_restore 8 = .ok (.iload_n 1, 1) := by decide +kernel
theorem dX5_restore_9 : decode cX5_restore 9 = .ok (.baload, 1) := by decide +kernel
theorem dX5_restore_10 : decode cX5_restore 10 = .ok (.ifCond .ne 13, 3) := by decide +kernel
theorem dX5_restore_13 : decode cX5_restore 13 = .ok (.new 49, 3) := by decide +kernel
theorem dX5_restore_16 : decode cX5_restore 16 = .ok (.dup, 1) := by decide +kernel
theorem dX5_restore_17 : decode cX5_restore 17 = .ok (.ldc 178, 2) := by decide +kernel
theorem dX5_restore_19 : decode cX5_restore 19 = .ok (.invokespecial 53, 3) := by decide +kernel
theorem dX5_restore_22 : decode cX5_restore 22 = .ok (.athrow, 1) := by decide +kernel
theorem dX5_restore_23 : decode cX5_restore 23 = .ok (.aload_n 0, 1) := by decide +kernel
theorem dX5_restore_24 : decode cX5_restore 24 = .ok (.getfield 19, 3) := by decide +kernel
theorem dX5_restore_27 : decode cX5_restore 27 = .ok (.aload_n 0, 1) := by decide +kernel
theorem dX5_restore_28 : decode cX5_restore 28 = .ok (.getfield 30, 3) := by decide +kernel
theorem dX5_restore_31 : decode cX5_restore 31 = .ok (.iload_n 1, 1) := by decide +kernel
theorem dX5_restore_32 : decode cX5_restore 32 = .ok (.aaload, 1) := by decide +kernel
theorem dX5_restore_33 : decode cX5_restore 33 = .ok (.invokevirtual 165, 3) := by decide +kernel
theorem dX5_restore_36 : decode cX5_restore 36 = .ok (.aload_n 0, 1) := by decide +kernel
theorem dX5_restore_37 : decode cX5_restore 37 = .ok (.getfield 26, 3) := by decide +kernel
theorem dX5_restore_40 : decode cX5_restore 40 = .ok (.invokevirtual 69, 3) := by decide +kernel
theorem dX5_restore_43 : decode cX5_restore 43 = .ok (.aload_n 0, 1) := by decide +kernel
theorem dX5_restore_44 : decode cX5_restore 44 = .ok (.getfield 19, 3) := by decide +kernel
theorem dX5_restore_47 : decode cX5_restore 47 = .ok (.getfield 88, 3) := by decide +kernel
theorem dX5_restore_50 : decode cX5_restore 50 = .ok (.getfield 92, 3) := by decide +kernel
theorem dX5_restore_53 : decode cX5_restore 53 = .ok (.ireturn, 1) := by decide +kernel
theorem dX5_act_0 : decode cX5_act 0 = .ok (.aload_n 0, 1) := by decide +kernel
theorem dX5_act_1 : decode cX5_act 1 = .ok (.getfield 19, 3) := by decide +kernel
theorem dX5_act_4 : decode cX5_act 4 = .ok (.iload_n 1, 1) := by decide +kernel
theorem dX5_act_5 : decode cX5_act 5 = .ok (.iload_n 2, 1) := by decide +kernel
theorem dX5_act_6 : decode cX5_act 6 = .ok (.iload_n 3, 1) := by decide +kernel
theorem dX5_act_7 : decode cX5_act 7 = .ok (.iload 4, 2) := by decide +kernel
theorem dX5_act_9 : decode cX5_act 9 = .ok (.invokevirtual 180, 3) := by decide +kernel
theorem dX5_act_12 : decode cX5_act 12 = .ok (.invokestatic 183, 3) := by decide +kernel
theorem dX5_act_15 : decode cX5_act 15 = .ok (.aload_n 0, 1) := by decide +kernel
theorem dX5_act_16 : decode cX5_act 16 = .ok (.getfield 26, 3) := by decide +kernel
theorem dX5_act_19 : decode cX5_act 19 = .ok (.aload_n 0, 1) := by decide +kernel
theorem dX5_act_20 : decode cX5_act 20 = .ok (.getfield 19, 3) := by decide +kernel
theorem dX5_act_23 : decode cX5_act 23 = .ok (.invokevirtual 186, 3) := by decide +kernel
theorem dX5_act_26 : decode cX5_act 26 = .ok (.aload_n 0, 1) := by decide +kernel
theorem dX5_act_27 : decode cX5_act 27 = .ok (.getfield 19, 3) := by decide +kernel
theorem dX5_act_30 : decode cX5_act 30 = .ok (.iload_n 1, 1) := by decide +kernel
theorem dX5_act_31 : decode cX5_act 31 = .ok (.iload_n 2, 1) := by decide +kernel
theorem dX5_act_32 : decode cX5_act 32 = .ok (.iload_n 3, 1) := by decide +kernel
theorem dX5_act_33 : decode cX5_act 33 = .ok (.iload 4, 2) := by decide +kernel
theorem dX5_act_35 : decode cX5_act 35 = .ok (.invokevirtual 189, 3) := by decide +kernel
theorem dX5_act_38 : decode cX5_act 38 = .ok (.ireturn, 1) := by decide +kernel
theorem dX5_carryOutText_0 : decode cX5_carryOutText 0 = .ok (.iconst 0, 1) := by decide +kernel
theorem dX5_carryOutText_1 : decode cX5_carryOutText 1 = .ok (.istore_n 1, 1) := by decide +kernel
theorem dX5_carryOutText_2 : decode cX5_carryOutText 2 = .ok (.aload_n 0, 1) := by decide +kernel
theorem dX5_carryOutText_3 : decode cX5_carryOutText 3 = .ok (.getfield 10, 3) := by decide +kernel
theorem dX5_carryOutText_6 : decode cX5_carryOutText 6 = .ok (.invokevirtual 192, 3) := by decide +kernel
theorem dX5_carryOutText_9 : decode cX5_carryOutText 9 = .ok (.iconst 0, 1) := by decide +kernel
theorem dX5_carryOutText_10 : decode cX5_carryOutText 10 = .ok (.istore_n 2, 1) := by decide +kernel
theorem dX5_carryOutText_11 : decode cX5_carryOutText 11 = .ok (.iload_n 2, 1) := by decide +kernel
theorem dX5_carryOutText_12 : decode cX5_carryOutText 12 = .ok (.bipush 120, 2) := by decide +kernel
theorem dX5_carryOutText_14 : decode cX5_carryOutText 14 = .ok (.if_icmp .ge 74, 3) := by decide +kernel
theorem dX5_carryOutText_17 : decode cX5_carryOutText 17 = .ok (.aload_n 0, 1) := by decide +kernel
theorem dX5_carryOutText_18 : decode cX5_carryOutText 18 = .ok (.getfield 10, 3) := by decide +kernel
theorem dX5_carryOutText_21 : decode cX5_carryOutText 21 = .ok (.invokevirtual 195, 3) := by decide +kernel
theorem dX5_carryOutText_24 : decode cX5_carryOutText 24 = .ok (.ifCond .eq 64, 3) := by decide +kernel
theorem dX5_carryOutText_27 : decode cX5_carryOutText 27 = .ok (.aload_n 0, 1) := by decide +kernel
theorem dX5_carryOutText_28 : decode cX5_carryOutText 28 = .ok (.getfield 10, 3) := by decide +kernel
theorem dX5_carryOutText_31 : decode cX5_carryOutText 31 = .ok (.invokevirtual 199, 3) := by decide +kernel
theorem dX5_carryOutText_34 : decode cX5_carryOutText 34 = .ok (.aload_n 0, 1) := by decide +kernel
theorem dX5_carryOutText_35 : decode cX5_carryOutText 35 = .ok (.getfield 19, 3) := by decide +kernel
theorem dX5_carryOutText_38 : decode cX5_carryOutText 38 = .ok (.aload_n 0, 1) := by decide +kernel
theorem dX5_carryOutText_39 : decode cX5_carryOutText 39 = .ok (.getfield 10, 3) := by decide +kernel
theorem dX5_carryOutText_42 : decode cX5_carryOutText 42 = .ok (.getfield 202, 3) := by decide +kernel
theorem dX5_carryOutText_45 : decode cX5_carryOutText 45 = .ok (.aload_n 0, 1) := by decide +kernel
theorem dX5_carryOutText_46 : decode cX5_carryOutText 46 = .ok (.getfield 10, 3) := by decide +kernel
theorem dX5_carryOutText_49 : decode cX5_carryOutText 49 = .ok (.getfield 205, 3) := by decide +kernel
theorem dX5_carryOutText_52 : decode cX5_carryOutText 52 = .ok (.iconst 0, 1) := by decide +kernel
theorem dX5_carryOutText_53 : decode cX5_carryOutText 53 = .ok (.iaload, 1) := by decide +kernel
theorem dX5_carryOutText_54 : decode cX5_carryOutText 54 = .ok (.aload_n 0, 1) := by decide +kernel
theorem dX5_carryOutText_55 : decode cX5_carryOutText 55 = .ok (.getfield 10, 3) := by decide +kernel
theorem dX5_carryOutText_58 : decode cX5_carryOutText 58 = .ok (.getfield 205, 3) := by decide +kernel
theorem dX5_carryOutText_61 : decode cX5_carryOutText 61 = .ok (.iconst 1, 1) := by decide +kernel
theorem dX5_carryOutText_62 : decode cX5_carryOutText 62 = .ok (.iaload, 1) := by decide +kernel
theorem dX5_carryOutText_63 : decode cX5_carryOutText 63 = .ok (.aload_n 0, 1) := by decide +kernel
theorem dX5_carryOutText_64 : decode cX5_carryOutText 64 = .ok (.getfield 10, 3) := by decide +kernel
theorem dX5_carryOutText_67 : decode cX5_carryOutText 67 = .ok (.getfield 205, 3) := by decide +kernel
theorem dX5_carryOutText_70 : decode cX5_carryOutText 70 = .ok (.iconst 2, 1) := by decide +kernel
theorem dX5_carryOutText_71 : decode cX5_carryOutText 71 = .ok (.iaload, 1) := by decide +kernel
theorem dX5_carryOutText_72 : decode cX5_carryOutText 72 = .ok (.invokevirtual 208, 3) := by decide +kernel
theorem dX5_carryOutText_75 : decode cX5_carryOutText 75 = .ok (.iconst (-1), 1) := by decide +kernel
theorem dX5_carryOutText_76 : decode cX5_carryOutText 76 = .ok (.if_icmp .ne 6, 3) := by decide +kernel
theorem dX5_carryOutText_79 : decode cX5_carryOutText 79 = .ok (.iinc 1 1, 3) := by decide +kernel
theorem dX5_carryOutText_82 : decode cX5_carryOutText 82 = .ok (.iinc 2 1, 3) := by decide +kernel
theorem dX5_carryOutText_85 : decode cX5_carryOutText 85 = .ok (.goto (-74), 3) := by decide +kernel
theorem dX5_carryOutText_88 : decode cX5_carryOutText 88 = .ok (.iload_n 1, 1) := by decide +kernel
theorem dX5_carryOutText_89 : decode cX5_carryOutText 89 = .ok (.ireturn, 1) := by decide +kernel
theorem dX5_takeTurn_0 : decode cX5_takeTurn 0 = .ok (.iload_n 1, 1) := by decide +kernel
theorem dX5_takeTurn_1 : decode cX5_takeTurn 1 = .ok (.bipush 16, 2) := by decide +kernel
theorem dX5_takeTurn_3 : decode cX5_takeTurn 3 = .ok (.idiv, 1) := by decide +kernel
theorem dX5_takeTurn_4 : decode cX5_takeTurn 4 = .ok (.istore_n 2, 1) := by decide +kernel
theorem dX5_takeTurn_5 : decode cX5_takeTurn 5 = .ok (.iload_n 2, 1) := by decide +kernel
theorem dX5_takeTurn_6 : decode cX5_takeTurn 6 = .ok (.bipush 12, 2) := by decide +kernel
theorem dX5_takeTurn_8 : decode cX5_takeTurn 8 = .ok (.irem, 1) := by decide +kernel
theorem dX5_takeTurn_9 : decode cX5_takeTurn 9 = .ok (.istore_n 3, 1) := by decide +kernel
theorem dX5_takeTurn_10 : decode cX5_takeTurn 10 = .ok (.iload_n 2, 1) := by decide +kernel
theorem dX5_takeTurn_11 : decode cX5_takeTurn 11 = .ok (.bipush 16, 2) := by decide +kernel
theorem dX5_takeTurn_13 : decode cX5_takeTurn 13 = .ok (.idiv, 1) := by decide +kernel
theorem dX5_takeTurn_14 : decode cX5_takeTurn 14 = .ok (.bipush 12, 2) := by decide +kernel
theorem dX5_takeTurn_16 : decode cX5_takeTurn 16 = .ok (.irem, 1) := by decide +kernel
theorem dX5_takeTurn_17 : decode cX5_takeTurn 17 = .ok (.istore 4, 2) := by decide +kernel
theorem dX5_takeTurn_19 : decode cX5_takeTurn 19 = .ok (.iload_n 1, 1) := by decide +kernel
theorem dX5_takeTurn_20 : decode cX5_takeTurn 20 = .ok (.bipush 16, 2) := by decide +kernel
theorem dX5_takeTurn_22 : decode cX5_takeTurn 22 = .ok (.irem, 1) := by decide +kernel
theorem dX5_takeTurn_23 : decode cX5_takeTurn 23 = .ok (.tableswitch 236 0 10 #[57, 57, 84, 106, 122, 138, 154, 169, 191, 206, 221], 57) := by decide +kernel
theorem dX5_takeTurn_80 : decode cX5_takeTurn 80 = .ok (.aload_n 0, 1) := by decide +kernel
theorem dX5_takeTurn_81 : decode cX5_takeTurn 81 = .ok (.getfield 38, 3) := by decide +kernel
theorem dX5_takeTurn_84 : decode cX5_takeTurn 84 = .ok (.bipush 115, 2) := by decide +kernel
theorem dX5_takeTurn_86 : decode cX5_takeTurn 86 = .ok (.iload_n 2, 1) := by decide +kernel
theorem dX5_takeTurn_87 : decode cX5_takeTurn 87 = .ok (.bipush 100, 2) := by decide +kernel
theorem dX5_takeTurn_89 : decode cX5_takeTurn 89 = .ok (.irem, 1) := by decide +kernel
theorem dX5_takeTurn_90 : decode cX5_takeTurn 90 = .ok (.iconst 1, 1) := by decide +kernel
theorem dX5_takeTurn_91 : decode cX5_takeTurn 91 = .ok (.iload_n 2, 1) := by decide +kernel
theorem dX5_takeTurn_92 : decode cX5_takeTurn 92 = .ok (.sipush 128, 3) := by decide +kernel
theorem dX5_takeTurn_95 : decode cX5_takeTurn 95 = .ok (.idiv, 1) := by decide +kernel
theorem dX5_takeTurn_96 : decode cX5_takeTurn 96 = .ok (.bipush 20, 2) := by decide +kernel
theorem dX5_takeTurn_98 : decode cX5_takeTurn 98 = .ok (.irem, 1) := by decide +kernel
theorem dX5_takeTurn_99 : decode cX5_takeTurn 99 = .ok (.iadd, 1) := by decide +kernel
theorem dX5_takeTurn_100 : decode cX5_takeTurn 100 = .ok (.iconst 0, 1) := by decide +kernel
theorem dX5_takeTurn_101 : decode cX5_takeTurn 101 = .ok (.invokevirtual 208, 3) := by decide +kernel
theorem dX5_takeTurn_104 : decode cX5_takeTurn 104 = .ok (.pop, 1) := by decide +kernel
theorem dX5_takeTurn_105 : decode cX5_takeTurn 105 = .ok (.iconst 0, 1) := by decide +kernel
theorem dX5_takeTurn_106 : decode cX5_takeTurn 106 = .ok (.ireturn, 1) := by decide +kernel
theorem dX5_takeTurn_107 : decode cX5_takeTurn 107 = .ok (.aload_n 0, 1) := by decide +kernel
theorem dX5_takeTurn_108 : decode cX5_takeTurn 108 = .ok (.getfield 38, 3) := by decide +kernel
theorem dX5_takeTurn_111 : decode cX5_takeTurn 111 = .ok (.bipush 120, 2) := by decide +kernel
theorem dX5_takeTurn_113 : decode cX5_takeTurn 113 = .ok (.iload_n 3, 1) := by decide +kernel
theorem dX5_takeTurn_114 : decode cX5_takeTurn 114 = .ok (.iconst 1, 1) := by decide +kernel
theorem dX5_takeTurn_115 : decode cX5_takeTurn 115 = .ok (.iload_n 2, 1) := by decide +kernel
theorem dX5_takeTurn_116 : decode cX5_takeTurn 116 = .ok (.bipush 16, 2) := by decide +kernel
theorem dX5_takeTurn_118 : decode cX5_takeTurn 118 = .ok (.idiv, 1) := by decide +kernel
theorem dX5_takeTurn_119 : decode cX5_takeTurn 119 = .ok (.iconst 3, 1) := by decide +kernel
theorem dX5_takeTurn_120 : decode cX5_takeTurn 120 = .ok (.irem, 1) := by decide +kernel
theorem dX5_takeTurn_121 : decode cX5_takeTurn 121 = .ok (.iadd, 1) := by decide +kernel
theorem dX5_takeTurn_122 : decode cX5_takeTurn 122 = .ok (.iconst 0, 1) := by decide +kernel
theorem dX5_takeTurn_123 : decode cX5_takeTurn 123 = .ok (.invokevirtual 208, 3) := by decide +kernel
theorem dX5_takeTurn_126 : decode cX5_takeTurn 126 = .ok (.pop, 1) := by decide +kernel
theorem dX5_takeTurn_127 : decode cX5_takeTurn 127 = .ok (.iconst 0, 1) := by decide +kernel
theorem dX5_takeTurn_128 : decode cX5_takeTurn 128 = .ok (.ireturn, 1) := by decide +kernel
theorem dX5_takeTurn_129 : decode cX5_takeTurn 129 = .ok (.aload_n 0, 1) := by decide +kernel
theorem dX5_takeTurn_130 : decode cX5_takeTurn 130 = .ok (.getfield 38, 3) := by decide +kernel
theorem dX5_takeTurn_133 : decode cX5_takeTurn 133 = .ok (.bipush 106, 2) := by decide +kernel
theorem dX5_takeTurn_135 : decode cX5_takeTurn 135 = .ok (.iload_n 3, 1) := by decide +kernel
theorem dX5_takeTurn_136 : decode cX5_takeTurn 136 = .ok (.iload 4, 2) := by decide +kernel
theorem dX5_takeTurn_138 : decode cX5_takeTurn 138 = .ok (.iconst 0, 1) := by decide +kernel
theorem dX5_takeTurn_139 : decode cX5_takeTurn 139 = .ok (.invokevirtual 208, 3) := by decide +kernel
theorem dX5_takeTurn_142 : decode cX5_takeTurn 142 = .ok (.pop, 1) := by decide +kernel
theorem dX5_takeTurn_143 : decode cX5_takeTurn 143 = .ok (.iconst 0, 1) := by decide +kernel
theorem dX5_takeTurn_144 : decode cX5_takeTurn 144 = .ok (.ireturn, 1) := by decide +kernel
theorem dX5_takeTurn_145 : decode cX5_takeTurn 145 = .ok (.aload_n 0, 1) := by decide +kernel
theorem dX5_takeTurn_146 : decode cX5_takeTurn 146 = .ok (.getfield 38, 3) := by decide +kernel
theorem dX5_takeTurn_149 : decode cX5_takeTurn 149 = .ok (.bipush 104, 2) := by decide +kernel
theorem dX5_takeTurn_151 : decode cX5_takeTurn 151 = .ok (.iload_n 3, 1) := by decide +kernel
theorem dX5_takeTurn_152 : decode cX5_takeTurn 152 = .ok (.iload 4, 2) := by decide +kernel
theorem dX5_takeTurn_154 : decode cX5_takeTurn 154 = .ok (.iconst 0, 1) := by decide +kernel
theorem dX5_takeTurn_155 : decode cX5_takeTurn 155 = .ok (.invokevirtual 208, 3) := by decide +kernel
theorem dX5_takeTurn_158 : decode cX5_takeTurn 158 = .ok (.pop, 1) := by decide +kernel
theorem dX5_takeTurn_159 : decode cX5_takeTurn 159 = .ok (.iconst 0, 1) := by decide +kernel
theorem dX5_takeTurn_160 : decode cX5_takeTurn 160 = .ok (.ireturn, 1) := by decide +kernel
theorem dX5_takeTurn_161 : decode cX5_takeTurn 161 = .ok (.aload_n 0, 1) := by decide +kernel
theorem dX5_takeTurn_162 : decode cX5_takeTurn 162 = .ok (.getfield 38, 3) := by decide +kernel
theorem dX5_takeTurn_165 : decode cX5_takeTurn 165 = .ok (.bipush 119, 2) := by decide +kernel
theorem dX5_takeTurn_167 : decode cX5_takeTurn 167 = .ok (.iload_n 3, 1) := by decide +kernel
theorem dX5_takeTurn_168 : decode cX5_takeTurn 168 = .ok (.iload 4, 2) := by decide +kernel
theorem dX5_takeTurn_170 : decode cX5_takeTurn 170 = .ok (.iconst 0, 1) := by decide +kernel
theorem dX5_takeTurn_171 : decode cX5_takeTurn 171 = .ok (.invokevirtual 208, 3) := by decide +kernel
theorem dX5_takeTurn_174 : decode cX5_takeTurn 174 = .ok (.pop, 1) := by decide +kernel
theorem dX5_takeTurn_175 : decode cX5_takeTurn 175 = .ok (.iconst 0, 1) := by decide +kernel
theorem dX5_takeTurn_176 : decode cX5_takeTurn 176 = .ok (.ireturn, 1) := by decide +kernel
theorem dX5_takeTurn_177 : decode cX5_takeTurn 177 = .ok (.aload_n 0, 1) := by decide +kernel
theorem dX5_takeTurn_178 : decode cX5_takeTurn 178 = .ok (.getfield 38, 3) := by decide +kernel
theorem dX5_takeTurn_181 : decode cX5_takeTurn 181 = .ok (.bipush 118, 2) := by decide +kernel
theorem dX5_takeTurn_183 : decode cX5_takeTurn 183 = .ok (.iload_n 3, 1) := by decide +kernel
theorem dX5_takeTurn_184 : decode cX5_takeTurn 184 = .ok (.iconst 0, 1) := by decide +kernel
theorem dX5_takeTurn_185 : decode cX5_takeTurn 185 = .ok (.iconst 0, 1) := by decide +kernel
theorem dX5_takeTurn_186 : decode cX5_takeTurn 186 = .ok (.invokevirtual 208, 3) := by decide +kernel
theorem dX5_takeTurn_189 : decode cX5_takeTurn 189 = .ok (.pop, 1) := by decide +kernel
theorem dX5_takeTurn_190 : decode cX5_takeTurn 190 = .ok (.iconst 0, 1) := by decide +kernel
theorem dX5_takeTurn_191 : decode cX5_takeTurn 191 = .ok (.ireturn, 1) := by decide +kernel
theorem dX5_takeTurn_192 : decode cX5_takeTurn 192 = .ok (.aload_n 0, 1) := by decide +kernel
theorem dX5_takeTurn_193 : decode cX5_takeTurn 193 = .ok (.getfield 38, 3) := by decide +kernel
theorem dX5_takeTurn_196 : decode cX5_takeTurn 196 = .ok (.bipush 101, 2) := by decide +kernel
theorem dX5_takeTurn_198 : decode cX5_takeTurn 198 = .ok (.iload_n 3, 1) := by decide +kernel
theorem dX5_takeTurn_199 : decode cX5_takeTurn 199 = .ok (.iconst 1, 1) := by decide +kernel
theorem dX5_takeTurn_200 : decode cX5_takeTurn 200 = .ok (.iload_n 2, 1) := by decide +kernel
theorem dX5_takeTurn_201 : decode cX5_takeTurn 201 = .ok (.bipush 16, 2) := by decide +kernel
theorem dX5_takeTurn_203 : decode cX5_takeTurn 203 = .ok (.idiv, 1) := by decide +kernel
theorem dX5_takeTurn_204 : decode cX5_takeTurn 204 = .ok (.iconst 4, 1) := by decide +kernel
theorem dX5_takeTurn_205 : decode cX5_takeTurn 205 = .ok (.irem, 1) := by decide +kernel
theorem dX5_takeTurn_206 : decode cX5_takeTurn 206 = .ok (.iadd, 1) := by decide +kernel
theorem dX5_takeTurn_207 : decode cX5_takeTurn 207 = .ok (.iconst 0, 1) := by decide +kernel
theorem dX5_takeTurn_208 : decode cX5_takeTurn 208 = .ok (.invokevirtual 208, 3) := by decide +kernel
theorem dX5_takeTurn_211 : decode cX5_takeTurn 211 = .ok (.pop, 1) := by decide +kernel
theorem dX5_takeTurn_212 : decode cX5_takeTurn 212 = .ok (.iconst 0, 1) := by decide +kernel
theorem dX5_takeTurn_213 : decode cX5_takeTurn 213 = .ok (.ireturn, 1) := by decide +kernel
theorem dX5_takeTurn_214 : decode cX5_takeTurn 214 = .ok (.aload_n 0, 1) := by decide +kernel
theorem dX5_takeTurn_215 : decode cX5_takeTurn 215 = .ok (.getfield 38, 3) := by decide +kernel
theorem dX5_takeTurn_218 : decode cX5_takeTurn 218 = .ok (.bipush 117, 2) := by decide +kernel
theorem dX5_takeTurn_220 : decode cX5_takeTurn 220 = .ok (.iload_n 3, 1) := by decide +kernel
theorem dX5_takeTurn_221 : decode cX5_takeTurn 221 = .ok (.iconst 0, 1) := by decide +kernel
theorem dX5_takeTurn_222 : decode cX5_takeTurn 222 = .ok (.iconst 0, 1) := by decide +kernel
theorem dX5_takeTurn_223 : decode cX5_takeTurn 223 = .ok (.invokevirtual 208, 3) := by decide +kernel
theorem dX5_takeTurn_226 : decode cX5_takeTurn 226 = .ok (.pop, 1) := by decide +kernel
theorem dX5_takeTurn_227 : decode cX5_takeTurn 227 = .ok (.iconst 0, 1) := by decide +kernel
theorem dX5_takeTurn_228 : decode cX5_takeTurn 228 = .ok (.ireturn, 1) := by decide +kernel
theorem dX5_takeTurn_229 : decode cX5_takeTurn 229 = .ok (.aload_n 0, 1) := by decide +kernel
theorem dX5_takeTurn_230 : decode cX5_takeTurn 230 = .ok (.getfield 38, 3) := by decide +kernel
theorem dX5_takeTurn_233 : decode cX5_takeTurn 233 = .ok (.bipush 114, 2) := by decide +kernel
theorem dX5_takeTurn_235 : decode cX5_takeTurn 235 = .ok (.iload_n 3, 1) := by decide +kernel
theorem dX5_takeTurn_236 : decode cX5_takeTurn 236 = .ok (.iconst 0, 1) := by decide +kernel
theorem dX5_takeTurn_237 : decode cX5_takeTurn 237 = .ok (.iconst 0, 1) := by decide +kernel
theorem dX5_takeTurn_238 : decode cX5_takeTurn 238 = .ok (.invokevirtual 208, 3) := by decide +kernel
theorem dX5_takeTurn_241 : decode cX5_takeTurn 241 = .ok (.pop, 1) := by decide +kernel
theorem dX5_takeTurn_242 : decode cX5_takeTurn 242 = .ok (.iconst 0, 1) := by decide +kernel
theorem dX5_takeTurn_243 : decode cX5_takeTurn 243 = .ok (.ireturn, 1) := by decide +kernel
theorem dX5_takeTurn_244 : decode cX5_takeTurn 244 = .ok (.aload_n 0, 1) := by decide +kernel
theorem dX5_takeTurn_245 : decode cX5_takeTurn 245 = .ok (.getfield 38, 3) := by decide +kernel
theorem dX5_takeTurn_248 : decode cX5_takeTurn 248 = .ok (.bipush 100, 2) := by decide +kernel
theorem dX5_takeTurn_250 : decode cX5_takeTurn 250 = .ok (.iconst 0, 1) := by decide +kernel
theorem dX5_takeTurn_251 : decode cX5_takeTurn 251 = .ok (.iconst 0, 1) := by decide +kernel
theorem dX5_takeTurn_252 : decode cX5_takeTurn 252 = .ok (.iconst 0, 1) := by decide +kernel
theorem dX5_takeTurn_253 : decode cX5_takeTurn 253 = .ok (.invokevirtual 208, 3) := by decide +kernel
theorem dX5_takeTurn_256 : decode cX5_takeTurn 256 = .ok (.pop, 1) := by decide +kernel
theorem dX5_takeTurn_257 : decode cX5_takeTurn 257 = .ok (.iconst 0, 1) := by decide +kernel
theorem dX5_takeTurn_258 : decode cX5_takeTurn 258 = .ok (.ireturn, 1) := by decide +kernel
theorem dX5_takeTurn_259 : decode cX5_takeTurn 259 = .ok (.iconst 0, 1) := by decide +kernel
theorem dX5_takeTurn_260 : decode cX5_takeTurn 260 = .ok (.aload_n 0, 1) := by decide +kernel
theorem dX5_takeTurn_261 : decode cX5_takeTurn 261 = .ok (.getfield 38, 3) := by decide +kernel
theorem dX5_takeTurn_264 : decode cX5_takeTurn 264 = .ok (.bipush 110, 2) := by decide +kernel
theorem dX5_takeTurn_266 : decode cX5_takeTurn 266 = .ok (.iload_n 2, 1) := by decide +kernel
theorem dX5_takeTurn_267 : decode cX5_takeTurn 267 = .ok (.iconst 4, 1) := by decide +kernel
theorem dX5_takeTurn_268 : decode cX5_takeTurn 268 = .ok (.irem, 1) := by decide +kernel
theorem dX5_takeTurn_269 : decode cX5_takeTurn 269 = .ok (.iconst 0, 1) := by decide +kernel
theorem dX5_takeTurn_270 : decode cX5_takeTurn 270 = .ok (.iconst 0, 1) := by decide +kernel
theorem dX5_takeTurn_271 : decode cX5_takeTurn 271 = .ok (.invokevirtual 208, 3) := by decide +kernel
theorem dX5_takeTurn_274 : decode cX5_takeTurn 274 = .ok (.invokestatic 211, 3) := by decide +kernel
theorem dX5_takeTurn_277 : decode cX5_takeTurn 277 = .ok (.ireturn, 1) := by decide +kernel
theorem dX5_pairsAhead_0 : decode cX5_pairsAhead 0 = .ok (.iload_n 0, 1) := by decide +kernel
theorem dX5_pairsAhead_1 : decode cX5_pairsAhead 1 = .ok (.iload_n 0, 1) := by decide +kernel
theorem dX5_pairsAhead_2 : decode cX5_pairsAhead 2 = .ok (.iconst 1, 1) := by decide +kernel
theorem dX5_pairsAhead_3 : decode cX5_pairsAhead 3 = .ok (.iadd, 1) := by decide +kernel
theorem dX5_pairsAhead_4 : decode cX5_pairsAhead 4 = .ok (.imul, 1) := by decide +kernel
theorem dX5_pairsAhead_5 : decode cX5_pairsAhead 5 = .ok (.iconst 2, 1) := by decide +kernel
theorem dX5_pairsAhead_6 : decode cX5_pairsAhead 6 = .ok (.idiv, 1) := by decide +kernel
theorem dX5_pairsAhead_7 : decode cX5_pairsAhead 7 = .ok (.ireturn, 1) := by decide +kernel
theorem dX5_isWithin_0 : decode cX5_isWithin 0 = .ok (.iload_n 0, 1) := by decide +kernel
theorem dX5_isWithin_1 : decode cX5_isWithin 1 = .ok (.iload_n 1, 1) := by decide +kernel
theorem dX5_isWithin_2 : decode cX5_isWithin 2 = .ok (.if_icmp .lt 12, 3) := by decide +kernel
theorem dX5_isWithin_5 : decode cX5_isWithin 5 = .ok (.iload_n 0, 1) := by decide +kernel
theorem dX5_isWithin_6 : decode cX5_isWithin 6 = .ok (.iload_n 2, 1) := by decide +kernel
theorem dX5_isWithin_7 : decode cX5_isWithin 7 = .ok (.if_icmp .gt 7, 3) := by decide +kernel
theorem dX5_isWithin_10 : decode cX5_isWithin 10 = .ok (.iconst 1, 1) := by decide +kernel
theorem dX5_isWithin_11 : decode cX5_isWithin 11 = .ok (.goto 4, 3) := by decide +kernel
theorem dX5_isWithin_14 : decode cX5_isWithin 14 = .ok (.iconst 0, 1) := by decide +kernel
theorem dX5_isWithin_15 : decode cX5_isWithin 15 = .ok (.ireturn, 1) := by decide +kernel
theorem dX5_refuse_0 : decode cX5_refuse 0 = .ok (.iload_n 0, 1) := by decide +kernel
theorem dX5_refuse_1 : decode cX5_refuse 1 = .ok (.iconst 1, 1) := by decide +kernel
theorem dX5_refuse_2 : decode cX5_refuse 2 = .ok (.if_icmp .ne 13, 3) := by decide +kernel
theorem dX5_refuse_5 : decode cX5_refuse 5 = .ok (.new 216, 3) := by decide +kernel
theorem dX5_refuse_8 : decode cX5_refuse 8 = .ok (.dup, 1) := by decide +kernel
theorem dX5_refuse_9 : decode cX5_refuse 9 = .ok (.ldc 218, 2) := by decide +kernel
theorem dX5_refuse_11 : decode cX5_refuse 11 = .ok (.invokespecial 220, 3) := by decide +kernel
theorem dX5_refuse_14 : decode cX5_refuse 14 = .ok (.athrow, 1) := by decide +kernel
theorem dX5_refuse_15 : decode cX5_refuse 15 = .ok (.iload_n 0, 1) := by decide +kernel
theorem dX5_refuse_16 : decode cX5_refuse 16 = .ok (.iconst 2, 1) := by decide +kernel
theorem dX5_refuse_17 : decode cX5_refuse 17 = .ok (.if_icmp .ne 13, 3) := by decide +kernel
theorem dX5_refuse_20 : decode cX5_refuse 20 = .ok (.new 221, 3) := by decide +kernel
theorem dX5_refuse_23 : decode cX5_refuse 23 = .ok (.dup, 1) := by decide +kernel
theorem dX5_refuse_24 : decode cX5_refuse 24 = .ok (.ldc 223, 2) := by decide +kernel
theorem dX5_refuse_26 : decode cX5_refuse 26 = .ok (.invokespecial 225, 3) := by decide +kernel
theorem dX5_refuse_29 : decode cX5_refuse 29 = .ok (.athrow, 1) := by decide +kernel
theorem dX5_refuse_30 : decode cX5_refuse 30 = .ok (.iload_n 0, 1) := by decide +kernel
theorem dX5_refuse_31 : decode cX5_refuse 31 = .ok (.iconst 3, 1) := by decide +kernel
theorem dX5_refuse_32 : decode cX5_refuse 32 = .ok (.if_icmp .ne 13, 3) := by decide +kernel
theorem dX5_refuse_35 : decode cX5_refuse 35 = .ok (.new 49, 3) := by decide +kernel
theorem dX5_refuse_38 : decode cX5_refuse 38 = .ok (.dup, 1) := by decide +kernel
theorem dX5_refuse_39 : decode cX5_refuse 39 = .ok (.ldc 226, 2) := by decide +kernel
theorem dX5_refuse_41 : decode cX5_refuse 41 = .ok (.invokespecial 53, 3) := by decide +kernel
theorem dX5_refuse_44 : decode cX5_refuse 44 = .ok (.athrow, 1) := by decide +kernel
theorem dX5_refuse_45 : decode cX5_refuse 45 = .ok (.return_, 1) := by decide +kernel
theorem dX5_checkRange_0 : decode cX5_checkRange 0 = .ok (.iload_n 0, 1) := by decide +kernel
theorem dX5_checkRange_1 : decode cX5_checkRange 1 = .ok (.iload_n 1, 1) := by decide +kernel
theorem dX5_checkRange_2 : decode cX5_checkRange 2 = .ok (.iload_n 2, 1) := by decide +kernel
theorem dX5_checkRange_3 : decode cX5_checkRange 3 = .ok (.invokestatic 228, 3) := by decide +kernel
theorem dX5_checkRange_6 : decode cX5_checkRange 6 = .ok (.ifCond .ne 13, 3) := by decide +kernel
theorem dX5_checkRange_9 : decode cX5_checkRange 9 = .ok (.new 221, 3) := by decide +kernel
theorem dX5_checkRange_12 : decode cX5_checkRange 12 = .ok (.dup, 1) := by decide +kernel
theorem dX5_checkRange_13 : decode cX5_checkRange 13 = .ok (.ldc 223, 2) := by decide +kernel
theorem dX5_checkRange_15 : decode cX5_checkRange 15 = .ok (.invokespecial 225, 3) := by decide +kernel
theorem dX5_checkRange_18 : decode cX5_checkRange 18 = .ok (.athrow, 1) := by decide +kernel
theorem dX5_checkRange_19 : decode cX5_checkRange 19 = .ok (.return_, 1) := by decide +kernel
theorem dX5_checkList_0 : decode cX5_checkList 0 = .ok (.aload_n 0, 1) := by decide +kernel
theorem dX5_checkList_1 : decode cX5_checkList 1 = .ok (.getfield 19, 3) := by decide +kernel
theorem dX5_checkList_4 : decode cX5_checkList 4 = .ok (.getfield 88, 3) := by decide +kernel
theorem dX5_checkList_7 : decode cX5_checkList 7 = .ok (.iload_n 1, 1) := by decide +kernel
theorem dX5_checkList_8 : decode cX5_checkList 8 = .ok (.invokevirtual 232, 3) := by decide +kernel
theorem dX5_checkList_11 : decode cX5_checkList 11 = .ok (.ifCond .ne 13, 3) := by decide +kernel
theorem dX5_checkList_14 : decode cX5_checkList 14 = .ok (.new 216, 3) := by decide +kernel
theorem dX5_checkList_17 : decode cX5_checkList 17 = .ok (.dup, 1) := by decide +kernel
theorem dX5_checkList_18 : decode cX5_checkList 18 = .ok (.ldc 236, 2) := by decide +kernel
theorem dX5_checkList_20 : decode cX5_checkList 20 = .ok (.invokespecial 220, 3) := by decide +kernel
theorem dX5_checkList_23 : decode cX5_checkList 23 = .ok (.athrow, 1) := by decide +kernel
theorem dX5_checkList_24 : decode cX5_checkList 24 = .ok (.return_, 1) := by decide +kernel
theorem dX5_checkReader_0 : decode cX5_checkReader 0 = .ok (.aload_n 0, 1) := by decide +kernel
theorem dX5_checkReader_1 : decode cX5_checkReader 1 = .ok (.getfield 19, 3) := by decide +kernel
theorem dX5_checkReader_4 : decode cX5_checkReader 4 = .ok (.getfield 126, 3) := by decide +kernel
theorem dX5_checkReader_7 : decode cX5_checkReader 7 = .ok (.iload_n 1, 1) := by decide +kernel
theorem dX5_checkReader_8 : decode cX5_checkReader 8 = .ok (.invokevirtual 238, 3) := by decide +kernel
theorem dX5_checkReader_11 : decode cX5_checkReader 11 = .ok (.ifCond .ne 13, 3) := by decide +kernel
theorem dX5_checkReader_14 : decode cX5_checkReader 14 = .ok (.new 216, 3) := by decide +kernel
theorem dX5_checkReader_17 : decode cX5_checkReader 17 = .ok (.dup, 1) := by decide +kernel
theorem dX5_checkReader_18 : decode cX5_checkReader 18 = .ok (.ldc 241, 2) := by decide +kernel
theorem dX5_checkReader_20 : decode cX5_checkReader 20 = .ok (.invokespecial 220, 3) := by decide +kernel
theorem dX5_checkReader_23 : decode cX5_checkReader 23 = .ok (.athrow, 1) := by decide +kernel
theorem dX5_checkReader_24 : decode cX5_checkReader 24 = .ok (.return_, 1) := by decide +kernel
theorem dX5_checkPlace_0 : decode cX5_checkPlace 0 = .ok (.iload_n 0, 1) := by decide +kernel
theorem dX5_checkPlace_1 : decode cX5_checkPlace 1 = .ok (.ifCond .ge 13, 3) := by decide +kernel
theorem dX5_checkPlace_4 : decode cX5_checkPlace 4 = .ok (.new 216, 3) := by decide +kernel
theorem dX5_checkPlace_7 : decode cX5_checkPlace 7 = .ok (.dup, 1) := by decide +kernel
theorem dX5_checkPlace_8 : decode cX5_checkPlace 8 = .ok (.ldc 243, 2) := by decide +kernel
theorem dX5_checkPlace_10 : decode cX5_checkPlace 10 = .ok (.invokespecial 220, 3) := by decide +kernel
theorem dX5_checkPlace_13 : decode cX5_checkPlace 13 = .ok (.athrow, 1) := by decide +kernel
theorem dX5_checkPlace_14 : decode cX5_checkPlace 14 = .ok (.return_, 1) := by decide +kernel
theorem dX5_checkSlot_0 : decode cX5_checkSlot 0 = .ok (.iload_n 0, 1) := by decide +kernel
theorem dX5_checkSlot_1 : decode cX5_checkSlot 1 = .ok (.iconst 0, 1) := by decide +kernel
theorem dX5_checkSlot_2 : decode cX5_checkSlot 2 = .ok (.iconst 1, 1) := by decide +kernel
theorem dX5_checkSlot_3 : decode cX5_checkSlot 3 = .ok (.invokestatic 228, 3) := by decide +kernel
theorem dX5_checkSlot_6 : decode cX5_checkSlot 6 = .ok (.ifCond .ne 13, 3) := by decide +kernel
theorem dX5_checkSlot_9 : decode cX5_checkSlot 9 = .ok (.new 216, 3) := by decide +kernel
theorem dX5_checkSlot_12 : decode cX5_checkSlot 12 = .ok (.dup, 1) := by decide +kernel
theorem dX5_checkSlot_13 : decode cX5_checkSlot 13 = .ok (.ldc 245, 2) := by decide +kernel
theorem dX5_checkSlot_15 : decode cX5_checkSlot 15 = .ok (.invokespecial 220, 3) := by decide +kernel
theorem dX5_checkSlot_18 : decode cX5_checkSlot 18 = .ok (.athrow, 1) := by decide +kernel
theorem dX5_checkSlot_19 : decode cX5_checkSlot 19 = .ok (.return_, 1) := by decide +kernel
