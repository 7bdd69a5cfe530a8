theorem dX1_init_0 : decode cX1_init 0 = .ok (.aload_n 0, 1) := by decide +kernel
theorem dX1_init_1 : decode cX1_init 1 = .ok (.invokespecial 3, 3) := by decide +kernel
theorem dX1_init_4 : decode cX1_init 4 = .ok (.aload_n 0, 1) := by decide +kernel
theorem dX1_init_5 : decode cX1_init 5 = .ok (.iconst (-1), 1) := by decide +kernel
theorem dX1_init_6 : decode cX1_init 6 = .ok (.putfield 9, 3) := by decide +kernel
theorem dX1_init_9 : decode cX1_init 9 = .ok (.aload_n 0, 1) := by decide +kernel
theorem dX1_init_10 : decode cX1_init 10 = .ok (.iconst 0, 1) := by decide +kernel
theorem dX1_init_11 : decode cX1_init 11 = .ok (.putfield 15, 3) := by decide +kernel
theorem dX1_init_14 : decode cX1_init 14 = .ok (.aload_n 0, 1) := by decide +kernel
theorem dX1_init_15 : decode cX1_init 15 = .ok (.bipush 40, 2) := by decide +kernel
theorem dX1_init_17 : decode cX1_init 17 = .ok (.newarray .long, 2) := by decide +kernel
theorem dX1_init_19 : decode cX1_init 19 = .ok (.putfield 18, 3) := by decide +kernel
theorem dX1_init_22 : decode cX1_init 22 = .ok (.return_, 1) := by decide +kernel
theorem dX1_isRow_0 : decode cX1_isRow 0 = .ok (.aload_n 0, 1) := by decide +kernel
theorem dX1_isRow_1 : decode cX1_isRow 1 = .ok (.getfield 9, 3) := by decide +kernel
theorem dX1_isRow_4 : decode cX1_isRow 4 = .ok (.iconst 0, 1) := by decide +kernel
theorem dX1_isRow_5 : decode cX1_isRow 5 = .ok (.iconst 4, 1) := by decide +kernel
theorem dX1_isRow_6 : decode cX1_isRow 6 = .ok (.invokestatic 22, 3) := by decide +kernel
theorem dX1_isRow_9 : decode cX1_isRow 9 = .ok (.ireturn, 1) := by decide +kernel
theorem dX1_isCount_0 : decode cX1_isCount 0 = .ok (.aload_n 0, 1) := by decide +kernel
theorem dX1_isCount_1 : decode cX1_isCount 1 = .ok (.getfield 9, 3) := by decide +kernel
theorem dX1_isCount_4 : decode cX1_isCount 4 = .ok (.bipush 10, 2) := by decide +kernel
theorem dX1_isCount_6 : decode cX1_isCount 6 = .ok (.if_icmp .lt 7, 3) := by decide +kernel
theorem dX1_isCount_9 : decode cX1_isCount 9 = .ok (.iconst 1, 1) := by decide +kernel
theorem dX1_isCount_10 : decode cX1_isCount 10 = .ok (.goto 4, 3) := by decide +kernel
theorem dX1_isCount_13 : decode cX1_isCount 13 = .ok (.iconst 0, 1) := by decide +kernel
theorem dX1_isCount_14 : decode cX1_isCount 14 = .ok (.ireturn, 1) := by decide +kernel
theorem dX1_countNumber_0 : decode cX1_countNumber 0 = .ok (.aload_n 0, 1) := by decide +kernel
theorem dX1_countNumber_1 : decode cX1_countNumber 1 = .ok (.invokevirtual 26, 3) := by decide +kernel
theorem dX1_countNumber_4 : decode cX1_countNumber 4 = .ok (.ifCond .eq 13, 3) := by decide +kernel
theorem dX1_countNumber_7 : decode cX1_countNumber 7 = .ok (.aload_n 0, 1) := by decide +kernel
theorem dX1_countNumber_8 : decode cX1_countNumber 8 = .ok (.getfield 9, 3) := by decide +kernel
theorem dX1_countNumber_11 : decode cX1_countNumber 11 = .ok (.bipush 10, 2) := by decide +kernel
theorem dX1_countNumber_13 : decode cX1_countNumber 13 = .ok (.isub, 1) := by decide +kernel
theorem dX1_countNumber_14 : decode cX1_countNumber 14 = .ok (.goto 4, 3) := by decide +kernel
theorem dX1_countNumber_17 : decode cX1_countNumber 17 = .ok (.iconst (-1), 1) := by decide +kernel
theorem dX1_countNumber_18 : decode cX1_countNumber 18 = .ok (.ireturn, 1) := by decide +kernel
theorem dX1_takeNothing_0 : decode cX1_takeNothing 0 = .ok (.aload_n 0, 1) := by decide +kernel
theorem dX1_takeNothing_1 : decode cX1_takeNothing 1 = .ok (.iconst (-1), 1) := by decide +kernel
theorem dX1_takeNothing_2 : decode cX1_takeNothing 2 = .ok (.putfield 9, 3) := by decide +kernel
theorem dX1_takeNothing_5 : decode cX1_takeNothing 5 = .ok (.aload_n 0, 1) := by decide +kernel
theorem dX1_takeNothing_6 : decode cX1_takeNothing 6 = .ok (.iconst 0, 1) := by decide +kernel
theorem dX1_takeNothing_7 : decode cX1_takeNothing 7 = .ok (.putfield 15, 3) := by decide +kernel
theorem dX1_takeNothing_10 : decode cX1_takeNothing 10 = .ok (.return_, 1) := by decide +kernel
theorem dX1_takeCount_0 : decode cX1_takeCount 0 = .ok (.aload_n 0, 1) := by decide +kernel
theorem dX1_takeCount_1 : decode cX1_takeCount 1 = .ok (.bipush 10, 2) := by decide +kernel
theorem dX1_takeCount_3 : decode cX1_takeCount 3 = .ok (.iload_n 1, 1) := by decide +kernel
theorem dX1_takeCount_4 : decode cX1_takeCount 4 = .ok (.iadd, 1) := by decide +kernel
theorem dX1_takeCount_5 : decode cX1_takeCount 5 = .ok (.putfield 9, 3) := by decide +kernel
theorem dX1_takeCount_8 : decode cX1_takeCount 8 = .ok (.aload_n 0, 1) := by decide +kernel
theorem dX1_takeCount_9 : decode cX1_takeCount 9 = .ok (.iconst 0, 1) := by decide +kernel
theorem dX1_takeCount_10 : decode cX1_takeCount 10 = .ok (.putfield 15, 3) := by decide +kernel
theorem dX1_takeCount_13 : decode cX1_takeCount 13 = .ok (.return_, 1) := by decide +kernel
theorem dX1_takeRow_0 : decode cX1_takeRow 0 = .ok (.aload_n 0, 1) := by decide +kernel
theorem dX1_takeRow_1 : decode cX1_takeRow 1 = .ok (.iload_n 1, 1) := by decide +kernel
theorem dX1_takeRow_2 : decode cX1_takeRow 2 = .ok (.putfield 9, 3) := by decide +kernel
theorem dX1_takeRow_5 : decode cX1_takeRow 5 = .ok (.aload_n 0, 1) := by decide +kernel
theorem dX1_takeRow_6 : decode cX1_takeRow 6 = .ok (.iload_n 2, 1) := by decide +kernel
theorem dX1_takeRow_7 : decode cX1_takeRow 7 = .ok (.putfield 15, 3) := by decide +kernel
theorem dX1_takeRow_10 : decode cX1_takeRow 10 = .ok (.iconst 0, 1) := by decide +kernel
theorem dX1_takeRow_11 : decode cX1_takeRow 11 = .ok (.istore_n 3, 1) := by decide +kernel
theorem dX1_takeRow_12 : decode cX1_takeRow 12 = .ok (.iload_n 3, 1) := by decide +kernel
theorem dX1_takeRow_13 : decode cX1_takeRow 13 = .ok (.bipush 40, 2) := by decide +kernel
theorem dX1_takeRow_15 : decode cX1_takeRow 15 = .ok (.if_icmp .ge 16, 3) := by decide +kernel
theorem dX1_takeRow_18 : decode cX1_takeRow 18 = .ok (.aload_n 0, 1) := by decide +kernel
theorem dX1_takeRow_19 : decode cX1_takeRow 19 = .ok (.getfield 18, 3) := by decide +kernel
theorem dX1_takeRow_22 : decode cX1_takeRow 22 = .ok (.iload_n 3, 1) := by decide +kernel
theorem dX1_takeRow_23 : decode cX1_takeRow 23 = .ok (.lconst 0, 1) := by decide +kernel
theorem dX1_takeRow_24 : decode cX1_takeRow 24 = .ok (.lastore, 1) := by decide +kernel
theorem dX1_takeRow_25 : decode cX1_takeRow 25 = .ok (.iinc 3 1, 3) := by decide +kernel
theorem dX1_takeRow_28 : decode cX1_takeRow 28 = .ok (.goto (-16), 3) := by decide +kernel
theorem dX1_takeRow_31 : decode cX1_takeRow 31 = .ok (.return_, 1) := by decide +kernel
theorem dX1_hasElement_0 : decode cX1_hasElement 0 = .ok (.iload_n 1, 1) := by decide +kernel
theorem dX1_hasElement_1 : decode cX1_hasElement 1 = .ok (.iconst 0, 1) := by decide +kernel
theorem dX1_hasElement_2 : decode cX1_hasElement 2 = .ok (.aload_n 0, 1) := by decide +kernel
theorem dX1_hasElement_3 : decode cX1_hasElement 3 = .ok (.getfield 15, 3) := by decide +kernel
theorem dX1_hasElement_6 : decode cX1_hasElement 6 = .ok (.iconst 1, 1) := by decide +kernel
theorem dX1_hasElement_7 : decode cX1_hasElement 7 = .ok (.isub, 1) := by decide +kernel
theorem dX1_hasElement_8 : decode cX1_hasElement 8 = .ok (.invokestatic 22, 3) := by decide +kernel
theorem dX1_hasElement_11 : decode cX1_hasElement 11 = .ok (.ireturn, 1) := by decide +kernel
theorem dX1_hasStretch_0 : decode cX1_hasStretch 0 = .ok (.iload_n 1, 1) := by decide +kernel
theorem dX1_hasStretch_1 : decode cX1_hasStretch 1 = .ok (.iconst 0, 1) := by decide +kernel
theorem dX1_hasStretch_2 : decode cX1_hasStretch 2 = .ok (.aload_n 0, 1) := by decide +kernel
theorem dX1_hasStretch_3 : decode cX1_hasStretch 3 = .ok (.getfield 15, 3) := by decide +kernel
theorem dX1_hasStretch_6 : decode cX1_hasStretch 6 = .ok (.invokestatic 22, 3) := by decide +kernel
theorem dX1_hasStretch_9 : decode cX1_hasStretch 9 = .ok (.ifCond .eq 21, 3) := by decide +kernel
theorem dX1_hasStretch_12 : decode cX1_hasStretch 12 = .ok (.iload_n 2, 1) := by decide +kernel
theorem dX1_hasStretch_13 : decode cX1_hasStretch 13 = .ok (.iconst 0, 1) := by decide +kernel
theorem dX1_hasStretch_14 : decode cX1_hasStretch 14 = .ok (.aload_n 0, 1) := by decide +kernel
theorem dX1_hasStretch_15 : decode cX1_hasStretch 15 = .ok (.getfield 15, 3) := by decide +kernel
theorem dX1_hasStretch_18 : decode cX1_hasStretch 18 = .ok (.iload_n 1, 1) := by decide +kernel
theorem dX1_hasStretch_19 : decode cX1_hasStretch 19 = .ok (.isub, 1) := by decide +kernel
theorem dX1_hasStretch_20 : decode cX1_hasStretch 20 = .ok (.invokestatic 22, 3) := by decide +kernel
theorem dX1_hasStretch_23 : decode cX1_hasStretch 23 = .ok (.ifCond .eq 7, 3) := by decide +kernel
theorem dX1_hasStretch_26 : decode cX1_hasStretch 26 = .ok (.iconst 1, 1) := by decide +kernel
theorem dX1_hasStretch_27 : decode cX1_hasStretch 27 = .ok (.goto 4, 3) := by decide +kernel
theorem dX1_hasStretch_30 : decode cX1_hasStretch 30 = .ok (.iconst 0, 1) := by decide +kernel
theorem dX1_hasStretch_31 : decode cX1_hasStretch 31 = .ok (.ireturn, 1) := by decide +kernel
theorem dX1_put_0 : decode cX1_put 0 = .ok (.aload_n 0, 1) := by decide +kernel
theorem dX1_put_1 : decode cX1_put 1 = .ok (.getfield 9, 3) := by decide +kernel
theorem dX1_put_4 : decode cX1_put 4 = .ok (.tableswitch 94 0 4 #[36, 49, 62, 94, 74], 36) := by decide +kernel
theorem dX1_put_40 : decode cX1_put 40 = .ok (.aload_n 0, 1) := by decide +kernel
theorem dX1_put_41 : decode cX1_put 41 = .ok (.getfield 18, 3) := by decide +kernel
theorem dX1_put_44 : decode cX1_put 44 = .ok (.iload_n 1, 1) := by decide +kernel
theorem dX1_put_45 : decode cX1_put 45 = .ok (.lload_n 2, 1) := by decide +kernel
theorem dX1_put_46 : decode cX1_put 46 = .ok (.l2i, 1) := by decide +kernel
theorem dX1_put_47 : decode cX1_put 47 = .ok (.i2b, 1) := by decide +kernel
theorem dX1_put_48 : decode cX1_put 48 = .ok (.i2l, 1) := by decide +kernel
theorem dX1_put_49 : decode cX1_put 49 = .ok (.lastore, 1) := by decide +kernel
theorem dX1_put_50 : decode cX1_put 50 = .ok (.goto 55, 3) := by decide +kernel
theorem dX1_put_53 : decode cX1_put 53 = .ok (.aload_n 0, 1) := by decide +kernel
theorem dX1_put_54 : decode cX1_put 54 = .ok (.getfield 18, 3) := by decide +kernel
theorem dX1_put_57 : decode cX1_put 57 = .ok (.iload_n 1, 1) := by decide +kernel
theorem dX1_put_58 : decode cX1_put 58 = .ok (.lload_n 2, 1) := by decide +kernel
theorem dX1_put_59 : decode cX1_put 59 = .ok (.l2i, 1) := by decide +kernel
theorem dX1_put_60 : decode cX1_put 60 = .ok (.i2s, 1) := by decide +kernel
theorem dX1_put_61 : decode cX1_put 61 = .ok (.i2l, 1) := by decide +kernel
theorem dX1_put_62 : decode cX1_put 62 = .ok (.lastore, 1) := by decide +kernel
theorem dX1_put_63 : decode cX1_put 63 = .ok (.goto 42, 3) := by decide +kernel
theorem dX1_put_66 : decode cX1_put 66 = .ok (.aload_n 0, 1) := by decide +kernel
theorem dX1_put_67 : decode cX1_put 67 = .ok (.getfield 18, 3) := by decide +kernel
theorem dX1_put_70 : decode cX1_put 70 = .ok (.iload_n 1, 1) := by decide +kernel
theorem dX1_put_71 : decode cX1_put 71 = .ok (.lload_n 2, 1) := by decide +kernel
theorem dX1_put_72 : decode cX1_put 72 = .ok (.l2i, 1) := by decide +kernel
theorem dX1_put_73 : decode cX1_put 73 = .ok (.i2l, 1) := by decide +kernel
theorem dX1_put_74 : decode cX1_put 74 = .ok (.lastore, 1) := by decide +kernel
theorem dX1_put_75 : decode cX1_put 75 = .ok (.goto 30, 3) := by decide +kernel
theorem dX1_put_78 : decode cX1_put 78 = .ok (.aload_n 0, 1) := by decide +kernel
theorem dX1_put_79 : decode cX1_put 79 = .ok (.getfield 18, 3) := by decide +kernel
theorem dX1_put_82 : decode cX1_put 82 = .ok (.iload_n 1, 1) := by decide +kernel
theorem dX1_put_83 : decode cX1_put 83 = .ok (.lload_n 2, 1) := by decide +kernel
theorem dX1_put_84 : decode cX1_put 84 = .ok (.lconst 0, 1) := by decide +kernel
theorem dX1_put_85 : decode cX1_put 85 = .ok (.lcmp, 1) := by decide +kernel
theorem dX1_put_86 : decode cX1_put 86 = .ok (.ifCond .eq 7, 3) := by decide +kernel
theorem dX1_put_89 : decode cX1_put 89 = .ok (.lconst 1, 1) := by decide +kernel
theorem dX1_put_90 : decode cX1_put 90 = .ok (.goto 4, 3) := by decide +kernel
theorem dX1_put_93 : decode cX1_put 93 = .ok (.lconst 0, 1) := by decide +kernel
theorem dX1_put_94 : decode cX1_put 94 = .ok (.lastore, 1) := by decide +kernel
theorem dX1_put_95 : decode cX1_put 95 = .ok (.goto 10, 3) := by decide +kernel
theorem dX1_put_98 : decode cX1_put 98 = .ok (.aload_n 0, 1) := by decide +kernel
theorem dX1_put_99 : decode cX1_put 99 = .ok (.getfield 18, 3) := by decide +kernel
theorem dX1_put_102 : decode cX1_put 102 = .ok (.iload_n 1, 1) := by decide +kernel
theorem dX1_put_103 : decode cX1_put 103 = .ok (.lload_n 2, 1) := by decide +kernel
theorem dX1_put_104 : decode cX1_put 104 = .ok (.lastore, 1) := by decide +kernel
theorem dX1_put_105 : decode cX1_put 105 = .ok (.return_, 1) := by decide +kernel
