theorem dX0_init_0 : decode cX0_init 0 = .ok (.aload_n 0, 1) := by decide +kernel
theorem dX0_init_1 : decode cX0_init 1 = .ok (.invokespecial 3, 3) := by decide +kernel
theorem dX0_init_4 : decode cX0_init 4 = .ok (.aload_n 0, 1) := by decide +kernel
theorem dX0_init_5 : decode cX0_init 5 = .ok (.bipush 14, 2) := by decide +kernel
theorem dX0_init_7 : decode cX0_init 7 = .ok (.newarray .int, 2) := by decide +kernel
theorem dX0_init_9 : decode cX0_init 9 = .ok (.putfield 9, 3) := by decide +kernel
theorem dX0_init_12 : decode cX0_init 12 = .ok (.aload_n 0, 1) := by decide +kernel
theorem dX0_init_13 : decode cX0_init 13 = .ok (.iconst 5, 1) := by decide +kernel
theorem dX0_init_14 : decode cX0_init 14 = .ok (.newarray .int, 2) := by decide +kernel
theorem dX0_init_16 : decode cX0_init 16 = .ok (.putfield 15, 3) := by decide +kernel
theorem dX0_init_19 : decode cX0_init 19 = .ok (.aload_n 0, 1) := by decide +kernel
theorem dX0_init_20 : decode cX0_init 20 = .ok (.iconst 5, 1) := by decide +kernel
theorem dX0_init_21 : decode cX0_init 21 = .ok (.newarray .int, 2) := by decide +kernel
theorem dX0_init_23 : decode cX0_init 23 = .ok (.putfield 18, 3) := by decide +kernel
theorem dX0_init_26 : decode cX0_init 26 = .ok (.aload_n 0, 1) := by decide +kernel
theorem dX0_init_27 : decode cX0_init 27 = .ok (.bipush 14, 2) := by decide +kernel
theorem dX0_init_29 : decode cX0_init 29 = .ok (.newarray .int, 2) := by decide +kernel
theorem dX0_init_31 : decode cX0_init 31 = .ok (.putfield 21, 3) := by decide +kernel
theorem dX0_init_34 : decode cX0_init 34 = .ok (.aload_n 0, 1) := by decide +kernel
theorem dX0_init_35 : decode cX0_init 35 = .ok (.bipush 14, 2) := by decide +kernel
theorem dX0_init_37 : decode cX0_init 37 = .ok (.newarray .int, 2) := by decide +kernel
theorem dX0_init_39 : decode cX0_init 39 = .ok (.putfield 24, 3) := by decide +kernel
theorem dX0_init_42 : decode cX0_init 42 = .ok (.aload_n 0, 1) := by decide +kernel
theorem dX0_init_43 : decode cX0_init 43 = .ok (.aload_n 1, 1) := by decide +kernel
theorem dX0_init_44 : decode cX0_init 44 = .ok (.putfield 27, 3) := by decide +kernel
theorem dX0_init_47 : decode cX0_init 47 = .ok (.return_, 1) := by decide +kernel
theorem dX0_takeSides_0 : decode cX0_takeSides 0 = .ok (.iconst 0, 1) := by decide +kernel
theorem dX0_takeSides_1 : decode cX0_takeSides 1 = .ok (.istore_n 2, 1) := by decide +kernel
theorem dX0_takeSides_2 : decode cX0_takeSides 2 = .ok (.iload_n 2, 1) := by decide +kernel
theorem dX0_takeSides_3 : decode cX0_takeSides 3 = .ok (.aload_n 0, 1) := by decide +kernel
theorem dX0_takeSides_4 : decode cX0_takeSides 4 = .ok (.getfield 27, 3) := by decide +kernel
theorem dX0_takeSides_7 : decode cX0_takeSides 7 = .ok (.getfield 31, 3) := by decide +kernel
theorem dX0_takeSides_10 : decode cX0_takeSides 10 = .ok (.if_icmp .ge 24, 3) := by decide +kernel
theorem dX0_takeSides_13 : decode cX0_takeSides 13 = .ok (.aload_n 0, 1) := by decide +kernel
theorem dX0_takeSides_14 : decode cX0_takeSides 14 = .ok (.getfield 9, 3) := by decide +kernel
theorem dX0_takeSides_17 : decode cX0_takeSides 17 = .ok (.iload_n 2, 1) := by decide +kernel
theorem dX0_takeSides_18 : decode cX0_takeSides 18 = .ok (.aload_n 0, 1) := by decide +kernel
theorem dX0_takeSides_19 : decode cX0_takeSides 19 = .ok (.getfield 27, 3) := by decide +kernel
theorem dX0_takeSides_22 : decode cX0_takeSides 22 = .ok (.iload_n 1, 1) := by decide +kernel
theorem dX0_takeSides_23 : decode cX0_takeSides 23 = .ok (.iload_n 2, 1) := by decide +kernel
theorem dX0_takeSides_24 : decode cX0_takeSides 24 = .ok (.invokevirtual 37, 3) := by decide +kernel
theorem dX0_takeSides_27 : decode cX0_takeSides 27 = .ok (.iastore, 1) := by decide +kernel
theorem dX0_takeSides_28 : decode cX0_takeSides 28 = .ok (.iinc 2 1, 3) := by decide +kernel
theorem dX0_takeSides_31 : decode cX0_takeSides 31 = .ok (.goto (-29), 3) := by decide +kernel
theorem dX0_takeSides_34 : decode cX0_takeSides 34 = .ok (.return_, 1) := by decide +kernel
theorem dX0_exchangeSides_0 : decode cX0_exchangeSides 0 = .ok (.aload_n 0, 1) := by decide +kernel
theorem dX0_exchangeSides_1 : decode cX0_exchangeSides 1 = .ok (.getfield 9, 3) := by decide +kernel
theorem dX0_exchangeSides_4 : decode cX0_exchangeSides 4 = .ok (.iload_n 1, 1) := by decide +kernel
theorem dX0_exchangeSides_5 : decode cX0_exchangeSides 5 = .ok (.iaload, 1) := by decide +kernel
theorem dX0_exchangeSides_6 : decode cX0_exchangeSides 6 = .ok (.istore_n 3, 1) := by decide +kernel
theorem dX0_exchangeSides_7 : decode cX0_exchangeSides 7 = .ok (.aload_n 0, 1) := by decide +kernel
theorem dX0_exchangeSides_8 : decode cX0_exchangeSides 8 = .ok (.getfield 9, 3) := by decide +kernel
theorem dX0_exchangeSides_11 : decode cX0_exchangeSides 11 = .ok (.iload_n 1, 1) := by decide +kernel
theorem dX0_exchangeSides_12 : decode cX0_exchangeSides 12 = .ok (.aload_n 0, 1) := by decide +kernel
theorem dX0_exchangeSides_13 : decode cX0_exchangeSides 13 = .ok (.getfield 9, 3) := by decide +kernel
theorem dX0_exchangeSides_16 : decode cX0_exchangeSides 16 = .ok (.iload_n 2, 1) := by decide +kernel
theorem dX0_exchangeSides_17 : decode cX0_exchangeSides 17 = .ok (.iaload, 1) := by decide +kernel
theorem dX0_exchangeSides_18 : decode cX0_exchangeSides 18 = .ok (.iastore, 1) := by decide +kernel
theorem dX0_exchangeSides_19 : decode cX0_exchangeSides 19 = .ok (.aload_n 0, 1) := by decide +kernel
theorem dX0_exchangeSides_20 : decode cX0_exchangeSides 20 = .ok (.getfield 9, 3) := by decide +kernel
theorem dX0_exchangeSides_23 : decode cX0_exchangeSides 23 = .ok (.iload_n 2, 1) := by decide +kernel
theorem dX0_exchangeSides_24 : decode cX0_exchangeSides 24 = .ok (.iload_n 3, 1) := by decide +kernel
theorem dX0_exchangeSides_25 : decode cX0_exchangeSides 25 = .ok (.iastore, 1) := by decide +kernel
theorem dX0_exchangeSides_26 : decode cX0_exchangeSides 26 = .ok (.return_, 1) := by decide +kernel
theorem dX0_valueOfSides_0 : decode cX0_valueOfSides 0 = .ok (.iconst 0, 1) := by decide +kernel
theorem dX0_valueOfSides_1 : decode cX0_valueOfSides 1 = .ok (.istore_n 1, 1) := by decide +kernel
theorem dX0_valueOfSides_2 : decode cX0_valueOfSides 2 = .ok (.iconst 0, 1) := by decide +kernel
theorem dX0_valueOfSides_3 : decode cX0_valueOfSides 3 = .ok (.istore_n 2, 1) := by decide +kernel
theorem dX0_valueOfSides_4 : decode cX0_valueOfSides 4 = .ok (.iload_n 2, 1) := by decide +kernel
theorem dX0_valueOfSides_5 : decode cX0_valueOfSides 5 = .ok (.aload_n 0, 1) := by decide +kernel
theorem dX0_valueOfSides_6 : decode cX0_valueOfSides 6 = .ok (.getfield 27, 3) := by decide +kernel
theorem dX0_valueOfSides_9 : decode cX0_valueOfSides 9 = .ok (.getfield 41, 3) := by decide +kernel
theorem dX0_valueOfSides_12 : decode cX0_valueOfSides 12 = .ok (.if_icmp .ge 80, 3) := by decide +kernel
theorem dX0_valueOfSides_15 : decode cX0_valueOfSides 15 = .ok (.aload_n 0, 1) := by decide +kernel
theorem dX0_valueOfSides_16 : decode cX0_valueOfSides 16 = .ok (.getfield 9, 3) := by decide +kernel
theorem dX0_valueOfSides_19 : decode cX0_valueOfSides 19 = .ok (.aload_n 0, 1) := by decide +kernel
theorem dX0_valueOfSides_20 : decode cX0_valueOfSides 20 = .ok (.getfield 27, 3) := by decide +kernel
theorem dX0_valueOfSides_23 : decode cX0_valueOfSides 23 = .ok (.getfield 44, 3) := by decide +kernel
theorem dX0_valueOfSides_26 : decode cX0_valueOfSides 26 = .ok (.iload_n 2, 1) := by decide +kernel
theorem dX0_valueOfSides_27 : decode cX0_valueOfSides 27 = .ok (.iaload, 1) := by decide +kernel
theorem dX0_valueOfSides_28 : decode cX0_valueOfSides 28 = .ok (.iaload, 1) := by decide +kernel
theorem dX0_valueOfSides_29 : decode cX0_valueOfSides 29 = .ok (.aload_n 0, 1) := by decide +kernel
theorem dX0_valueOfSides_30 : decode cX0_valueOfSides 30 = .ok (.getfield 9, 3) := by decide +kernel
theorem dX0_valueOfSides_33 : decode cX0_valueOfSides 33 = .ok (.aload_n 0, 1) := by decide +kernel
theorem dX0_valueOfSides_34 : decode cX0_valueOfSides 34 = .ok (.getfield 27, 3) := by decide +kernel
theorem dX0_valueOfSides_37 : decode cX0_valueOfSides 37 = .ok (.getfield 47, 3) := by decide +kernel
theorem dX0_valueOfSides_40 : decode cX0_valueOfSides 40 = .ok (.iload_n 2, 1) := by decide +kernel
theorem dX0_valueOfSides_41 : decode cX0_valueOfSides 41 = .ok (.iaload, 1) := by decide +kernel
theorem dX0_valueOfSides_42 : decode cX0_valueOfSides 42 = .ok (.iaload, 1) := by decide +kernel
theorem dX0_valueOfSides_43 : decode cX0_valueOfSides 43 = .ok (.if_icmp .ne 7, 3) := by decide +kernel
theorem dX0_valueOfSides_46 : decode cX0_valueOfSides 46 = .ok (.iconst 1, 1) := by decide +kernel
theorem dX0_valueOfSides_47 : decode cX0_valueOfSides 47 = .ok (.goto 4, 3) := by decide +kernel
theorem dX0_valueOfSides_50 : decode cX0_valueOfSides 50 = .ok (.iconst 0, 1) := by decide +kernel
theorem dX0_valueOfSides_51 : decode cX0_valueOfSides 51 = .ok (.istore_n 3, 1) := by decide +kernel
theorem dX0_valueOfSides_52 : decode cX0_valueOfSides 52 = .ok (.iload_n 3, 1) := by decide +kernel
theorem dX0_valueOfSides_53 : decode cX0_valueOfSides 53 = .ok (.aload_n 0, 1) := by decide +kernel
theorem dX0_valueOfSides_54 : decode cX0_valueOfSides 54 = .ok (.getfield 27, 3) := by decide +kernel
theorem dX0_valueOfSides_57 : decode cX0_valueOfSides 57 = .ok (.getfield 50, 3) := by decide +kernel
theorem dX0_valueOfSides_60 : decode cX0_valueOfSides 60 = .ok (.iload_n 2, 1) := by decide +kernel
theorem dX0_valueOfSides_61 : decode cX0_valueOfSides 61 = .ok (.iaload, 1) := by decide +kernel
theorem dX0_valueOfSides_62 : decode cX0_valueOfSides 62 = .ok (.iconst 1, 1) := by decide +kernel
theorem dX0_valueOfSides_63 : decode cX0_valueOfSides 63 = .ok (.if_icmp .ne 7, 3) := by decide +kernel
theorem dX0_valueOfSides_66 : decode cX0_valueOfSides 66 = .ok (.iconst 1, 1) := by decide +kernel
theorem dX0_valueOfSides_67 : decode cX0_valueOfSides 67 = .ok (.goto 4, 3) := by decide +kernel
theorem dX0_valueOfSides_70 : decode cX0_valueOfSides 70 = .ok (.iconst 0, 1) := by decide +kernel
theorem dX0_valueOfSides_71 : decode cX0_valueOfSides 71 = .ok (.if_icmp .ne 15, 3) := by decide +kernel
theorem dX0_valueOfSides_74 : decode cX0_valueOfSides 74 = .ok (.iload_n 1, 1) := by decide +kernel
theorem dX0_valueOfSides_75 : decode cX0_valueOfSides 75 = .ok (.aload_n 0, 1) := by decide +kernel
theorem dX0_valueOfSides_76 : decode cX0_valueOfSides 76 = .ok (.getfield 27, 3) := by decide +kernel
theorem dX0_valueOfSides_79 : decode cX0_valueOfSides 79 = .ok (.getfield 53, 3) := by decide +kernel
theorem dX0_valueOfSides_82 : decode cX0_valueOfSides 82 = .ok (.iload_n 2, 1) := by decide +kernel
theorem dX0_valueOfSides_83 : decode cX0_valueOfSides 83 = .ok (.iaload, 1) := by decide +kernel
theorem dX0_valueOfSides_84 : decode cX0_valueOfSides 84 = .ok (.iadd, 1) := by decide +kernel
theorem dX0_valueOfSides_85 : decode cX0_valueOfSides 85 = .ok (.istore_n 1, 1) := by decide +kernel
theorem dX0_valueOfSides_86 : decode cX0_valueOfSides 86 = .ok (.iinc 2 1, 3) := by decide +kernel
theorem dX0_valueOfSides_89 : decode cX0_valueOfSides 89 = .ok (.goto (-85), 3) := by decide +kernel
theorem dX0_valueOfSides_92 : decode cX0_valueOfSides 92 = .ok (.iload_n 1, 1) := by decide +kernel
theorem dX0_valueOfSides_93 : decode cX0_valueOfSides 93 = .ok (.ireturn, 1) := by decide +kernel
theorem dX0_valueWithChange_0 : decode cX0_valueWithChange 0 = .ok (.aload_n 0, 1) := by decide +kernel
theorem dX0_valueWithChange_1 : decode cX0_valueWithChange 1 = .ok (.iload_n 1, 1) := by decide +kernel
theorem dX0_valueWithChange_2 : decode cX0_valueWithChange 2 = .ok (.iload_n 2, 1) := by decide +kernel
theorem dX0_valueWithChange_3 : decode cX0_valueWithChange 3 = .ok (.invokevirtual 56, 3) := by decide +kernel
theorem dX0_valueWithChange_6 : decode cX0_valueWithChange 6 = .ok (.aload_n 0, 1) := by decide +kernel
theorem dX0_valueWithChange_7 : decode cX0_valueWithChange 7 = .ok (.invokevirtual 60, 3) := by decide +kernel
theorem dX0_valueWithChange_10 : decode cX0_valueWithChange 10 = .ok (.istore_n 3, 1) := by decide +kernel
theorem dX0_valueWithChange_11 : decode cX0_valueWithChange 11 = .ok (.aload_n 0, 1) := by decide +kernel
theorem dX0_valueWithChange_12 : decode cX0_valueWithChange 12 = .ok (.iload_n 1, 1) := by decide +kernel
theorem dX0_valueWithChange_13 : decode cX0_valueWithChange 13 = .ok (.iload_n 2, 1) := by decide +kernel
theorem dX0_valueWithChange_14 : decode cX0_valueWithChange 14 = .ok (.invokevirtual 56, 3) := by decide +kernel
theorem dX0_valueWithChange_17 : decode cX0_valueWithChange 17 = .ok (.iload_n 3, 1) := by decide +kernel
theorem dX0_valueWithChange_18 : decode cX0_valueWithChange 18 = .ok (.ireturn, 1) := by decide +kernel
theorem dX0_bestChange_0 : decode cX0_bestChange 0 = .ok (.aload_n 0, 1) := by decide +kernel
theorem dX0_bestChange_1 : decode cX0_bestChange 1 = .ok (.iload_n 1, 1) := by decide +kernel
theorem dX0_bestChange_2 : decode cX0_bestChange 2 = .ok (.invokevirtual 64, 3) := by decide +kernel
theorem dX0_bestChange_5 : decode cX0_bestChange 5 = .ok (.aload_n 0, 1) := by decide +kernel
theorem dX0_bestChange_6 : decode cX0_bestChange 6 = .ok (.invokevirtual 60, 3) := by decide +kernel
theorem dX0_bestChange_9 : decode cX0_bestChange 9 = .ok (.istore_n 2, 1) := by decide +kernel
theorem dX0_bestChange_10 : decode cX0_bestChange 10 = .ok (.iconst (-1), 1) := by decide +kernel
theorem dX0_bestChange_11 : decode cX0_bestChange 11 = .ok (.istore_n 3, 1) := by decide +kernel
theorem dX0_bestChange_12 : decode cX0_bestChange 12 = .ok (.iconst 0, 1) := by decide +kernel
theorem dX0_bestChange_13 : decode cX0_bestChange 13 = .ok (.istore 4, 2) := by decide +kernel
theorem dX0_bestChange_15 : decode cX0_bestChange 15 = .ok (.iload 4, 2) := by decide +kernel
theorem dX0_bestChange_17 : decode cX0_bestChange 17 = .ok (.aload_n 0, 1) := by decide +kernel
theorem dX0_bestChange_18 : decode cX0_bestChange 18 = .ok (.getfield 27, 3) := by decide +kernel
theorem dX0_bestChange_21 : decode cX0_bestChange 21 = .ok (.getfield 31, 3) := by decide +kernel
theorem dX0_bestChange_24 : decode cX0_bestChange 24 = .ok (.if_icmp .ge 79, 3) := by decide +kernel
theorem dX0_bestChange_27 : decode cX0_bestChange 27 = .ok (.iload 4, 2) := by decide +kernel
theorem dX0_bestChange_29 : decode cX0_bestChange 29 = .ok (.iconst 1, 1) := by decide +kernel
theorem dX0_bestChange_30 : decode cX0_bestChange 30 = .ok (.iadd, 1) := by decide +kernel
theorem dX0_bestChange_31 : decode cX0_bestChange 31 = .ok (.istore 5, 2) := by decide +kernel
theorem dX0_bestChange_33 : decode cX0_bestChange 33 = .ok (.iload 5, 2) := by decide +kernel
theorem dX0_bestChange_35 : decode cX0_bestChange 35 = .ok (.aload_n 0, 1) := by decide +kernel
theorem dX0_bestChange_36 : decode cX0_bestChange 36 = .ok (.getfield 27, 3) := by decide +kernel
theorem dX0_bestChange_39 : decode cX0_bestChange 39 = .ok (.getfield 31, 3) := by decide +kernel
theorem dX0_bestChange_42 : decode cX0_bestChange 42 = .ok (.if_icmp .ge 55, 3) := by decide +kernel
theorem dX0_bestChange_45 : decode cX0_bestChange 45 = .ok (.aload_n 0, 1) := by decide +kernel
theorem dX0_bestChange_46 : decode cX0_bestChange 46 = .ok (.getfield 27, 3) := by decide +kernel
theorem dX0_bestChange_49 : decode cX0_bestChange 49 = .ok (.iload 4, 2) := by decide +kernel
theorem dX0_bestChange_51 : decode cX0_bestChange 51 = .ok (.iload 5, 2) := by decide +kernel
theorem dX0_bestChange_53 : decode cX0_bestChange 53 = .ok (.invokevirtual 68, 3) := by decide +kernel
theorem dX0_bestChange_56 : decode cX0_bestChange 56 = .ok (.ifCond .eq 14, 3) := by decide +kernel
theorem dX0_bestChange_59 : decode cX0_bestChange 59 = .ok (.aload_n 0, 1) := by decide +kernel
theorem dX0_bestChange_60 : decode cX0_bestChange 60 = .ok (.iload 4, 2) := by decide +kernel
theorem dX0_bestChange_62 : decode cX0_bestChange 62 = .ok (.iload 5, 2) := by decide +kernel
theorem dX0_bestChange_64 : decode cX0_bestChange 64 = .ok (.invokevirtual 72, 3) := by decide +kernel
theorem dX0_bestChange_67 : decode cX0_bestChange 67 = .ok (.goto 4, 3) := by decide +kernel
theorem dX0_bestChange_70 : decode cX0_bestChange 70 = .ok (.iconst 0, 1) := by decide +kernel
theorem dX0_bestChange_71 : decode cX0_bestChange 71 = .ok (.istore 6, 2) := by decide +kernel
theorem dX0_bestChange_73 : decode cX0_bestChange 73 = .ok (.iload 6, 2) := by decide +kernel
theorem dX0_bestChange_75 : decode cX0_bestChange 75 = .ok (.iload_n 2, 1) := by decide +kernel
theorem dX0_bestChange_76 : decode cX0_bestChange 76 = .ok (.if_icmp .le 15, 3) := by decide +kernel
theorem dX0_bestChange_79 : decode cX0_bestChange 79 = .ok (.iload 6, 2) := by decide +kernel
theorem dX0_bestChange_81 : decode cX0_bestChange 81 = .ok (.istore_n 2, 1) := by decide +kernel
theorem dX0_bestChange_82 : decode cX0_bestChange 82 = .ok (.bipush 100, 2) := by decide +kernel
theorem dX0_bestChange_84 : decode cX0_bestChange 84 = .ok (.iload 4, 2) := by decide +kernel
theorem dX0_bestChange_86 : decode cX0_bestChange 86 = .ok (.imul, 1) := by decide +kernel
theorem dX0_bestChange_87 : decode cX0_bestChange 87 = .ok (.iload 5, 2) := by decide +kernel
theorem dX0_bestChange_89 : decode cX0_bestChange 89 = .ok (.iadd, 1) := by decide +kernel
theorem dX0_bestChange_90 : decode cX0_bestChange 90 = .ok (.istore_n 3, 1) := by decide +kernel
theorem dX0_bestChange_91 : decode cX0_bestChange 91 = .ok (.iinc 5 1, 3) := by decide +kernel
theorem dX0_bestChange_94 : decode cX0_bestChange 94 = .ok (.goto (-61), 3) := by decide +kernel
theorem dX0_bestChange_97 : decode cX0_bestChange 97 = .ok (.iinc 4 1, 3) := by decide +kernel
theorem dX0_bestChange_100 : decode cX0_bestChange 100 = .ok (.goto (-85), 3) := by decide +kernel
theorem dX0_bestChange_103 : decode cX0_bestChange 103 = .ok (.iload_n 3, 1) := by decide +kernel
theorem dX0_bestChange_104 : decode cX0_bestChange 104 = .ok (.ireturn, 1) := by decide +kernel
theorem dX0_fewestChanges_0 : decode cX0_fewestChanges 0 = .ok (.aload_n 0, 1) := by decide +kernel
theorem dX0_fewestChanges_1 : decode cX0_fewestChanges 1 = .ok (.iload_n 1, 1) := by decide +kernel
theorem dX0_fewestChanges_2 : decode cX0_fewestChanges 2 = .ok (.invokevirtual 64, 3) := by decide +kernel
theorem dX0_fewestChanges_5 : decode cX0_fewestChanges 5 = .ok (.aload_n 0, 1) := by decide +kernel
theorem dX0_fewestChanges_6 : decode cX0_fewestChanges 6 = .ok (.invokevirtual 60, 3) := by decide +kernel
theorem dX0_fewestChanges_9 : decode cX0_fewestChanges 9 = .ok (.iload_n 2, 1) := by decide +kernel
theorem dX0_fewestChanges_10 : decode cX0_fewestChanges 10 = .ok (.if_icmp .lt 5, 3) := by decide +kernel
theorem dX0_fewestChanges_13 : decode cX0_fewestChanges 13 = .ok (.iconst 0, 1) := by decide +kernel
theorem dX0_fewestChanges_14 : decode cX0_fewestChanges 14 = .ok (.ireturn, 1) := by decide +kernel
theorem dX0_fewestChanges_15 : decode cX0_fewestChanges 15 = .ok (.aload_n 0, 1) := by decide +kernel
theorem dX0_fewestChanges_16 : decode cX0_fewestChanges 16 = .ok (.getfield 27, 3) := by decide +kernel
theorem dX0_fewestChanges_19 : decode cX0_fewestChanges 19 = .ok (.invokevirtual 75, 3) := by decide +kernel
theorem dX0_fewestChanges_22 : decode cX0_fewestChanges 22 = .ok (.iload_n 2, 1) := by decide +kernel
theorem dX0_fewestChanges_23 : decode cX0_fewestChanges 23 = .ok (.if_icmp .ge 5, 3) := by decide +kernel
theorem dX0_fewestChanges_26 : decode cX0_fewestChanges 26 = .ok (.iconst (-1), 1) := by decide +kernel
theorem dX0_fewestChanges_27 : decode cX0_fewestChanges 27 = .ok (.ireturn, 1) := by decide +kernel
theorem dX0_fewestChanges_28 : decode cX0_fewestChanges 28 = .ok (.aload_n 0, 1) := by decide +kernel
theorem dX0_fewestChanges_29 : decode cX0_fewestChanges 29 = .ok (.iload_n 2, 1) := by decide +kernel
theorem dX0_fewestChanges_30 : decode cX0_fewestChanges 30 = .ok (.iconst 0, 1) := by decide +kernel
theorem dX0_fewestChanges_31 : decode cX0_fewestChanges 31 = .ok (.iconst 1, 1) := by decide +kernel
theorem dX0_fewestChanges_32 : decode cX0_fewestChanges 32 = .ok (.invokevirtual 78, 3) := by decide +kernel
theorem dX0_fewestChanges_35 : decode cX0_fewestChanges 35 = .ok (.ifCond .eq 5, 3) := by decide +kernel
theorem dX0_fewestChanges_38 : decode cX0_fewestChanges 38 = .ok (.iconst 1, 1) := by decide +kernel
theorem dX0_fewestChanges_39 : decode cX0_fewestChanges 39 = .ok (.ireturn, 1) := by decide +kernel
theorem dX0_fewestChanges_40 : decode cX0_fewestChanges 40 = .ok (.aload_n 0, 1) := by decide +kernel
theorem dX0_fewestChanges_41 : decode cX0_fewestChanges 41 = .ok (.iload_n 2, 1) := by decide +kernel
theorem dX0_fewestChanges_42 : decode cX0_fewestChanges 42 = .ok (.invokevirtual 82, 3) := by decide +kernel
theorem dX0_fewestChanges_45 : decode cX0_fewestChanges 45 = .ok (.ifCond .eq 7, 3) := by decide +kernel
theorem dX0_fewestChanges_48 : decode cX0_fewestChanges 48 = .ok (.iconst 2, 1) := by decide +kernel
theorem dX0_fewestChanges_49 : decode cX0_fewestChanges 49 = .ok (.goto 4, 3) := by decide +kernel
theorem dX0_fewestChanges_52 : decode cX0_fewestChanges 52 = .ok (.iconst (-1), 1) := by decide +kernel
theorem dX0_fewestChanges_53 : decode cX0_fewestChanges 53 = .ok (.ireturn, 1) := by decide +kernel
theorem dX0_oneChangeReaches_0 : decode cX0_oneChangeReaches 0 = .ok (.iload_n 2, 1) := by decide +kernel
theorem dX0_oneChangeReaches_1 : decode cX0_oneChangeReaches 1 = .ok (.istore 4, 2) := by decide +kernel
theorem dX0_oneChangeReaches_3 : decode cX0_oneChangeReaches 3 = .ok (.iload 4, 2) := by decide +kernel
theorem dX0_oneChangeReaches_5 : decode cX0_oneChangeReaches 5 = .ok (.aload_n 0, 1) := by decide +kernel
theorem dX0_oneChangeReaches_6 : decode cX0_oneChangeReaches 6 = .ok (.getfield 27, 3) := by decide +kernel
theorem dX0_oneChangeReaches_9 : decode cX0_oneChangeReaches 9 = .ok (.getfield 31, 3) := by decide +kernel
theorem dX0_oneChangeReaches_12 : decode cX0_oneChangeReaches 12 = .ok (.if_icmp .ge 74, 3) := by decide +kernel
theorem dX0_oneChangeReaches_15 : decode cX0_oneChangeReaches 15 = .ok (.iload 4, 2) := by decide +kernel
theorem dX0_oneChangeReaches_17 : decode cX0_oneChangeReaches 17 = .ok (.iload_n 2, 1) := by decide +kernel
theorem dX0_oneChangeReaches_18 : decode cX0_oneChangeReaches 18 = .ok (.if_icmp .ne 7, 3) := by decide +kernel
theorem dX0_oneChangeReaches_21 : decode cX0_oneChangeReaches 21 = .ok (.iload_n 3, 1) := by decide +kernel
theorem dX0_oneChangeReaches_22 : decode cX0_oneChangeReaches 22 = .ok (.goto 7, 3) := by decide +kernel
theorem dX0_oneChangeReaches_25 : decode cX0_oneChangeReaches 25 = .ok (.iload 4, 2) := by decide +kernel
theorem dX0_oneChangeReaches_27 : decode cX0_oneChangeReaches 27 = .ok (.iconst 1, 1) := by decide +kernel
theorem dX0_oneChangeReaches_28 : decode cX0_oneChangeReaches 28 = .ok (.iadd, 1) := by decide +kernel
theorem dX0_oneChangeReaches_29 : decode cX0_oneChangeReaches 29 = .ok (.istore 5, 2) := by decide +kernel
theorem dX0_oneChangeReaches_31 : decode cX0_oneChangeReaches 31 = .ok (.iload 5, 2) := by decide +kernel
theorem dX0_oneChangeReaches_33 : decode cX0_oneChangeReaches 33 = .ok (.aload_n 0, 1) := by decide +kernel
theorem dX0_oneChangeReaches_34 : decode cX0_oneChangeReaches 34 = .ok (.getfield 27, 3) := by decide +kernel
theorem dX0_oneChangeReaches_37 : decode cX0_oneChangeReaches 37 = .ok (.getfield 31, 3) := by decide +kernel
theorem dX0_oneChangeReaches_40 : decode cX0_oneChangeReaches 40 = .ok (.if_icmp .ge 40, 3) := by decide +kernel
theorem dX0_oneChangeReaches_43 : decode cX0_oneChangeReaches 43 = .ok (.aload_n 0, 1) := by decide +kernel
theorem dX0_oneChangeReaches_44 : decode cX0_oneChangeReaches 44 = .ok (.getfield 9, 3) := by decide +kernel
theorem dX0_oneChangeReaches_47 : decode cX0_oneChangeReaches 47 = .ok (.iload 4, 2) := by decide +kernel
theorem dX0_oneChangeReaches_49 : decode cX0_oneChangeReaches 49 = .ok (.iaload, 1) := by decide +kernel
theorem dX0_oneChangeReaches_50 : decode cX0_oneChangeReaches 50 = .ok (.aload_n 0, 1) := by decide +kernel
theorem dX0_oneChangeReaches_51 : decode cX0_oneChangeReaches 51 = .ok (.getfield 9, 3) := by decide +kernel
theorem dX0_oneChangeReaches_54 : decode cX0_oneChangeReaches 54 = .ok (.iload 5, 2) := by decide +kernel
theorem dX0_oneChangeReaches_56 : decode cX0_oneChangeReaches 56 = .ok (.iaload, 1) := by decide +kernel
theorem dX0_oneChangeReaches_57 : decode cX0_oneChangeReaches 57 = .ok (.if_icmp .eq 17, 3) := by decide +kernel
theorem dX0_oneChangeReaches_60 : decode cX0_oneChangeReaches 60 = .ok (.aload_n 0, 1) := by decide +kernel
theorem dX0_oneChangeReaches_61 : decode cX0_oneChangeReaches 61 = .ok (.iload 4, 2) := by decide +kernel
theorem dX0_oneChangeReaches_63 : decode cX0_oneChangeReaches 63 = .ok (.iload 5, 2) := by decide +kernel
theorem dX0_oneChangeReaches_65 : decode cX0_oneChangeReaches 65 = .ok (.invokevirtual 72, 3) := by decide +kernel
theorem dX0_oneChangeReaches_68 : decode cX0_oneChangeReaches 68 = .ok (.iload_n 1, 1) := by decide +kernel
theorem dX0_oneChangeReaches_69 : decode cX0_oneChangeReaches 69 = .ok (.if_icmp .lt 5, 3) := by decide +kernel
theorem dX0_oneChangeReaches_72 : decode cX0_oneChangeReaches 72 = .ok (.iconst 1, 1) := by decide +kernel
theorem dX0_oneChangeReaches_73 : decode cX0_oneChangeReaches 73 = .ok (.ireturn, 1) := by decide +kernel
theorem dX0_oneChangeReaches_74 : decode cX0_oneChangeReaches 74 = .ok (.iinc 5 1, 3) := by decide +kernel
theorem dX0_oneChangeReaches_77 : decode cX0_oneChangeReaches 77 = .ok (.goto (-46), 3) := by decide +kernel
theorem dX0_oneChangeReaches_80 : decode cX0_oneChangeReaches 80 = .ok (.iinc 4 1, 3) := by decide +kernel
theorem dX0_oneChangeReaches_83 : decode cX0_oneChangeReaches 83 = .ok (.goto (-80), 3) := by decide +kernel
theorem dX0_oneChangeReaches_86 : decode cX0_oneChangeReaches 86 = .ok (.iconst 0, 1) := by decide +kernel
theorem dX0_oneChangeReaches_87 : decode cX0_oneChangeReaches 87 = .ok (.ireturn, 1) := by decide +kernel
theorem dX0_twoChangesReach_0 : decode cX0_twoChangesReach 0 = .ok (.iconst 0, 1) := by decide +kernel
theorem dX0_twoChangesReach_1 : decode cX0_twoChangesReach 1 = .ok (.istore_n 2, 1) := by decide +kernel
theorem dX0_twoChangesReach_2 : decode cX0_twoChangesReach 2 = .ok (.iload_n 2, 1) := by decide +kernel
theorem dX0_twoChangesReach_3 : decode cX0_twoChangesReach 3 = .ok (.aload_n 0, 1) := by decide +kernel
theorem dX0_twoChangesReach_4 : decode cX0_twoChangesReach 4 = .ok (.getfield 27, 3) := by decide +kernel
theorem dX0_twoChangesReach_7 : decode cX0_twoChangesReach 7 = .ok (.getfield 31, 3) := by decide +kernel
theorem dX0_twoChangesReach_10 : decode cX0_twoChangesReach 10 = .ok (.if_icmp .ge 75, 3) := by decide +kernel
theorem dX0_twoChangesReach_13 : decode cX0_twoChangesReach 13 = .ok (.iload_n 2, 1) := by decide +kernel
theorem dX0_twoChangesReach_14 : decode cX0_twoChangesReach 14 = .ok (.iconst 1, 1) := by decide +kernel
theorem dX0_twoChangesReach_15 : decode cX0_twoChangesReach 15 = .ok (.iadd, 1) := by decide +kernel
theorem dX0_twoChangesReach_16 : decode cX0_twoChangesReach 16 = .ok (.istore_n 3, 1) := by decide +kernel
theorem dX0_twoChangesReach_17 : decode cX0_twoChangesReach 17 = .ok (.iload_n 3, 1) := by decide +kernel
theorem dX0_twoChangesReach_18 : decode cX0_twoChangesReach 18 = .ok (.aload_n 0, 1) := by decide +kernel
theorem dX0_twoChangesReach_19 : decode cX0_twoChangesReach 19 = .ok (.getfield 27, 3) := by decide +kernel
theorem dX0_twoChangesReach_22 : decode cX0_twoChangesReach 22 = .ok (.getfield 31, 3) := by decide +kernel
theorem dX0_twoChangesReach_25 : decode cX0_twoChangesReach 25 = .ok (.if_icmp .ge 54, 3) := by decide +kernel
theorem dX0_twoChangesReach_28 : decode cX0_twoChangesReach 28 = .ok (.aload_n 0, 1) := by decide +kernel
theorem dX0_twoChangesReach_29 : decode cX0_twoChangesReach 29 = .ok (.getfield 9, 3) := by decide +kernel
theorem dX0_twoChangesReach_32 : decode cX0_twoChangesReach 32 = .ok (.iload_n 2, 1) := by decide +kernel
theorem dX0_twoChangesReach_33 : decode cX0_twoChangesReach 33 = .ok (.iaload, 1) := by decide +kernel
theorem dX0_twoChangesReach_34 : decode cX0_twoChangesReach 34 = .ok (.aload_n 0, 1) := by decide +kernel
theorem dX0_twoChangesReach_35 : decode cX0_twoChangesReach 35 = .ok (.getfield 9, 3) := by decide +kernel
theorem dX0_twoChangesReach_38 : decode cX0_twoChangesReach 38 = .ok (.iload_n 3, 1) := by decide +kernel
theorem dX0_twoChangesReach_39 : decode cX0_twoChangesReach 39 = .ok (.iaload, 1) := by decide +kernel
theorem dX0_twoChangesReach_40 : decode cX0_twoChangesReach 40 = .ok (.if_icmp .eq 33, 3) := by decide +kernel
theorem dX0_twoChangesReach_43 : decode cX0_twoChangesReach 43 = .ok (.aload_n 0, 1) := by decide +kernel
theorem dX0_twoChangesReach_44 : decode cX0_twoChangesReach 44 = .ok (.iload_n 2, 1) := by decide +kernel
theorem dX0_twoChangesReach_45 : decode cX0_twoChangesReach 45 = .ok (.iload_n 3, 1) := by decide +kernel
theorem dX0_twoChangesReach_46 : decode cX0_twoChangesReach 46 = .ok (.invokevirtual 56, 3) := by decide +kernel
theorem dX0_twoChangesReach_49 : decode cX0_twoChangesReach 49 = .ok (.aload_n 0, 1) := by decide +kernel
theorem dX0_twoChangesReach_50 : decode cX0_twoChangesReach 50 = .ok (.iload_n 1, 1) := by decide +kernel
theorem dX0_twoChangesReach_51 : decode cX0_twoChangesReach 51 = .ok (.iload_n 2, 1) := by decide +kernel
theorem dX0_twoChangesReach_52 : decode cX0_twoChangesReach 52 = .ok (.iload_n 3, 1) := by decide +kernel
theorem dX0_twoChangesReach_53 : decode cX0_twoChangesReach 53 = .ok (.iconst 1, 1) := by decide +kernel
theorem dX0_twoChangesReach_54 : decode cX0_twoChangesReach 54 = .ok (.iadd, 1) := by decide +kernel
theorem dX0_twoChangesReach_55 : decode cX0_twoChangesReach 55 = .ok (.invokevirtual 78, 3) := by decide +kernel
theorem dX0_twoChangesReach_58 : decode cX0_twoChangesReach 58 = .ok (.istore 4, 2) := by decide +kernel
theorem dX0_twoChangesReach_60 : decode cX0_twoChangesReach 60 = .ok (.aload_n 0, 1) := by decide +kernel
theorem dX0_twoChangesReach_61 : decode cX0_twoChangesReach 61 = .ok (.iload_n 2, 1) := by decide +kernel
theorem dX0_twoChangesReach_62 : decode cX0_twoChangesReach 62 = .ok (.iload_n 3, 1) := by decide +kernel
theorem dX0_twoChangesReach_63 : decode cX0_twoChangesReach 63 = .ok (.invokevirtual 56, 3) := by decide +kernel
theorem dX0_twoChangesReach_66 : decode cX0_twoChangesReach 66 = .ok (.iload 4, 2) := by decide +kernel
theorem dX0_twoChangesReach_68 : decode cX0_twoChangesReach 68 = .ok (.ifCond .eq 5, 3) := by decide +kernel
theorem dX0_twoChangesReach_71 : decode cX0_twoChangesReach 71 = .ok (.iconst 1, 1) := by decide +kernel
theorem dX0_twoChangesReach_72 : decode cX0_twoChangesReach 72 = .ok (.ireturn, 1) := by decide +kernel
theorem dX0_twoChangesReach_73 : decode cX0_twoChangesReach 73 = .ok (.iinc 3 1, 3) := by decide +kernel
theorem dX0_twoChangesReach_76 : decode cX0_twoChangesReach 76 = .ok (.goto (-59), 3) := by decide +kernel
theorem dX0_twoChangesReach_79 : decode cX0_twoChangesReach 79 = .ok (.iinc 2 1, 3) := by decide +kernel
theorem dX0_twoChangesReach_82 : decode cX0_twoChangesReach 82 = .ok (.goto (-80), 3) := by decide +kernel
theorem dX0_twoChangesReach_85 : decode cX0_twoChangesReach 85 = .ok (.iconst 0, 1) := by decide +kernel
theorem dX0_twoChangesReach_86 : decode cX0_twoChangesReach 86 = .ok (.ireturn, 1) := by decide +kernel
theorem dX0_firstChangeToFit_0 : decode cX0_firstChangeToFit 0 = .ok (.iconst 0, 1) := by decide +kernel
theorem dX0_firstChangeToFit_1 : decode cX0_firstChangeToFit 1 = .ok (.istore_n 3, 1) := by decide +kernel
theorem dX0_firstChangeToFit_2 : decode cX0_firstChangeToFit 2 = .ok (.iload_n 3, 1) := by decide +kernel
theorem dX0_firstChangeToFit_3 : decode cX0_firstChangeToFit 3 = .ok (.aload_n 0, 1) := by decide +kernel
theorem dX0_firstChangeToFit_4 : decode cX0_firstChangeToFit 4 = .ok (.getfield 27, 3) := by decide +kernel
theorem dX0_firstChangeToFit_7 : decode cX0_firstChangeToFit 7 = .ok (.getfield 31, 3) := by decide +kernel
theorem dX0_firstChangeToFit_10 : decode cX0_firstChangeToFit 10 = .ok (.if_icmp .ge 84, 3) := by decide +kernel
theorem dX0_firstChangeToFit_13 : decode cX0_firstChangeToFit 13 = .ok (.iload_n 3, 1) := by decide +kernel
theorem dX0_firstChangeToFit_14 : decode cX0_firstChangeToFit 14 = .ok (.iconst 1, 1) := by decide +kernel
theorem dX0_firstChangeToFit_15 : decode cX0_firstChangeToFit 15 = .ok (.iadd, 1) := by decide +kernel
theorem dX0_firstChangeToFit_16 : decode cX0_firstChangeToFit 16 = .ok (.istore 4, 2) := by decide +kernel
theorem dX0_firstChangeToFit_18 : decode cX0_firstChangeToFit 18 = .ok (.iload 4, 2) := by decide +kernel
theorem dX0_firstChangeToFit_20 : decode cX0_firstChangeToFit 20 = .ok (.aload_n 0, 1) := by decide +kernel
theorem dX0_firstChangeToFit_21 : decode cX0_firstChangeToFit 21 = .ok (.getfield 27, 3) := by decide +kernel
theorem dX0_firstChangeToFit_24 : decode cX0_firstChangeToFit 24 = .ok (.getfield 31, 3) := by decide +kernel
theorem dX0_firstChangeToFit_27 : decode cX0_firstChangeToFit 27 = .ok (.if_icmp .ge 61, 3) := by decide +kernel
theorem dX0_firstChangeToFit_30 : decode cX0_firstChangeToFit 30 = .ok (.aload_n 0, 1) := by decide +kernel
theorem dX0_firstChangeToFit_31 : decode cX0_firstChangeToFit 31 = .ok (.getfield 27, 3) := by decide +kernel
theorem dX0_firstChangeToFit_34 : decode cX0_firstChangeToFit 34 = .ok (.iload_n 3, 1) := by decide +kernel
theorem dX0_firstChangeToFit_35 : decode cX0_firstChangeToFit 35 = .ok (.iload 4, 2) := by decide +kernel
theorem dX0_firstChangeToFit_37 : decode cX0_firstChangeToFit 37 = .ok (.invokevirtual 86, 3) := by decide +kernel
theorem dX0_firstChangeToFit_40 : decode cX0_firstChangeToFit 40 = .ok (.aload_n 0, 1) := by decide +kernel
theorem dX0_firstChangeToFit_41 : decode cX0_firstChangeToFit 41 = .ok (.getfield 27, 3) := by decide +kernel
theorem dX0_firstChangeToFit_44 : decode cX0_firstChangeToFit 44 = .ok (.iload_n 1, 1) := by decide +kernel
theorem dX0_firstChangeToFit_45 : decode cX0_firstChangeToFit 45 = .ok (.aload_n 2, 1) := by decide +kernel
theorem dX0_firstChangeToFit_46 : decode cX0_firstChangeToFit 46 = .ok (.invokevirtual 89, 3) := by decide +kernel
theorem dX0_firstChangeToFit_49 : decode cX0_firstChangeToFit 49 = .ok (.ifCond .ne 7, 3) := by decide +kernel
theorem dX0_firstChangeToFit_52 : decode cX0_firstChangeToFit 52 = .ok (.iconst 1, 1) := by decide +kernel
theorem dX0_firstChangeToFit_53 : decode cX0_firstChangeToFit 53 = .ok (.goto 4, 3) := by decide +kernel
theorem dX0_firstChangeToFit_56 : decode cX0_firstChangeToFit 56 = .ok (.iconst 0, 1) := by decide +kernel
theorem dX0_firstChangeToFit_57 : decode cX0_firstChangeToFit 57 = .ok (.istore 5, 2) := by decide +kernel
theorem dX0_firstChangeToFit_59 : decode cX0_firstChangeToFit 59 = .ok (.aload_n 0, 1) := by decide +kernel
theorem dX0_firstChangeToFit_60 : decode cX0_firstChangeToFit 60 = .ok (.getfield 27, 3) := by decide +kernel
theorem dX0_firstChangeToFit_63 : decode cX0_firstChangeToFit 63 = .ok (.iload_n 3, 1) := by decide +kernel
theorem dX0_firstChangeToFit_64 : decode cX0_firstChangeToFit 64 = .ok (.iload 4, 2) := by decide +kernel
theorem dX0_firstChangeToFit_66 : decode cX0_firstChangeToFit 66 = .ok (.invokevirtual 86, 3) := by decide +kernel
theorem dX0_firstChangeToFit_69 : decode cX0_firstChangeToFit 69 = .ok (.iload 5, 2) := by decide +kernel
theorem dX0_firstChangeToFit_71 : decode cX0_firstChangeToFit 71 = .ok (.ifCond .eq 11, 3) := by decide +kernel
theorem dX0_firstChangeToFit_74 : decode cX0_firstChangeToFit 74 = .ok (.bipush 100, 2) := by decide +kernel
theorem dX0_firstChangeToFit_76 : decode cX0_firstChangeToFit 76 = .ok (.iload_n 3, 1) := by decide +kernel
theorem dX0_firstChangeToFit_77 : decode cX0_firstChangeToFit 77 = .ok (.imul, 1) := by decide +kernel
theorem dX0_firstChangeToFit_78 : decode cX0_firstChangeToFit 78 = .ok (.iload 4, 2) := by decide +kernel
theorem dX0_firstChangeToFit_80 : decode cX0_firstChangeToFit 80 = .ok (.iadd, 1) := by decide +kernel
theorem dX0_firstChangeToFit_81 : decode cX0_firstChangeToFit 81 = .ok (.ireturn, 1) := by decide +kernel
theorem dX0_firstChangeToFit_82 : decode cX0_firstChangeToFit 82 = .ok (.iinc 4 1, 3) := by decide +kernel
theorem dX0_firstChangeToFit_85 : decode cX0_firstChangeToFit 85 = .ok (.goto (-67), 3) := by decide +kernel
theorem dX0_firstChangeToFit_88 : decode cX0_firstChangeToFit 88 = .ok (.iinc 3 1, 3) := by decide +kernel
theorem dX0_firstChangeToFit_91 : decode cX0_firstChangeToFit 91 = .ok (.goto (-89), 3) := by decide +kernel
theorem dX0_firstChangeToFit_94 : decode cX0_firstChangeToFit 94 = .ok (.iconst (-1), 1) := by decide +kernel
theorem dX0_firstChangeToFit_95 : decode cX0_firstChangeToFit 95 = .ok (.ireturn, 1) := by decide +kernel
theorem dX0_bestPlace_0 : decode cX0_bestPlace 0 = .ok (.aload_n 0, 1) := by decide +kernel
theorem dX0_bestPlace_1 : decode cX0_bestPlace 1 = .ok (.getfield 27, 3) := by decide +kernel
theorem dX0_bestPlace_4 : decode cX0_bestPlace 4 = .ok (.getfield 93, 3) := by decide +kernel
theorem dX0_bestPlace_7 : decode cX0_bestPlace 7 = .ok (.iload_n 1, 1) := by decide +kernel
theorem dX0_bestPlace_8 : decode cX0_bestPlace 8 = .ok (.iaload, 1) := by decide +kernel
theorem dX0_bestPlace_9 : decode cX0_bestPlace 9 = .ok (.istore_n 2, 1) := by decide +kernel
theorem dX0_bestPlace_10 : decode cX0_bestPlace 10 = .ok (.iconst (-1), 1) := by decide +kernel
theorem dX0_bestPlace_11 : decode cX0_bestPlace 11 = .ok (.istore_n 3, 1) := by decide +kernel
theorem dX0_bestPlace_12 : decode cX0_bestPlace 12 = .ok (.iload_n 2, 1) := by decide +kernel
theorem dX0_bestPlace_13 : decode cX0_bestPlace 13 = .ok (.istore 4, 2) := by decide +kernel
theorem dX0_bestPlace_15 : decode cX0_bestPlace 15 = .ok (.iconst 0, 1) := by decide +kernel
theorem dX0_bestPlace_16 : decode cX0_bestPlace 16 = .ok (.istore 5, 2) := by decide +kernel
theorem dX0_bestPlace_18 : decode cX0_bestPlace 18 = .ok (.iload 5, 2) := by decide +kernel
theorem dX0_bestPlace_20 : decode cX0_bestPlace 20 = .ok (.aload_n 0, 1) := by decide +kernel
theorem dX0_bestPlace_21 : decode cX0_bestPlace 21 = .ok (.getfield 27, 3) := by decide +kernel
theorem dX0_bestPlace_24 : decode cX0_bestPlace 24 = .ok (.getfield 31, 3) := by decide +kernel
theorem dX0_bestPlace_27 : decode cX0_bestPlace 27 = .ok (.if_icmp .ge 41, 3) := by decide +kernel
theorem dX0_bestPlace_30 : decode cX0_bestPlace 30 = .ok (.aload_n 0, 1) := by decide +kernel
theorem dX0_bestPlace_31 : decode cX0_bestPlace 31 = .ok (.getfield 27, 3) := by decide +kernel
theorem dX0_bestPlace_34 : decode cX0_bestPlace 34 = .ok (.iload_n 1, 1) := by decide +kernel
theorem dX0_bestPlace_35 : decode cX0_bestPlace 35 = .ok (.iload 5, 2) := by decide +kernel
theorem dX0_bestPlace_37 : decode cX0_bestPlace 37 = .ok (.invokevirtual 96, 3) := by decide +kernel
theorem dX0_bestPlace_40 : decode cX0_bestPlace 40 = .ok (.aload_n 0, 1) := by decide +kernel
theorem dX0_bestPlace_41 : decode cX0_bestPlace 41 = .ok (.getfield 27, 3) := by decide +kernel
theorem dX0_bestPlace_44 : decode cX0_bestPlace 44 = .ok (.invokevirtual 99, 3) := by decide +kernel
theorem dX0_bestPlace_47 : decode cX0_bestPlace 47 = .ok (.istore 6, 2) := by decide +kernel
theorem dX0_bestPlace_49 : decode cX0_bestPlace 49 = .ok (.iload 6, 2) := by decide +kernel
theorem dX0_bestPlace_51 : decode cX0_bestPlace 51 = .ok (.iload_n 3, 1) := by decide +kernel
theorem dX0_bestPlace_52 : decode cX0_bestPlace 52 = .ok (.if_icmp .le 10, 3) := by decide +kernel
theorem dX0_bestPlace_55 : decode cX0_bestPlace 55 = .ok (.iload 6, 2) := by decide +kernel
theorem dX0_bestPlace_57 : decode cX0_bestPlace 57 = .ok (.istore_n 3, 1) := by decide +kernel
theorem dX0_bestPlace_58 : decode cX0_bestPlace 58 = .ok (.iload 5, 2) := by decide +kernel
theorem dX0_bestPlace_60 : decode cX0_bestPlace 60 = .ok (.istore 4, 2) := by decide +kernel
theorem dX0_bestPlace_62 : decode cX0_bestPlace 62 = .ok (.iinc 5 1, 3) := by decide +kernel
theorem dX0_bestPlace_65 : decode cX0_bestPlace 65 = .ok (.goto (-47), 3) := by decide +kernel
theorem dX0_bestPlace_68 : decode cX0_bestPlace 68 = .ok (.aload_n 0, 1) := by decide +kernel
theorem dX0_bestPlace_69 : decode cX0_bestPlace 69 = .ok (.getfield 27, 3) := by decide +kernel
theorem dX0_bestPlace_72 : decode cX0_bestPlace 72 = .ok (.iload_n 1, 1) := by decide +kernel
theorem dX0_bestPlace_73 : decode cX0_bestPlace 73 = .ok (.iload_n 2, 1) := by decide +kernel
theorem dX0_bestPlace_74 : decode cX0_bestPlace 74 = .ok (.invokevirtual 96, 3) := by decide +kernel
theorem dX0_bestPlace_77 : decode cX0_bestPlace 77 = .ok (.iload 4, 2) := by decide +kernel
theorem dX0_bestPlace_79 : decode cX0_bestPlace 79 = .ok (.ireturn, 1) := by decide +kernel
theorem dX0_safestPlace_0 : decode cX0_safestPlace 0 = .ok (.aload_n 0, 1) := by decide +kernel
theorem dX0_safestPlace_1 : decode cX0_safestPlace 1 = .ok (.getfield 27, 3) := by decide +kernel
theorem dX0_safestPlace_4 : decode cX0_safestPlace 4 = .ok (.getfield 93, 3) := by decide +kernel
theorem dX0_safestPlace_7 : decode cX0_safestPlace 7 = .ok (.iload_n 2, 1) := by decide +kernel
theorem dX0_safestPlace_8 : decode cX0_safestPlace 8 = .ok (.iaload, 1) := by decide +kernel
theorem dX0_safestPlace_9 : decode cX0_safestPlace 9 = .ok (.istore_n 3, 1) := by decide +kernel
theorem dX0_safestPlace_10 : decode cX0_safestPlace 10 = .ok (.iconst (-1), 1) := by decide +kernel
theorem dX0_safestPlace_11 : decode cX0_safestPlace 11 = .ok (.istore 4, 2) := by decide +kernel
theorem dX0_safestPlace_13 : decode cX0_safestPlace 13 = .ok (.iload_n 3, 1) := by decide +kernel
theorem dX0_safestPlace_14 : decode cX0_safestPlace 14 = .ok (.istore 5, 2) := by decide +kernel
theorem dX0_safestPlace_16 : decode cX0_safestPlace 16 = .ok (.iconst 0, 1) := by decide +kernel
theorem dX0_safestPlace_17 : decode cX0_safestPlace 17 = .ok (.istore 6, 2) := by decide +kernel
theorem dX0_safestPlace_19 : decode cX0_safestPlace 19 = .ok (.iload 6, 2) := by decide +kernel
theorem dX0_safestPlace_21 : decode cX0_safestPlace 21 = .ok (.aload_n 0, 1) := by decide +kernel
theorem dX0_safestPlace_22 : decode cX0_safestPlace 22 = .ok (.getfield 27, 3) := by decide +kernel
theorem dX0_safestPlace_25 : decode cX0_safestPlace 25 = .ok (.getfield 31, 3) := by decide +kernel
theorem dX0_safestPlace_28 : decode cX0_safestPlace 28 = .ok (.if_icmp .ge 45, 3) := by decide +kernel
theorem dX0_safestPlace_31 : decode cX0_safestPlace 31 = .ok (.aload_n 0, 1) := by decide +kernel
theorem dX0_safestPlace_32 : decode cX0_safestPlace 32 = .ok (.getfield 27, 3) := by decide +kernel
theorem dX0_safestPlace_35 : decode cX0_safestPlace 35 = .ok (.iload_n 2, 1) := by decide +kernel
theorem dX0_safestPlace_36 : decode cX0_safestPlace 36 = .ok (.iload 6, 2) := by decide +kernel
theorem dX0_safestPlace_38 : decode cX0_safestPlace 38 = .ok (.invokevirtual 96, 3) := by decide +kernel
theorem dX0_safestPlace_41 : decode cX0_safestPlace 41 = .ok (.aload_n 0, 1) := by decide +kernel
theorem dX0_safestPlace_42 : decode cX0_safestPlace 42 = .ok (.getfield 27, 3) := by decide +kernel
theorem dX0_safestPlace_45 : decode cX0_safestPlace 45 = .ok (.iload_n 1, 1) := by decide +kernel
theorem dX0_safestPlace_46 : decode cX0_safestPlace 46 = .ok (.iload_n 2, 1) := by decide +kernel
theorem dX0_safestPlace_47 : decode cX0_safestPlace 47 = .ok (.invokevirtual 102, 3) := by decide +kernel
theorem dX0_safestPlace_50 : decode cX0_safestPlace 50 = .ok (.istore 7, 2) := by decide +kernel
theorem dX0_safestPlace_52 : decode cX0_safestPlace 52 = .ok (.iload 7, 2) := by decide +kernel
theorem dX0_safestPlace_54 : decode cX0_safestPlace 54 = .ok (.iload 4, 2) := by decide +kernel
theorem dX0_safestPlace_56 : decode cX0_safestPlace 56 = .ok (.if_icmp .le 11, 3) := by decide +kernel
theorem dX0_safestPlace_59 : decode cX0_safestPlace 59 = .ok (.iload 7, 2) := by decide +kernel
theorem dX0_safestPlace_61 : decode cX0_safestPlace 61 = .ok (.istore 4, 2) := by decide +kernel
theorem dX0_safestPlace_63 : decode cX0_safestPlace 63 = .ok (.iload 6, 2) := by decide +kernel
theorem dX0_safestPlace_65 : decode cX0_safestPlace 65 = .ok (.istore 5, 2) := by decide +kernel
theorem dX0_safestPlace_67 : decode cX0_safestPlace 67 = .ok (.iinc 6 1, 3) := by decide +kernel
theorem dX0_safestPlace_70 : decode cX0_safestPlace 70 = .ok (.goto (-51), 3) := by decide +kernel
theorem dX0_safestPlace_73 : decode cX0_safestPlace 73 = .ok (.aload_n 0, 1) := by decide +kernel
theorem dX0_safestPlace_74 : decode cX0_safestPlace 74 = .ok (.getfield 27, 3) := by decide +kernel
theorem dX0_safestPlace_77 : decode cX0_safestPlace 77 = .ok (.iload_n 2, 1) := by decide +kernel
theorem dX0_safestPlace_78 : decode cX0_safestPlace 78 = .ok (.iload_n 3, 1) := by decide +kernel
theorem dX0_safestPlace_79 : decode cX0_safestPlace 79 = .ok (.invokevirtual 96, 3) := by decide +kernel
theorem dX0_safestPlace_82 : decode cX0_safestPlace 82 = .ok (.iload 5, 2) := by decide +kernel
theorem dX0_safestPlace_84 : decode cX0_safestPlace 84 = .ok (.ireturn, 1) := by decide +kernel
theorem dX0_shortestMove_0 : decode cX0_shortestMove 0 = .ok (.aload_n 0, 1) := by decide +kernel
theorem dX0_shortestMove_1 : decode cX0_shortestMove 1 = .ok (.iload_n 1, 1) := by decide +kernel
theorem dX0_shortestMove_2 : decode cX0_shortestMove 2 = .ok (.iload_n 2, 1) := by decide +kernel
theorem dX0_shortestMove_3 : decode cX0_shortestMove 3 = .ok (.iload_n 3, 1) := by decide +kernel
theorem dX0_shortestMove_4 : decode cX0_shortestMove 4 = .ok (.invokevirtual 105, 3) := by decide +kernel
theorem dX0_shortestMove_7 : decode cX0_shortestMove 7 = .ok (.istore 4, 2) := by decide +kernel
theorem dX0_shortestMove_9 : decode cX0_shortestMove 9 = .ok (.aload_n 0, 1) := by decide +kernel
theorem dX0_shortestMove_10 : decode cX0_shortestMove 10 = .ok (.iload_n 1, 1) := by decide +kernel
theorem dX0_shortestMove_11 : decode cX0_shortestMove 11 = .ok (.iload_n 3, 1) := by decide +kernel
theorem dX0_shortestMove_12 : decode cX0_shortestMove 12 = .ok (.iload_n 2, 1) := by decide +kernel
theorem dX0_shortestMove_13 : decode cX0_shortestMove 13 = .ok (.invokevirtual 105, 3) := by decide +kernel
theorem dX0_shortestMove_16 : decode cX0_shortestMove 16 = .ok (.istore 5, 2) := by decide +kernel
theorem dX0_shortestMove_18 : decode cX0_shortestMove 18 = .ok (.iload 4, 2) := by decide +kernel
theorem dX0_shortestMove_20 : decode cX0_shortestMove 20 = .ok (.iconst (-1), 1) := by decide +kernel
theorem dX0_shortestMove_21 : decode cX0_shortestMove 21 = .ok (.if_icmp .eq 9, 3) := by decide +kernel
theorem dX0_shortestMove_24 : decode cX0_shortestMove 24 = .ok (.iload 5, 2) := by decide +kernel
theorem dX0_shortestMove_26 : decode cX0_shortestMove 26 = .ok (.iconst (-1), 1) := by decide +kernel
theorem dX0_shortestMove_27 : decode cX0_shortestMove 27 = .ok (.if_icmp .ne 11, 3) := by decide +kernel
theorem dX0_shortestMove_30 : decode cX0_shortestMove 30 = .ok (.iload 4, 2) := by decide +kernel
theorem dX0_shortestMove_32 : decode cX0_shortestMove 32 = .ok (.iload 5, 2) := by decide +kernel
theorem dX0_shortestMove_34 : decode cX0_shortestMove 34 = .ok (.invokestatic 109, 3) := by decide +kernel
theorem dX0_shortestMove_37 : decode cX0_shortestMove 37 = .ok (.ireturn, 1) := by decide +kernel
theorem dX0_shortestMove_38 : decode cX0_shortestMove 38 = .ok (.iload 4, 2) := by decide +kernel
theorem dX0_shortestMove_40 : decode cX0_shortestMove 40 = .ok (.iload 5, 2) := by decide +kernel
theorem dX0_shortestMove_42 : decode cX0_shortestMove 42 = .ok (.invokestatic 114, 3) := by decide +kernel
theorem dX0_shortestMove_45 : decode cX0_shortestMove 45 = .ok (.ireturn, 1) := by decide +kernel
theorem dX0_shortestMoveOf_0 : decode cX0_shortestMoveOf 0 = .ok (.aload_n 0, 1) := by decide +kernel
theorem dX0_shortestMoveOf_1 : decode cX0_shortestMoveOf 1 = .ok (.getfield 27, 3) := by decide +kernel
theorem dX0_shortestMoveOf_4 : decode cX0_shortestMoveOf 4 = .ok (.getfield 93, 3) := by decide +kernel
theorem dX0_shortestMoveOf_7 : decode cX0_shortestMoveOf 7 = .ok (.iload_n 2, 1) := by decide +kernel
theorem dX0_shortestMoveOf_8 : decode cX0_shortestMoveOf 8 = .ok (.iaload, 1) := by decide +kernel
theorem dX0_shortestMoveOf_9 : decode cX0_shortestMoveOf 9 = .ok (.istore 4, 2) := by decide +kernel
theorem dX0_shortestMoveOf_11 : decode cX0_shortestMoveOf 11 = .ok (.iconst (-1), 1) := by decide +kernel
theorem dX0_shortestMoveOf_12 : decode cX0_shortestMoveOf 12 = .ok (.istore 5, 2) := by decide +kernel
theorem dX0_shortestMoveOf_14 : decode cX0_shortestMoveOf 14 = .ok (.iconst 0, 1) := by decide +kernel
theorem dX0_shortestMoveOf_15 : decode cX0_shortestMoveOf 15 = .ok (.istore 6, 2) := by decide +kernel
theorem dX0_shortestMoveOf_17 : decode cX0_shortestMoveOf 17 = .ok (.iload 6, 2) := by decide +kernel
theorem dX0_shortestMoveOf_19 : decode cX0_shortestMoveOf 19 = .ok (.aload_n 0, 1) := by decide +kernel
theorem dX0_shortestMoveOf_20 : decode cX0_shortestMoveOf 20 = .ok (.getfield 27, 3) := by decide +kernel
theorem dX0_shortestMoveOf_23 : decode cX0_shortestMoveOf 23 = .ok (.getfield 31, 3) := by decide +kernel
theorem dX0_shortestMoveOf_26 : decode cX0_shortestMoveOf 26 = .ok (.if_icmp .ge 59, 3) := by decide +kernel
theorem dX0_shortestMoveOf_29 : decode cX0_shortestMoveOf 29 = .ok (.aload_n 0, 1) := by decide +kernel
theorem dX0_shortestMoveOf_30 : decode cX0_shortestMoveOf 30 = .ok (.getfield 27, 3) := by decide +kernel
theorem dX0_shortestMoveOf_33 : decode cX0_shortestMoveOf 33 = .ok (.iload_n 2, 1) := by decide +kernel
theorem dX0_shortestMoveOf_34 : decode cX0_shortestMoveOf 34 = .ok (.iload 6, 2) := by decide +kernel
theorem dX0_shortestMoveOf_36 : decode cX0_shortestMoveOf 36 = .ok (.invokevirtual 96, 3) := by decide +kernel
theorem dX0_shortestMoveOf_39 : decode cX0_shortestMoveOf 39 = .ok (.iload 6, 2) := by decide +kernel
theorem dX0_shortestMoveOf_41 : decode cX0_shortestMoveOf 41 = .ok (.iload 4, 2) := by decide +kernel
theorem dX0_shortestMoveOf_43 : decode cX0_shortestMoveOf 43 = .ok (.isub, 1) := by decide +kernel
theorem dX0_shortestMoveOf_44 : decode cX0_shortestMoveOf 44 = .ok (.invokestatic 117, 3) := by decide +kernel
theorem dX0_shortestMoveOf_47 : decode cX0_shortestMoveOf 47 = .ok (.istore 7, 2) := by decide +kernel
theorem dX0_shortestMoveOf_49 : decode cX0_shortestMoveOf 49 = .ok (.aload_n 0, 1) := by decide +kernel
theorem dX0_shortestMoveOf_50 : decode cX0_shortestMoveOf 50 = .ok (.getfield 27, 3) := by decide +kernel
theorem dX0_shortestMoveOf_53 : decode cX0_shortestMoveOf 53 = .ok (.iload_n 1, 1) := by decide +kernel
theorem dX0_shortestMoveOf_54 : decode cX0_shortestMoveOf 54 = .ok (.iload_n 2, 1) := by decide +kernel
theorem dX0_shortestMoveOf_55 : decode cX0_shortestMoveOf 55 = .ok (.iload_n 3, 1) := by decide +kernel
theorem dX0_shortestMoveOf_56 : decode cX0_shortestMoveOf 56 = .ok (.invokevirtual 121, 3) := by decide +kernel
theorem dX0_shortestMoveOf_59 : decode cX0_shortestMoveOf 59 = .ok (.ifCond .eq 20, 3) := by decide +kernel
theorem dX0_shortestMoveOf_62 : decode cX0_shortestMoveOf 62 = .ok (.iload 5, 2) := by decide +kernel
theorem dX0_shortestMoveOf_64 : decode cX0_shortestMoveOf 64 = .ok (.iconst (-1), 1) := by decide +kernel
theorem dX0_shortestMoveOf_65 : decode cX0_shortestMoveOf 65 = .ok (.if_icmp .eq 10, 3) := by decide +kernel
theorem dX0_shortestMoveOf_68 : decode cX0_shortestMoveOf 68 = .ok (.iload 7, 2) := by decide +kernel
theorem dX0_shortestMoveOf_70 : decode cX0_shortestMoveOf 70 = .ok (.iload 5, 2) := by decide +kernel
theorem dX0_shortestMoveOf_72 : decode cX0_shortestMoveOf 72 = .ok (.if_icmp .ge 7, 3) := by decide +kernel
theorem dX0_shortestMoveOf_75 : decode cX0_shortestMoveOf 75 = .ok (.iload 7, 2) := by decide +kernel
theorem dX0_shortestMoveOf_77 : decode cX0_shortestMoveOf 77 = .ok (.istore 5, 2) := by decide +kernel
theorem dX0_shortestMoveOf_79 : decode cX0_shortestMoveOf 79 = .ok (.iinc 6 1, 3) := by decide +kernel
theorem dX0_shortestMoveOf_82 : decode cX0_shortestMoveOf 82 = .ok (.goto (-65), 3) := by decide +kernel
theorem dX0_shortestMoveOf_85 : decode cX0_shortestMoveOf 85 = .ok (.aload_n 0, 1) := by decide +kernel
theorem dX0_shortestMoveOf_86 : decode cX0_shortestMoveOf 86 = .ok (.getfield 27, 3) := by decide +kernel
theorem dX0_shortestMoveOf_89 : decode cX0_shortestMoveOf 89 = .ok (.iload_n 2, 1) := by decide +kernel
theorem dX0_shortestMoveOf_90 : decode cX0_shortestMoveOf 90 = .ok (.iload 4, 2) := by decide +kernel
theorem dX0_shortestMoveOf_92 : decode cX0_shortestMoveOf 92 = .ok (.invokevirtual 96, 3) := by decide +kernel
theorem dX0_shortestMoveOf_95 : decode cX0_shortestMoveOf 95 = .ok (.iload 5, 2) := by decide +kernel
theorem dX0_shortestMoveOf_97 : decode cX0_shortestMoveOf 97 = .ok (.ireturn, 1) := by decide +kernel
theorem dX0_greatestValue_0 : decode cX0_greatestValue 0 = .ok (.iconst 0, 1) := by decide +kernel
theorem dX0_greatestValue_1 : decode cX0_greatestValue 1 = .ok (.istore_n 2, 1) := by decide +kernel
theorem dX0_greatestValue_2 : decode cX0_greatestValue 2 = .ok (.iload_n 2, 1) := by decide +kernel
theorem dX0_greatestValue_3 : decode cX0_greatestValue 3 = .ok (.iconst 5, 1) := by decide +kernel
theorem dX0_greatestValue_4 : decode cX0_greatestValue 4 = .ok (.if_icmp .ge 23, 3) := by decide +kernel
theorem dX0_greatestValue_7 : decode cX0_greatestValue 7 = .ok (.aload_n 0, 1) := by decide +kernel
theorem dX0_greatestValue_8 : decode cX0_greatestValue 8 = .ok (.getfield 15, 3) := by decide +kernel
theorem dX0_greatestValue_11 : decode cX0_greatestValue 11 = .ok (.iload_n 2, 1) := by decide +kernel
theorem dX0_greatestValue_12 : decode cX0_greatestValue 12 = .ok (.iconst 0, 1) := by decide +kernel
theorem dX0_greatestValue_13 : decode cX0_greatestValue 13 = .ok (.iastore, 1) := by decide +kernel
theorem dX0_greatestValue_14 : decode cX0_greatestValue 14 = .ok (.aload_n 0, 1) := by decide +kernel
theorem dX0_greatestValue_15 : decode cX0_greatestValue 15 = .ok (.getfield 18, 3) := by decide +kernel
theorem dX0_greatestValue_18 : decode cX0_greatestValue 18 = .ok (.iload_n 2, 1) := by decide +kernel
theorem dX0_greatestValue_19 : decode cX0_greatestValue 19 = .ok (.iconst 0, 1) := by decide +kernel
theorem dX0_greatestValue_20 : decode cX0_greatestValue 20 = .ok (.iastore, 1) := by decide +kernel
theorem dX0_greatestValue_21 : decode cX0_greatestValue 21 = .ok (.iinc 2 1, 3) := by decide +kernel
theorem dX0_greatestValue_24 : decode cX0_greatestValue 24 = .ok (.goto (-22), 3) := by decide +kernel
theorem dX0_greatestValue_27 : decode cX0_greatestValue 27 = .ok (.iconst 0, 1) := by decide +kernel
theorem dX0_greatestValue_28 : decode cX0_greatestValue 28 = .ok (.istore_n 2, 1) := by decide +kernel
theorem dX0_greatestValue_29 : decode cX0_greatestValue 29 = .ok (.iload_n 2, 1) := by decide +kernel
theorem dX0_greatestValue_30 : decode cX0_greatestValue 30 = .ok (.aload_n 0, 1) := by decide +kernel
theorem dX0_greatestValue_31 : decode cX0_greatestValue 31 = .ok (.getfield 27, 3) := by decide +kernel
theorem dX0_greatestValue_34 : decode cX0_greatestValue 34 = .ok (.getfield 31, 3) := by decide +kernel
theorem dX0_greatestValue_37 : decode cX0_greatestValue 37 = .ok (.if_icmp .ge 27, 3) := by decide +kernel
theorem dX0_greatestValue_40 : decode cX0_greatestValue 40 = .ok (.aload_n 0, 1) := by decide +kernel
theorem dX0_greatestValue_41 : decode cX0_greatestValue 41 = .ok (.getfield 15, 3) := by decide +kernel
theorem dX0_greatestValue_44 : decode cX0_greatestValue 44 = .ok (.aload_n 0, 1) := by decide +kernel
theorem dX0_greatestValue_45 : decode cX0_greatestValue 45 = .ok (.getfield 27, 3) := by decide +kernel
theorem dX0_greatestValue_48 : decode cX0_greatestValue 48 = .ok (.iload_n 1, 1) := by decide +kernel
theorem dX0_greatestValue_49 : decode cX0_greatestValue 49 = .ok (.iload_n 2, 1) := by decide +kernel
theorem dX0_greatestValue_50 : decode cX0_greatestValue 50 = .ok (.invokevirtual 124, 3) := by decide +kernel
theorem dX0_greatestValue_53 : decode cX0_greatestValue 53 = .ok (.dup2, 1) := by decide +kernel
theorem dX0_greatestValue_54 : decode cX0_greatestValue 54 = .ok (.iaload, 1) := by decide +kernel
theorem dX0_greatestValue_55 : decode cX0_greatestValue 55 = .ok (.iconst 1, 1) := by decide +kernel
theorem dX0_greatestValue_56 : decode cX0_greatestValue 56 = .ok (.iadd, 1) := by decide +kernel
theorem dX0_greatestValue_57 : decode cX0_greatestValue 57 = .ok (.iastore, 1) := by decide +kernel
theorem dX0_greatestValue_58 : decode cX0_greatestValue 58 = .ok (.iinc 2 1, 3) := by decide +kernel
theorem dX0_greatestValue_61 : decode cX0_greatestValue 61 = .ok (.goto (-32), 3) := by decide +kernel
theorem dX0_greatestValue_64 : decode cX0_greatestValue 64 = .ok (.aload_n 0, 1) := by decide +kernel
theorem dX0_greatestValue_65 : decode cX0_greatestValue 65 = .ok (.iconst 0, 1) := by decide +kernel
theorem dX0_greatestValue_66 : decode cX0_greatestValue 66 = .ok (.invokevirtual 127, 3) := by decide +kernel
theorem dX0_greatestValue_69 : decode cX0_greatestValue 69 = .ok (.ireturn, 1) := by decide +kernel
theorem dX0_greatestFrom_0 : decode cX0_greatestFrom 0 = .ok (.iload_n 1, 1) := by decide +kernel
theorem dX0_greatestFrom_1 : decode cX0_greatestFrom 1 = .ok (.aload_n 0, 1) := by decide +kernel
theorem dX0_greatestFrom_2 : decode cX0_greatestFrom 2 = .ok (.getfield 27, 3) := by decide +kernel
theorem dX0_greatestFrom_5 : decode cX0_greatestFrom 5 = .ok (.getfield 31, 3) := by decide +kernel
theorem dX0_greatestFrom_8 : decode cX0_greatestFrom 8 = .ok (.if_icmp .ge 9, 3) := by decide +kernel
theorem dX0_greatestFrom_11 : decode cX0_greatestFrom 11 = .ok (.iload_n 1, 1) := by decide +kernel
theorem dX0_greatestFrom_12 : decode cX0_greatestFrom 12 = .ok (.bipush 8, 2) := by decide +kernel
theorem dX0_greatestFrom_14 : decode cX0_greatestFrom 14 = .ok (.if_icmp .lt 8, 3) := by decide +kernel
theorem dX0_greatestFrom_17 : decode cX0_greatestFrom 17 = .ok (.aload_n 0, 1) := by decide +kernel
theorem dX0_greatestFrom_18 : decode cX0_greatestFrom 18 = .ok (.invokevirtual 60, 3) := by decide +kernel
theorem dX0_greatestFrom_21 : decode cX0_greatestFrom 21 = .ok (.ireturn, 1) := by decide +kernel
theorem dX0_greatestFrom_22 : decode cX0_greatestFrom 22 = .ok (.iconst 0, 1) := by decide +kernel
theorem dX0_greatestFrom_23 : decode cX0_greatestFrom 23 = .ok (.istore_n 2, 1) := by decide +kernel
theorem dX0_greatestFrom_24 : decode cX0_greatestFrom 24 = .ok (.iconst 0, 1) := by decide +kernel
theorem dX0_greatestFrom_25 : decode cX0_greatestFrom 25 = .ok (.istore_n 3, 1) := by decide +kernel
theorem dX0_greatestFrom_26 : decode cX0_greatestFrom 26 = .ok (.iload_n 3, 1) := by decide +kernel
theorem dX0_greatestFrom_27 : decode cX0_greatestFrom 27 = .ok (.iconst 5, 1) := by decide +kernel
theorem dX0_greatestFrom_28 : decode cX0_greatestFrom 28 = .ok (.if_icmp .ge 71, 3) := by decide +kernel
theorem dX0_greatestFrom_31 : decode cX0_greatestFrom 31 = .ok (.aload_n 0, 1) := by decide +kernel
theorem dX0_greatestFrom_32 : decode cX0_greatestFrom 32 = .ok (.getfield 18, 3) := by decide +kernel
theorem dX0_greatestFrom_35 : decode cX0_greatestFrom 35 = .ok (.iload_n 3, 1) := by decide +kernel
theorem dX0_greatestFrom_36 : decode cX0_greatestFrom 36 = .ok (.iaload, 1) := by decide +kernel
theorem dX0_greatestFrom_37 : decode cX0_greatestFrom 37 = .ok (.aload_n 0, 1) := by decide +kernel
theorem dX0_greatestFrom_38 : decode cX0_greatestFrom 38 = .ok (.getfield 15, 3) := by decide +kernel
theorem dX0_greatestFrom_41 : decode cX0_greatestFrom 41 = .ok (.iload_n 3, 1) := by decide +kernel
theorem dX0_greatestFrom_42 : decode cX0_greatestFrom 42 = .ok (.iaload, 1) := by decide +kernel
theorem dX0_greatestFrom_43 : decode cX0_greatestFrom 43 = .ok (.if_icmp .ge 50, 3) := by decide +kernel
theorem dX0_greatestFrom_46 : decode cX0_greatestFrom 46 = .ok (.aload_n 0, 1) := by decide +kernel
theorem dX0_greatestFrom_47 : decode cX0_greatestFrom 47 = .ok (.iload_n 3, 1) := by decide +kernel
theorem dX0_greatestFrom_48 : decode cX0_greatestFrom 48 = .ok (.invokevirtual 130, 3) := by decide +kernel
theorem dX0_greatestFrom_51 : decode cX0_greatestFrom 51 = .ok (.ifCond .ne 42, 3) := by decide +kernel
theorem dX0_greatestFrom_54 : decode cX0_greatestFrom 54 = .ok (.aload_n 0, 1) := by decide +kernel
theorem dX0_greatestFrom_55 : decode cX0_greatestFrom 55 = .ok (.getfield 18, 3) := by decide +kernel
theorem dX0_greatestFrom_58 : decode cX0_greatestFrom 58 = .ok (.iload_n 3, 1) := by decide +kernel
theorem dX0_greatestFrom_59 : decode cX0_greatestFrom 59 = .ok (.dup2, 1) := by decide +kernel
theorem dX0_greatestFrom_60 : decode cX0_greatestFrom 60 = .ok (.iaload, 1) := by decide +kernel
theorem dX0_greatestFrom_61 : decode cX0_greatestFrom 61 = .ok (.iconst 1, 1) := by decide +kernel
theorem dX0_greatestFrom_62 : decode cX0_greatestFrom 62 = .ok (.iadd, 1) := by decide +kernel
theorem dX0_greatestFrom_63 : decode cX0_greatestFrom 63 = .ok (.iastore, 1) := by decide +kernel
theorem dX0_greatestFrom_64 : decode cX0_greatestFrom 64 = .ok (.aload_n 0, 1) := by decide +kernel
theorem dX0_greatestFrom_65 : decode cX0_greatestFrom 65 = .ok (.getfield 9, 3) := by decide +kernel
theorem dX0_greatestFrom_68 : decode cX0_greatestFrom 68 = .ok (.iload_n 1, 1) := by decide +kernel
theorem dX0_greatestFrom_69 : decode cX0_greatestFrom 69 = .ok (.iload_n 3, 1) := by decide +kernel
theorem dX0_greatestFrom_70 : decode cX0_greatestFrom 70 = .ok (.iastore, 1) := by decide +kernel
theorem dX0_greatestFrom_71 : decode cX0_greatestFrom 71 = .ok (.iload_n 2, 1) := by decide +kernel
theorem dX0_greatestFrom_72 : decode cX0_greatestFrom 72 = .ok (.aload_n 0, 1) := by decide +kernel
theorem dX0_greatestFrom_73 : decode cX0_greatestFrom 73 = .ok (.iload_n 1, 1) := by decide +kernel
theorem dX0_greatestFrom_74 : decode cX0_greatestFrom 74 = .ok (.iconst 1, 1) := by decide +kernel
theorem dX0_greatestFrom_75 : decode cX0_greatestFrom 75 = .ok (.iadd, 1) := by decide +kernel
theorem dX0_greatestFrom_76 : decode cX0_greatestFrom 76 = .ok (.invokevirtual 127, 3) := by decide +kernel
theorem dX0_greatestFrom_79 : decode cX0_greatestFrom 79 = .ok (.invokestatic 109, 3) := by decide +kernel
theorem dX0_greatestFrom_82 : decode cX0_greatestFrom 82 = .ok (.istore_n 2, 1) := by decide +kernel
theorem dX0_greatestFrom_83 : decode cX0_greatestFrom 83 = .ok (.aload_n 0, 1) := by decide +kernel
theorem dX0_greatestFrom_84 : decode cX0_greatestFrom 84 = .ok (.getfield 18, 3) := by decide +kernel
theorem dX0_greatestFrom_87 : decode cX0_greatestFrom 87 = .ok (.iload_n 3, 1) := by decide +kernel
theorem dX0_greatestFrom_88 : decode cX0_greatestFrom 88 = .ok (.dup2, 1) := by decide +kernel
theorem dX0_greatestFrom_89 : decode cX0_greatestFrom 89 = .ok (.iaload, 1) := by decide +kernel
theorem dX0_greatestFrom_90 : decode cX0_greatestFrom 90 = .ok (.iconst 1, 1) := by decide +kernel
theorem dX0_greatestFrom_91 : decode cX0_greatestFrom 91 = .ok (.isub, 1) := by decide +kernel
theorem dX0_greatestFrom_92 : decode cX0_greatestFrom 92 = .ok (.iastore, 1) := by decide +kernel
theorem dX0_greatestFrom_93 : decode cX0_greatestFrom 93 = .ok (.iinc 3 1, 3) := by decide +kernel
theorem dX0_greatestFrom_96 : decode cX0_greatestFrom 96 = .ok (.goto (-70), 3) := by decide +kernel
theorem dX0_greatestFrom_99 : decode cX0_greatestFrom 99 = .ok (.iload_n 2, 1) := by decide +kernel
theorem dX0_greatestFrom_100 : decode cX0_greatestFrom 100 = .ok (.ireturn, 1) := by decide +kernel
theorem dX0_isLikeOneAhead_0 : decode cX0_isLikeOneAhead 0 = .ok (.iconst 0, 1) := by decide +kernel
theorem dX0_isLikeOneAhead_1 : decode cX0_isLikeOneAhead 1 = .ok (.istore_n 2, 1) := by decide +kernel
theorem dX0_isLikeOneAhead_2 : decode cX0_isLikeOneAhead 2 = .ok (.iload_n 2, 1) := by decide +kernel
theorem dX0_isLikeOneAhead_3 : decode cX0_isLikeOneAhead 3 = .ok (.iload_n 1, 1) := by decide +kernel
theorem dX0_isLikeOneAhead_4 : decode cX0_isLikeOneAhead 4 = .ok (.if_icmp .ge 44, 3) := by decide +kernel
theorem dX0_isLikeOneAhead_7 : decode cX0_isLikeOneAhead 7 = .ok (.aload_n 0, 1) := by decide +kernel
theorem dX0_isLikeOneAhead_8 : decode cX0_isLikeOneAhead 8 = .ok (.getfield 18, 3) := by decide +kernel
theorem dX0_isLikeOneAhead_11 : decode cX0_isLikeOneAhead 11 = .ok (.iload_n 1, 1) := by decide +kernel
theorem dX0_isLikeOneAhead_12 : decode cX0_isLikeOneAhead 12 = .ok (.iaload, 1) := by decide +kernel
theorem dX0_isLikeOneAhead_13 : decode cX0_isLikeOneAhead 13 = .ok (.ifCond .ne 29, 3) := by decide +kernel
theorem dX0_isLikeOneAhead_16 : decode cX0_isLikeOneAhead 16 = .ok (.aload_n 0, 1) := by decide +kernel
theorem dX0_isLikeOneAhead_17 : decode cX0_isLikeOneAhead 17 = .ok (.getfield 18, 3) := by decide +kernel
theorem dX0_isLikeOneAhead_20 : decode cX0_isLikeOneAhead 20 = .ok (.iload_n 2, 1) := by decide +kernel
theorem dX0_isLikeOneAhead_21 : decode cX0_isLikeOneAhead 21 = .ok (.iaload, 1) := by decide +kernel
theorem dX0_isLikeOneAhead_22 : decode cX0_isLikeOneAhead 22 = .ok (.ifCond .ne 20, 3) := by decide +kernel
theorem dX0_isLikeOneAhead_25 : decode cX0_isLikeOneAhead 25 = .ok (.aload_n 0, 1) := by decide +kernel
theorem dX0_isLikeOneAhead_26 : decode cX0_isLikeOneAhead 26 = .ok (.getfield 15, 3) := by decide +kernel
theorem dX0_isLikeOneAhead_29 : decode cX0_isLikeOneAhead 29 = .ok (.iload_n 2, 1) := by decide +kernel
theorem dX0_isLikeOneAhead_30 : decode cX0_isLikeOneAhead 30 = .ok (.iaload, 1) := by decide +kernel
theorem dX0_isLikeOneAhead_31 : decode cX0_isLikeOneAhead 31 = .ok (.aload_n 0, 1) := by decide +kernel
theorem dX0_isLikeOneAhead_32 : decode cX0_isLikeOneAhead 32 = .ok (.getfield 15, 3) := by decide +kernel
theorem dX0_isLikeOneAhead_35 : decode cX0_isLikeOneAhead 35 = .ok (.iload_n 1, 1) := by decide +kernel
theorem dX0_isLikeOneAhead_36 : decode cX0_isLikeOneAhead 36 = .ok (.iaload, 1) := by decide +kernel
theorem dX0_isLikeOneAhead_37 : decode cX0_isLikeOneAhead 37 = .ok (.if_icmp .ne 5, 3) := by decide +kernel
theorem dX0_isLikeOneAhead_40 : decode cX0_isLikeOneAhead 40 = .ok (.iconst 1, 1) := by decide +kernel
theorem dX0_isLikeOneAhead_41 : decode cX0_isLikeOneAhead 41 = .ok (.ireturn, 1) := by decide +kernel
theorem dX0_isLikeOneAhead_42 : decode cX0_isLikeOneAhead 42 = .ok (.iinc 2 1, 3) := by decide +kernel
theorem dX0_isLikeOneAhead_45 : decode cX0_isLikeOneAhead 45 = .ok (.goto (-43), 3) := by decide +kernel
theorem dX0_isLikeOneAhead_48 : decode cX0_isLikeOneAhead 48 = .ok (.iconst 0, 1) := by decide +kernel
theorem dX0_isLikeOneAhead_49 : decode cX0_isLikeOneAhead 49 = .ok (.ireturn, 1) := by decide +kernel
theorem dX0_countOut_0 : decode cX0_countOut 0 = .ok (.aload_n 0, 1) := by decide +kernel
theorem dX0_countOut_1 : decode cX0_countOut 1 = .ok (.getfield 27, 3) := by decide +kernel
theorem dX0_countOut_4 : decode cX0_countOut 4 = .ok (.getfield 133, 3) := by decide +kernel
theorem dX0_countOut_7 : decode cX0_countOut 7 = .ok (.iconst 0, 1) := by decide +kernel
theorem dX0_countOut_8 : decode cX0_countOut 8 = .ok (.aload_n 0, 1) := by decide +kernel
theorem dX0_countOut_9 : decode cX0_countOut 9 = .ok (.getfield 21, 3) := by decide +kernel
theorem dX0_countOut_12 : decode cX0_countOut 12 = .ok (.iconst 0, 1) := by decide +kernel
theorem dX0_countOut_13 : decode cX0_countOut 13 = .ok (.bipush 14, 2) := by decide +kernel
theorem dX0_countOut_15 : decode cX0_countOut 15 = .ok (.invokestatic 136, 3) := by decide +kernel
theorem dX0_countOut_18 : decode cX0_countOut 18 = .ok (.iconst 0, 1) := by decide +kernel
theorem dX0_countOut_19 : decode cX0_countOut 19 = .ok (.istore_n 2, 1) := by decide +kernel
theorem dX0_countOut_20 : decode cX0_countOut 20 = .ok (.aload_n 0, 1) := by decide +kernel
theorem dX0_countOut_21 : decode cX0_countOut 21 = .ok (.getfield 27, 3) := by decide +kernel
theorem dX0_countOut_24 : decode cX0_countOut 24 = .ok (.getfield 31, 3) := by decide +kernel
theorem dX0_countOut_27 : decode cX0_countOut 27 = .ok (.istore_n 3, 1) := by decide +kernel
theorem dX0_countOut_28 : decode cX0_countOut 28 = .ok (.iload_n 3, 1) := by decide +kernel
theorem dX0_countOut_29 : decode cX0_countOut 29 = .ok (.ifCond .le 70, 3) := by decide +kernel
theorem dX0_countOut_32 : decode cX0_countOut 32 = .ok (.iload_n 2, 1) := by decide +kernel
theorem dX0_countOut_33 : decode cX0_countOut 33 = .ok (.iload_n 1, 1) := by decide +kernel
theorem dX0_countOut_34 : decode cX0_countOut 34 = .ok (.iadd, 1) := by decide +kernel
theorem dX0_countOut_35 : decode cX0_countOut 35 = .ok (.iconst 1, 1) := by decide +kernel
theorem dX0_countOut_36 : decode cX0_countOut 36 = .ok (.isub, 1) := by decide +kernel
theorem dX0_countOut_37 : decode cX0_countOut 37 = .ok (.iload_n 3, 1) := by decide +kernel
theorem dX0_countOut_38 : decode cX0_countOut 38 = .ok (.irem, 1) := by decide +kernel
theorem dX0_countOut_39 : decode cX0_countOut 39 = .ok (.istore_n 2, 1) := by decide +kernel
theorem dX0_countOut_40 : decode cX0_countOut 40 = .ok (.aload_n 0, 1) := by decide +kernel
theorem dX0_countOut_41 : decode cX0_countOut 41 = .ok (.getfield 24, 3) := by decide +kernel
theorem dX0_countOut_44 : decode cX0_countOut 44 = .ok (.aload_n 0, 1) := by decide +kernel
theorem dX0_countOut_45 : decode cX0_countOut 45 = .ok (.getfield 27, 3) := by decide +kernel
theorem dX0_countOut_48 : decode cX0_countOut 48 = .ok (.getfield 31, 3) := by decide +kernel
theorem dX0_countOut_51 : decode cX0_countOut 51 = .ok (.iload_n 3, 1) := by decide +kernel
theorem dX0_countOut_52 : decode cX0_countOut 52 = .ok (.isub, 1) := by decide +kernel
theorem dX0_countOut_53 : decode cX0_countOut 53 = .ok (.aload_n 0, 1) := by decide +kernel
theorem dX0_countOut_54 : decode cX0_countOut 54 = .ok (.getfield 21, 3) := by decide +kernel
theorem dX0_countOut_57 : decode cX0_countOut 57 = .ok (.iload_n 2, 1) := by decide +kernel
theorem dX0_countOut_58 : decode cX0_countOut 58 = .ok (.iaload, 1) := by decide +kernel
theorem dX0_countOut_59 : decode cX0_countOut 59 = .ok (.iastore, 1) := by decide +kernel
theorem dX0_countOut_60 : decode cX0_countOut 60 = .ok (.iload_n 2, 1) := by decide +kernel
theorem dX0_countOut_61 : decode cX0_countOut 61 = .ok (.istore 4, 2) := by decide +kernel
theorem dX0_countOut_63 : decode cX0_countOut 63 = .ok (.iload 4, 2) := by decide +kernel
theorem dX0_countOut_65 : decode cX0_countOut 65 = .ok (.iconst 1, 1) := by decide +kernel
theorem dX0_countOut_66 : decode cX0_countOut 66 = .ok (.iadd, 1) := by decide +kernel
theorem dX0_countOut_67 : decode cX0_countOut 67 = .ok (.iload_n 3, 1) := by decide +kernel
theorem dX0_countOut_68 : decode cX0_countOut 68 = .ok (.if_icmp .ge 25, 3) := by decide +kernel
theorem dX0_countOut_71 : decode cX0_countOut 71 = .ok (.aload_n 0, 1) := by decide +kernel
theorem dX0_countOut_72 : decode cX0_countOut 72 = .ok (.getfield 21, 3) := by decide +kernel
theorem dX0_countOut_75 : decode cX0_countOut 75 = .ok (.iload 4, 2) := by decide +kernel
theorem dX0_countOut_77 : decode cX0_countOut 77 = .ok (.aload_n 0, 1) := by decide +kernel
theorem dX0_countOut_78 : decode cX0_countOut 78 = .ok (.getfield 21, 3) := by decide +kernel
theorem dX0_countOut_81 : decode cX0_countOut 81 = .ok (.iload 4, 2) := by decide +kernel
theorem dX0_countOut_83 : decode cX0_countOut 83 = .ok (.iconst 1, 1) := by decide +kernel
theorem dX0_countOut_84 : decode cX0_countOut 84 = .ok (.iadd, 1) := by decide +kernel
theorem dX0_countOut_85 : decode cX0_countOut 85 = .ok (.iaload, 1) := by decide +kernel
theorem dX0_countOut_86 : decode cX0_countOut 86 = .ok (.iastore, 1) := by decide +kernel
theorem dX0_countOut_87 : decode cX0_countOut 87 = .ok (.iinc 4 1, 3) := by decide +kernel
theorem dX0_countOut_90 : decode cX0_countOut 90 = .ok (.goto (-27), 3) := by decide +kernel
theorem dX0_countOut_93 : decode cX0_countOut 93 = .ok (.iinc 3 (-1), 3) := by decide +kernel
theorem dX0_countOut_96 : decode cX0_countOut 96 = .ok (.goto (-68), 3) := by decide +kernel
theorem dX0_countOut_99 : decode cX0_countOut 99 = .ok (.return_, 1) := by decide +kernel
