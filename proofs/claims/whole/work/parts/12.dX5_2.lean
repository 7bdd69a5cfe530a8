theorem dX5_heaviest_0 : decode cX5_heaviest 0 = .ok (.aload_n 0, 1) := by decide +kernel
theorem dX5_heaviest_1 : decode cX5_heaviest 1 = .ok (.iload_n 1, 1) := by decide +kernel
theorem dX5_heaviest_2 : decode cX5_heaviest 2 = .ok (.invokevirtual 94, 3) := by decide +kernel
theorem dX5_heaviest_5 : decode cX5_heaviest 5 = .ok (.ifCond .ne 10, 3) := by decide +kernel
theorem dX5_heaviest_8 : decode cX5_heaviest 8 = .ok (.aload_n 0, 1) := by decide +kernel
theorem dX5_heaviest_9 : decode cX5_heaviest 9 = .ok (.bipush (-2), 2) := by decide +kernel
theorem dX5_heaviest_11 : decode cX5_heaviest 11 = .ok (.invokevirtual 104, 3) := by decide +kernel
theorem dX5_heaviest_14 : decode cX5_heaviest 14 = .ok (.ireturn, 1) := by decide +kernel
theorem dX5_heaviest_15 : decode cX5_heaviest 15 = .ok (.iconst 0, 1) := by decide +kernel
theorem dX5_heaviest_16 : decode cX5_heaviest 16 = .ok (.istore_n 2, 1) := by decide +kernel
theorem dX5_heaviest_17 : decode cX5_heaviest 17 = .ok (.iconst 1, 1) := by decide +kernel
theorem dX5_heaviest_18 : decode cX5_heaviest 18 = .ok (.istore_n 3, 1) := by decide +kernel
theorem dX5_heaviest_19 : decode cX5_heaviest 19 = .ok (.iload_n 3, 1) := by decide +kernel
theorem dX5_heaviest_20 : decode cX5_heaviest 20 = .ok (.aload_n 0, 1) := by decide +kernel
theorem dX5_heaviest_21 : decode cX5_heaviest 21 = .ok (.getfield 49, 3) := by decide +kernel
theorem dX5_heaviest_24 : decode cX5_heaviest 24 = .ok (.iload_n 1, 1) := by decide +kernel
theorem dX5_heaviest_25 : decode cX5_heaviest 25 = .ok (.iaload, 1) := by decide +kernel
theorem dX5_heaviest_26 : decode cX5_heaviest 26 = .ok (.if_icmp .ge 30, 3) := by decide +kernel
theorem dX5_heaviest_29 : decode cX5_heaviest 29 = .ok (.aload_n 0, 1) := by decide +kernel
theorem dX5_heaviest_30 : decode cX5_heaviest 30 = .ok (.iload_n 1, 1) := by decide +kernel
theorem dX5_heaviest_31 : decode cX5_heaviest 31 = .ok (.iload_n 3, 1) := by decide +kernel
theorem dX5_heaviest_32 : decode cX5_heaviest 32 = .ok (.invokevirtual 272, 3) := by decide +kernel
theorem dX5_heaviest_35 : decode cX5_heaviest 35 = .ok (.aload_n 0, 1) := by decide +kernel
theorem dX5_heaviest_36 : decode cX5_heaviest 36 = .ok (.iload_n 1, 1) := by decide +kernel
theorem dX5_heaviest_37 : decode cX5_heaviest 37 = .ok (.iload_n 2, 1) := by decide +kernel
theorem dX5_heaviest_38 : decode cX5_heaviest 38 = .ok (.invokevirtual 272, 3) := by decide +kernel
theorem dX5_heaviest_41 : decode cX5_heaviest 41 = .ok (.if_icmp .le 7, 3) := by decide +kernel
theorem dX5_heaviest_44 : decode cX5_heaviest 44 = .ok (.iload_n 3, 1) := by decide +kernel
theorem dX5_heaviest_45 : decode cX5_heaviest 45 = .ok (.goto 4, 3) := by decide +kernel
theorem dX5_heaviest_48 : decode cX5_heaviest 48 = .ok (.iload_n 2, 1) := by decide +kernel
theorem dX5_heaviest_49 : decode cX5_heaviest 49 = .ok (.istore_n 2, 1) := by decide +kernel
theorem dX5_heaviest_50 : decode cX5_heaviest 50 = .ok (.iinc 3 1, 3) := by decide +kernel
theorem dX5_heaviest_53 : decode cX5_heaviest 53 = .ok (.goto (-34), 3) := by decide +kernel
theorem dX5_heaviest_56 : decode cX5_heaviest 56 = .ok (.iload_n 2, 1) := by decide +kernel
theorem dX5_heaviest_57 : decode cX5_heaviest 57 = .ok (.ireturn, 1) := by decide +kernel
theorem dX5_turned_0 : decode cX5_turned 0 = .ok (.aload_n 0, 1) := by decide +kernel
theorem dX5_turned_1 : decode cX5_turned 1 = .ok (.iload_n 1, 1) := by decide +kernel
theorem dX5_turned_2 : decode cX5_turned 2 = .ok (.invokevirtual 94, 3) := by decide +kernel
theorem dX5_turned_5 : decode cX5_turned 5 = .ok (.ifCond .ne 10, 3) := by decide +kernel
theorem dX5_turned_8 : decode cX5_turned 8 = .ok (.aload_n 0, 1) := by decide +kernel
theorem dX5_turned_9 : decode cX5_turned 9 = .ok (.bipush (-2), 2) := by decide +kernel
theorem dX5_turned_11 : decode cX5_turned 11 = .ok (.invokevirtual 104, 3) := by decide +kernel
theorem dX5_turned_14 : decode cX5_turned 14 = .ok (.ireturn, 1) := by decide +kernel
theorem dX5_turned_15 : decode cX5_turned 15 = .ok (.aload_n 0, 1) := by decide +kernel
theorem dX5_turned_16 : decode cX5_turned 16 = .ok (.invokevirtual 245, 3) := by decide +kernel
theorem dX5_turned_19 : decode cX5_turned 19 = .ok (.astore_n 2, 1) := by decide +kernel
theorem dX5_turned_20 : decode cX5_turned 20 = .ok (.aload_n 2, 1) := by decide +kernel
theorem dX5_turned_21 : decode cX5_turned 21 = .ok (.invokevirtual 275, 3) := by decide +kernel
theorem dX5_turned_24 : decode cX5_turned 24 = .ok (.aload_n 2, 1) := by decide +kernel
theorem dX5_turned_25 : decode cX5_turned 25 = .ok (.iload_n 1, 1) := by decide +kernel
theorem dX5_turned_26 : decode cX5_turned 26 = .ok (.invokevirtual 278, 3) := by decide +kernel
theorem dX5_turned_29 : decode cX5_turned 29 = .ok (.ireturn, 1) := by decide +kernel
theorem dX5_unlike_0 : decode cX5_unlike 0 = .ok (.aload_n 0, 1) := by decide +kernel
theorem dX5_unlike_1 : decode cX5_unlike 1 = .ok (.iload_n 1, 1) := by decide +kernel
theorem dX5_unlike_2 : decode cX5_unlike 2 = .ok (.invokevirtual 94, 3) := by decide +kernel
theorem dX5_unlike_5 : decode cX5_unlike 5 = .ok (.ifCond .eq 11, 3) := by decide +kernel
theorem dX5_unlike_8 : decode cX5_unlike 8 = .ok (.aload_n 0, 1) := by decide +kernel
theorem dX5_unlike_9 : decode cX5_unlike 9 = .ok (.iload_n 2, 1) := by decide +kernel
theorem dX5_unlike_10 : decode cX5_unlike 10 = .ok (.invokevirtual 94, 3) := by decide +kernel
theorem dX5_unlike_13 : decode cX5_unlike 13 = .ok (.ifCond .ne 10, 3) := by decide +kernel
theorem dX5_unlike_16 : decode cX5_unlike 16 = .ok (.aload_n 0, 1) := by decide +kernel
theorem dX5_unlike_17 : decode cX5_unlike 17 = .ok (.bipush (-2), 2) := by decide +kernel
theorem dX5_unlike_19 : decode cX5_unlike 19 = .ok (.invokevirtual 104, 3) := by decide +kernel
theorem dX5_unlike_22 : decode cX5_unlike 22 = .ok (.ireturn, 1) := by decide +kernel
theorem dX5_unlike_23 : decode cX5_unlike 23 = .ok (.iconst 0, 1) := by decide +kernel
theorem dX5_unlike_24 : decode cX5_unlike 24 = .ok (.istore_n 3, 1) := by decide +kernel
theorem dX5_unlike_25 : decode cX5_unlike 25 = .ok (.iconst 0, 1) := by decide +kernel
theorem dX5_unlike_26 : decode cX5_unlike 26 = .ok (.istore 4, 2) := by decide +kernel
theorem dX5_unlike_28 : decode cX5_unlike 28 = .ok (.iload 4, 2) := by decide +kernel
theorem dX5_unlike_30 : decode cX5_unlike 30 = .ok (.aload_n 0, 1) := by decide +kernel
theorem dX5_unlike_31 : decode cX5_unlike 31 = .ok (.getfield 80, 3) := by decide +kernel
theorem dX5_unlike_34 : decode cX5_unlike 34 = .ok (.if_icmp .ge 34, 3) := by decide +kernel
theorem dX5_unlike_37 : decode cX5_unlike 37 = .ok (.iload_n 3, 1) := by decide +kernel
theorem dX5_unlike_38 : decode cX5_unlike 38 = .ok (.aload_n 0, 1) := by decide +kernel
theorem dX5_unlike_39 : decode cX5_unlike 39 = .ok (.iload_n 1, 1) := by decide +kernel
theorem dX5_unlike_40 : decode cX5_unlike 40 = .ok (.iload 4, 2) := by decide +kernel
theorem dX5_unlike_42 : decode cX5_unlike 42 = .ok (.invokevirtual 260, 3) := by decide +kernel
theorem dX5_unlike_45 : decode cX5_unlike 45 = .ok (.aload_n 0, 1) := by decide +kernel
theorem dX5_unlike_46 : decode cX5_unlike 46 = .ok (.iload_n 2, 1) := by decide +kernel
theorem dX5_unlike_47 : decode cX5_unlike 47 = .ok (.iload 4, 2) := by decide +kernel
theorem dX5_unlike_49 : decode cX5_unlike 49 = .ok (.invokevirtual 260, 3) := by decide +kernel
theorem dX5_unlike_52 : decode cX5_unlike 52 = .ok (.if_icmp .eq 7, 3) := by decide +kernel
theorem dX5_unlike_55 : decode cX5_unlike 55 = .ok (.iconst 1, 1) := by decide +kernel
theorem dX5_unlike_56 : decode cX5_unlike 56 = .ok (.goto 4, 3) := by decide +kernel
theorem dX5_unlike_59 : decode cX5_unlike 59 = .ok (.iconst 0, 1) := by decide +kernel
theorem dX5_unlike_60 : decode cX5_unlike 60 = .ok (.iadd, 1) := by decide +kernel
theorem dX5_unlike_61 : decode cX5_unlike 61 = .ok (.istore_n 3, 1) := by decide +kernel
theorem dX5_unlike_62 : decode cX5_unlike 62 = .ok (.iinc 4 1, 3) := by decide +kernel
theorem dX5_unlike_65 : decode cX5_unlike 65 = .ok (.goto (-37), 3) := by decide +kernel
theorem dX5_unlike_68 : decode cX5_unlike 68 = .ok (.iload_n 3, 1) := by decide +kernel
theorem dX5_unlike_69 : decode cX5_unlike 69 = .ok (.ireturn, 1) := by decide +kernel
theorem dX5_unmet_0 : decode cX5_unmet 0 = .ok (.aload_n 0, 1) := by decide +kernel
theorem dX5_unmet_1 : decode cX5_unmet 1 = .ok (.iload_n 1, 1) := by decide +kernel
theorem dX5_unmet_2 : decode cX5_unmet 2 = .ok (.invokevirtual 94, 3) := by decide +kernel
theorem dX5_unmet_5 : decode cX5_unmet 5 = .ok (.ifCond .ne 10, 3) := by decide +kernel
theorem dX5_unmet_8 : decode cX5_unmet 8 = .ok (.aload_n 0, 1) := by decide +kernel
theorem dX5_unmet_9 : decode cX5_unmet 9 = .ok (.bipush (-2), 2) := by decide +kernel
theorem dX5_unmet_11 : decode cX5_unmet 11 = .ok (.invokevirtual 104, 3) := by decide +kernel
theorem dX5_unmet_14 : decode cX5_unmet 14 = .ok (.ireturn, 1) := by decide +kernel
theorem dX5_unmet_15 : decode cX5_unmet 15 = .ok (.iconst (-1), 1) := by decide +kernel
theorem dX5_unmet_16 : decode cX5_unmet 16 = .ok (.istore_n 2, 1) := by decide +kernel
theorem dX5_unmet_17 : decode cX5_unmet 17 = .ok (.iconst 0, 1) := by decide +kernel
theorem dX5_unmet_18 : decode cX5_unmet 18 = .ok (.istore_n 3, 1) := by decide +kernel
theorem dX5_unmet_19 : decode cX5_unmet 19 = .ok (.iload_n 3, 1) := by decide +kernel
theorem dX5_unmet_20 : decode cX5_unmet 20 = .ok (.aload_n 0, 1) := by decide +kernel
theorem dX5_unmet_21 : decode cX5_unmet 21 = .ok (.getfield 141, 3) := by decide +kernel
theorem dX5_unmet_24 : decode cX5_unmet 24 = .ok (.if_icmp .ge 40, 3) := by decide +kernel
theorem dX5_unmet_27 : decode cX5_unmet 27 = .ok (.aload_n 0, 1) := by decide +kernel
theorem dX5_unmet_28 : decode cX5_unmet 28 = .ok (.iload_n 1, 1) := by decide +kernel
theorem dX5_unmet_29 : decode cX5_unmet 29 = .ok (.iload_n 3, 1) := by decide +kernel
theorem dX5_unmet_30 : decode cX5_unmet 30 = .ok (.invokevirtual 266, 3) := by decide +kernel
theorem dX5_unmet_33 : decode cX5_unmet 33 = .ok (.ifCond .ne 25, 3) := by decide +kernel
theorem dX5_unmet_36 : decode cX5_unmet 36 = .ok (.iload_n 2, 1) := by decide +kernel
theorem dX5_unmet_37 : decode cX5_unmet 37 = .ok (.iconst (-1), 1) := by decide +kernel
theorem dX5_unmet_38 : decode cX5_unmet 38 = .ok (.if_icmp .eq 18, 3) := by decide +kernel
theorem dX5_unmet_41 : decode cX5_unmet 41 = .ok (.aload_n 0, 1) := by decide +kernel
theorem dX5_unmet_42 : decode cX5_unmet 42 = .ok (.getfield 64, 3) := by decide +kernel
theorem dX5_unmet_45 : decode cX5_unmet 45 = .ok (.iload_n 3, 1) := by decide +kernel
theorem dX5_unmet_46 : decode cX5_unmet 46 = .ok (.iaload, 1) := by decide +kernel
theorem dX5_unmet_47 : decode cX5_unmet 47 = .ok (.aload_n 0, 1) := by decide +kernel
theorem dX5_unmet_48 : decode cX5_unmet 48 = .ok (.getfield 64, 3) := by decide +kernel
theorem dX5_unmet_51 : decode cX5_unmet 51 = .ok (.iload_n 2, 1) := by decide +kernel
theorem dX5_unmet_52 : decode cX5_unmet 52 = .ok (.iaload, 1) := by decide +kernel
theorem dX5_unmet_53 : decode cX5_unmet 53 = .ok (.if_icmp .le 5, 3) := by decide +kernel
theorem dX5_unmet_56 : decode cX5_unmet 56 = .ok (.iload_n 3, 1) := by decide +kernel
theorem dX5_unmet_57 : decode cX5_unmet 57 = .ok (.istore_n 2, 1) := by decide +kernel
theorem dX5_unmet_58 : decode cX5_unmet 58 = .ok (.iinc 3 1, 3) := by decide +kernel
theorem dX5_unmet_61 : decode cX5_unmet 61 = .ok (.goto (-42), 3) := by decide +kernel
theorem dX5_unmet_64 : decode cX5_unmet 64 = .ok (.iload_n 2, 1) := by decide +kernel
theorem dX5_unmet_65 : decode cX5_unmet 65 = .ok (.ireturn, 1) := by decide +kernel
theorem dX5_friends_0 : decode cX5_friends 0 = .ok (.iconst 1, 1) := by decide +kernel
theorem dX5_friends_1 : decode cX5_friends 1 = .ok (.iload_n 1, 1) := by decide +kernel
theorem dX5_friends_2 : decode cX5_friends 2 = .ok (.ishl, 1) := by decide +kernel
theorem dX5_friends_3 : decode cX5_friends 3 = .ok (.istore_n 2, 1) := by decide +kernel
theorem dX5_friends_4 : decode cX5_friends 4 = .ok (.iconst 0, 1) := by decide +kernel
theorem dX5_friends_5 : decode cX5_friends 5 = .ok (.istore_n 3, 1) := by decide +kernel
theorem dX5_friends_6 : decode cX5_friends 6 = .ok (.iload_n 3, 1) := by decide +kernel
theorem dX5_friends_7 : decode cX5_friends 7 = .ok (.aload_n 0, 1) := by decide +kernel
theorem dX5_friends_8 : decode cX5_friends 8 = .ok (.getfield 80, 3) := by decide +kernel
theorem dX5_friends_11 : decode cX5_friends 11 = .ok (.if_icmp .ge 88, 3) := by decide +kernel
theorem dX5_friends_14 : decode cX5_friends 14 = .ok (.iconst 0, 1) := by decide +kernel
theorem dX5_friends_15 : decode cX5_friends 15 = .ok (.istore 4, 2) := by decide +kernel
theorem dX5_friends_17 : decode cX5_friends 17 = .ok (.iload 4, 2) := by decide +kernel
theorem dX5_friends_19 : decode cX5_friends 19 = .ok (.aload_n 0, 1) := by decide +kernel
theorem dX5_friends_20 : decode cX5_friends 20 = .ok (.getfield 141, 3) := by decide +kernel
theorem dX5_friends_23 : decode cX5_friends 23 = .ok (.if_icmp .ge 70, 3) := by decide +kernel
theorem dX5_friends_26 : decode cX5_friends 26 = .ok (.aload_n 0, 1) := by decide +kernel
theorem dX5_friends_27 : decode cX5_friends 27 = .ok (.getfield 61, 3) := by decide +kernel
theorem dX5_friends_30 : decode cX5_friends 30 = .ok (.iload 4, 2) := by decide +kernel
theorem dX5_friends_32 : decode cX5_friends 32 = .ok (.iaload, 1) := by decide +kernel
theorem dX5_friends_33 : decode cX5_friends 33 = .ok (.iconst 1, 1) := by decide +kernel
theorem dX5_friends_34 : decode cX5_friends 34 = .ok (.if_icmp .ne 53, 3) := by decide +kernel
theorem dX5_friends_37 : decode cX5_friends 37 = .ok (.iload_n 2, 1) := by decide +kernel
theorem dX5_friends_38 : decode cX5_friends 38 = .ok (.aload_n 0, 1) := by decide +kernel
theorem dX5_friends_39 : decode cX5_friends 39 = .ok (.getfield 55, 3) := by decide +kernel
theorem dX5_friends_42 : decode cX5_friends 42 = .ok (.iload 4, 2) := by decide +kernel
theorem dX5_friends_44 : decode cX5_friends 44 = .ok (.iaload, 1) := by decide +kernel
theorem dX5_friends_45 : decode cX5_friends 45 = .ok (.invokestatic 281, 3) := by decide +kernel
theorem dX5_friends_48 : decode cX5_friends 48 = .ok (.ifCond .ne 17, 3) := by decide +kernel
theorem dX5_friends_51 : decode cX5_friends 51 = .ok (.iload_n 2, 1) := by decide +kernel
theorem dX5_friends_52 : decode cX5_friends 52 = .ok (.aload_n 0, 1) := by decide +kernel
theorem dX5_friends_53 : decode cX5_friends 53 = .ok (.getfield 58, 3) := by decide +kernel
theorem dX5_friends_56 : decode cX5_friends 56 = .ok (.iload 4, 2) := by decide +kernel
theorem dX5_friends_58 : decode cX5_friends 58 = .ok (.iaload, 1) := by decide +kernel
theorem dX5_friends_59 : decode cX5_friends 59 = .ok (.invokestatic 281, 3) := by decide +kernel
theorem dX5_friends_62 : decode cX5_friends 62 = .ok (.ifCond .eq 25, 3) := by decide +kernel
theorem dX5_friends_65 : decode cX5_friends 65 = .ok (.iload_n 2, 1) := by decide +kernel
theorem dX5_friends_66 : decode cX5_friends 66 = .ok (.iconst 1, 1) := by decide +kernel
theorem dX5_friends_67 : decode cX5_friends 67 = .ok (.aload_n 0, 1) := by decide +kernel
theorem dX5_friends_68 : decode cX5_friends 68 = .ok (.getfield 55, 3) := by decide +kernel
theorem dX5_friends_71 : decode cX5_friends 71 = .ok (.iload 4, 2) := by decide +kernel
theorem dX5_friends_73 : decode cX5_friends 73 = .ok (.iaload, 1) := by decide +kernel
theorem dX5_friends_74 : decode cX5_friends 74 = .ok (.ishl, 1) := by decide +kernel
theorem dX5_friends_75 : decode cX5_friends 75 = .ok (.iconst 1, 1) := by decide +kernel
theorem dX5_friends_76 : decode cX5_friends 76 = .ok (.aload_n 0, 1) := by decide +kernel
theorem dX5_friends_77 : decode cX5_friends 77 = .ok (.getfield 58, 3) := by decide +kernel
theorem dX5_friends_80 : decode cX5_friends 80 = .ok (.iload 4, 2) := by decide +kernel
theorem dX5_friends_82 : decode cX5_friends 82 = .ok (.iaload, 1) := by decide +kernel
theorem dX5_friends_83 : decode cX5_friends 83 = .ok (.ishl, 1) := by decide +kernel
theorem dX5_friends_84 : decode cX5_friends 84 = .ok (.ior, 1) := by decide +kernel
theorem dX5_friends_85 : decode cX5_friends 85 = .ok (.ior, 1) := by decide +kernel
theorem dX5_friends_86 : decode cX5_friends 86 = .ok (.istore_n 2, 1) := by decide +kernel
theorem dX5_friends_87 : decode cX5_friends 87 = .ok (.iinc 4 1, 3) := by decide +kernel
theorem dX5_friends_90 : decode cX5_friends 90 = .ok (.goto (-73), 3) := by decide +kernel
theorem dX5_friends_93 : decode cX5_friends 93 = .ok (.iinc 3 1, 3) := by decide +kernel
theorem dX5_friends_96 : decode cX5_friends 96 = .ok (.goto (-90), 3) := by decide +kernel
theorem dX5_friends_99 : decode cX5_friends 99 = .ok (.iload_n 2, 1) := by decide +kernel
theorem dX5_friends_100 : decode cX5_friends 100 = .ok (.ireturn, 1) := by decide +kernel
theorem dX5_friendsOf_0 : decode cX5_friendsOf 0 = .ok (.aload_n 0, 1) := by decide +kernel
theorem dX5_friendsOf_1 : decode cX5_friendsOf 1 = .ok (.iload_n 1, 1) := by decide +kernel
theorem dX5_friendsOf_2 : decode cX5_friendsOf 2 = .ok (.i2l, 1) := by decide +kernel
theorem dX5_friendsOf_3 : decode cX5_friendsOf 3 = .ok (.invokevirtual 87, 3) := by decide +kernel
theorem dX5_friendsOf_6 : decode cX5_friendsOf 6 = .ok (.ifCond .eq 11, 3) := by decide +kernel
theorem dX5_friendsOf_9 : decode cX5_friendsOf 9 = .ok (.aload_n 0, 1) := by decide +kernel
theorem dX5_friendsOf_10 : decode cX5_friendsOf 10 = .ok (.iload_n 1, 1) := by decide +kernel
theorem dX5_friendsOf_11 : decode cX5_friendsOf 11 = .ok (.invokevirtual 284, 3) := by decide +kernel
theorem dX5_friendsOf_14 : decode cX5_friendsOf 14 = .ok (.goto 9, 3) := by decide +kernel
theorem dX5_friendsOf_17 : decode cX5_friendsOf 17 = .ok (.aload_n 0, 1) := by decide +kernel
theorem dX5_friendsOf_18 : decode cX5_friendsOf 18 = .ok (.bipush (-2), 2) := by decide +kernel
theorem dX5_friendsOf_20 : decode cX5_friendsOf 20 = .ok (.invokevirtual 104, 3) := by decide +kernel
theorem dX5_friendsOf_23 : decode cX5_friendsOf 23 = .ok (.ireturn, 1) := by decide +kernel
theorem dX5_groups_0 : decode cX5_groups 0 = .ok (.iconst 0, 1) := by decide +kernel
theorem dX5_groups_1 : decode cX5_groups 1 = .ok (.istore_n 1, 1) := by decide +kernel
theorem dX5_groups_2 : decode cX5_groups 2 = .ok (.iconst 0, 1) := by decide +kernel
theorem dX5_groups_3 : decode cX5_groups 3 = .ok (.istore_n 2, 1) := by decide +kernel
theorem dX5_groups_4 : decode cX5_groups 4 = .ok (.iconst 0, 1) := by decide +kernel
theorem dX5_groups_5 : decode cX5_groups 5 = .ok (.istore_n 3, 1) := by decide +kernel
theorem dX5_groups_6 : decode cX5_groups 6 = .ok (.iload_n 3, 1) := by decide +kernel
theorem dX5_groups_7 : decode cX5_groups 7 = .ok (.aload_n 0, 1) := by decide +kernel
theorem dX5_groups_8 : decode cX5_groups 8 = .ok (.getfield 80, 3) := by decide +kernel
theorem dX5_groups_11 : decode cX5_groups 11 = .ok (.if_icmp .ge 33, 3) := by decide +kernel
theorem dX5_groups_14 : decode cX5_groups 14 = .ok (.iload_n 1, 1) := by decide +kernel
theorem dX5_groups_15 : decode cX5_groups 15 = .ok (.iload_n 2, 1) := by decide +kernel
theorem dX5_groups_16 : decode cX5_groups 16 = .ok (.iload_n 3, 1) := by decide +kernel
theorem dX5_groups_17 : decode cX5_groups 17 = .ok (.invokestatic 281, 3) := by decide +kernel
theorem dX5_groups_20 : decode cX5_groups 20 = .ok (.ifCond .eq 7, 3) := by decide +kernel
theorem dX5_groups_23 : decode cX5_groups 23 = .ok (.iconst 0, 1) := by decide +kernel
theorem dX5_groups_24 : decode cX5_groups 24 = .ok (.goto 4, 3) := by decide +kernel
theorem dX5_groups_27 : decode cX5_groups 27 = .ok (.iconst 1, 1) := by decide +kernel
theorem dX5_groups_28 : decode cX5_groups 28 = .ok (.iadd, 1) := by decide +kernel
theorem dX5_groups_29 : decode cX5_groups 29 = .ok (.istore_n 1, 1) := by decide +kernel
theorem dX5_groups_30 : decode cX5_groups 30 = .ok (.iload_n 2, 1) := by decide +kernel
theorem dX5_groups_31 : decode cX5_groups 31 = .ok (.aload_n 0, 1) := by decide +kernel
theorem dX5_groups_32 : decode cX5_groups 32 = .ok (.iload_n 3, 1) := by decide +kernel
theorem dX5_groups_33 : decode cX5_groups 33 = .ok (.invokevirtual 284, 3) := by decide +kernel
theorem dX5_groups_36 : decode cX5_groups 36 = .ok (.ior, 1) := by decide +kernel
theorem dX5_groups_37 : decode cX5_groups 37 = .ok (.istore_n 2, 1) := by decide +kernel
theorem dX5_groups_38 : decode cX5_groups 38 = .ok (.iinc 3 1, 3) := by decide +kernel
theorem dX5_groups_41 : decode cX5_groups 41 = .ok (.goto (-35), 3) := by decide +kernel
theorem dX5_groups_44 : decode cX5_groups 44 = .ok (.iload_n 1, 1) := by decide +kernel
theorem dX5_groups_45 : decode cX5_groups 45 = .ok (.ireturn, 1) := by decide +kernel
theorem dX5_conflict_0 : decode cX5_conflict 0 = .ok (.iconst 0, 1) := by decide +kernel
theorem dX5_conflict_1 : decode cX5_conflict 1 = .ok (.istore_n 1, 1) := by decide +kernel
theorem dX5_conflict_2 : decode cX5_conflict 2 = .ok (.iload_n 1, 1) := by decide +kernel
theorem dX5_conflict_3 : decode cX5_conflict 3 = .ok (.aload_n 0, 1) := by decide +kernel
theorem dX5_conflict_4 : decode cX5_conflict 4 = .ok (.getfield 141, 3) := by decide +kernel
theorem dX5_conflict_7 : decode cX5_conflict 7 = .ok (.if_icmp .ge 42, 3) := by decide +kernel
theorem dX5_conflict_10 : decode cX5_conflict 10 = .ok (.aload_n 0, 1) := by decide +kernel
theorem dX5_conflict_11 : decode cX5_conflict 11 = .ok (.getfield 61, 3) := by decide +kernel
theorem dX5_conflict_14 : decode cX5_conflict 14 = .ok (.iload_n 1, 1) := by decide +kernel
theorem dX5_conflict_15 : decode cX5_conflict 15 = .ok (.iaload, 1) := by decide +kernel
theorem dX5_conflict_16 : decode cX5_conflict 16 = .ok (.ifCond .ne 27, 3) := by decide +kernel
theorem dX5_conflict_19 : decode cX5_conflict 19 = .ok (.aload_n 0, 1) := by decide +kernel
theorem dX5_conflict_20 : decode cX5_conflict 20 = .ok (.aload_n 0, 1) := by decide +kernel
theorem dX5_conflict_21 : decode cX5_conflict 21 = .ok (.getfield 55, 3) := by decide +kernel
theorem dX5_conflict_24 : decode cX5_conflict 24 = .ok (.iload_n 1, 1) := by decide +kernel
theorem dX5_conflict_25 : decode cX5_conflict 25 = .ok (.iaload, 1) := by decide +kernel
theorem dX5_conflict_26 : decode cX5_conflict 26 = .ok (.invokevirtual 284, 3) := by decide +kernel
theorem dX5_conflict_29 : decode cX5_conflict 29 = .ok (.aload_n 0, 1) := by decide +kernel
theorem dX5_conflict_30 : decode cX5_conflict 30 = .ok (.getfield 58, 3) := by decide +kernel
theorem dX5_conflict_33 : decode cX5_conflict 33 = .ok (.iload_n 1, 1) := by decide +kernel
theorem dX5_conflict_34 : decode cX5_conflict 34 = .ok (.iaload, 1) := by decide +kernel
theorem dX5_conflict_35 : decode cX5_conflict 35 = .ok (.invokestatic 281, 3) := by decide +kernel
theorem dX5_conflict_38 : decode cX5_conflict 38 = .ok (.ifCond .eq 5, 3) := by decide +kernel
theorem dX5_conflict_41 : decode cX5_conflict 41 = .ok (.iload_n 1, 1) := by decide +kernel
theorem dX5_conflict_42 : decode cX5_conflict 42 = .ok (.ireturn, 1) := by decide +kernel
theorem dX5_conflict_43 : decode cX5_conflict 43 = .ok (.iinc 1 1, 3) := by decide +kernel
theorem dX5_conflict_46 : decode cX5_conflict 46 = .ok (.goto (-44), 3) := by decide +kernel
theorem dX5_conflict_49 : decode cX5_conflict 49 = .ok (.iconst (-1), 1) := by decide +kernel
theorem dX5_conflict_50 : decode cX5_conflict 50 = .ok (.ireturn, 1) := by decide +kernel
theorem dX5_value_0 : decode cX5_value 0 = .ok (.aload_n 0, 1) := by decide +kernel
theorem dX5_value_1 : decode cX5_value 1 = .ok (.iload_n 1, 1) := by decide +kernel
theorem dX5_value_2 : decode cX5_value 2 = .ok (.invokevirtual 94, 3) := by decide +kernel
theorem dX5_value_5 : decode cX5_value 5 = .ok (.ifCond .eq 11, 3) := by decide +kernel
theorem dX5_value_8 : decode cX5_value 8 = .ok (.aload_n 0, 1) := by decide +kernel
theorem dX5_value_9 : decode cX5_value 9 = .ok (.iload_n 1, 1) := by decide +kernel
theorem dX5_value_10 : decode cX5_value 10 = .ok (.invokevirtual 278, 3) := by decide +kernel
theorem dX5_value_13 : decode cX5_value 13 = .ok (.goto 9, 3) := by decide +kernel
theorem dX5_value_16 : decode cX5_value 16 = .ok (.aload_n 0, 1) := by decide +kernel
theorem dX5_value_17 : decode cX5_value 17 = .ok (.bipush (-2), 2) := by decide +kernel
theorem dX5_value_19 : decode cX5_value 19 = .ok (.invokevirtual 104, 3) := by decide +kernel
theorem dX5_value_22 : decode cX5_value 22 = .ok (.ireturn, 1) := by decide +kernel
theorem dX5_met_0 : decode cX5_met 0 = .ok (.aload_n 0, 1) := by decide +kernel
theorem dX5_met_1 : decode cX5_met 1 = .ok (.iload_n 1, 1) := by decide +kernel
theorem dX5_met_2 : decode cX5_met 2 = .ok (.invokevirtual 94, 3) := by decide +kernel
theorem dX5_met_5 : decode cX5_met 5 = .ok (.ifCond .eq 19, 3) := by decide +kernel
theorem dX5_met_8 : decode cX5_met 8 = .ok (.iload_n 2, 1) := by decide +kernel
theorem dX5_met_9 : decode cX5_met 9 = .ok (.i2l, 1) := by decide +kernel
theorem dX5_met_10 : decode cX5_met 10 = .ok (.lconst 0, 1) := by decide +kernel
theorem dX5_met_11 : decode cX5_met 11 = .ok (.aload_n 0, 1) := by decide +kernel
theorem dX5_met_12 : decode cX5_met 12 = .ok (.getfield 141, 3) := by decide +kernel
theorem dX5_met_15 : decode cX5_met 15 = .ok (.iconst 1, 1) := by decide +kernel
theorem dX5_met_16 : decode cX5_met 16 = .ok (.isub, 1) := by decide +kernel
theorem dX5_met_17 : decode cX5_met 17 = .ok (.i2l, 1) := by decide +kernel
theorem dX5_met_18 : decode cX5_met 18 = .ok (.invokestatic 83, 3) := by decide +kernel
theorem dX5_met_21 : decode cX5_met 21 = .ok (.ifCond .ne 10, 3) := by decide +kernel
theorem dX5_met_24 : decode cX5_met 24 = .ok (.aload_n 0, 1) := by decide +kernel
theorem dX5_met_25 : decode cX5_met 25 = .ok (.bipush (-2), 2) := by decide +kernel
theorem dX5_met_27 : decode cX5_met 27 = .ok (.invokevirtual 104, 3) := by decide +kernel
theorem dX5_met_30 : decode cX5_met 30 = .ok (.ireturn, 1) := by decide +kernel
theorem dX5_met_31 : decode cX5_met 31 = .ok (.aload_n 0, 1) := by decide +kernel
theorem dX5_met_32 : decode cX5_met 32 = .ok (.iload_n 1, 1) := by decide +kernel
theorem dX5_met_33 : decode cX5_met 33 = .ok (.iload_n 2, 1) := by decide +kernel
theorem dX5_met_34 : decode cX5_met 34 = .ok (.invokevirtual 266, 3) := by decide +kernel
theorem dX5_met_37 : decode cX5_met 37 = .ok (.ifCond .eq 7, 3) := by decide +kernel
theorem dX5_met_40 : decode cX5_met 40 = .ok (.iconst 1, 1) := by decide +kernel
theorem dX5_met_41 : decode cX5_met 41 = .ok (.goto 4, 3) := by decide +kernel
theorem dX5_met_44 : decode cX5_met 44 = .ok (.iconst 0, 1) := by decide +kernel
theorem dX5_met_45 : decode cX5_met 45 = .ok (.ireturn, 1) := by decide +kernel
theorem dX5_evenOf_0 : decode cX5_evenOf 0 = .ok (.aload_n 0, 1) := by decide +kernel
theorem dX5_evenOf_1 : decode cX5_evenOf 1 = .ok (.iload_n 1, 1) := by decide +kernel
theorem dX5_evenOf_2 : decode cX5_evenOf 2 = .ok (.iconst 0, 1) := by decide +kernel
theorem dX5_evenOf_3 : decode cX5_evenOf 3 = .ok (.invokevirtual 272, 3) := by decide +kernel
theorem dX5_evenOf_6 : decode cX5_evenOf 6 = .ok (.istore_n 2, 1) := by decide +kernel
theorem dX5_evenOf_7 : decode cX5_evenOf 7 = .ok (.iload_n 2, 1) := by decide +kernel
theorem dX5_evenOf_8 : decode cX5_evenOf 8 = .ok (.istore_n 3, 1) := by decide +kernel
theorem dX5_evenOf_9 : decode cX5_evenOf 9 = .ok (.iconst 1, 1) := by decide +kernel
theorem dX5_evenOf_10 : decode cX5_evenOf 10 = .ok (.istore 4, 2) := by decide +kernel
theorem dX5_evenOf_12 : decode cX5_evenOf 12 = .ok (.iload 4, 2) := by decide +kernel
theorem dX5_evenOf_14 : decode cX5_evenOf 14 = .ok (.aload_n 0, 1) := by decide +kernel
theorem dX5_evenOf_15 : decode cX5_evenOf 15 = .ok (.getfield 49, 3) := by decide +kernel
theorem dX5_evenOf_18 : decode cX5_evenOf 18 = .ok (.iload_n 1, 1) := by decide +kernel
theorem dX5_evenOf_19 : decode cX5_evenOf 19 = .ok (.iaload, 1) := by decide +kernel
theorem dX5_evenOf_20 : decode cX5_evenOf 20 = .ok (.if_icmp .ge 44, 3) := by decide +kernel
theorem dX5_evenOf_23 : decode cX5_evenOf 23 = .ok (.aload_n 0, 1) := by decide +kernel
theorem dX5_evenOf_24 : decode cX5_evenOf 24 = .ok (.iload_n 1, 1) := by decide +kernel
theorem dX5_evenOf_25 : decode cX5_evenOf 25 = .ok (.iload 4, 2) := by decide +kernel
theorem dX5_evenOf_27 : decode cX5_evenOf 27 = .ok (.invokevirtual 272, 3) := by decide +kernel
theorem dX5_evenOf_30 : decode cX5_evenOf 30 = .ok (.istore 5, 2) := by decide +kernel
theorem dX5_evenOf_32 : decode cX5_evenOf 32 = .ok (.iload 5, 2) := by decide +kernel
theorem dX5_evenOf_34 : decode cX5_evenOf 34 = .ok (.iload_n 2, 1) := by decide +kernel
theorem dX5_evenOf_35 : decode cX5_evenOf 35 = .ok (.if_icmp .ge 8, 3) := by decide +kernel
theorem dX5_evenOf_38 : decode cX5_evenOf 38 = .ok (.iload 5, 2) := by decide +kernel
theorem dX5_evenOf_40 : decode cX5_evenOf 40 = .ok (.goto 4, 3) := by decide +kernel
theorem dX5_evenOf_43 : decode cX5_evenOf 43 = .ok (.iload_n 2, 1) := by decide +kernel
theorem dX5_evenOf_44 : decode cX5_evenOf 44 = .ok (.istore_n 2, 1) := by decide +kernel
theorem dX5_evenOf_45 : decode cX5_evenOf 45 = .ok (.iload 5, 2) := by decide +kernel
theorem dX5_evenOf_47 : decode cX5_evenOf 47 = .ok (.iload_n 3, 1) := by decide +kernel
theorem dX5_evenOf_48 : decode cX5_evenOf 48 = .ok (.if_icmp .le 8, 3) := by decide +kernel
theorem dX5_evenOf_51 : decode cX5_evenOf 51 = .ok (.iload 5, 2) := by decide +kernel
theorem dX5_evenOf_53 : decode cX5_evenOf 53 = .ok (.goto 4, 3) := by decide +kernel
theorem dX5_evenOf_56 : decode cX5_evenOf 56 = .ok (.iload_n 3, 1) := by decide +kernel
theorem dX5_evenOf_57 : decode cX5_evenOf 57 = .ok (.istore_n 3, 1) := by decide +kernel
theorem dX5_evenOf_58 : decode cX5_evenOf 58 = .ok (.iinc 4 1, 3) := by decide +kernel
theorem dX5_evenOf_61 : decode cX5_evenOf 61 = .ok (.goto (-49), 3) := by decide +kernel
theorem dX5_evenOf_64 : decode cX5_evenOf 64 = .ok (.iload_n 3, 1) := by decide +kernel
theorem dX5_evenOf_65 : decode cX5_evenOf 65 = .ok (.iload_n 2, 1) := by decide +kernel
theorem dX5_evenOf_66 : decode cX5_evenOf 66 = .ok (.isub, 1) := by decide +kernel
theorem dX5_evenOf_67 : decode cX5_evenOf 67 = .ok (.ireturn, 1) := by decide +kernel
theorem dX5_even_0 : decode cX5_even 0 = .ok (.aload_n 0, 1) := by decide +kernel
theorem dX5_even_1 : decode cX5_even 1 = .ok (.iload_n 1, 1) := by decide +kernel
theorem dX5_even_2 : decode cX5_even 2 = .ok (.invokevirtual 94, 3) := by decide +kernel
theorem dX5_even_5 : decode cX5_even 5 = .ok (.ifCond .eq 11, 3) := by decide +kernel
theorem dX5_even_8 : decode cX5_even 8 = .ok (.aload_n 0, 1) := by decide +kernel
theorem dX5_even_9 : decode cX5_even 9 = .ok (.iload_n 1, 1) := by decide +kernel
theorem dX5_even_10 : decode cX5_even 10 = .ok (.invokevirtual 287, 3) := by decide +kernel
theorem dX5_even_13 : decode cX5_even 13 = .ok (.goto 9, 3) := by decide +kernel
theorem dX5_even_16 : decode cX5_even 16 = .ok (.aload_n 0, 1) := by decide +kernel
theorem dX5_even_17 : decode cX5_even 17 = .ok (.bipush (-2), 2) := by decide +kernel
theorem dX5_even_19 : decode cX5_even 19 = .ok (.invokevirtual 104, 3) := by decide +kernel
theorem dX5_even_22 : decode cX5_even 22 = .ok (.ireturn, 1) := by decide +kernel
theorem dX5_best_0 : decode cX5_best 0 = .ok (.iload_n 1, 1) := by decide +kernel
theorem dX5_best_1 : decode cX5_best 1 = .ok (.i2l, 1) := by decide +kernel
theorem dX5_best_2 : decode cX5_best 2 = .ok (.lconst 0, 1) := by decide +kernel
theorem dX5_best_3 : decode cX5_best 3 = .ok (.ldc2_w 133, 3) := by decide +kernel
theorem dX5_best_6 : decode cX5_best 6 = .ok (.invokestatic 83, 3) := by decide +kernel
theorem dX5_best_9 : decode cX5_best 9 = .ok (.ifCond .ne 10, 3) := by decide +kernel
theorem dX5_best_12 : decode cX5_best 12 = .ok (.aload_n 0, 1) := by decide +kernel
theorem dX5_best_13 : decode cX5_best 13 = .ok (.bipush (-2), 2) := by decide +kernel
theorem dX5_best_15 : decode cX5_best 15 = .ok (.invokevirtual 104, 3) := by decide +kernel
theorem dX5_best_18 : decode cX5_best 18 = .ok (.ireturn, 1) := by decide +kernel
theorem dX5_best_19 : decode cX5_best 19 = .ok (.aload_n 0, 1) := by decide +kernel
theorem dX5_best_20 : decode cX5_best 20 = .ok (.getfield 91, 3) := by decide +kernel
theorem dX5_best_23 : decode cX5_best 23 = .ok (.ifCond .ne 10, 3) := by decide +kernel
theorem dX5_best_26 : decode cX5_best 26 = .ok (.aload_n 0, 1) := by decide +kernel
theorem dX5_best_27 : decode cX5_best 27 = .ok (.bipush (-5), 2) := by decide +kernel
theorem dX5_best_29 : decode cX5_best 29 = .ok (.invokevirtual 104, 3) := by decide +kernel
theorem dX5_best_32 : decode cX5_best 32 = .ok (.ireturn, 1) := by decide +kernel
theorem dX5_best_33 : decode cX5_best 33 = .ok (.iconst 0, 1) := by decide +kernel
theorem dX5_best_34 : decode cX5_best 34 = .ok (.istore_n 2, 1) := by decide +kernel
theorem dX5_best_35 : decode cX5_best 35 = .ok (.iconst 0, 1) := by decide +kernel
theorem dX5_best_36 : decode cX5_best 36 = .ok (.istore_n 3, 1) := by decide +kernel
theorem dX5_best_37 : decode cX5_best 37 = .ok (.iconst 0, 1) := by decide +kernel
theorem dX5_best_38 : decode cX5_best 38 = .ok (.istore 4, 2) := by decide +kernel
theorem dX5_best_40 : decode cX5_best 40 = .ok (.iload 4, 2) := by decide +kernel
theorem dX5_best_42 : decode cX5_best 42 = .ok (.aload_n 0, 1) := by decide +kernel
theorem dX5_best_43 : decode cX5_best 43 = .ok (.getfield 91, 3) := by decide +kernel
theorem dX5_best_46 : decode cX5_best 46 = .ok (.if_icmp .ge 63, 3) := by decide +kernel
theorem dX5_best_49 : decode cX5_best 49 = .ok (.iload_n 1, 1) := by decide +kernel
theorem dX5_best_50 : decode cX5_best 50 = .ok (.ifCond .ne 12, 3) := by decide +kernel
theorem dX5_best_53 : decode cX5_best 53 = .ok (.aload_n 0, 1) := by decide +kernel
theorem dX5_best_54 : decode cX5_best 54 = .ok (.iload 4, 2) := by decide +kernel
theorem dX5_best_56 : decode cX5_best 56 = .ok (.invokevirtual 278, 3) := by decide +kernel
theorem dX5_best_59 : decode cX5_best 59 = .ok (.goto 25, 3) := by decide +kernel
theorem dX5_best_62 : decode cX5_best 62 = .ok (.iload_n 1, 1) := by decide +kernel
theorem dX5_best_63 : decode cX5_best 63 = .ok (.iconst 1, 1) := by decide +kernel
theorem dX5_best_64 : decode cX5_best 64 = .ok (.if_icmp .ne 13, 3) := by decide +kernel
theorem dX5_best_67 : decode cX5_best 67 = .ok (.aload_n 0, 1) := by decide +kernel
theorem dX5_best_68 : decode cX5_best 68 = .ok (.iload 4, 2) := by decide +kernel
theorem dX5_best_70 : decode cX5_best 70 = .ok (.invokevirtual 278, 3) := by decide +kernel
theorem dX5_best_73 : decode cX5_best 73 = .ok (.ineg, 1) := by decide +kernel
theorem dX5_best_74 : decode cX5_best 74 = .ok (.goto 10, 3) := by decide +kernel
theorem dX5_best_77 : decode cX5_best 77 = .ok (.aload_n 0, 1) := by decide +kernel
theorem dX5_best_78 : decode cX5_best 78 = .ok (.iload 4, 2) := by decide +kernel
theorem dX5_best_80 : decode cX5_best 80 = .ok (.invokevirtual 287, 3) := by decide +kernel
theorem dX5_best_83 : decode cX5_best 83 = .ok (.ineg, 1) := by decide +kernel
theorem dX5_best_84 : decode cX5_best 84 = .ok (.istore 5, 2) := by decide +kernel
theorem dX5_best_86 : decode cX5_best 86 = .ok (.iload 4, 2) := by decide +kernel
theorem dX5_best_88 : decode cX5_best 88 = .ok (.ifCond .eq 9, 3) := by decide +kernel
theorem dX5_best_91 : decode cX5_best 91 = .ok (.iload 5, 2) := by decide +kernel
theorem dX5_best_93 : decode cX5_best 93 = .ok (.iload_n 3, 1) := by decide +kernel
theorem dX5_best_94 : decode cX5_best 94 = .ok (.if_icmp .le 9, 3) := by decide +kernel
theorem dX5_best_97 : decode cX5_best 97 = .ok (.iload 4, 2) := by decide +kernel
theorem dX5_best_99 : decode cX5_best 99 = .ok (.istore_n 2, 1) := by decide +kernel
theorem dX5_best_100 : decode cX5_best 100 = .ok (.iload 5, 2) := by decide +kernel
theorem dX5_best_102 : decode cX5_best 102 = .ok (.istore_n 3, 1) := by decide +kernel
theorem dX5_best_103 : decode cX5_best 103 = .ok (.iinc 4 1, 3) := by decide +kernel
theorem dX5_best_106 : decode cX5_best 106 = .ok (.goto (-66), 3) := by decide +kernel
theorem dX5_best_109 : decode cX5_best 109 = .ok (.iload_n 2, 1) := by decide +kernel
theorem dX5_best_110 : decode cX5_best 110 = .ok (.ireturn, 1) := by decide +kernel
theorem dX5_mayChange_0 : decode cX5_mayChange 0 = .ok (.aload_n 0, 1) := by decide +kernel
theorem dX5_mayChange_1 : decode cX5_mayChange 1 = .ok (.getfield 43, 3) := by decide +kernel
theorem dX5_mayChange_4 : decode cX5_mayChange 4 = .ok (.iload_n 1, 1) := by decide +kernel
theorem dX5_mayChange_5 : decode cX5_mayChange 5 = .ok (.iaload, 1) := by decide +kernel
theorem dX5_mayChange_6 : decode cX5_mayChange 6 = .ok (.aload_n 0, 1) := by decide +kernel
theorem dX5_mayChange_7 : decode cX5_mayChange 7 = .ok (.getfield 43, 3) := by decide +kernel
theorem dX5_mayChange_10 : decode cX5_mayChange 10 = .ok (.iload_n 2, 1) := by decide +kernel
theorem dX5_mayChange_11 : decode cX5_mayChange 11 = .ok (.iaload, 1) := by decide +kernel
theorem dX5_mayChange_12 : decode cX5_mayChange 12 = .ok (.isub, 1) := by decide +kernel
theorem dX5_mayChange_13 : decode cX5_mayChange 13 = .ok (.istore_n 3, 1) := by decide +kernel
theorem dX5_mayChange_14 : decode cX5_mayChange 14 = .ok (.iload_n 3, 1) := by decide +kernel
theorem dX5_mayChange_15 : decode cX5_mayChange 15 = .ok (.ifCond .ge 8, 3) := by decide +kernel
theorem dX5_mayChange_18 : decode cX5_mayChange 18 = .ok (.iload_n 3, 1) := by decide +kernel
theorem dX5_mayChange_19 : decode cX5_mayChange 19 = .ok (.ineg, 1) := by decide +kernel
theorem dX5_mayChange_20 : decode cX5_mayChange 20 = .ok (.goto 4, 3) := by decide +kernel
theorem dX5_mayChange_23 : decode cX5_mayChange 23 = .ok (.iload_n 3, 1) := by decide +kernel
theorem dX5_mayChange_24 : decode cX5_mayChange 24 = .ok (.istore_n 3, 1) := by decide +kernel
theorem dX5_mayChange_25 : decode cX5_mayChange 25 = .ok (.iload_n 3, 1) := by decide +kernel
theorem dX5_mayChange_26 : decode cX5_mayChange 26 = .ok (.aload_n 0, 1) := by decide +kernel
theorem dX5_mayChange_27 : decode cX5_mayChange 27 = .ok (.getfield 40, 3) := by decide +kernel
theorem dX5_mayChange_30 : decode cX5_mayChange 30 = .ok (.iload_n 1, 1) := by decide +kernel
theorem dX5_mayChange_31 : decode cX5_mayChange 31 = .ok (.iaload, 1) := by decide +kernel
theorem dX5_mayChange_32 : decode cX5_mayChange 32 = .ok (.if_icmp .gt 17, 3) := by decide +kernel
theorem dX5_mayChange_35 : decode cX5_mayChange 35 = .ok (.iload_n 3, 1) := by decide +kernel
theorem dX5_mayChange_36 : decode cX5_mayChange 36 = .ok (.aload_n 0, 1) := by decide +kernel
theorem dX5_mayChange_37 : decode cX5_mayChange 37 = .ok (.getfield 40, 3) := by decide +kernel
theorem dX5_mayChange_40 : decode cX5_mayChange 40 = .ok (.iload_n 2, 1) := by decide +kernel
theorem dX5_mayChange_41 : decode cX5_mayChange 41 = .ok (.iaload, 1) := by decide +kernel
theorem dX5_mayChange_42 : decode cX5_mayChange 42 = .ok (.if_icmp .gt 7, 3) := by decide +kernel
theorem dX5_mayChange_45 : decode cX5_mayChange 45 = .ok (.iconst 1, 1) := by decide +kernel
theorem dX5_mayChange_46 : decode cX5_mayChange 46 = .ok (.goto 4, 3) := by decide +kernel
theorem dX5_mayChange_49 : decode cX5_mayChange 49 = .ok (.iconst 0, 1) := by decide +kernel
theorem dX5_mayChange_50 : decode cX5_mayChange 50 = .ok (.ireturn, 1) := by decide +kernel
theorem dX5_change_0 : decode cX5_change 0 = .ok (.aload_n 0, 1) := by decide +kernel
theorem dX5_change_1 : decode cX5_change 1 = .ok (.iload_n 1, 1) := by decide +kernel
theorem dX5_change_2 : decode cX5_change 2 = .ok (.invokevirtual 94, 3) := by decide +kernel
theorem dX5_change_5 : decode cX5_change 5 = .ok (.ifCond .ne 10, 3) := by decide +kernel
theorem dX5_change_8 : decode cX5_change 8 = .ok (.aload_n 0, 1) := by decide +kernel
theorem dX5_change_9 : decode cX5_change 9 = .ok (.bipush (-2), 2) := by decide +kernel
theorem dX5_change_11 : decode cX5_change 11 = .ok (.invokevirtual 104, 3) := by decide +kernel
theorem dX5_change_14 : decode cX5_change 14 = .ok (.ireturn, 1) := by decide +kernel
theorem dX5_change_15 : decode cX5_change 15 = .ok (.iconst (-1), 1) := by decide +kernel
theorem dX5_change_16 : decode cX5_change 16 = .ok (.istore_n 2, 1) := by decide +kernel
theorem dX5_change_17 : decode cX5_change 17 = .ok (.aload_n 0, 1) := by decide +kernel
theorem dX5_change_18 : decode cX5_change 18 = .ok (.iload_n 1, 1) := by decide +kernel
theorem dX5_change_19 : decode cX5_change 19 = .ok (.invokevirtual 278, 3) := by decide +kernel
theorem dX5_change_22 : decode cX5_change 22 = .ok (.istore_n 3, 1) := by decide +kernel
theorem dX5_change_23 : decode cX5_change 23 = .ok (.iconst 0, 1) := by decide +kernel
theorem dX5_change_24 : decode cX5_change 24 = .ok (.istore 4, 2) := by decide +kernel
theorem dX5_change_26 : decode cX5_change 26 = .ok (.iload 4, 2) := by decide +kernel
theorem dX5_change_28 : decode cX5_change 28 = .ok (.aload_n 0, 1) := by decide +kernel
theorem dX5_change_29 : decode cX5_change 29 = .ok (.getfield 80, 3) := by decide +kernel
theorem dX5_change_32 : decode cX5_change 32 = .ok (.if_icmp .ge 82, 3) := by decide +kernel
theorem dX5_change_35 : decode cX5_change 35 = .ok (.iload 4, 2) := by decide +kernel
theorem dX5_change_37 : decode cX5_change 37 = .ok (.iconst 1, 1) := by decide +kernel
theorem dX5_change_38 : decode cX5_change 38 = .ok (.iadd, 1) := by decide +kernel
theorem dX5_change_39 : decode cX5_change 39 = .ok (.istore 5, 2) := by decide +kernel
theorem dX5_change_41 : decode cX5_change 41 = .ok (.iload 5, 2) := by decide +kernel
theorem dX5_change_43 : decode cX5_change 43 = .ok (.aload_n 0, 1) := by decide +kernel
theorem dX5_change_44 : decode cX5_change 44 = .ok (.getfield 80, 3) := by decide +kernel
theorem dX5_change_47 : decode cX5_change 47 = .ok (.if_icmp .ge 61, 3) := by decide +kernel
theorem dX5_change_50 : decode cX5_change 50 = .ok (.aload_n 0, 1) := by decide +kernel
theorem dX5_change_51 : decode cX5_change 51 = .ok (.iload 4, 2) := by decide +kernel
theorem dX5_change_53 : decode cX5_change 53 = .ok (.iload 5, 2) := by decide +kernel
theorem dX5_change_55 : decode cX5_change 55 = .ok (.invokevirtual 290, 3) := by decide +kernel
theorem dX5_change_58 : decode cX5_change 58 = .ok (.ifCond .eq 44, 3) := by decide +kernel
theorem dX5_change_61 : decode cX5_change 61 = .ok (.aload_n 0, 1) := by decide +kernel
theorem dX5_change_62 : decode cX5_change 62 = .ok (.iload 4, 2) := by decide +kernel
theorem dX5_change_64 : decode cX5_change 64 = .ok (.iload 5, 2) := by decide +kernel
theorem dX5_change_66 : decode cX5_change 66 = .ok (.invokevirtual 222, 3) := by decide +kernel
theorem dX5_change_69 : decode cX5_change 69 = .ok (.aload_n 0, 1) := by decide +kernel
theorem dX5_change_70 : decode cX5_change 70 = .ok (.iload_n 1, 1) := by decide +kernel
theorem dX5_change_71 : decode cX5_change 71 = .ok (.invokevirtual 278, 3) := by decide +kernel
theorem dX5_change_74 : decode cX5_change 74 = .ok (.istore 6, 2) := by decide +kernel
theorem dX5_change_76 : decode cX5_change 76 = .ok (.aload_n 0, 1) := by decide +kernel
theorem dX5_change_77 : decode cX5_change 77 = .ok (.iload 4, 2) := by decide +kernel
theorem dX5_change_79 : decode cX5_change 79 = .ok (.iload 5, 2) := by decide +kernel
theorem dX5_change_81 : decode cX5_change 81 = .ok (.invokevirtual 222, 3) := by decide +kernel
theorem dX5_change_84 : decode cX5_change 84 = .ok (.iload 6, 2) := by decide +kernel
theorem dX5_change_86 : decode cX5_change 86 = .ok (.iload_n 3, 1) := by decide +kernel
theorem dX5_change_87 : decode cX5_change 87 = .ok (.if_icmp .le 15, 3) := by decide +kernel
theorem dX5_change_90 : decode cX5_change 90 = .ok (.bipush 100, 2) := by decide +kernel
theorem dX5_change_92 : decode cX5_change 92 = .ok (.iload 4, 2) := by decide +kernel
theorem dX5_change_94 : decode cX5_change 94 = .ok (.imul, 1) := by decide +kernel
theorem dX5_change_95 : decode cX5_change 95 = .ok (.iload 5, 2) := by decide +kernel
theorem dX5_change_97 : decode cX5_change 97 = .ok (.iadd, 1) := by decide +kernel
theorem dX5_change_98 : decode cX5_change 98 = .ok (.istore_n 2, 1) := by decide +kernel
theorem dX5_change_99 : decode cX5_change 99 = .ok (.iload 6, 2) := by decide +kernel
theorem dX5_change_101 : decode cX5_change 101 = .ok (.istore_n 3, 1) := by decide +kernel
theorem dX5_change_102 : decode cX5_change 102 = .ok (.iinc 5 1, 3) := by decide +kernel
theorem dX5_change_105 : decode cX5_change 105 = .ok (.goto (-64), 3) := by decide +kernel
theorem dX5_change_108 : decode cX5_change 108 = .ok (.iinc 4 1, 3) := by decide +kernel
theorem dX5_change_111 : decode cX5_change 111 = .ok (.goto (-85), 3) := by decide +kernel
theorem dX5_change_114 : decode cX5_change 114 = .ok (.iload_n 2, 1) := by decide +kernel
theorem dX5_change_115 : decode cX5_change 115 = .ok (.ireturn, 1) := by decide +kernel
theorem dX5_canBeBy_0 : decode cX5_canBeBy 0 = .ok (.aload_n 0, 1) := by decide +kernel
theorem dX5_canBeBy_1 : decode cX5_canBeBy 1 = .ok (.iload_n 1, 1) := by decide +kernel
theorem dX5_canBeBy_2 : decode cX5_canBeBy 2 = .ok (.invokevirtual 278, 3) := by decide +kernel
theorem dX5_canBeBy_5 : decode cX5_canBeBy 5 = .ok (.iload_n 2, 1) := by decide +kernel
theorem dX5_canBeBy_6 : decode cX5_canBeBy 6 = .ok (.if_icmp .lt 5, 3) := by decide +kernel
theorem dX5_canBeBy_9 : decode cX5_canBeBy 9 = .ok (.iconst 1, 1) := by decide +kernel
theorem dX5_canBeBy_10 : decode cX5_canBeBy 10 = .ok (.ireturn, 1) := by decide +kernel
theorem dX5_canBeBy_11 : decode cX5_canBeBy 11 = .ok (.iload_n 3, 1) := by decide +kernel
theorem dX5_canBeBy_12 : decode cX5_canBeBy 12 = .ok (.ifCond .ne 5, 3) := by decide +kernel
theorem dX5_canBeBy_15 : decode cX5_canBeBy 15 = .ok (.iconst 0, 1) := by decide +kernel
theorem dX5_canBeBy_16 : decode cX5_canBeBy 16 = .ok (.ireturn, 1) := by decide +kernel
theorem dX5_canBeBy_17 : decode cX5_canBeBy 17 = .ok (.iconst 0, 1) := by decide +kernel
theorem dX5_canBeBy_18 : decode cX5_canBeBy 18 = .ok (.istore 4, 2) := by decide +kernel
theorem dX5_canBeBy_20 : decode cX5_canBeBy 20 = .ok (.iload 4, 2) := by decide +kernel
theorem dX5_canBeBy_22 : decode cX5_canBeBy 22 = .ok (.aload_n 0, 1) := by decide +kernel
theorem dX5_canBeBy_23 : decode cX5_canBeBy 23 = .ok (.getfield 80, 3) := by decide +kernel
theorem dX5_canBeBy_26 : decode cX5_canBeBy 26 = .ok (.if_icmp .ge 64, 3) := by decide +kernel
theorem dX5_canBeBy_29 : decode cX5_canBeBy 29 = .ok (.iload 4, 2) := by decide +kernel
theorem dX5_canBeBy_31 : decode cX5_canBeBy 31 = .ok (.iconst 1, 1) := by decide +kernel
theorem dX5_canBeBy_32 : decode cX5_canBeBy 32 = .ok (.iadd, 1) := by decide +kernel
theorem dX5_canBeBy_33 : decode cX5_canBeBy 33 = .ok (.istore 5, 2) := by decide +kernel
theorem dX5_canBeBy_35 : decode cX5_canBeBy 35 = .ok (.iload 5, 2) := by decide +kernel
theorem dX5_canBeBy_37 : decode cX5_canBeBy 37 = .ok (.aload_n 0, 1) := by decide +kernel
theorem dX5_canBeBy_38 : decode cX5_canBeBy 38 = .ok (.getfield 80, 3) := by decide +kernel
theorem dX5_canBeBy_41 : decode cX5_canBeBy 41 = .ok (.if_icmp .ge 43, 3) := by decide +kernel
theorem dX5_canBeBy_44 : decode cX5_canBeBy 44 = .ok (.aload_n 0, 1) := by decide +kernel
theorem dX5_canBeBy_45 : decode cX5_canBeBy 45 = .ok (.iload 4, 2) := by decide +kernel
theorem dX5_canBeBy_47 : decode cX5_canBeBy 47 = .ok (.iload 5, 2) := by decide +kernel
theorem dX5_canBeBy_49 : decode cX5_canBeBy 49 = .ok (.invokevirtual 222, 3) := by decide +kernel
theorem dX5_canBeBy_52 : decode cX5_canBeBy 52 = .ok (.aload_n 0, 1) := by decide +kernel
theorem dX5_canBeBy_53 : decode cX5_canBeBy 53 = .ok (.iload_n 1, 1) := by decide +kernel
theorem dX5_canBeBy_54 : decode cX5_canBeBy 54 = .ok (.iload_n 2, 1) := by decide +kernel
theorem dX5_canBeBy_55 : decode cX5_canBeBy 55 = .ok (.iload_n 3, 1) := by decide +kernel
theorem dX5_canBeBy_56 : decode cX5_canBeBy 56 = .ok (.iconst 1, 1) := by decide +kernel
theorem dX5_canBeBy_57 : decode cX5_canBeBy 57 = .ok (.isub, 1) := by decide +kernel
theorem dX5_canBeBy_58 : decode cX5_canBeBy 58 = .ok (.invokevirtual 293, 3) := by decide +kernel
theorem dX5_canBeBy_61 : decode cX5_canBeBy 61 = .ok (.istore 6, 2) := by decide +kernel
theorem dX5_canBeBy_63 : decode cX5_canBeBy 63 = .ok (.aload_n 0, 1) := by decide +kernel
theorem dX5_canBeBy_64 : decode cX5_canBeBy 64 = .ok (.iload 4, 2) := by decide +kernel
theorem dX5_canBeBy_66 : decode cX5_canBeBy 66 = .ok (.iload 5, 2) := by decide +kernel
theorem dX5_canBeBy_68 : decode cX5_canBeBy 68 = .ok (.invokevirtual 222, 3) := by decide +kernel
theorem dX5_canBeBy_71 : decode cX5_canBeBy 71 = .ok (.iload 6, 2) := by decide +kernel
theorem dX5_canBeBy_73 : decode cX5_canBeBy 73 = .ok (.ifCond .eq 5, 3) := by decide +kernel
theorem dX5_canBeBy_76 : decode cX5_canBeBy 76 = .ok (.iconst 1, 1) := by decide +kernel
theorem dX5_canBeBy_77 : decode cX5_canBeBy 77 = .ok (.ireturn, 1) := by decide +kernel
theorem dX5_canBeBy_78 : decode cX5_canBeBy 78 = .ok (.iinc 5 1, 3) := by decide +kernel
theorem dX5_canBeBy_81 : decode cX5_canBeBy 81 = .ok (.goto (-46), 3) := by decide +kernel
theorem dX5_canBeBy_84 : decode cX5_canBeBy 84 = .ok (.iinc 4 1, 3) := by decide +kernel
theorem dX5_canBeBy_87 : decode cX5_canBeBy 87 = .ok (.goto (-67), 3) := by decide +kernel
theorem dX5_canBeBy_90 : decode cX5_canBeBy 90 = .ok (.iconst 0, 1) := by decide +kernel
theorem dX5_canBeBy_91 : decode cX5_canBeBy 91 = .ok (.ireturn, 1) := by decide +kernel
theorem dX5_changes_0 : decode cX5_changes 0 = .ok (.aload_n 0, 1) := by decide +kernel
theorem dX5_changes_1 : decode cX5_changes 1 = .ok (.iload_n 1, 1) := by decide +kernel
theorem dX5_changes_2 : decode cX5_changes 2 = .ok (.invokevirtual 94, 3) := by decide +kernel
theorem dX5_changes_5 : decode cX5_changes 5 = .ok (.ifCond .eq 15, 3) := by decide +kernel
theorem dX5_changes_8 : decode cX5_changes 8 = .ok (.iload_n 2, 1) := by decide +kernel
theorem dX5_changes_9 : decode cX5_changes 9 = .ok (.i2l, 1) := by decide +kernel
theorem dX5_changes_10 : decode cX5_changes 10 = .ok (.lconst 0, 1) := by decide +kernel
theorem dX5_changes_11 : decode cX5_changes 11 = .ok (.ldc2_w 296, 3) := by decide +kernel
theorem dX5_changes_14 : decode cX5_changes 14 = .ok (.invokestatic 83, 3) := by decide +kernel
theorem dX5_changes_17 : decode cX5_changes 17 = .ok (.ifCond .ne 10, 3) := by decide +kernel
theorem dX5_changes_20 : decode cX5_changes 20 = .ok (.aload_n 0, 1) := by decide +kernel
theorem dX5_changes_21 : decode cX5_changes 21 = .ok (.bipush (-2), 2) := by decide +kernel
theorem dX5_changes_23 : decode cX5_changes 23 = .ok (.invokevirtual 104, 3) := by decide +kernel
theorem dX5_changes_26 : decode cX5_changes 26 = .ok (.ireturn, 1) := by decide +kernel
theorem dX5_changes_27 : decode cX5_changes 27 = .ok (.iconst 0, 1) := by decide +kernel
theorem dX5_changes_28 : decode cX5_changes 28 = .ok (.istore_n 3, 1) := by decide +kernel
theorem dX5_changes_29 : decode cX5_changes 29 = .ok (.iload_n 3, 1) := by decide +kernel
theorem dX5_changes_30 : decode cX5_changes 30 = .ok (.iconst 2, 1) := by decide +kernel
theorem dX5_changes_31 : decode cX5_changes 31 = .ok (.if_icmp .gt 21, 3) := by decide +kernel
theorem dX5_changes_34 : decode cX5_changes 34 = .ok (.aload_n 0, 1) := by decide +kernel
theorem dX5_changes_35 : decode cX5_changes 35 = .ok (.iload_n 1, 1) := by decide +kernel
theorem dX5_changes_36 : decode cX5_changes 36 = .ok (.iload_n 2, 1) := by decide +kernel
theorem dX5_changes_37 : decode cX5_changes 37 = .ok (.iload_n 3, 1) := by decide +kernel
theorem dX5_changes_38 : decode cX5_changes 38 = .ok (.invokevirtual 293, 3) := by decide +kernel
theorem dX5_changes_41 : decode cX5_changes 41 = .ok (.ifCond .eq 5, 3) := by decide +kernel
theorem dX5_changes_44 : decode cX5_changes 44 = .ok (.iload_n 3, 1) := by decide +kernel
theorem dX5_changes_45 : decode cX5_changes 45 = .ok (.ireturn, 1) := by decide +kernel
theorem dX5_changes_46 : decode cX5_changes 46 = .ok (.iinc 3 1, 3) := by decide +kernel
theorem dX5_changes_49 : decode cX5_changes 49 = .ok (.goto (-20), 3) := by decide +kernel
theorem dX5_changes_52 : decode cX5_changes 52 = .ok (.iconst (-1), 1) := by decide +kernel
theorem dX5_changes_53 : decode cX5_changes 53 = .ok (.ireturn, 1) := by decide +kernel
theorem dX5_place_0 : decode cX5_place 0 = .ok (.aload_n 0, 1) := by decide +kernel
theorem dX5_place_1 : decode cX5_place 1 = .ok (.iload_n 1, 1) := by decide +kernel
theorem dX5_place_2 : decode cX5_place 2 = .ok (.i2l, 1) := by decide +kernel
theorem dX5_place_3 : decode cX5_place 3 = .ok (.invokevirtual 87, 3) := by decide +kernel
theorem dX5_place_6 : decode cX5_place 6 = .ok (.ifCond .ne 10, 3) := by decide +kernel
theorem dX5_place_9 : decode cX5_place 9 = .ok (.aload_n 0, 1) := by decide +kernel
theorem dX5_place_10 : decode cX5_place 10 = .ok (.bipush (-2), 2) := by decide +kernel
theorem dX5_place_12 : decode cX5_place 12 = .ok (.invokevirtual 104, 3) := by decide +kernel
theorem dX5_place_15 : decode cX5_place 15 = .ok (.ireturn, 1) := by decide +kernel
theorem dX5_place_16 : decode cX5_place 16 = .ok (.iconst (-1), 1) := by decide +kernel
theorem dX5_place_17 : decode cX5_place 17 = .ok (.istore_n 2, 1) := by decide +kernel
theorem dX5_place_18 : decode cX5_place 18 = .ok (.iconst 0, 1) := by decide +kernel
theorem dX5_place_19 : decode cX5_place 19 = .ok (.istore_n 3, 1) := by decide +kernel
theorem dX5_place_20 : decode cX5_place 20 = .ok (.iconst 0, 1) := by decide +kernel
theorem dX5_place_21 : decode cX5_place 21 = .ok (.istore 4, 2) := by decide +kernel
theorem dX5_place_23 : decode cX5_place 23 = .ok (.iload 4, 2) := by decide +kernel
theorem dX5_place_25 : decode cX5_place 25 = .ok (.aload_n 0, 1) := by decide +kernel
theorem dX5_place_26 : decode cX5_place 26 = .ok (.getfield 80, 3) := by decide +kernel
theorem dX5_place_29 : decode cX5_place 29 = .ok (.if_icmp .ge 73, 3) := by decide +kernel
theorem dX5_place_32 : decode cX5_place 32 = .ok (.aload_n 0, 1) := by decide +kernel
theorem dX5_place_33 : decode cX5_place 33 = .ok (.invokevirtual 245, 3) := by decide +kernel
theorem dX5_place_36 : decode cX5_place 36 = .ok (.astore 5, 2) := by decide +kernel
theorem dX5_place_38 : decode cX5_place 38 = .ok (.aload 5, 2) := by decide +kernel
theorem dX5_place_40 : decode cX5_place 40 = .ok (.iload_n 1, 1) := by decide +kernel
theorem dX5_place_41 : decode cX5_place 41 = .ok (.iload 4, 2) := by decide +kernel
theorem dX5_place_43 : decode cX5_place 43 = .ok (.invokevirtual 227, 3) := by decide +kernel
theorem dX5_place_46 : decode cX5_place 46 = .ok (.iconst 0, 1) := by decide +kernel
theorem dX5_place_47 : decode cX5_place 47 = .ok (.istore 6, 2) := by decide +kernel
theorem dX5_place_49 : decode cX5_place 49 = .ok (.iconst 0, 1) := by decide +kernel
theorem dX5_place_50 : decode cX5_place 50 = .ok (.istore 7, 2) := by decide +kernel
theorem dX5_place_52 : decode cX5_place 52 = .ok (.iload 7, 2) := by decide +kernel
theorem dX5_place_54 : decode cX5_place 54 = .ok (.aload_n 0, 1) := by decide +kernel
theorem dX5_place_55 : decode cX5_place 55 = .ok (.getfield 91, 3) := by decide +kernel
theorem dX5_place_58 : decode cX5_place 58 = .ok (.if_icmp .ge 21, 3) := by decide +kernel
theorem dX5_place_61 : decode cX5_place 61 = .ok (.iload 6, 2) := by decide +kernel
theorem dX5_place_63 : decode cX5_place 63 = .ok (.aload 5, 2) := by decide +kernel
theorem dX5_place_65 : decode cX5_place 65 = .ok (.iload 7, 2) := by decide +kernel
theorem dX5_place_67 : decode cX5_place 67 = .ok (.invokevirtual 278, 3) := by decide +kernel
theorem dX5_place_70 : decode cX5_place 70 = .ok (.iadd, 1) := by decide +kernel
theorem dX5_place_71 : decode cX5_place 71 = .ok (.istore 6, 2) := by decide +kernel
theorem dX5_place_73 : decode cX5_place 73 = .ok (.iinc 7 1, 3) := by decide +kernel
theorem dX5_place_76 : decode cX5_place 76 = .ok (.goto (-24), 3) := by decide +kernel
theorem dX5_place_79 : decode cX5_place 79 = .ok (.iload_n 2, 1) := by decide +kernel
theorem dX5_place_80 : decode cX5_place 80 = .ok (.iconst (-1), 1) := by decide +kernel
theorem dX5_place_81 : decode cX5_place 81 = .ok (.if_icmp .eq 9, 3) := by decide +kernel
theorem dX5_place_84 : decode cX5_place 84 = .ok (.iload 6, 2) := by decide +kernel
theorem dX5_place_86 : decode cX5_place 86 = .ok (.iload_n 3, 1) := by decide +kernel
theorem dX5_place_87 : decode cX5_place 87 = .ok (.if_icmp .le 9, 3) := by decide +kernel
theorem dX5_place_90 : decode cX5_place 90 = .ok (.iload 4, 2) := by decide +kernel
theorem dX5_place_92 : decode cX5_place 92 = .ok (.istore_n 2, 1) := by decide +kernel
theorem dX5_place_93 : decode cX5_place 93 = .ok (.iload 6, 2) := by decide +kernel
theorem dX5_place_95 : decode cX5_place 95 = .ok (.istore_n 3, 1) := by decide +kernel
theorem dX5_place_96 : decode cX5_place 96 = .ok (.iinc 4 1, 3) := by decide +kernel
theorem dX5_place_99 : decode cX5_place 99 = .ok (.goto (-76), 3) := by decide +kernel
theorem dX5_place_102 : decode cX5_place 102 = .ok (.iload_n 2, 1) := by decide +kernel
theorem dX5_place_103 : decode cX5_place 103 = .ok (.ireturn, 1) := by decide +kernel
theorem dX5_far_0 : decode cX5_far 0 = .ok (.aload_n 0, 1) := by decide +kernel
theorem dX5_far_1 : decode cX5_far 1 = .ok (.iload_n 1, 1) := by decide +kernel
theorem dX5_far_2 : decode cX5_far 2 = .ok (.invokevirtual 94, 3) := by decide +kernel
theorem dX5_far_5 : decode cX5_far 5 = .ok (.ifCond .eq 14, 3) := by decide +kernel
theorem dX5_far_8 : decode cX5_far 8 = .ok (.aload_n 0, 1) := by decide +kernel
theorem dX5_far_9 : decode cX5_far 9 = .ok (.iload_n 2, 1) := by decide +kernel
theorem dX5_far_10 : decode cX5_far 10 = .ok (.i2l, 1) := by decide +kernel
theorem dX5_far_11 : decode cX5_far 11 = .ok (.iload_n 3, 1) := by decide +kernel
theorem dX5_far_12 : decode cX5_far 12 = .ok (.i2l, 1) := by decide +kernel
theorem dX5_far_13 : decode cX5_far 13 = .ok (.invokevirtual 144, 3) := by decide +kernel
theorem dX5_far_16 : decode cX5_far 16 = .ok (.ifCond .ne 10, 3) := by decide +kernel
theorem dX5_far_19 : decode cX5_far 19 = .ok (.aload_n 0, 1) := by decide +kernel
theorem dX5_far_20 : decode cX5_far 20 = .ok (.bipush (-2), 2) := by decide +kernel
theorem dX5_far_22 : decode cX5_far 22 = .ok (.invokevirtual 104, 3) := by decide +kernel
theorem dX5_far_25 : decode cX5_far 25 = .ok (.ireturn, 1) := by decide +kernel
theorem dX5_far_26 : decode cX5_far 26 = .ok (.iconst (-1), 1) := by decide +kernel
theorem dX5_far_27 : decode cX5_far 27 = .ok (.istore 4, 2) := by decide +kernel
theorem dX5_far_29 : decode cX5_far 29 = .ok (.iconst 0, 1) := by decide +kernel
theorem dX5_far_30 : decode cX5_far 30 = .ok (.istore 5, 2) := by decide +kernel
theorem dX5_far_32 : decode cX5_far 32 = .ok (.iload 5, 2) := by decide +kernel
theorem dX5_far_34 : decode cX5_far 34 = .ok (.iconst 2, 1) := by decide +kernel
theorem dX5_far_35 : decode cX5_far 35 = .ok (.if_icmp .ge 124, 3) := by decide +kernel
theorem dX5_far_38 : decode cX5_far 38 = .ok (.iload 5, 2) := by decide +kernel
theorem dX5_far_40 : decode cX5_far 40 = .ok (.ifCond .ne 7, 3) := by decide +kernel
theorem dX5_far_43 : decode cX5_far 43 = .ok (.iload_n 2, 1) := by decide +kernel
theorem dX5_far_44 : decode cX5_far 44 = .ok (.goto 4, 3) := by decide +kernel
theorem dX5_far_47 : decode cX5_far 47 = .ok (.iload_n 3, 1) := by decide +kernel
theorem dX5_far_48 : decode cX5_far 48 = .ok (.istore 6, 2) := by decide +kernel
theorem dX5_far_50 : decode cX5_far 50 = .ok (.iconst 0, 1) := by decide +kernel
theorem dX5_far_51 : decode cX5_far 51 = .ok (.istore 7, 2) := by decide +kernel
theorem dX5_far_53 : decode cX5_far 53 = .ok (.iload 7, 2) := by decide +kernel
theorem dX5_far_55 : decode cX5_far 55 = .ok (.aload_n 0, 1) := by decide +kernel
theorem dX5_far_56 : decode cX5_far 56 = .ok (.getfield 80, 3) := by decide +kernel
theorem dX5_far_59 : decode cX5_far 59 = .ok (.if_icmp .ge 94, 3) := by decide +kernel
theorem dX5_far_62 : decode cX5_far 62 = .ok (.aload_n 0, 1) := by decide +kernel
theorem dX5_far_63 : decode cX5_far 63 = .ok (.invokevirtual 245, 3) := by decide +kernel
theorem dX5_far_66 : decode cX5_far 66 = .ok (.astore 8, 2) := by decide +kernel
theorem dX5_far_68 : decode cX5_far 68 = .ok (.aload 8, 2) := by decide +kernel
theorem dX5_far_70 : decode cX5_far 70 = .ok (.iload 6, 2) := by decide +kernel
theorem dX5_far_72 : decode cX5_far 72 = .ok (.iload 7, 2) := by decide +kernel
theorem dX5_far_74 : decode cX5_far 74 = .ok (.invokevirtual 227, 3) := by decide +kernel
theorem dX5_far_77 : decode cX5_far 77 = .ok (.iload 7, 2) := by decide +kernel
theorem dX5_far_79 : decode cX5_far 79 = .ok (.aload_n 0, 1) := by decide +kernel
theorem dX5_far_80 : decode cX5_far 80 = .ok (.getfield 43, 3) := by decide +kernel
theorem dX5_far_83 : decode cX5_far 83 = .ok (.iload 6, 2) := by decide +kernel
theorem dX5_far_85 : decode cX5_far 85 = .ok (.iaload, 1) := by decide +kernel
theorem dX5_far_86 : decode cX5_far 86 = .ok (.if_icmp .le 16, 3) := by decide +kernel
theorem dX5_far_89 : decode cX5_far 89 = .ok (.iload 7, 2) := by decide +kernel
theorem dX5_far_91 : decode cX5_far 91 = .ok (.aload_n 0, 1) := by decide +kernel
theorem dX5_far_92 : decode cX5_far 92 = .ok (.getfield 43, 3) := by decide +kernel
theorem dX5_far_95 : decode cX5_far 95 = .ok (.iload 6, 2) := by decide +kernel
theorem dX5_far_97 : decode cX5_far 97 = .ok (.iaload, 1) := by decide +kernel
theorem dX5_far_98 : decode cX5_far 98 = .ok (.isub, 1) := by decide +kernel
theorem dX5_far_99 : decode cX5_far 99 = .ok (.goto 13, 3) := by decide +kernel
theorem dX5_far_102 : decode cX5_far 102 = .ok (.aload_n 0, 1) := by decide +kernel
theorem dX5_far_103 : decode cX5_far 103 = .ok (.getfield 43, 3) := by decide +kernel
theorem dX5_far_106 : decode cX5_far 106 = .ok (.iload 6, 2) := by decide +kernel
theorem dX5_far_108 : decode cX5_far 108 = .ok (.iaload, 1) := by decide +kernel
theorem dX5_far_109 : decode cX5_far 109 = .ok (.iload 7, 2) := by decide +kernel
theorem dX5_far_111 : decode cX5_far 111 = .ok (.isub, 1) := by decide +kernel
theorem dX5_far_112 : decode cX5_far 112 = .ok (.istore 9, 2) := by decide +kernel
theorem dX5_far_114 : decode cX5_far 114 = .ok (.aload 8, 2) := by decide +kernel
theorem dX5_far_116 : decode cX5_far 116 = .ok (.iload_n 1, 1) := by decide +kernel
theorem dX5_far_117 : decode cX5_far 117 = .ok (.iload_n 2, 1) := by decide +kernel
theorem dX5_far_118 : decode cX5_far 118 = .ok (.iload_n 3, 1) := by decide +kernel
theorem dX5_far_119 : decode cX5_far 119 = .ok (.invokevirtual 263, 3) := by decide +kernel
theorem dX5_far_122 : decode cX5_far 122 = .ok (.ifCond .eq 21, 3) := by decide +kernel
theorem dX5_far_125 : decode cX5_far 125 = .ok (.iload 4, 2) := by decide +kernel
theorem dX5_far_127 : decode cX5_far 127 = .ok (.iconst (-1), 1) := by decide +kernel
theorem dX5_far_128 : decode cX5_far 128 = .ok (.if_icmp .eq 10, 3) := by decide +kernel
theorem dX5_far_131 : decode cX5_far 131 = .ok (.iload 9, 2) := by decide +kernel
theorem dX5_far_133 : decode cX5_far 133 = .ok (.iload 4, 2) := by decide +kernel
theorem dX5_far_135 : decode cX5_far 135 = .ok (.if_icmp .ge 8, 3) := by decide +kernel
theorem dX5_far_138 : decode cX5_far 138 = .ok (.iload 9, 2) := by decide +kernel
theorem dX5_far_140 : decode cX5_far 140 = .ok (.goto 5, 3) := by decide +kernel
theorem dX5_far_143 : decode cX5_far 143 = .ok (.iload 4, 2) := by decide +kernel
theorem dX5_far_145 : decode cX5_far 145 = .ok (.istore 4, 2) := by decide +kernel
theorem dX5_far_147 : decode cX5_far 147 = .ok (.iinc 7 1, 3) := by decide +kernel
theorem dX5_far_150 : decode cX5_far 150 = .ok (.goto (-97), 3) := by decide +kernel
theorem dX5_far_153 : decode cX5_far 153 = .ok (.iinc 5 1, 3) := by decide +kernel
theorem dX5_far_156 : decode cX5_far 156 = .ok (.goto (-124), 3) := by decide +kernel
theorem dX5_far_159 : decode cX5_far 159 = .ok (.iload 4, 2) := by decide +kernel
theorem dX5_far_161 : decode cX5_far 161 = .ok (.ireturn, 1) := by decide +kernel
theorem dX5_seekMost_0 : decode cX5_seekMost 0 = .ok (.iload_n 2, 1) := by decide +kernel
theorem dX5_seekMost_1 : decode cX5_seekMost 1 = .ok (.aload_n 0, 1) := by decide +kernel
theorem dX5_seekMost_2 : decode cX5_seekMost 2 = .ok (.getfield 80, 3) := by decide +kernel
theorem dX5_seekMost_5 : decode cX5_seekMost 5 = .ok (.if_icmp .ne 33, 3) := by decide +kernel
theorem dX5_seekMost_8 : decode cX5_seekMost 8 = .ok (.aload_n 0, 1) := by decide +kernel
theorem dX5_seekMost_9 : decode cX5_seekMost 9 = .ok (.iload_n 1, 1) := by decide +kernel
theorem dX5_seekMost_10 : decode cX5_seekMost 10 = .ok (.invokevirtual 278, 3) := by decide +kernel
theorem dX5_seekMost_13 : decode cX5_seekMost 13 = .ok (.istore 4, 2) := by decide +kernel
theorem dX5_seekMost_15 : decode cX5_seekMost 15 = .ok (.aload_n 0, 1) := by decide +kernel
theorem dX5_seekMost_16 : decode cX5_seekMost 16 = .ok (.iload 4, 2) := by decide +kernel
theorem dX5_seekMost_18 : decode cX5_seekMost 18 = .ok (.aload_n 0, 1) := by decide +kernel
theorem dX5_seekMost_19 : decode cX5_seekMost 19 = .ok (.getfield 298, 3) := by decide +kernel
theorem dX5_seekMost_22 : decode cX5_seekMost 22 = .ok (.if_icmp .le 8, 3) := by decide +kernel
theorem dX5_seekMost_25 : decode cX5_seekMost 25 = .ok (.iload 4, 2) := by decide +kernel
theorem dX5_seekMost_27 : decode cX5_seekMost 27 = .ok (.goto 7, 3) := by decide +kernel
theorem dX5_seekMost_30 : decode cX5_seekMost 30 = .ok (.aload_n 0, 1) := by decide +kernel
theorem dX5_seekMost_31 : decode cX5_seekMost 31 = .ok (.getfield 298, 3) := by decide +kernel
theorem dX5_seekMost_34 : decode cX5_seekMost 34 = .ok (.putfield 298, 3) := by decide +kernel
theorem dX5_seekMost_37 : decode cX5_seekMost 37 = .ok (.return_, 1) := by decide +kernel
theorem dX5_seekMost_38 : decode cX5_seekMost 38 = .ok (.iconst 0, 1) := by decide +kernel
theorem dX5_seekMost_39 : decode cX5_seekMost 39 = .ok (.istore 4, 2) := by decide +kernel
theorem dX5_seekMost_41 : decode cX5_seekMost 41 = .ok (.iload 4, 2) := by decide +kernel
theorem dX5_seekMost_43 : decode cX5_seekMost 43 = .ok (.aload_n 0, 1) := by decide +kernel
theorem dX5_seekMost_44 : decode cX5_seekMost 44 = .ok (.getfield 80, 3) := by decide +kernel
theorem dX5_seekMost_47 : decode cX5_seekMost 47 = .ok (.if_icmp .ge 40, 3) := by decide +kernel
theorem dX5_seekMost_50 : decode cX5_seekMost 50 = .ok (.iload_n 3, 1) := by decide +kernel
theorem dX5_seekMost_51 : decode cX5_seekMost 51 = .ok (.iload 4, 2) := by decide +kernel
theorem dX5_seekMost_53 : decode cX5_seekMost 53 = .ok (.invokestatic 281, 3) := by decide +kernel
theorem dX5_seekMost_56 : decode cX5_seekMost 56 = .ok (.ifCond .ne 25, 3) := by decide +kernel
theorem dX5_seekMost_59 : decode cX5_seekMost 59 = .ok (.aload_n 0, 1) := by decide +kernel
theorem dX5_seekMost_60 : decode cX5_seekMost 60 = .ok (.getfield 43, 3) := by decide +kernel
theorem dX5_seekMost_63 : decode cX5_seekMost 63 = .ok (.iload 4, 2) := by decide +kernel
theorem dX5_seekMost_65 : decode cX5_seekMost 65 = .ok (.iload_n 2, 1) := by decide +kernel
theorem dX5_seekMost_66 : decode cX5_seekMost 66 = .ok (.iastore, 1) := by decide +kernel
theorem dX5_seekMost_67 : decode cX5_seekMost 67 = .ok (.aload_n 0, 1) := by decide +kernel
theorem dX5_seekMost_68 : decode cX5_seekMost 68 = .ok (.iload_n 1, 1) := by decide +kernel
theorem dX5_seekMost_69 : decode cX5_seekMost 69 = .ok (.iload_n 2, 1) := by decide +kernel
theorem dX5_seekMost_70 : decode cX5_seekMost 70 = .ok (.iconst 1, 1) := by decide +kernel
theorem dX5_seekMost_71 : decode cX5_seekMost 71 = .ok (.iadd, 1) := by decide +kernel
theorem dX5_seekMost_72 : decode cX5_seekMost 72 = .ok (.iload_n 3, 1) := by decide +kernel
theorem dX5_seekMost_73 : decode cX5_seekMost 73 = .ok (.iconst 1, 1) := by decide +kernel
theorem dX5_seekMost_74 : decode cX5_seekMost 74 = .ok (.iload 4, 2) := by decide +kernel
theorem dX5_seekMost_76 : decode cX5_seekMost 76 = .ok (.ishl, 1) := by decide +kernel
theorem dX5_seekMost_77 : decode cX5_seekMost 77 = .ok (.ior, 1) := by decide +kernel
theorem dX5_seekMost_78 : decode cX5_seekMost 78 = .ok (.invokevirtual 301, 3) := by decide +kernel
theorem dX5_seekMost_81 : decode cX5_seekMost 81 = .ok (.iinc 4 1, 3) := by decide +kernel
theorem dX5_seekMost_84 : decode cX5_seekMost 84 = .ok (.goto (-43), 3) := by decide +kernel
theorem dX5_seekMost_87 : decode cX5_seekMost 87 = .ok (.return_, 1) := by decide +kernel
theorem dX5_most_0 : decode cX5_most 0 = .ok (.aload_n 0, 1) := by decide +kernel
theorem dX5_most_1 : decode cX5_most 1 = .ok (.iload_n 1, 1) := by decide +kernel
theorem dX5_most_2 : decode cX5_most 2 = .ok (.invokevirtual 94, 3) := by decide +kernel
theorem dX5_most_5 : decode cX5_most 5 = .ok (.ifCond .ne 10, 3) := by decide +kernel
theorem dX5_most_8 : decode cX5_most 8 = .ok (.aload_n 0, 1) := by decide +kernel
theorem dX5_most_9 : decode cX5_most 9 = .ok (.bipush (-2), 2) := by decide +kernel
theorem dX5_most_11 : decode cX5_most 11 = .ok (.invokevirtual 104, 3) := by decide +kernel
theorem dX5_most_14 : decode cX5_most 14 = .ok (.ireturn, 1) := by decide +kernel
theorem dX5_most_15 : decode cX5_most 15 = .ok (.aload_n 0, 1) := by decide +kernel
theorem dX5_most_16 : decode cX5_most 16 = .ok (.getfield 80, 3) := by decide +kernel
theorem dX5_most_19 : decode cX5_most 19 = .ok (.bipush 8, 2) := by decide +kernel
theorem dX5_most_21 : decode cX5_most 21 = .ok (.if_icmp .le 10, 3) := by decide +kernel
theorem dX5_most_24 : decode cX5_most 24 = .ok (.aload_n 0, 1) := by decide +kernel
theorem dX5_most_25 : decode cX5_most 25 = .ok (.bipush (-5), 2) := by decide +kernel
theorem dX5_most_27 : decode cX5_most 27 = .ok (.invokevirtual 104, 3) := by decide +kernel
theorem dX5_most_30 : decode cX5_most 30 = .ok (.ireturn, 1) := by decide +kernel
theorem dX5_most_31 : decode cX5_most 31 = .ok (.aload_n 0, 1) := by decide +kernel
theorem dX5_most_32 : decode cX5_most 32 = .ok (.invokevirtual 245, 3) := by decide +kernel
theorem dX5_most_35 : decode cX5_most 35 = .ok (.astore_n 2, 1) := by decide +kernel
theorem dX5_most_36 : decode cX5_most 36 = .ok (.aload_n 2, 1) := by decide +kernel
theorem dX5_most_37 : decode cX5_most 37 = .ok (.iconst 0, 1) := by decide +kernel
theorem dX5_most_38 : decode cX5_most 38 = .ok (.putfield 298, 3) := by decide +kernel
theorem dX5_most_41 : decode cX5_most 41 = .ok (.aload_n 2, 1) := by decide +kernel
theorem dX5_most_42 : decode cX5_most 42 = .ok (.iload_n 1, 1) := by decide +kernel
theorem dX5_most_43 : decode cX5_most 43 = .ok (.iconst 0, 1) := by decide +kernel
theorem dX5_most_44 : decode cX5_most 44 = .ok (.iconst 0, 1) := by decide +kernel
theorem dX5_most_45 : decode cX5_most 45 = .ok (.invokevirtual 301, 3) := by decide +kernel
theorem dX5_most_48 : decode cX5_most 48 = .ok (.aload_n 2, 1) := by decide +kernel
theorem dX5_most_49 : decode cX5_most 49 = .ok (.getfield 298, 3) := by decide +kernel
theorem dX5_most_52 : decode cX5_most 52 = .ok (.ireturn, 1) := by decide +kernel
theorem dX5_always_0 : decode cX5_always 0 = .ok (.aload_n 0, 1) := by decide +kernel
theorem dX5_always_1 : decode cX5_always 1 = .ok (.iload_n 1, 1) := by decide +kernel
theorem dX5_always_2 : decode cX5_always 2 = .ok (.i2l, 1) := by decide +kernel
theorem dX5_always_3 : decode cX5_always 3 = .ok (.invokevirtual 87, 3) := by decide +kernel
theorem dX5_always_6 : decode cX5_always 6 = .ok (.ifCond .ne 10, 3) := by decide +kernel
theorem dX5_always_9 : decode cX5_always 9 = .ok (.aload_n 0, 1) := by decide +kernel
theorem dX5_always_10 : decode cX5_always 10 = .ok (.bipush (-2), 2) := by decide +kernel
theorem dX5_always_12 : decode cX5_always 12 = .ok (.invokevirtual 104, 3) := by decide +kernel
theorem dX5_always_15 : decode cX5_always 15 = .ok (.ireturn, 1) := by decide +kernel
theorem dX5_always_16 : decode cX5_always 16 = .ok (.iconst 0, 1) := by decide +kernel
theorem dX5_always_17 : decode cX5_always 17 = .ok (.istore_n 2, 1) := by decide +kernel
theorem dX5_always_18 : decode cX5_always 18 = .ok (.iconst 0, 1) := by decide +kernel
theorem dX5_always_19 : decode cX5_always 19 = .ok (.istore_n 3, 1) := by decide +kernel
theorem dX5_always_20 : decode cX5_always 20 = .ok (.iload_n 3, 1) := by decide +kernel
theorem dX5_always_21 : decode cX5_always 21 = .ok (.aload_n 0, 1) := by decide +kernel
theorem dX5_always_22 : decode cX5_always 22 = .ok (.getfield 80, 3) := by decide +kernel
theorem dX5_always_25 : decode cX5_always 25 = .ok (.if_icmp .ge 58, 3) := by decide +kernel
theorem dX5_always_28 : decode cX5_always 28 = .ok (.iconst 1, 1) := by decide +kernel
theorem dX5_always_29 : decode cX5_always 29 = .ok (.istore 4, 2) := by decide +kernel
theorem dX5_always_31 : decode cX5_always 31 = .ok (.iconst 0, 1) := by decide +kernel
theorem dX5_always_32 : decode cX5_always 32 = .ok (.istore 5, 2) := by decide +kernel
theorem dX5_always_34 : decode cX5_always 34 = .ok (.iload 5, 2) := by decide +kernel
theorem dX5_always_36 : decode cX5_always 36 = .ok (.aload_n 0, 1) := by decide +kernel
theorem dX5_always_37 : decode cX5_always 37 = .ok (.getfield 91, 3) := by decide +kernel
theorem dX5_always_40 : decode cX5_always 40 = .ok (.if_icmp .ge 22, 3) := by decide +kernel
theorem dX5_always_43 : decode cX5_always 43 = .ok (.iload 4, 2) := by decide +kernel
theorem dX5_always_45 : decode cX5_always 45 = .ok (.aload_n 0, 1) := by decide +kernel
theorem dX5_always_46 : decode cX5_always 46 = .ok (.iload 5, 2) := by decide +kernel
theorem dX5_always_48 : decode cX5_always 48 = .ok (.iload_n 1, 1) := by decide +kernel
theorem dX5_always_49 : decode cX5_always 49 = .ok (.iload_n 3, 1) := by decide +kernel
theorem dX5_always_50 : decode cX5_always 50 = .ok (.invokevirtual 263, 3) := by decide +kernel
theorem dX5_always_53 : decode cX5_always 53 = .ok (.iand, 1) := by decide +kernel
theorem dX5_always_54 : decode cX5_always 54 = .ok (.istore 4, 2) := by decide +kernel
theorem dX5_always_56 : decode cX5_always 56 = .ok (.iinc 5 1, 3) := by decide +kernel
theorem dX5_always_59 : decode cX5_always 59 = .ok (.goto (-25), 3) := by decide +kernel
theorem dX5_always_62 : decode cX5_always 62 = .ok (.iload_n 2, 1) := by decide +kernel
theorem dX5_always_63 : decode cX5_always 63 = .ok (.iload 4, 2) := by decide +kernel
theorem dX5_always_65 : decode cX5_always 65 = .ok (.ifCond .eq 9, 3) := by decide +kernel
theorem dX5_always_68 : decode cX5_always 68 = .ok (.iconst 1, 1) := by decide +kernel
theorem dX5_always_69 : decode cX5_always 69 = .ok (.iload_n 3, 1) := by decide +kernel
theorem dX5_always_70 : decode cX5_always 70 = .ok (.ishl, 1) := by decide +kernel
theorem dX5_always_71 : decode cX5_always 71 = .ok (.goto 4, 3) := by decide +kernel
theorem dX5_always_74 : decode cX5_always 74 = .ok (.iconst 0, 1) := by decide +kernel
theorem dX5_always_75 : decode cX5_always 75 = .ok (.ior, 1) := by decide +kernel
theorem dX5_always_76 : decode cX5_always 76 = .ok (.istore_n 2, 1) := by decide +kernel
theorem dX5_always_77 : decode cX5_always 77 = .ok (.iinc 3 1, 3) := by decide +kernel
theorem dX5_always_80 : decode cX5_always 80 = .ok (.goto (-60), 3) := by decide +kernel
theorem dX5_always_83 : decode cX5_always 83 = .ok (.iload_n 2, 1) := by decide +kernel
theorem dX5_always_84 : decode cX5_always 84 = .ok (.ireturn, 1) := by decide +kernel
theorem dX5_oftenOf_0 : decode cX5_oftenOf 0 = .ok (.iconst 0, 1) := by decide +kernel
theorem dX5_oftenOf_1 : decode cX5_oftenOf 1 = .ok (.istore_n 3, 1) := by decide +kernel
theorem dX5_oftenOf_2 : decode cX5_oftenOf 2 = .ok (.iconst 0, 1) := by decide +kernel
theorem dX5_oftenOf_3 : decode cX5_oftenOf 3 = .ok (.istore 4, 2) := by decide +kernel
theorem dX5_oftenOf_5 : decode cX5_oftenOf 5 = .ok (.iload 4, 2) := by decide +kernel
theorem dX5_oftenOf_7 : decode cX5_oftenOf 7 = .ok (.aload_n 0, 1) := by decide +kernel
theorem dX5_oftenOf_8 : decode cX5_oftenOf 8 = .ok (.getfield 91, 3) := by decide +kernel
theorem dX5_oftenOf_11 : decode cX5_oftenOf 11 = .ok (.if_icmp .ge 28, 3) := by decide +kernel
theorem dX5_oftenOf_14 : decode cX5_oftenOf 14 = .ok (.iload_n 3, 1) := by decide +kernel
theorem dX5_oftenOf_15 : decode cX5_oftenOf 15 = .ok (.aload_n 0, 1) := by decide +kernel
theorem dX5_oftenOf_16 : decode cX5_oftenOf 16 = .ok (.iload 4, 2) := by decide +kernel
theorem dX5_oftenOf_18 : decode cX5_oftenOf 18 = .ok (.iload_n 1, 1) := by decide +kernel
theorem dX5_oftenOf_19 : decode cX5_oftenOf 19 = .ok (.iload_n 2, 1) := by decide +kernel
theorem dX5_oftenOf_20 : decode cX5_oftenOf 20 = .ok (.invokevirtual 263, 3) := by decide +kernel
theorem dX5_oftenOf_23 : decode cX5_oftenOf 23 = .ok (.ifCond .eq 7, 3) := by decide +kernel
theorem dX5_oftenOf_26 : decode cX5_oftenOf 26 = .ok (.iconst 1, 1) := by decide +kernel
theorem dX5_oftenOf_27 : decode cX5_oftenOf 27 = .ok (.goto 4, 3) := by decide +kernel
theorem dX5_oftenOf_30 : decode cX5_oftenOf 30 = .ok (.iconst 0, 1) := by decide +kernel
theorem dX5_oftenOf_31 : decode cX5_oftenOf 31 = .ok (.iadd, 1) := by decide +kernel
theorem dX5_oftenOf_32 : decode cX5_oftenOf 32 = .ok (.istore_n 3, 1) := by decide +kernel
theorem dX5_oftenOf_33 : decode cX5_oftenOf 33 = .ok (.iinc 4 1, 3) := by decide +kernel
theorem dX5_oftenOf_36 : decode cX5_oftenOf 36 = .ok (.goto (-31), 3) := by decide +kernel
theorem dX5_oftenOf_39 : decode cX5_oftenOf 39 = .ok (.iload_n 3, 1) := by decide +kernel
theorem dX5_oftenOf_40 : decode cX5_oftenOf 40 = .ok (.ireturn, 1) := by decide +kernel
theorem dX5_often_0 : decode cX5_often 0 = .ok (.aload_n 0, 1) := by decide +kernel
theorem dX5_often_1 : decode cX5_often 1 = .ok (.iload_n 1, 1) := by decide +kernel
theorem dX5_often_2 : decode cX5_often 2 = .ok (.i2l, 1) := by decide +kernel
theorem dX5_often_3 : decode cX5_often 3 = .ok (.iload_n 2, 1) := by decide +kernel
theorem dX5_often_4 : decode cX5_often 4 = .ok (.i2l, 1) := by decide +kernel
theorem dX5_often_5 : decode cX5_often 5 = .ok (.invokevirtual 144, 3) := by decide +kernel
theorem dX5_often_8 : decode cX5_often 8 = .ok (.ifCond .eq 12, 3) := by decide +kernel
theorem dX5_often_11 : decode cX5_often 11 = .ok (.aload_n 0, 1) := by decide +kernel
theorem dX5_often_12 : decode cX5_often 12 = .ok (.iload_n 1, 1) := by decide +kernel
theorem dX5_often_13 : decode cX5_often 13 = .ok (.iload_n 2, 1) := by decide +kernel
theorem dX5_often_14 : decode cX5_often 14 = .ok (.invokevirtual 304, 3) := by decide +kernel
theorem dX5_often_17 : decode cX5_often 17 = .ok (.goto 9, 3) := by decide +kernel
theorem dX5_often_20 : decode cX5_often 20 = .ok (.aload_n 0, 1) := by decide +kernel
theorem dX5_often_21 : decode cX5_often 21 = .ok (.bipush (-2), 2) := by decide +kernel
theorem dX5_often_23 : decode cX5_often 23 = .ok (.invokevirtual 104, 3) := by decide +kernel
theorem dX5_often_26 : decode cX5_often 26 = .ok (.ireturn, 1) := by decide +kernel
theorem dX5_safe_0 : decode cX5_safe 0 = .ok (.aload_n 0, 1) := by decide +kernel
theorem dX5_safe_1 : decode cX5_safe 1 = .ok (.iload_n 1, 1) := by decide +kernel
theorem dX5_safe_2 : decode cX5_safe 2 = .ok (.i2l, 1) := by decide +kernel
theorem dX5_safe_3 : decode cX5_safe 3 = .ok (.iload_n 2, 1) := by decide +kernel
theorem dX5_safe_4 : decode cX5_safe 4 = .ok (.i2l, 1) := by decide +kernel
theorem dX5_safe_5 : decode cX5_safe 5 = .ok (.invokevirtual 144, 3) := by decide +kernel
theorem dX5_safe_8 : decode cX5_safe 8 = .ok (.ifCond .ne 10, 3) := by decide +kernel
theorem dX5_safe_11 : decode cX5_safe 11 = .ok (.aload_n 0, 1) := by decide +kernel
theorem dX5_safe_12 : decode cX5_safe 12 = .ok (.bipush (-2), 2) := by decide +kernel
theorem dX5_safe_14 : decode cX5_safe 14 = .ok (.invokevirtual 104, 3) := by decide +kernel
theorem dX5_safe_17 : decode cX5_safe 17 = .ok (.ireturn, 1) := by decide +kernel
theorem dX5_safe_18 : decode cX5_safe 18 = .ok (.iconst (-1), 1) := by decide +kernel
theorem dX5_safe_19 : decode cX5_safe 19 = .ok (.istore_n 3, 1) := by decide +kernel
theorem dX5_safe_20 : decode cX5_safe 20 = .ok (.iconst (-1), 1) := by decide +kernel
theorem dX5_safe_21 : decode cX5_safe 21 = .ok (.istore 4, 2) := by decide +kernel
theorem dX5_safe_23 : decode cX5_safe 23 = .ok (.iconst 0, 1) := by decide +kernel
theorem dX5_safe_24 : decode cX5_safe 24 = .ok (.istore 5, 2) := by decide +kernel
theorem dX5_safe_26 : decode cX5_safe 26 = .ok (.iload 5, 2) := by decide +kernel
theorem dX5_safe_28 : decode cX5_safe 28 = .ok (.aload_n 0, 1) := by decide +kernel
theorem dX5_safe_29 : decode cX5_safe 29 = .ok (.getfield 80, 3) := by decide +kernel
theorem dX5_safe_32 : decode cX5_safe 32 = .ok (.if_icmp .ge 47, 3) := by decide +kernel
theorem dX5_safe_35 : decode cX5_safe 35 = .ok (.aload_n 0, 1) := by decide +kernel
theorem dX5_safe_36 : decode cX5_safe 36 = .ok (.invokevirtual 245, 3) := by decide +kernel
theorem dX5_safe_39 : decode cX5_safe 39 = .ok (.astore 6, 2) := by decide +kernel
theorem dX5_safe_41 : decode cX5_safe 41 = .ok (.aload 6, 2) := by decide +kernel
theorem dX5_safe_43 : decode cX5_safe 43 = .ok (.iload_n 2, 1) := by decide +kernel
theorem dX5_safe_44 : decode cX5_safe 44 = .ok (.iload 5, 2) := by decide +kernel
theorem dX5_safe_46 : decode cX5_safe 46 = .ok (.invokevirtual 227, 3) := by decide +kernel
theorem dX5_safe_49 : decode cX5_safe 49 = .ok (.aload 6, 2) := by decide +kernel
theorem dX5_safe_51 : decode cX5_safe 51 = .ok (.iload_n 1, 1) := by decide +kernel
theorem dX5_safe_52 : decode cX5_safe 52 = .ok (.iload_n 2, 1) := by decide +kernel
theorem dX5_safe_53 : decode cX5_safe 53 = .ok (.invokevirtual 304, 3) := by decide +kernel
theorem dX5_safe_56 : decode cX5_safe 56 = .ok (.iload 4, 2) := by decide +kernel
theorem dX5_safe_58 : decode cX5_safe 58 = .ok (.if_icmp .le 15, 3) := by decide +kernel
theorem dX5_safe_61 : decode cX5_safe 61 = .ok (.iload 5, 2) := by decide +kernel
theorem dX5_safe_63 : decode cX5_safe 63 = .ok (.istore_n 3, 1) := by decide +kernel
theorem dX5_safe_64 : decode cX5_safe 64 = .ok (.aload 6, 2) := by decide +kernel
theorem dX5_safe_66 : decode cX5_safe 66 = .ok (.iload_n 1, 1) := by decide +kernel
theorem dX5_safe_67 : decode cX5_safe 67 = .ok (.iload_n 2, 1) := by decide +kernel
theorem dX5_safe_68 : decode cX5_safe 68 = .ok (.invokevirtual 304, 3) := by decide +kernel
theorem dX5_safe_71 : decode cX5_safe 71 = .ok (.istore 4, 2) := by decide +kernel
theorem dX5_safe_73 : decode cX5_safe 73 = .ok (.iinc 5 1, 3) := by decide +kernel
theorem dX5_safe_76 : decode cX5_safe 76 = .ok (.goto (-50), 3) := by decide +kernel
theorem dX5_safe_79 : decode cX5_safe 79 = .ok (.iload_n 3, 1) := by decide +kernel
theorem dX5_safe_80 : decode cX5_safe 80 = .ok (.ireturn, 1) := by decide +kernel
theorem dX5_findOut_0 : decode cX5_findOut 0 = .ok (.iconst 0, 1) := by decide +kernel
theorem dX5_findOut_1 : decode cX5_findOut 1 = .ok (.istore_n 2, 1) := by decide +kernel
theorem dX5_findOut_2 : decode cX5_findOut 2 = .ok (.iload_n 2, 1) := by decide +kernel
theorem dX5_findOut_3 : decode cX5_findOut 3 = .ok (.aload_n 0, 1) := by decide +kernel
theorem dX5_findOut_4 : decode cX5_findOut 4 = .ok (.getfield 80, 3) := by decide +kernel
theorem dX5_findOut_7 : decode cX5_findOut 7 = .ok (.if_icmp .ge 20, 3) := by decide +kernel
theorem dX5_findOut_10 : decode cX5_findOut 10 = .ok (.aload_n 0, 1) := by decide +kernel
theorem dX5_findOut_11 : decode cX5_findOut 11 = .ok (.getfield 74, 3) := by decide +kernel
theorem dX5_findOut_14 : decode cX5_findOut 14 = .ok (.iload_n 2, 1) := by decide +kernel
theorem dX5_findOut_15 : decode cX5_findOut 15 = .ok (.aload_n 0, 1) := by decide +kernel
theorem dX5_findOut_16 : decode cX5_findOut 16 = .ok (.iload_n 2, 1) := by decide +kernel
theorem dX5_findOut_17 : decode cX5_findOut 17 = .ok (.invokevirtual 254, 3) := by decide +kernel
theorem dX5_findOut_20 : decode cX5_findOut 20 = .ok (.iastore, 1) := by decide +kernel
theorem dX5_findOut_21 : decode cX5_findOut 21 = .ok (.iinc 2 1, 3) := by decide +kernel
theorem dX5_findOut_24 : decode cX5_findOut 24 = .ok (.goto (-22), 3) := by decide +kernel
theorem dX5_findOut_27 : decode cX5_findOut 27 = .ok (.iconst 0, 1) := by decide +kernel
theorem dX5_findOut_28 : decode cX5_findOut 28 = .ok (.istore_n 2, 1) := by decide +kernel
theorem dX5_findOut_29 : decode cX5_findOut 29 = .ok (.aload_n 0, 1) := by decide +kernel
theorem dX5_findOut_30 : decode cX5_findOut 30 = .ok (.getfield 80, 3) := by decide +kernel
theorem dX5_findOut_33 : decode cX5_findOut 33 = .ok (.istore_n 3, 1) := by decide +kernel
theorem dX5_findOut_34 : decode cX5_findOut 34 = .ok (.iload_n 3, 1) := by decide +kernel
theorem dX5_findOut_35 : decode cX5_findOut 35 = .ok (.ifCond .le 67, 3) := by decide +kernel
theorem dX5_findOut_38 : decode cX5_findOut 38 = .ok (.iload_n 2, 1) := by decide +kernel
theorem dX5_findOut_39 : decode cX5_findOut 39 = .ok (.iload_n 1, 1) := by decide +kernel
theorem dX5_findOut_40 : decode cX5_findOut 40 = .ok (.iadd, 1) := by decide +kernel
theorem dX5_findOut_41 : decode cX5_findOut 41 = .ok (.iconst 1, 1) := by decide +kernel
theorem dX5_findOut_42 : decode cX5_findOut 42 = .ok (.isub, 1) := by decide +kernel
theorem dX5_findOut_43 : decode cX5_findOut 43 = .ok (.iload_n 3, 1) := by decide +kernel
theorem dX5_findOut_44 : decode cX5_findOut 44 = .ok (.irem, 1) := by decide +kernel
theorem dX5_findOut_45 : decode cX5_findOut 45 = .ok (.istore_n 2, 1) := by decide +kernel
theorem dX5_findOut_46 : decode cX5_findOut 46 = .ok (.aload_n 0, 1) := by decide +kernel
theorem dX5_findOut_47 : decode cX5_findOut 47 = .ok (.getfield 77, 3) := by decide +kernel
theorem dX5_findOut_50 : decode cX5_findOut 50 = .ok (.aload_n 0, 1) := by decide +kernel
theorem dX5_findOut_51 : decode cX5_findOut 51 = .ok (.getfield 80, 3) := by decide +kernel
theorem dX5_findOut_54 : decode cX5_findOut 54 = .ok (.iload_n 3, 1) := by decide +kernel
theorem dX5_findOut_55 : decode cX5_findOut 55 = .ok (.isub, 1) := by decide +kernel
theorem dX5_findOut_56 : decode cX5_findOut 56 = .ok (.aload_n 0, 1) := by decide +kernel
theorem dX5_findOut_57 : decode cX5_findOut 57 = .ok (.getfield 74, 3) := by decide +kernel
theorem dX5_findOut_60 : decode cX5_findOut 60 = .ok (.iload_n 2, 1) := by decide +kernel
theorem dX5_findOut_61 : decode cX5_findOut 61 = .ok (.iaload, 1) := by decide +kernel
theorem dX5_findOut_62 : decode cX5_findOut 62 = .ok (.iastore, 1) := by decide +kernel
theorem dX5_findOut_63 : decode cX5_findOut 63 = .ok (.iload_n 2, 1) := by decide +kernel
theorem dX5_findOut_64 : decode cX5_findOut 64 = .ok (.istore 4, 2) := by decide +kernel
theorem dX5_findOut_66 : decode cX5_findOut 66 = .ok (.iload 4, 2) := by decide +kernel
theorem dX5_findOut_68 : decode cX5_findOut 68 = .ok (.iconst 1, 1) := by decide +kernel
theorem dX5_findOut_69 : decode cX5_findOut 69 = .ok (.iadd, 1) := by decide +kernel
theorem dX5_findOut_70 : decode cX5_findOut 70 = .ok (.iload_n 3, 1) := by decide +kernel
theorem dX5_findOut_71 : decode cX5_findOut 71 = .ok (.if_icmp .ge 25, 3) := by decide +kernel
theorem dX5_findOut_74 : decode cX5_findOut 74 = .ok (.aload_n 0, 1) := by decide +kernel
theorem dX5_findOut_75 : decode cX5_findOut 75 = .ok (.getfield 74, 3) := by decide +kernel
theorem dX5_findOut_78 : decode cX5_findOut 78 = .ok (.iload 4, 2) := by decide +kernel
theorem dX5_findOut_80 : decode cX5_findOut 80 = .ok (.aload_n 0, 1) := by decide +kernel
theorem dX5_findOut_81 : decode cX5_findOut 81 = .ok (.getfield 74, 3) := by decide +kernel
theorem dX5_findOut_84 : decode cX5_findOut 84 = .ok (.iload 4, 2) := by decide +kernel
theorem dX5_findOut_86 : decode cX5_findOut 86 = .ok (.iconst 1, 1) := by decide +kernel
theorem dX5_findOut_87 : decode cX5_findOut 87 = .ok (.iadd, 1) := by decide +kernel
theorem dX5_findOut_88 : decode cX5_findOut 88 = .ok (.iaload, 1) := by decide +kernel
theorem dX5_findOut_89 : decode cX5_findOut 89 = .ok (.iastore, 1) := by decide +kernel
theorem dX5_findOut_90 : decode cX5_findOut 90 = .ok (.iinc 4 1, 3) := by decide +kernel
theorem dX5_findOut_93 : decode cX5_findOut 93 = .ok (.goto (-27), 3) := by decide +kernel
theorem dX5_findOut_96 : decode cX5_findOut 96 = .ok (.iinc 3 (-1), 3) := by decide +kernel
theorem dX5_findOut_99 : decode cX5_findOut 99 = .ok (.goto (-65), 3) := by decide +kernel
