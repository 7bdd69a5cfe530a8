theorem dX4_init_0 : decode cX4_init 0 = .ok (.aload_n 0, 1) := by decide +kernel
theorem dX4_init_1 : decode cX4_init 1 = .ok (.invokespecial 1, 3) := by decide +kernel
theorem dX4_init_4 : decode cX4_init 4 = .ok (.aload_n 0, 1) := by decide +kernel
theorem dX4_init_5 : decode cX4_init 5 = .ok (.new 7, 3) := by decide +kernel
theorem dX4_init_8 : decode cX4_init 8 = .ok (.dup, 1) := by decide +kernel
theorem dX4_init_9 : decode cX4_init 9 = .ok (.invokespecial 9, 3) := by decide +kernel
theorem dX4_init_12 : decode cX4_init 12 = .ok (.putfield 10, 3) := by decide +kernel
theorem dX4_init_15 : decode cX4_init 15 = .ok (.aload_n 0, 1) := by decide +kernel
theorem dX4_init_16 : decode cX4_init 16 = .ok (.new 7, 3) := by decide +kernel
theorem dX4_init_19 : decode cX4_init 19 = .ok (.dup, 1) := by decide +kernel
theorem dX4_init_20 : decode cX4_init 20 = .ok (.invokespecial 9, 3) := by decide +kernel
theorem dX4_init_23 : decode cX4_init 23 = .ok (.putfield 16, 3) := by decide +kernel
theorem dX4_init_26 : decode cX4_init 26 = .ok (.aload_n 0, 1) := by decide +kernel
theorem dX4_init_27 : decode cX4_init 27 = .ok (.new 7, 3) := by decide +kernel
theorem dX4_init_30 : decode cX4_init 30 = .ok (.dup, 1) := by decide +kernel
theorem dX4_init_31 : decode cX4_init 31 = .ok (.invokespecial 9, 3) := by decide +kernel
theorem dX4_init_34 : decode cX4_init 34 = .ok (.putfield 19, 3) := by decide +kernel
theorem dX4_init_37 : decode cX4_init 37 = .ok (.aload_n 0, 1) := by decide +kernel
theorem dX4_init_38 : decode cX4_init 38 = .ok (.new 22, 3) := by decide +kernel
theorem dX4_init_41 : decode cX4_init 41 = .ok (.dup, 1) := by decide +kernel
theorem dX4_init_42 : decode cX4_init 42 = .ok (.aload_n 0, 1) := by decide +kernel
theorem dX4_init_43 : decode cX4_init 43 = .ok (.getfield 10, 3) := by decide +kernel
theorem dX4_init_46 : decode cX4_init 46 = .ok (.invokespecial 24, 3) := by decide +kernel
theorem dX4_init_49 : decode cX4_init 49 = .ok (.putfield 27, 3) := by decide +kernel
theorem dX4_init_52 : decode cX4_init 52 = .ok (.aload_n 0, 1) := by decide +kernel
theorem dX4_init_53 : decode cX4_init 53 = .ok (.new 31, 3) := by decide +kernel
theorem dX4_init_56 : decode cX4_init 56 = .ok (.dup, 1) := by decide +kernel
theorem dX4_init_57 : decode cX4_init 57 = .ok (.invokespecial 33, 3) := by decide +kernel
theorem dX4_init_60 : decode cX4_init 60 = .ok (.putfield 34, 3) := by decide +kernel
theorem dX4_init_63 : decode cX4_init 63 = .ok (.aload_n 0, 1) := by decide +kernel
theorem dX4_init_64 : decode cX4_init 64 = .ok (.bipush 8, 2) := by decide +kernel
theorem dX4_init_66 : decode cX4_init 66 = .ok (.anewarray 38, 3) := by decide +kernel
theorem dX4_init_69 : decode cX4_init 69 = .ok (.putfield 40, 3) := by decide +kernel
theorem dX4_init_72 : decode cX4_init 72 = .ok (.aload_n 0, 1) := by decide +kernel
theorem dX4_init_73 : decode cX4_init 73 = .ok (.iconst 5, 1) := by decide +kernel
theorem dX4_init_74 : decode cX4_init 74 = .ok (.newarray .int, 2) := by decide +kernel
theorem dX4_init_76 : decode cX4_init 76 = .ok (.putfield 44, 3) := by decide +kernel
theorem dX4_init_79 : decode cX4_init 79 = .ok (.aload_n 0, 1) := by decide +kernel
theorem dX4_init_80 : decode cX4_init 80 = .ok (.iconst 0, 1) := by decide +kernel
theorem dX4_init_81 : decode cX4_init 81 = .ok (.putfield 48, 3) := by decide +kernel
theorem dX4_init_84 : decode cX4_init 84 = .ok (.iconst 0, 1) := by decide +kernel
theorem dX4_init_85 : decode cX4_init 85 = .ok (.istore_n 1, 1) := by decide +kernel
theorem dX4_init_86 : decode cX4_init 86 = .ok (.iload_n 1, 1) := by decide +kernel
theorem dX4_init_87 : decode cX4_init 87 = .ok (.bipush 8, 2) := by decide +kernel
theorem dX4_init_89 : decode cX4_init 89 = .ok (.if_icmp .ge 22, 3) := by decide +kernel
theorem dX4_init_92 : decode cX4_init 92 = .ok (.aload_n 0, 1) := by decide +kernel
theorem dX4_init_93 : decode cX4_init 93 = .ok (.getfield 40, 3) := by decide +kernel
theorem dX4_init_96 : decode cX4_init 96 = .ok (.iload_n 1, 1) := by decide +kernel
theorem dX4_init_97 : decode cX4_init 97 = .ok (.new 38, 3) := by decide +kernel
theorem dX4_init_100 : decode cX4_init 100 = .ok (.dup, 1) := by decide +kernel
theorem dX4_init_101 : decode cX4_init 101 = .ok (.invokespecial 52, 3) := by decide +kernel
theorem dX4_init_104 : decode cX4_init 104 = .ok (.aastore, 1) := by decide +kernel
theorem dX4_init_105 : decode cX4_init 105 = .ok (.iinc 1 1, 3) := by decide +kernel
theorem dX4_init_108 : decode cX4_init 108 = .ok (.goto (-22), 3) := by decide +kernel
theorem dX4_init_111 : decode cX4_init 111 = .ok (.return_, 1) := by decide +kernel
theorem dX4_row_0 : decode cX4_row 0 = .ok (.iload_n 1, 1) := by decide +kernel
theorem dX4_row_1 : decode cX4_row 1 = .ok (.invokestatic 53, 3) := by decide +kernel
theorem dX4_row_4 : decode cX4_row 4 = .ok (.ifCond .eq 22, 3) := by decide +kernel
theorem dX4_row_7 : decode cX4_row 7 = .ok (.iload_n 2, 1) := by decide +kernel
theorem dX4_row_8 : decode cX4_row 8 = .ok (.iconst 0, 1) := by decide +kernel
theorem dX4_row_9 : decode cX4_row 9 = .ok (.iconst 4, 1) := by decide +kernel
theorem dX4_row_10 : decode cX4_row 10 = .ok (.invokestatic 57, 3) := by decide +kernel
theorem dX4_row_13 : decode cX4_row 13 = .ok (.ifCond .eq 13, 3) := by decide +kernel
theorem dX4_row_16 : decode cX4_row 16 = .ok (.iload_n 3, 1) := by decide +kernel
theorem dX4_row_17 : decode cX4_row 17 = .ok (.iconst 0, 1) := by decide +kernel
theorem dX4_row_18 : decode cX4_row 18 = .ok (.bipush 40, 2) := by decide +kernel
theorem dX4_row_20 : decode cX4_row 20 = .ok (.invokestatic 57, 3) := by decide +kernel
theorem dX4_row_23 : decode cX4_row 23 = .ok (.ifCond .ne 10, 3) := by decide +kernel
theorem dX4_row_26 : decode cX4_row 26 = .ok (.aload_n 0, 1) := by decide +kernel
theorem dX4_row_27 : decode cX4_row 27 = .ok (.bipush (-2), 2) := by decide +kernel
theorem dX4_row_29 : decode cX4_row 29 = .ok (.invokevirtual 61, 3) := by decide +kernel
theorem dX4_row_32 : decode cX4_row 32 = .ok (.ireturn, 1) := by decide +kernel
theorem dX4_row_33 : decode cX4_row 33 = .ok (.aload_n 0, 1) := by decide +kernel
theorem dX4_row_34 : decode cX4_row 34 = .ok (.getfield 40, 3) := by decide +kernel
theorem dX4_row_37 : decode cX4_row 37 = .ok (.iload_n 1, 1) := by decide +kernel
theorem dX4_row_38 : decode cX4_row 38 = .ok (.aaload, 1) := by decide +kernel
theorem dX4_row_39 : decode cX4_row 39 = .ok (.iload_n 2, 1) := by decide +kernel
theorem dX4_row_40 : decode cX4_row 40 = .ok (.iload_n 3, 1) := by decide +kernel
theorem dX4_row_41 : decode cX4_row 41 = .ok (.invokevirtual 65, 3) := by decide +kernel
theorem dX4_row_44 : decode cX4_row 44 = .ok (.iconst 1, 1) := by decide +kernel
theorem dX4_row_45 : decode cX4_row 45 = .ok (.ireturn, 1) := by decide +kernel
theorem dX4_set_0 : decode cX4_set 0 = .ok (.aload_n 0, 1) := by decide +kernel
theorem dX4_set_1 : decode cX4_set 1 = .ok (.iload_n 1, 1) := by decide +kernel
theorem dX4_set_2 : decode cX4_set 2 = .ok (.invokevirtual 69, 3) := by decide +kernel
theorem dX4_set_5 : decode cX4_set 5 = .ok (.istore 5, 2) := by decide +kernel
theorem dX4_set_7 : decode cX4_set 7 = .ok (.iload 5, 2) := by decide +kernel
theorem dX4_set_9 : decode cX4_set 9 = .ok (.ifCond .eq 10, 3) := by decide +kernel
theorem dX4_set_12 : decode cX4_set 12 = .ok (.aload_n 0, 1) := by decide +kernel
theorem dX4_set_13 : decode cX4_set 13 = .ok (.iload 5, 2) := by decide +kernel
theorem dX4_set_15 : decode cX4_set 15 = .ok (.invokevirtual 61, 3) := by decide +kernel
theorem dX4_set_18 : decode cX4_set 18 = .ok (.ireturn, 1) := by decide +kernel
theorem dX4_set_19 : decode cX4_set 19 = .ok (.aload_n 0, 1) := by decide +kernel
theorem dX4_set_20 : decode cX4_set 20 = .ok (.getfield 40, 3) := by decide +kernel
theorem dX4_set_23 : decode cX4_set 23 = .ok (.iload_n 1, 1) := by decide +kernel
theorem dX4_set_24 : decode cX4_set 24 = .ok (.aaload, 1) := by decide +kernel
theorem dX4_set_25 : decode cX4_set 25 = .ok (.iload_n 2, 1) := by decide +kernel
theorem dX4_set_26 : decode cX4_set 26 = .ok (.invokevirtual 72, 3) := by decide +kernel
theorem dX4_set_29 : decode cX4_set 29 = .ok (.ifCond .ne 10, 3) := by decide +kernel
theorem dX4_set_32 : decode cX4_set 32 = .ok (.aload_n 0, 1) := by decide +kernel
theorem dX4_set_33 : decode cX4_set 33 = .ok (.bipush (-2), 2) := by decide +kernel
theorem dX4_set_35 : decode cX4_set 35 = .ok (.invokevirtual 61, 3) := by decide +kernel
theorem dX4_set_38 : decode cX4_set 38 = .ok (.ireturn, 1) := by decide +kernel
theorem dX4_set_39 : decode cX4_set 39 = .ok (.aload_n 0, 1) := by decide +kernel
theorem dX4_set_40 : decode cX4_set 40 = .ok (.getfield 40, 3) := by decide +kernel
theorem dX4_set_43 : decode cX4_set 43 = .ok (.iload_n 1, 1) := by decide +kernel
theorem dX4_set_44 : decode cX4_set 44 = .ok (.aaload, 1) := by decide +kernel
theorem dX4_set_45 : decode cX4_set 45 = .ok (.iload_n 2, 1) := by decide +kernel
theorem dX4_set_46 : decode cX4_set 46 = .ok (.lload_n 3, 1) := by decide +kernel
theorem dX4_set_47 : decode cX4_set 47 = .ok (.invokevirtual 75, 3) := by decide +kernel
theorem dX4_set_50 : decode cX4_set 50 = .ok (.iconst 1, 1) := by decide +kernel
theorem dX4_set_51 : decode cX4_set 51 = .ok (.ireturn, 1) := by decide +kernel
theorem dX4_copy_0 : decode cX4_copy 0 = .ok (.aload_n 0, 1) := by decide +kernel
theorem dX4_copy_1 : decode cX4_copy 1 = .ok (.iload_n 1, 1) := by decide +kernel
theorem dX4_copy_2 : decode cX4_copy 2 = .ok (.iload_n 2, 1) := by decide +kernel
theorem dX4_copy_3 : decode cX4_copy 3 = .ok (.invokevirtual 79, 3) := by decide +kernel
theorem dX4_copy_6 : decode cX4_copy 6 = .ok (.istore 6, 2) := by decide +kernel
theorem dX4_copy_8 : decode cX4_copy 8 = .ok (.iload 6, 2) := by decide +kernel
theorem dX4_copy_10 : decode cX4_copy 10 = .ok (.ifCond .eq 10, 3) := by decide +kernel
theorem dX4_copy_13 : decode cX4_copy 13 = .ok (.aload_n 0, 1) := by decide +kernel
theorem dX4_copy_14 : decode cX4_copy 14 = .ok (.iload 6, 2) := by decide +kernel
theorem dX4_copy_16 : decode cX4_copy 16 = .ok (.invokevirtual 61, 3) := by decide +kernel
theorem dX4_copy_19 : decode cX4_copy 19 = .ok (.ireturn, 1) := by decide +kernel
theorem dX4_copy_20 : decode cX4_copy 20 = .ok (.aload_n 0, 1) := by decide +kernel
theorem dX4_copy_21 : decode cX4_copy 21 = .ok (.getfield 40, 3) := by decide +kernel
theorem dX4_copy_24 : decode cX4_copy 24 = .ok (.iload_n 1, 1) := by decide +kernel
theorem dX4_copy_25 : decode cX4_copy 25 = .ok (.aaload, 1) := by decide +kernel
theorem dX4_copy_26 : decode cX4_copy 26 = .ok (.iload_n 3, 1) := by decide +kernel
theorem dX4_copy_27 : decode cX4_copy 27 = .ok (.iload 5, 2) := by decide +kernel
theorem dX4_copy_29 : decode cX4_copy 29 = .ok (.invokevirtual 83, 3) := by decide +kernel
theorem dX4_copy_32 : decode cX4_copy 32 = .ok (.ifCond .eq 19, 3) := by decide +kernel
theorem dX4_copy_35 : decode cX4_copy 35 = .ok (.aload_n 0, 1) := by decide +kernel
theorem dX4_copy_36 : decode cX4_copy 36 = .ok (.getfield 40, 3) := by decide +kernel
theorem dX4_copy_39 : decode cX4_copy 39 = .ok (.iload_n 2, 1) := by decide +kernel
theorem dX4_copy_40 : decode cX4_copy 40 = .ok (.aaload, 1) := by decide +kernel
theorem dX4_copy_41 : decode cX4_copy 41 = .ok (.iload 4, 2) := by decide +kernel
theorem dX4_copy_43 : decode cX4_copy 43 = .ok (.iload 5, 2) := by decide +kernel
theorem dX4_copy_45 : decode cX4_copy 45 = .ok (.invokevirtual 83, 3) := by decide +kernel
theorem dX4_copy_48 : decode cX4_copy 48 = .ok (.ifCond .ne 10, 3) := by decide +kernel
theorem dX4_copy_51 : decode cX4_copy 51 = .ok (.aload_n 0, 1) := by decide +kernel
theorem dX4_copy_52 : decode cX4_copy 52 = .ok (.bipush (-2), 2) := by decide +kernel
theorem dX4_copy_54 : decode cX4_copy 54 = .ok (.invokevirtual 61, 3) := by decide +kernel
theorem dX4_copy_57 : decode cX4_copy 57 = .ok (.ireturn, 1) := by decide +kernel
theorem dX4_copy_58 : decode cX4_copy 58 = .ok (.aload_n 0, 1) := by decide +kernel
theorem dX4_copy_59 : decode cX4_copy 59 = .ok (.getfield 40, 3) := by decide +kernel
theorem dX4_copy_62 : decode cX4_copy 62 = .ok (.iload_n 1, 1) := by decide +kernel
theorem dX4_copy_63 : decode cX4_copy 63 = .ok (.aaload, 1) := by decide +kernel
theorem dX4_copy_64 : decode cX4_copy 64 = .ok (.getfield 87, 3) := by decide +kernel
theorem dX4_copy_67 : decode cX4_copy 67 = .ok (.iload_n 3, 1) := by decide +kernel
theorem dX4_copy_68 : decode cX4_copy 68 = .ok (.aload_n 0, 1) := by decide +kernel
theorem dX4_copy_69 : decode cX4_copy 69 = .ok (.getfield 40, 3) := by decide +kernel
theorem dX4_copy_72 : decode cX4_copy 72 = .ok (.iload_n 2, 1) := by decide +kernel
theorem dX4_copy_73 : decode cX4_copy 73 = .ok (.aaload, 1) := by decide +kernel
theorem dX4_copy_74 : decode cX4_copy 74 = .ok (.getfield 87, 3) := by decide +kernel
theorem dX4_copy_77 : decode cX4_copy 77 = .ok (.iload 4, 2) := by decide +kernel
theorem dX4_copy_79 : decode cX4_copy 79 = .ok (.iload 5, 2) := by decide +kernel
theorem dX4_copy_81 : decode cX4_copy 81 = .ok (.invokestatic 91, 3) := by decide +kernel
theorem dX4_copy_84 : decode cX4_copy 84 = .ok (.iload 5, 2) := by decide +kernel
theorem dX4_copy_86 : decode cX4_copy 86 = .ok (.ireturn, 1) := by decide +kernel
theorem dX4_element_0 : decode cX4_element 0 = .ok (.aload_n 0, 1) := by decide +kernel
theorem dX4_element_1 : decode cX4_element 1 = .ok (.iload_n 1, 1) := by decide +kernel
theorem dX4_element_2 : decode cX4_element 2 = .ok (.invokevirtual 69, 3) := by decide +kernel
theorem dX4_element_5 : decode cX4_element 5 = .ok (.ifCond .ne 16, 3) := by decide +kernel
theorem dX4_element_8 : decode cX4_element 8 = .ok (.aload_n 0, 1) := by decide +kernel
theorem dX4_element_9 : decode cX4_element 9 = .ok (.getfield 40, 3) := by decide +kernel
theorem dX4_element_12 : decode cX4_element 12 = .ok (.iload_n 1, 1) := by decide +kernel
theorem dX4_element_13 : decode cX4_element 13 = .ok (.aaload, 1) := by decide +kernel
theorem dX4_element_14 : decode cX4_element 14 = .ok (.iload_n 2, 1) := by decide +kernel
theorem dX4_element_15 : decode cX4_element 15 = .ok (.invokevirtual 72, 3) := by decide +kernel
theorem dX4_element_18 : decode cX4_element 18 = .ok (.ifCond .ne 5, 3) := by decide +kernel
theorem dX4_element_21 : decode cX4_element 21 = .ok (.lconst 0, 1) := by decide +kernel
theorem dX4_element_22 : decode cX4_element 22 = .ok (.lreturn, 1) := by decide +kernel
theorem dX4_element_23 : decode cX4_element 23 = .ok (.aload_n 0, 1) := by decide +kernel
theorem dX4_element_24 : decode cX4_element 24 = .ok (.getfield 40, 3) := by decide +kernel
theorem dX4_element_27 : decode cX4_element 27 = .ok (.iload_n 1, 1) := by decide +kernel
theorem dX4_element_28 : decode cX4_element 28 = .ok (.aaload, 1) := by decide +kernel
theorem dX4_element_29 : decode cX4_element 29 = .ok (.getfield 87, 3) := by decide +kernel
theorem dX4_element_32 : decode cX4_element 32 = .ok (.iload_n 2, 1) := by decide +kernel
theorem dX4_element_33 : decode cX4_element 33 = .ok (.laload, 1) := by decide +kernel
theorem dX4_element_34 : decode cX4_element 34 = .ok (.lreturn, 1) := by decide +kernel
theorem dX4_holds_0 : decode cX4_holds 0 = .ok (.iload_n 1, 1) := by decide +kernel
theorem dX4_holds_1 : decode cX4_holds 1 = .ok (.invokestatic 53, 3) := by decide +kernel
theorem dX4_holds_4 : decode cX4_holds 4 = .ok (.ifCond .eq 15, 3) := by decide +kernel
theorem dX4_holds_7 : decode cX4_holds 7 = .ok (.aload_n 0, 1) := by decide +kernel
theorem dX4_holds_8 : decode cX4_holds 8 = .ok (.getfield 40, 3) := by decide +kernel
theorem dX4_holds_11 : decode cX4_holds 11 = .ok (.iload_n 1, 1) := by decide +kernel
theorem dX4_holds_12 : decode cX4_holds 12 = .ok (.aaload, 1) := by decide +kernel
theorem dX4_holds_13 : decode cX4_holds 13 = .ok (.getfield 97, 3) := by decide +kernel
theorem dX4_holds_16 : decode cX4_holds 16 = .ok (.goto 4, 3) := by decide +kernel
theorem dX4_holds_19 : decode cX4_holds 19 = .ok (.iconst (-1), 1) := by decide +kernel
theorem dX4_holds_20 : decode cX4_holds 20 = .ok (.ireturn, 1) := by decide +kernel
theorem dX4_show_0 : decode cX4_show 0 = .ok (.iload_n 1, 1) := by decide +kernel
theorem dX4_show_1 : decode cX4_show 1 = .ok (.invokestatic 53, 3) := by decide +kernel
theorem dX4_show_4 : decode cX4_show 4 = .ok (.ifCond .eq 19, 3) := by decide +kernel
theorem dX4_show_7 : decode cX4_show 7 = .ok (.iload_n 2, 1) := by decide +kernel
theorem dX4_show_8 : decode cX4_show 8 = .ok (.iconst (-1), 1) := by decide +kernel
theorem dX4_show_9 : decode cX4_show 9 = .ok (.if_icmp .eq 21, 3) := by decide +kernel
theorem dX4_show_12 : decode cX4_show 12 = .ok (.aload_n 0, 1) := by decide +kernel
theorem dX4_show_13 : decode cX4_show 13 = .ok (.getfield 10, 3) := by decide +kernel
theorem dX4_show_16 : decode cX4_show 16 = .ok (.iload_n 2, 1) := by decide +kernel
theorem dX4_show_17 : decode cX4_show 17 = .ok (.invokevirtual 101, 3) := by decide +kernel
theorem dX4_show_20 : decode cX4_show 20 = .ok (.ifCond .ne 10, 3) := by decide +kernel
theorem dX4_show_23 : decode cX4_show 23 = .ok (.aload_n 0, 1) := by decide +kernel
theorem dX4_show_24 : decode cX4_show 24 = .ok (.bipush (-2), 2) := by decide +kernel
theorem dX4_show_26 : decode cX4_show 26 = .ok (.invokevirtual 61, 3) := by decide +kernel
theorem dX4_show_29 : decode cX4_show 29 = .ok (.ireturn, 1) := by decide +kernel
theorem dX4_show_30 : decode cX4_show 30 = .ok (.iload_n 2, 1) := by decide +kernel
theorem dX4_show_31 : decode cX4_show 31 = .ok (.iconst (-1), 1) := by decide +kernel
theorem dX4_show_32 : decode cX4_show 32 = .ok (.if_icmp .ne 15, 3) := by decide +kernel
theorem dX4_show_35 : decode cX4_show 35 = .ok (.aload_n 0, 1) := by decide +kernel
theorem dX4_show_36 : decode cX4_show 36 = .ok (.getfield 40, 3) := by decide +kernel
theorem dX4_show_39 : decode cX4_show 39 = .ok (.iload_n 1, 1) := by decide +kernel
theorem dX4_show_40 : decode cX4_show 40 = .ok (.aaload, 1) := by decide +kernel
theorem dX4_show_41 : decode cX4_show 41 = .ok (.invokevirtual 104, 3) := by decide +kernel
theorem dX4_show_44 : decode cX4_show 44 = .ok (.goto 13, 3) := by decide +kernel
theorem dX4_show_47 : decode cX4_show 47 = .ok (.aload_n 0, 1) := by decide +kernel
theorem dX4_show_48 : decode cX4_show 48 = .ok (.getfield 40, 3) := by decide +kernel
theorem dX4_show_51 : decode cX4_show 51 = .ok (.iload_n 1, 1) := by decide +kernel
theorem dX4_show_52 : decode cX4_show 52 = .ok (.aaload, 1) := by decide +kernel
theorem dX4_show_53 : decode cX4_show 53 = .ok (.iload_n 2, 1) := by decide +kernel
theorem dX4_show_54 : decode cX4_show 54 = .ok (.invokevirtual 107, 3) := by decide +kernel
theorem dX4_show_57 : decode cX4_show 57 = .ok (.iconst 1, 1) := by decide +kernel
theorem dX4_show_58 : decode cX4_show 58 = .ok (.ireturn, 1) := by decide +kernel
theorem dX4_says_0 : decode cX4_says 0 = .ok (.iload_n 1, 1) := by decide +kernel
theorem dX4_says_1 : decode cX4_says 1 = .ok (.invokestatic 53, 3) := by decide +kernel
theorem dX4_says_4 : decode cX4_says 4 = .ok (.ifCond .eq 12, 3) := by decide +kernel
theorem dX4_says_7 : decode cX4_says 7 = .ok (.iload_n 2, 1) := by decide +kernel
theorem dX4_says_8 : decode cX4_says 8 = .ok (.iconst 0, 1) := by decide +kernel
theorem dX4_says_9 : decode cX4_says 9 = .ok (.iconst 5, 1) := by decide +kernel
theorem dX4_says_10 : decode cX4_says 10 = .ok (.invokestatic 57, 3) := by decide +kernel
theorem dX4_says_13 : decode cX4_says 13 = .ok (.ifCond .ne 10, 3) := by decide +kernel
theorem dX4_says_16 : decode cX4_says 16 = .ok (.aload_n 0, 1) := by decide +kernel
theorem dX4_says_17 : decode cX4_says 17 = .ok (.bipush (-2), 2) := by decide +kernel
theorem dX4_says_19 : decode cX4_says 19 = .ok (.invokevirtual 61, 3) := by decide +kernel
theorem dX4_says_22 : decode cX4_says 22 = .ok (.ireturn, 1) := by decide +kernel
theorem dX4_says_23 : decode cX4_says 23 = .ok (.aload_n 0, 1) := by decide +kernel
theorem dX4_says_24 : decode cX4_says 24 = .ok (.getfield 40, 3) := by decide +kernel
theorem dX4_says_27 : decode cX4_says 27 = .ok (.iload_n 1, 1) := by decide +kernel
theorem dX4_says_28 : decode cX4_says 28 = .ok (.aaload, 1) := by decide +kernel
theorem dX4_says_29 : decode cX4_says 29 = .ok (.invokevirtual 111, 3) := by decide +kernel
theorem dX4_says_32 : decode cX4_says 32 = .ok (.ifCond .eq 10, 3) := by decide +kernel
theorem dX4_says_35 : decode cX4_says 35 = .ok (.aload_n 0, 1) := by decide +kernel
theorem dX4_says_36 : decode cX4_says 36 = .ok (.bipush (-3), 2) := by decide +kernel
theorem dX4_says_38 : decode cX4_says 38 = .ok (.invokevirtual 61, 3) := by decide +kernel
theorem dX4_says_41 : decode cX4_says 41 = .ok (.ireturn, 1) := by decide +kernel
theorem dX4_says_42 : decode cX4_says 42 = .ok (.aload_n 0, 1) := by decide +kernel
theorem dX4_says_43 : decode cX4_says 43 = .ok (.getfield 40, 3) := by decide +kernel
theorem dX4_says_46 : decode cX4_says 46 = .ok (.iload_n 1, 1) := by decide +kernel
theorem dX4_says_47 : decode cX4_says 47 = .ok (.aaload, 1) := by decide +kernel
theorem dX4_says_48 : decode cX4_says 48 = .ok (.invokevirtual 115, 3) := by decide +kernel
theorem dX4_says_51 : decode cX4_says 51 = .ok (.istore_n 3, 1) := by decide +kernel
theorem dX4_says_52 : decode cX4_says 52 = .ok (.aload_n 0, 1) := by decide +kernel
theorem dX4_says_53 : decode cX4_says 53 = .ok (.getfield 10, 3) := by decide +kernel
theorem dX4_says_56 : decode cX4_says 56 = .ok (.iload_n 3, 1) := by decide +kernel
theorem dX4_says_57 : decode cX4_says 57 = .ok (.invokevirtual 101, 3) := by decide +kernel
theorem dX4_says_60 : decode cX4_says 60 = .ok (.ifCond .ne 10, 3) := by decide +kernel
theorem dX4_says_63 : decode cX4_says 63 = .ok (.aload_n 0, 1) := by decide +kernel
theorem dX4_says_64 : decode cX4_says 64 = .ok (.bipush (-4), 2) := by decide +kernel
theorem dX4_says_66 : decode cX4_says 66 = .ok (.invokevirtual 61, 3) := by decide +kernel
theorem dX4_says_69 : decode cX4_says 69 = .ok (.ireturn, 1) := by decide +kernel
theorem dX4_says_70 : decode cX4_says 70 = .ok (.aload_n 0, 1) := by decide +kernel
theorem dX4_says_71 : decode cX4_says 71 = .ok (.getfield 10, 3) := by decide +kernel
theorem dX4_says_74 : decode cX4_says 74 = .ok (.getfield 119, 3) := by decide +kernel
theorem dX4_says_77 : decode cX4_says 77 = .ok (.iload_n 3, 1) := by decide +kernel
theorem dX4_says_78 : decode cX4_says 78 = .ok (.iaload, 1) := by decide +kernel
theorem dX4_says_79 : decode cX4_says 79 = .ok (.iload_n 2, 1) := by decide +kernel
theorem dX4_says_80 : decode cX4_says 80 = .ok (.invokestatic 122, 3) := by decide +kernel
theorem dX4_says_83 : decode cX4_says 83 = .ok (.ifCond .ne 10, 3) := by decide +kernel
theorem dX4_says_86 : decode cX4_says 86 = .ok (.aload_n 0, 1) := by decide +kernel
theorem dX4_says_87 : decode cX4_says 87 = .ok (.bipush (-3), 2) := by decide +kernel
theorem dX4_says_89 : decode cX4_says 89 = .ok (.invokevirtual 61, 3) := by decide +kernel
theorem dX4_says_92 : decode cX4_says 92 = .ok (.ireturn, 1) := by decide +kernel
theorem dX4_says_93 : decode cX4_says 93 = .ok (.aload_n 0, 1) := by decide +kernel
theorem dX4_says_94 : decode cX4_says 94 = .ok (.iload_n 3, 1) := by decide +kernel
theorem dX4_says_95 : decode cX4_says 95 = .ok (.iload_n 2, 1) := by decide +kernel
theorem dX4_says_96 : decode cX4_says 96 = .ok (.invokevirtual 125, 3) := by decide +kernel
theorem dX4_says_99 : decode cX4_says 99 = .ok (.ireturn, 1) := by decide +kernel
theorem dX4_child_0 : decode cX4_child 0 = .ok (.iload_n 1, 1) := by decide +kernel
theorem dX4_child_1 : decode cX4_child 1 = .ok (.iconst 1, 1) := by decide +kernel
theorem dX4_child_2 : decode cX4_child 2 = .ok (.bipush 99, 2) := by decide +kernel
theorem dX4_child_4 : decode cX4_child 4 = .ok (.invokestatic 57, 3) := by decide +kernel
theorem dX4_child_7 : decode cX4_child 7 = .ok (.ifCond .eq 13, 3) := by decide +kernel
theorem dX4_child_10 : decode cX4_child 10 = .ok (.iload_n 2, 1) := by decide +kernel
theorem dX4_child_11 : decode cX4_child 11 = .ok (.iconst 0, 1) := by decide +kernel
theorem dX4_child_12 : decode cX4_child 12 = .ok (.bipush 9, 2) := by decide +kernel
theorem dX4_child_14 : decode cX4_child 14 = .ok (.invokestatic 57, 3) := by decide +kernel
theorem dX4_child_17 : decode cX4_child 17 = .ok (.ifCond .ne 10, 3) := by decide +kernel
theorem dX4_child_20 : decode cX4_child 20 = .ok (.aload_n 0, 1) := by decide +kernel
theorem dX4_child_21 : decode cX4_child 21 = .ok (.bipush (-2), 2) := by decide +kernel
theorem dX4_child_23 : decode cX4_child 23 = .ok (.invokevirtual 61, 3) := by decide +kernel
theorem dX4_child_26 : decode cX4_child 26 = .ok (.ireturn, 1) := by decide +kernel
theorem dX4_child_27 : decode cX4_child 27 = .ok (.aload_n 0, 1) := by decide +kernel
theorem dX4_child_28 : decode cX4_child 28 = .ok (.getfield 10, 3) := by decide +kernel
theorem dX4_child_31 : decode cX4_child 31 = .ok (.getfield 128, 3) := by decide +kernel
theorem dX4_child_34 : decode cX4_child 34 = .ok (.bipush 14, 2) := by decide +kernel
theorem dX4_child_36 : decode cX4_child 36 = .ok (.if_icmp .lt 10, 3) := by decide +kernel
theorem dX4_child_39 : decode cX4_child 39 = .ok (.aload_n 0, 1) := by decide +kernel
theorem dX4_child_40 : decode cX4_child 40 = .ok (.bipush (-6), 2) := by decide +kernel
theorem dX4_child_42 : decode cX4_child 42 = .ok (.invokevirtual 61, 3) := by decide +kernel
theorem dX4_child_45 : decode cX4_child 45 = .ok (.ireturn, 1) := by decide +kernel
theorem dX4_child_46 : decode cX4_child 46 = .ok (.aload_n 0, 1) := by decide +kernel
theorem dX4_child_47 : decode cX4_child 47 = .ok (.getfield 10, 3) := by decide +kernel
theorem dX4_child_50 : decode cX4_child 50 = .ok (.iload_n 1, 1) := by decide +kernel
theorem dX4_child_51 : decode cX4_child 51 = .ok (.iload_n 2, 1) := by decide +kernel
theorem dX4_child_52 : decode cX4_child 52 = .ok (.invokevirtual 131, 3) := by decide +kernel
theorem dX4_child_55 : decode cX4_child 55 = .ok (.ireturn, 1) := by decide +kernel
theorem dX4_count_0 : decode cX4_count 0 = .ok (.iload_n 1, 1) := by decide +kernel
theorem dX4_count_1 : decode cX4_count 1 = .ok (.iconst 0, 1) := by decide +kernel
theorem dX4_count_2 : decode cX4_count 2 = .ok (.iconst 5, 1) := by decide +kernel
theorem dX4_count_3 : decode cX4_count 3 = .ok (.invokestatic 57, 3) := by decide +kernel
theorem dX4_count_6 : decode cX4_count 6 = .ok (.ifCond .eq 22, 3) := by decide +kernel
theorem dX4_count_9 : decode cX4_count 9 = .ok (.iload_n 2, 1) := by decide +kernel
theorem dX4_count_10 : decode cX4_count 10 = .ok (.iconst 2, 1) := by decide +kernel
theorem dX4_count_11 : decode cX4_count 11 = .ok (.iconst 5, 1) := by decide +kernel
theorem dX4_count_12 : decode cX4_count 12 = .ok (.invokestatic 57, 3) := by decide +kernel
theorem dX4_count_15 : decode cX4_count 15 = .ok (.ifCond .eq 13, 3) := by decide +kernel
theorem dX4_count_18 : decode cX4_count 18 = .ok (.iload_n 3, 1) := by decide +kernel
theorem dX4_count_19 : decode cX4_count 19 = .ok (.iconst 0, 1) := by decide +kernel
theorem dX4_count_20 : decode cX4_count 20 = .ok (.bipush 13, 2) := by decide +kernel
theorem dX4_count_22 : decode cX4_count 22 = .ok (.invokestatic 57, 3) := by decide +kernel
theorem dX4_count_25 : decode cX4_count 25 = .ok (.ifCond .ne 10, 3) := by decide +kernel
theorem dX4_count_28 : decode cX4_count 28 = .ok (.aload_n 0, 1) := by decide +kernel
theorem dX4_count_29 : decode cX4_count 29 = .ok (.bipush (-2), 2) := by decide +kernel
theorem dX4_count_31 : decode cX4_count 31 = .ok (.invokevirtual 61, 3) := by decide +kernel
theorem dX4_count_34 : decode cX4_count 34 = .ok (.ireturn, 1) := by decide +kernel
theorem dX4_count_35 : decode cX4_count 35 = .ok (.aload_n 0, 1) := by decide +kernel
theorem dX4_count_36 : decode cX4_count 36 = .ok (.getfield 10, 3) := by decide +kernel
theorem dX4_count_39 : decode cX4_count 39 = .ok (.getfield 134, 3) := by decide +kernel
theorem dX4_count_42 : decode cX4_count 42 = .ok (.bipush 6, 2) := by decide +kernel
theorem dX4_count_44 : decode cX4_count 44 = .ok (.if_icmp .lt 10, 3) := by decide +kernel
theorem dX4_count_47 : decode cX4_count 47 = .ok (.aload_n 0, 1) := by decide +kernel
theorem dX4_count_48 : decode cX4_count 48 = .ok (.bipush (-6), 2) := by decide +kernel
theorem dX4_count_50 : decode cX4_count 50 = .ok (.invokevirtual 61, 3) := by decide +kernel
theorem dX4_count_53 : decode cX4_count 53 = .ok (.ireturn, 1) := by decide +kernel
theorem dX4_count_54 : decode cX4_count 54 = .ok (.aload_n 0, 1) := by decide +kernel
theorem dX4_count_55 : decode cX4_count 55 = .ok (.getfield 10, 3) := by decide +kernel
theorem dX4_count_58 : decode cX4_count 58 = .ok (.iload_n 1, 1) := by decide +kernel
theorem dX4_count_59 : decode cX4_count 59 = .ok (.iload_n 2, 1) := by decide +kernel
theorem dX4_count_60 : decode cX4_count 60 = .ok (.iload_n 3, 1) := by decide +kernel
theorem dX4_count_61 : decode cX4_count 61 = .ok (.invokevirtual 137, 3) := by decide +kernel
theorem dX4_count_64 : decode cX4_count 64 = .ok (.ireturn, 1) := by decide +kernel
theorem dX4_wish_0 : decode cX4_wish 0 = .ok (.aload_n 0, 1) := by decide +kernel
theorem dX4_wish_1 : decode cX4_wish 1 = .ok (.iload_n 1, 1) := by decide +kernel
theorem dX4_wish_2 : decode cX4_wish 2 = .ok (.iload_n 2, 1) := by decide +kernel
theorem dX4_wish_3 : decode cX4_wish 3 = .ok (.invokevirtual 141, 3) := by decide +kernel
theorem dX4_wish_6 : decode cX4_wish 6 = .ok (.ifCond .eq 14, 3) := by decide +kernel
theorem dX4_wish_9 : decode cX4_wish 9 = .ok (.iload 4, 2) := by decide +kernel
theorem dX4_wish_11 : decode cX4_wish 11 = .ok (.iconst 1, 1) := by decide +kernel
theorem dX4_wish_12 : decode cX4_wish 12 = .ok (.bipush 99, 2) := by decide +kernel
theorem dX4_wish_14 : decode cX4_wish 14 = .ok (.invokestatic 57, 3) := by decide +kernel
theorem dX4_wish_17 : decode cX4_wish 17 = .ok (.ifCond .ne 10, 3) := by decide +kernel
theorem dX4_wish_20 : decode cX4_wish 20 = .ok (.aload_n 0, 1) := by decide +kernel
theorem dX4_wish_21 : decode cX4_wish 21 = .ok (.bipush (-2), 2) := by decide +kernel
theorem dX4_wish_23 : decode cX4_wish 23 = .ok (.invokevirtual 61, 3) := by decide +kernel
theorem dX4_wish_26 : decode cX4_wish 26 = .ok (.ireturn, 1) := by decide +kernel
theorem dX4_wish_27 : decode cX4_wish 27 = .ok (.aload_n 0, 1) := by decide +kernel
theorem dX4_wish_28 : decode cX4_wish 28 = .ok (.getfield 10, 3) := by decide +kernel
theorem dX4_wish_31 : decode cX4_wish 31 = .ok (.getfield 144, 3) := by decide +kernel
theorem dX4_wish_34 : decode cX4_wish 34 = .ok (.bipush 20, 2) := by decide +kernel
theorem dX4_wish_36 : decode cX4_wish 36 = .ok (.if_icmp .lt 10, 3) := by decide +kernel
theorem dX4_wish_39 : decode cX4_wish 39 = .ok (.aload_n 0, 1) := by decide +kernel
theorem dX4_wish_40 : decode cX4_wish 40 = .ok (.bipush (-6), 2) := by decide +kernel
theorem dX4_wish_42 : decode cX4_wish 42 = .ok (.invokevirtual 61, 3) := by decide +kernel
theorem dX4_wish_45 : decode cX4_wish 45 = .ok (.ireturn, 1) := by decide +kernel
theorem dX4_wish_46 : decode cX4_wish 46 = .ok (.aload_n 0, 1) := by decide +kernel
theorem dX4_wish_47 : decode cX4_wish 47 = .ok (.getfield 10, 3) := by decide +kernel
theorem dX4_wish_50 : decode cX4_wish 50 = .ok (.iload_n 1, 1) := by decide +kernel
theorem dX4_wish_51 : decode cX4_wish 51 = .ok (.iload_n 2, 1) := by decide +kernel
theorem dX4_wish_52 : decode cX4_wish 52 = .ok (.iload_n 3, 1) := by decide +kernel
theorem dX4_wish_53 : decode cX4_wish 53 = .ok (.iload 4, 2) := by decide +kernel
theorem dX4_wish_55 : decode cX4_wish 55 = .ok (.invokevirtual 147, 3) := by decide +kernel
theorem dX4_wish_58 : decode cX4_wish 58 = .ok (.ireturn, 1) := by decide +kernel
theorem dX4_content_0 : decode cX4_content 0 = .ok (.aload_n 0, 1) := by decide +kernel
theorem dX4_content_1 : decode cX4_content 1 = .ok (.getfield 10, 3) := by decide +kernel
theorem dX4_content_4 : decode cX4_content 4 = .ok (.getfield 144, 3) := by decide +kernel
theorem dX4_content_7 : decode cX4_content 7 = .ok (.istore_n 1, 1) := by decide +kernel
theorem dX4_content_8 : decode cX4_content 8 = .ok (.aload_n 0, 1) := by decide +kernel
theorem dX4_content_9 : decode cX4_content 9 = .ok (.getfield 10, 3) := by decide +kernel
theorem dX4_content_12 : decode cX4_content 12 = .ok (.iconst 0, 1) := by decide +kernel
theorem dX4_content_13 : decode cX4_content 13 = .ok (.putfield 144, 3) := by decide +kernel
theorem dX4_content_16 : decode cX4_content 16 = .ok (.iload_n 1, 1) := by decide +kernel
theorem dX4_content_17 : decode cX4_content 17 = .ok (.ireturn, 1) := by decide +kernel
theorem dX4_feed_0 : decode cX4_feed 0 = .ok (.iload_n 1, 1) := by decide +kernel
theorem dX4_feed_1 : decode cX4_feed 1 = .ok (.iconst 0, 1) := by decide +kernel
theorem dX4_feed_2 : decode cX4_feed 2 = .ok (.sipush 255, 3) := by decide +kernel
theorem dX4_feed_5 : decode cX4_feed 5 = .ok (.invokestatic 57, 3) := by decide +kernel
theorem dX4_feed_8 : decode cX4_feed 8 = .ok (.ifCond .ne 10, 3) := by decide +kernel
theorem dX4_feed_11 : decode cX4_feed 11 = .ok (.aload_n 0, 1) := by decide +kernel
theorem dX4_feed_12 : decode cX4_feed 12 = .ok (.bipush (-2), 2) := by decide +kernel
theorem dX4_feed_14 : decode cX4_feed 14 = .ok (.invokevirtual 61, 3) := by decide +kernel
theorem dX4_feed_17 : decode cX4_feed 17 = .ok (.ireturn, 1) := by decide +kernel
theorem dX4_feed_18 : decode cX4_feed 18 = .ok (.aload_n 0, 1) := by decide +kernel
theorem dX4_feed_19 : decode cX4_feed 19 = .ok (.getfield 34, 3) := by decide +kernel
theorem dX4_feed_22 : decode cX4_feed 22 = .ok (.getfield 151, 3) := by decide +kernel
theorem dX4_feed_25 : decode cX4_feed 25 = .ok (.sipush 250, 3) := by decide +kernel
theorem dX4_feed_28 : decode cX4_feed 28 = .ok (.if_icmp .lt 10, 3) := by decide +kernel
theorem dX4_feed_31 : decode cX4_feed 31 = .ok (.aload_n 0, 1) := by decide +kernel
theorem dX4_feed_32 : decode cX4_feed 32 = .ok (.bipush (-6), 2) := by decide +kernel
theorem dX4_feed_34 : decode cX4_feed 34 = .ok (.invokevirtual 61, 3) := by decide +kernel
theorem dX4_feed_37 : decode cX4_feed 37 = .ok (.ireturn, 1) := by decide +kernel
theorem dX4_feed_38 : decode cX4_feed 38 = .ok (.aload_n 0, 1) := by decide +kernel
theorem dX4_feed_39 : decode cX4_feed 39 = .ok (.getfield 34, 3) := by decide +kernel
theorem dX4_feed_42 : decode cX4_feed 42 = .ok (.iload_n 1, 1) := by decide +kernel
theorem dX4_feed_43 : decode cX4_feed 43 = .ok (.invokevirtual 154, 3) := by decide +kernel
theorem dX4_feed_46 : decode cX4_feed 46 = .ok (.ireturn, 1) := by decide +kernel
theorem dX4_wipe_0 : decode cX4_wipe 0 = .ok (.aload_n 0, 1) := by decide +kernel
theorem dX4_wipe_1 : decode cX4_wipe 1 = .ok (.getfield 34, 3) := by decide +kernel
theorem dX4_wipe_4 : decode cX4_wipe 4 = .ok (.invokevirtual 156, 3) := by decide +kernel
theorem dX4_wipe_7 : decode cX4_wipe 7 = .ok (.ireturn, 1) := by decide +kernel
theorem dX4_yard_0 : decode cX4_yard 0 = .ok (.aload_n 0, 1) := by decide +kernel
theorem dX4_yard_1 : decode cX4_yard 1 = .ok (.getfield 19, 3) := by decide +kernel
theorem dX4_yard_4 : decode cX4_yard 4 = .ok (.aload_n 0, 1) := by decide +kernel
theorem dX4_yard_5 : decode cX4_yard 5 = .ok (.getfield 10, 3) := by decide +kernel
theorem dX4_yard_8 : decode cX4_yard 8 = .ok (.invokevirtual 159, 3) := by decide +kernel
theorem dX4_yard_11 : decode cX4_yard 11 = .ok (.aload_n 0, 1) := by decide +kernel
theorem dX4_yard_12 : decode cX4_yard 12 = .ok (.getfield 34, 3) := by decide +kernel
theorem dX4_yard_15 : decode cX4_yard 15 = .ok (.aload_n 0, 1) := by decide +kernel
theorem dX4_yard_16 : decode cX4_yard 16 = .ok (.getfield 19, 3) := by decide +kernel
theorem dX4_yard_19 : decode cX4_yard 19 = .ok (.invokevirtual 162, 3) := by decide +kernel
theorem dX4_yard_22 : decode cX4_yard 22 = .ok (.istore_n 1, 1) := by decide +kernel
theorem dX4_yard_23 : decode cX4_yard 23 = .ok (.aload_n 0, 1) := by decide +kernel
theorem dX4_yard_24 : decode cX4_yard 24 = .ok (.getfield 34, 3) := by decide +kernel
theorem dX4_yard_27 : decode cX4_yard 27 = .ok (.invokevirtual 156, 3) := by decide +kernel
theorem dX4_yard_30 : decode cX4_yard 30 = .ok (.pop, 1) := by decide +kernel
theorem dX4_yard_31 : decode cX4_yard 31 = .ok (.iload_n 1, 1) := by decide +kernel
theorem dX4_yard_32 : decode cX4_yard 32 = .ok (.ifCond .ge 13, 3) := by decide +kernel
theorem dX4_yard_35 : decode cX4_yard 35 = .ok (.aload_n 0, 1) := by decide +kernel
theorem dX4_yard_36 : decode cX4_yard 36 = .ok (.bipush (-2), 2) := by decide +kernel
theorem dX4_yard_38 : decode cX4_yard 38 = .ok (.invokevirtual 61, 3) := by decide +kernel
theorem dX4_yard_41 : decode cX4_yard 41 = .ok (.pop, 1) := by decide +kernel
theorem dX4_yard_42 : decode cX4_yard 42 = .ok (.goto 14, 3) := by decide +kernel
theorem dX4_yard_45 : decode cX4_yard 45 = .ok (.aload_n 0, 1) := by decide +kernel
theorem dX4_yard_46 : decode cX4_yard 46 = .ok (.getfield 10, 3) := by decide +kernel
theorem dX4_yard_49 : decode cX4_yard 49 = .ok (.aload_n 0, 1) := by decide +kernel
theorem dX4_yard_50 : decode cX4_yard 50 = .ok (.getfield 19, 3) := by decide +kernel
theorem dX4_yard_53 : decode cX4_yard 53 = .ok (.invokevirtual 159, 3) := by decide +kernel
theorem dX4_yard_56 : decode cX4_yard 56 = .ok (.iload_n 1, 1) := by decide +kernel
theorem dX4_yard_57 : decode cX4_yard 57 = .ok (.ireturn, 1) := by decide +kernel
theorem dX4_childOf_0 : decode cX4_childOf 0 = .ok (.aload_n 0, 1) := by decide +kernel
theorem dX4_childOf_1 : decode cX4_childOf 1 = .ok (.getfield 10, 3) := by decide +kernel
theorem dX4_childOf_4 : decode cX4_childOf 4 = .ok (.iload_n 1, 1) := by decide +kernel
theorem dX4_childOf_5 : decode cX4_childOf 5 = .ok (.invokevirtual 166, 3) := by decide +kernel
theorem dX4_childOf_8 : decode cX4_childOf 8 = .ok (.ifCond .ne 10, 3) := by decide +kernel
theorem dX4_childOf_11 : decode cX4_childOf 11 = .ok (.aload_n 0, 1) := by decide +kernel
theorem dX4_childOf_12 : decode cX4_childOf 12 = .ok (.bipush (-2), 2) := by decide +kernel
theorem dX4_childOf_14 : decode cX4_childOf 14 = .ok (.invokevirtual 61, 3) := by decide +kernel
theorem dX4_childOf_17 : decode cX4_childOf 17 = .ok (.ireturn, 1) := by decide +kernel
theorem dX4_childOf_18 : decode cX4_childOf 18 = .ok (.iload_n 2, 1) := by decide +kernel
theorem dX4_childOf_19 : decode cX4_childOf 19 = .ok (.tableswitch 68 0 3 #[29, 39, 49, 59], 29) := by decide +kernel
theorem dX4_childOf_48 : decode cX4_childOf 48 = .ok (.aload_n 0, 1) := by decide +kernel
theorem dX4_childOf_49 : decode cX4_childOf 49 = .ok (.getfield 10, 3) := by decide +kernel
theorem dX4_childOf_52 : decode cX4_childOf 52 = .ok (.getfield 169, 3) := by decide +kernel
theorem dX4_childOf_55 : decode cX4_childOf 55 = .ok (.iload_n 1, 1) := by decide +kernel
theorem dX4_childOf_56 : decode cX4_childOf 56 = .ok (.iaload, 1) := by decide +kernel
theorem dX4_childOf_57 : decode cX4_childOf 57 = .ok (.ireturn, 1) := by decide +kernel
theorem dX4_childOf_58 : decode cX4_childOf 58 = .ok (.aload_n 0, 1) := by decide +kernel
theorem dX4_childOf_59 : decode cX4_childOf 59 = .ok (.getfield 10, 3) := by decide +kernel
theorem dX4_childOf_62 : decode cX4_childOf 62 = .ok (.getfield 172, 3) := by decide +kernel
theorem dX4_childOf_65 : decode cX4_childOf 65 = .ok (.iload_n 1, 1) := by decide +kernel
theorem dX4_childOf_66 : decode cX4_childOf 66 = .ok (.iaload, 1) := by decide +kernel
theorem dX4_childOf_67 : decode cX4_childOf 67 = .ok (.ireturn, 1) := by decide +kernel
theorem dX4_childOf_68 : decode cX4_childOf 68 = .ok (.aload_n 0, 1) := by decide +kernel
theorem dX4_childOf_69 : decode cX4_childOf 69 = .ok (.getfield 10, 3) := by decide +kernel
theorem dX4_childOf_72 : decode cX4_childOf 72 = .ok (.getfield 175, 3) := by decide +kernel
theorem dX4_childOf_75 : decode cX4_childOf 75 = .ok (.iload_n 1, 1) := by decide +kernel
theorem dX4_childOf_76 : decode cX4_childOf 76 = .ok (.iaload, 1) := by decide +kernel
theorem dX4_childOf_77 : decode cX4_childOf 77 = .ok (.ireturn, 1) := by decide +kernel
theorem dX4_childOf_78 : decode cX4_childOf 78 = .ok (.aload_n 0, 1) := by decide +kernel
theorem dX4_childOf_79 : decode cX4_childOf 79 = .ok (.getfield 10, 3) := by decide +kernel
theorem dX4_childOf_82 : decode cX4_childOf 82 = .ok (.iload_n 1, 1) := by decide +kernel
theorem dX4_childOf_83 : decode cX4_childOf 83 = .ok (.invokevirtual 178, 3) := by decide +kernel
theorem dX4_childOf_86 : decode cX4_childOf 86 = .ok (.ireturn, 1) := by decide +kernel
theorem dX4_childOf_87 : decode cX4_childOf 87 = .ok (.aload_n 0, 1) := by decide +kernel
theorem dX4_childOf_88 : decode cX4_childOf 88 = .ok (.bipush (-2), 2) := by decide +kernel
theorem dX4_childOf_90 : decode cX4_childOf 90 = .ok (.invokevirtual 61, 3) := by decide +kernel
theorem dX4_childOf_93 : decode cX4_childOf 93 = .ok (.ireturn, 1) := by decide +kernel
theorem dX4_countOf_0 : decode cX4_countOf 0 = .ok (.aload_n 0, 1) := by decide +kernel
theorem dX4_countOf_1 : decode cX4_countOf 1 = .ok (.getfield 10, 3) := by decide +kernel
theorem dX4_countOf_4 : decode cX4_countOf 4 = .ok (.iload_n 1, 1) := by decide +kernel
theorem dX4_countOf_5 : decode cX4_countOf 5 = .ok (.invokevirtual 101, 3) := by decide +kernel
theorem dX4_countOf_8 : decode cX4_countOf 8 = .ok (.ifCond .ne 10, 3) := by decide +kernel
theorem dX4_countOf_11 : decode cX4_countOf 11 = .ok (.aload_n 0, 1) := by decide +kernel
theorem dX4_countOf_12 : decode cX4_countOf 12 = .ok (.bipush (-2), 2) := by decide +kernel
theorem dX4_countOf_14 : decode cX4_countOf 14 = .ok (.invokevirtual 61, 3) := by decide +kernel
theorem dX4_countOf_17 : decode cX4_countOf 17 = .ok (.ireturn, 1) := by decide +kernel
theorem dX4_countOf_18 : decode cX4_countOf 18 = .ok (.iload_n 2, 1) := by decide +kernel
theorem dX4_countOf_19 : decode cX4_countOf 19 = .ok (.tableswitch 55 0 2 #[25, 35, 45], 25) := by decide +kernel
theorem dX4_countOf_44 : decode cX4_countOf 44 = .ok (.aload_n 0, 1) := by decide +kernel
theorem dX4_countOf_45 : decode cX4_countOf 45 = .ok (.getfield 10, 3) := by decide +kernel
theorem dX4_countOf_48 : decode cX4_countOf 48 = .ok (.getfield 119, 3) := by decide +kernel
theorem dX4_countOf_51 : decode cX4_countOf 51 = .ok (.iload_n 1, 1) := by decide +kernel
theorem dX4_countOf_52 : decode cX4_countOf 52 = .ok (.iaload, 1) := by decide +kernel
theorem dX4_countOf_53 : decode cX4_countOf 53 = .ok (.ireturn, 1) := by decide +kernel
theorem dX4_countOf_54 : decode cX4_countOf 54 = .ok (.aload_n 0, 1) := by decide +kernel
theorem dX4_countOf_55 : decode cX4_countOf 55 = .ok (.getfield 10, 3) := by decide +kernel
theorem dX4_countOf_58 : decode cX4_countOf 58 = .ok (.getfield 181, 3) := by decide +kernel
theorem dX4_countOf_61 : decode cX4_countOf 61 = .ok (.iload_n 1, 1) := by decide +kernel
theorem dX4_countOf_62 : decode cX4_countOf 62 = .ok (.iaload, 1) := by decide +kernel
theorem dX4_countOf_63 : decode cX4_countOf 63 = .ok (.ireturn, 1) := by decide +kernel
theorem dX4_countOf_64 : decode cX4_countOf 64 = .ok (.aload_n 0, 1) := by decide +kernel
theorem dX4_countOf_65 : decode cX4_countOf 65 = .ok (.getfield 10, 3) := by decide +kernel
theorem dX4_countOf_68 : decode cX4_countOf 68 = .ok (.getfield 184, 3) := by decide +kernel
theorem dX4_countOf_71 : decode cX4_countOf 71 = .ok (.iload_n 1, 1) := by decide +kernel
theorem dX4_countOf_72 : decode cX4_countOf 72 = .ok (.iaload, 1) := by decide +kernel
theorem dX4_countOf_73 : decode cX4_countOf 73 = .ok (.ireturn, 1) := by decide +kernel
theorem dX4_countOf_74 : decode cX4_countOf 74 = .ok (.aload_n 0, 1) := by decide +kernel
theorem dX4_countOf_75 : decode cX4_countOf 75 = .ok (.bipush (-2), 2) := by decide +kernel
theorem dX4_countOf_77 : decode cX4_countOf 77 = .ok (.invokevirtual 61, 3) := by decide +kernel
theorem dX4_countOf_80 : decode cX4_countOf 80 = .ok (.ireturn, 1) := by decide +kernel
theorem dX4_wishOf_0 : decode cX4_wishOf 0 = .ok (.aload_n 0, 1) := by decide +kernel
theorem dX4_wishOf_1 : decode cX4_wishOf 1 = .ok (.getfield 10, 3) := by decide +kernel
theorem dX4_wishOf_4 : decode cX4_wishOf 4 = .ok (.iload_n 1, 1) := by decide +kernel
theorem dX4_wishOf_5 : decode cX4_wishOf 5 = .ok (.invokevirtual 187, 3) := by decide +kernel
theorem dX4_wishOf_8 : decode cX4_wishOf 8 = .ok (.ifCond .ne 10, 3) := by decide +kernel
theorem dX4_wishOf_11 : decode cX4_wishOf 11 = .ok (.aload_n 0, 1) := by decide +kernel
theorem dX4_wishOf_12 : decode cX4_wishOf 12 = .ok (.bipush (-2), 2) := by decide +kernel
theorem dX4_wishOf_14 : decode cX4_wishOf 14 = .ok (.invokevirtual 61, 3) := by decide +kernel
theorem dX4_wishOf_17 : decode cX4_wishOf 17 = .ok (.ireturn, 1) := by decide +kernel
theorem dX4_wishOf_18 : decode cX4_wishOf 18 = .ok (.iload_n 2, 1) := by decide +kernel
theorem dX4_wishOf_19 : decode cX4_wishOf 19 = .ok (.tableswitch 69 0 3 #[29, 39, 49, 59], 29) := by decide +kernel
theorem dX4_wishOf_48 : decode cX4_wishOf 48 = .ok (.aload_n 0, 1) := by decide +kernel
theorem dX4_wishOf_49 : decode cX4_wishOf 49 = .ok (.getfield 10, 3) := by decide +kernel
theorem dX4_wishOf_52 : decode cX4_wishOf 52 = .ok (.getfield 190, 3) := by decide +kernel
theorem dX4_wishOf_55 : decode cX4_wishOf 55 = .ok (.iload_n 1, 1) := by decide +kernel
theorem dX4_wishOf_56 : decode cX4_wishOf 56 = .ok (.iaload, 1) := by decide +kernel
theorem dX4_wishOf_57 : decode cX4_wishOf 57 = .ok (.ireturn, 1) := by decide +kernel
theorem dX4_wishOf_58 : decode cX4_wishOf 58 = .ok (.aload_n 0, 1) := by decide +kernel
theorem dX4_wishOf_59 : decode cX4_wishOf 59 = .ok (.getfield 10, 3) := by decide +kernel
theorem dX4_wishOf_62 : decode cX4_wishOf 62 = .ok (.getfield 193, 3) := by decide +kernel
theorem dX4_wishOf_65 : decode cX4_wishOf 65 = .ok (.iload_n 1, 1) := by decide +kernel
theorem dX4_wishOf_66 : decode cX4_wishOf 66 = .ok (.iaload, 1) := by decide +kernel
theorem dX4_wishOf_67 : decode cX4_wishOf 67 = .ok (.ireturn, 1) := by decide +kernel
theorem dX4_wishOf_68 : decode cX4_wishOf 68 = .ok (.aload_n 0, 1) := by decide +kernel
theorem dX4_wishOf_69 : decode cX4_wishOf 69 = .ok (.getfield 10, 3) := by decide +kernel
theorem dX4_wishOf_72 : decode cX4_wishOf 72 = .ok (.getfield 196, 3) := by decide +kernel
theorem dX4_wishOf_75 : decode cX4_wishOf 75 = .ok (.iload_n 1, 1) := by decide +kernel
theorem dX4_wishOf_76 : decode cX4_wishOf 76 = .ok (.iaload, 1) := by decide +kernel
theorem dX4_wishOf_77 : decode cX4_wishOf 77 = .ok (.ireturn, 1) := by decide +kernel
theorem dX4_wishOf_78 : decode cX4_wishOf 78 = .ok (.aload_n 0, 1) := by decide +kernel
theorem dX4_wishOf_79 : decode cX4_wishOf 79 = .ok (.getfield 10, 3) := by decide +kernel
theorem dX4_wishOf_82 : decode cX4_wishOf 82 = .ok (.getfield 199, 3) := by decide +kernel
theorem dX4_wishOf_85 : decode cX4_wishOf 85 = .ok (.iload_n 1, 1) := by decide +kernel
theorem dX4_wishOf_86 : decode cX4_wishOf 86 = .ok (.iaload, 1) := by decide +kernel
theorem dX4_wishOf_87 : decode cX4_wishOf 87 = .ok (.ireturn, 1) := by decide +kernel
theorem dX4_wishOf_88 : decode cX4_wishOf 88 = .ok (.aload_n 0, 1) := by decide +kernel
theorem dX4_wishOf_89 : decode cX4_wishOf 89 = .ok (.bipush (-2), 2) := by decide +kernel
theorem dX4_wishOf_91 : decode cX4_wishOf 91 = .ok (.invokevirtual 61, 3) := by decide +kernel
theorem dX4_wishOf_94 : decode cX4_wishOf 94 = .ok (.ireturn, 1) := by decide +kernel
theorem dX4_at_0 : decode cX4_at 0 = .ok (.aload_n 0, 1) := by decide +kernel
theorem dX4_at_1 : decode cX4_at 1 = .ok (.getfield 10, 3) := by decide +kernel
theorem dX4_at_4 : decode cX4_at 4 = .ok (.iload_n 1, 1) := by decide +kernel
theorem dX4_at_5 : decode cX4_at 5 = .ok (.invokevirtual 202, 3) := by decide +kernel
theorem dX4_at_8 : decode cX4_at 8 = .ok (.ifCond .eq 15, 3) := by decide +kernel
theorem dX4_at_11 : decode cX4_at 11 = .ok (.aload_n 0, 1) := by decide +kernel
theorem dX4_at_12 : decode cX4_at 12 = .ok (.getfield 10, 3) := by decide +kernel
theorem dX4_at_15 : decode cX4_at 15 = .ok (.getfield 205, 3) := by decide +kernel
theorem dX4_at_18 : decode cX4_at 18 = .ok (.iload_n 1, 1) := by decide +kernel
theorem dX4_at_19 : decode cX4_at 19 = .ok (.iaload, 1) := by decide +kernel
theorem dX4_at_20 : decode cX4_at 20 = .ok (.goto 9, 3) := by decide +kernel
theorem dX4_at_23 : decode cX4_at 23 = .ok (.aload_n 0, 1) := by decide +kernel
theorem dX4_at_24 : decode cX4_at 24 = .ok (.bipush (-2), 2) := by decide +kernel
theorem dX4_at_26 : decode cX4_at 26 = .ok (.invokevirtual 61, 3) := by decide +kernel
theorem dX4_at_29 : decode cX4_at 29 = .ok (.ireturn, 1) := by decide +kernel
theorem dX4_team_0 : decode cX4_team 0 = .ok (.aload_n 0, 1) := by decide +kernel
theorem dX4_team_1 : decode cX4_team 1 = .ok (.getfield 10, 3) := by decide +kernel
theorem dX4_team_4 : decode cX4_team 4 = .ok (.iload_n 1, 1) := by decide +kernel
theorem dX4_team_5 : decode cX4_team 5 = .ok (.invokevirtual 101, 3) := by decide +kernel
theorem dX4_team_8 : decode cX4_team 8 = .ok (.ifCond .eq 14, 3) := by decide +kernel
theorem dX4_team_11 : decode cX4_team 11 = .ok (.aload_n 0, 1) := by decide +kernel
theorem dX4_team_12 : decode cX4_team 12 = .ok (.getfield 10, 3) := by decide +kernel
theorem dX4_team_15 : decode cX4_team 15 = .ok (.iload_n 2, 1) := by decide +kernel
theorem dX4_team_16 : decode cX4_team 16 = .ok (.invokevirtual 166, 3) := by decide +kernel
theorem dX4_team_19 : decode cX4_team 19 = .ok (.ifCond .ne 10, 3) := by decide +kernel
theorem dX4_team_22 : decode cX4_team 22 = .ok (.aload_n 0, 1) := by decide +kernel
theorem dX4_team_23 : decode cX4_team 23 = .ok (.bipush (-2), 2) := by decide +kernel
theorem dX4_team_25 : decode cX4_team 25 = .ok (.invokevirtual 61, 3) := by decide +kernel
theorem dX4_team_28 : decode cX4_team 28 = .ok (.ireturn, 1) := by decide +kernel
theorem dX4_team_29 : decode cX4_team 29 = .ok (.aload_n 0, 1) := by decide +kernel
theorem dX4_team_30 : decode cX4_team 30 = .ok (.getfield 10, 3) := by decide +kernel
theorem dX4_team_33 : decode cX4_team 33 = .ok (.iload_n 1, 1) := by decide +kernel
theorem dX4_team_34 : decode cX4_team 34 = .ok (.iload_n 2, 1) := by decide +kernel
theorem dX4_team_35 : decode cX4_team 35 = .ok (.invokevirtual 208, 3) := by decide +kernel
theorem dX4_team_38 : decode cX4_team 38 = .ok (.ireturn, 1) := by decide +kernel
theorem dX4_members_0 : decode cX4_members 0 = .ok (.aload_n 0, 1) := by decide +kernel
theorem dX4_members_1 : decode cX4_members 1 = .ok (.getfield 10, 3) := by decide +kernel
theorem dX4_members_4 : decode cX4_members 4 = .ok (.iload_n 1, 1) := by decide +kernel
theorem dX4_members_5 : decode cX4_members 5 = .ok (.iload_n 2, 1) := by decide +kernel
theorem dX4_members_6 : decode cX4_members 6 = .ok (.invokevirtual 211, 3) := by decide +kernel
theorem dX4_members_9 : decode cX4_members 9 = .ok (.ifCond .ne 10, 3) := by decide +kernel
theorem dX4_members_12 : decode cX4_members 12 = .ok (.aload_n 0, 1) := by decide +kernel
theorem dX4_members_13 : decode cX4_members 13 = .ok (.bipush (-2), 2) := by decide +kernel
theorem dX4_members_15 : decode cX4_members 15 = .ok (.invokevirtual 61, 3) := by decide +kernel
theorem dX4_members_18 : decode cX4_members 18 = .ok (.ireturn, 1) := by decide +kernel
theorem dX4_members_19 : decode cX4_members 19 = .ok (.aload_n 0, 1) := by decide +kernel
theorem dX4_members_20 : decode cX4_members 20 = .ok (.getfield 10, 3) := by decide +kernel
theorem dX4_members_23 : decode cX4_members 23 = .ok (.iload_n 1, 1) := by decide +kernel
theorem dX4_members_24 : decode cX4_members 24 = .ok (.iload_n 2, 1) := by decide +kernel
theorem dX4_members_25 : decode cX4_members 25 = .ok (.invokevirtual 214, 3) := by decide +kernel
theorem dX4_members_28 : decode cX4_members 28 = .ok (.ireturn, 1) := by decide +kernel
theorem dX4_strength_0 : decode cX4_strength 0 = .ok (.aload_n 0, 1) := by decide +kernel
theorem dX4_strength_1 : decode cX4_strength 1 = .ok (.getfield 10, 3) := by decide +kernel
theorem dX4_strength_4 : decode cX4_strength 4 = .ok (.iload_n 1, 1) := by decide +kernel
theorem dX4_strength_5 : decode cX4_strength 5 = .ok (.iload_n 2, 1) := by decide +kernel
theorem dX4_strength_6 : decode cX4_strength 6 = .ok (.invokevirtual 211, 3) := by decide +kernel
theorem dX4_strength_9 : decode cX4_strength 9 = .ok (.ifCond .ne 10, 3) := by decide +kernel
theorem dX4_strength_12 : decode cX4_strength 12 = .ok (.aload_n 0, 1) := by decide +kernel
theorem dX4_strength_13 : decode cX4_strength 13 = .ok (.bipush (-2), 2) := by decide +kernel
theorem dX4_strength_15 : decode cX4_strength 15 = .ok (.invokevirtual 61, 3) := by decide +kernel
theorem dX4_strength_18 : decode cX4_strength 18 = .ok (.ireturn, 1) := by decide +kernel
theorem dX4_strength_19 : decode cX4_strength 19 = .ok (.aload_n 0, 1) := by decide +kernel
theorem dX4_strength_20 : decode cX4_strength 20 = .ok (.getfield 10, 3) := by decide +kernel
theorem dX4_strength_23 : decode cX4_strength 23 = .ok (.iload_n 1, 1) := by decide +kernel
theorem dX4_strength_24 : decode cX4_strength 24 = .ok (.iload_n 2, 1) := by decide +kernel
theorem dX4_strength_25 : decode cX4_strength 25 = .ok (.invokevirtual 217, 3) := by decide +kernel
theorem dX4_strength_28 : decode cX4_strength 28 = .ok (.ireturn, 1) := by decide +kernel
theorem dX4_heaviest_0 : decode cX4_heaviest 0 = .ok (.aload_n 0, 1) := by decide +kernel
theorem dX4_heaviest_1 : decode cX4_heaviest 1 = .ok (.getfield 10, 3) := by decide +kernel
theorem dX4_heaviest_4 : decode cX4_heaviest 4 = .ok (.iload_n 1, 1) := by decide +kernel
theorem dX4_heaviest_5 : decode cX4_heaviest 5 = .ok (.invokevirtual 101, 3) := by decide +kernel
theorem dX4_heaviest_8 : decode cX4_heaviest 8 = .ok (.ifCond .ne 10, 3) := by decide +kernel
theorem dX4_heaviest_11 : decode cX4_heaviest 11 = .ok (.aload_n 0, 1) := by decide +kernel
theorem dX4_heaviest_12 : decode cX4_heaviest 12 = .ok (.bipush (-2), 2) := by decide +kernel
theorem dX4_heaviest_14 : decode cX4_heaviest 14 = .ok (.invokevirtual 61, 3) := by decide +kernel
theorem dX4_heaviest_17 : decode cX4_heaviest 17 = .ok (.ireturn, 1) := by decide +kernel
theorem dX4_heaviest_18 : decode cX4_heaviest 18 = .ok (.iconst 0, 1) := by decide +kernel
theorem dX4_heaviest_19 : decode cX4_heaviest 19 = .ok (.istore_n 2, 1) := by decide +kernel
theorem dX4_heaviest_20 : decode cX4_heaviest 20 = .ok (.iconst 1, 1) := by decide +kernel
theorem dX4_heaviest_21 : decode cX4_heaviest 21 = .ok (.istore_n 3, 1) := by decide +kernel
theorem dX4_heaviest_22 : decode cX4_heaviest 22 = .ok (.iload_n 3, 1) := by decide +kernel
theorem dX4_heaviest_23 : decode cX4_heaviest 23 = .ok (.aload_n 0, 1) := by decide +kernel
theorem dX4_heaviest_24 : decode cX4_heaviest 24 = .ok (.getfield 10, 3) := by decide +kernel
theorem dX4_heaviest_27 : decode cX4_heaviest 27 = .ok (.getfield 181, 3) := by decide +kernel
theorem dX4_heaviest_30 : decode cX4_heaviest 30 = .ok (.iload_n 1, 1) := by decide +kernel
theorem dX4_heaviest_31 : decode cX4_heaviest 31 = .ok (.iaload, 1) := by decide +kernel
theorem dX4_heaviest_32 : decode cX4_heaviest 32 = .ok (.if_icmp .ge 32, 3) := by decide +kernel
theorem dX4_heaviest_35 : decode cX4_heaviest 35 = .ok (.aload_n 0, 1) := by decide +kernel
theorem dX4_heaviest_36 : decode cX4_heaviest 36 = .ok (.getfield 10, 3) := by decide +kernel
theorem dX4_heaviest_39 : decode cX4_heaviest 39 = .ok (.iload_n 1, 1) := by decide +kernel
theorem dX4_heaviest_40 : decode cX4_heaviest 40 = .ok (.iload_n 3, 1) := by decide +kernel
theorem dX4_heaviest_41 : decode cX4_heaviest 41 = .ok (.invokevirtual 217, 3) := by decide +kernel
theorem dX4_heaviest_44 : decode cX4_heaviest 44 = .ok (.aload_n 0, 1) := by decide +kernel
theorem dX4_heaviest_45 : decode cX4_heaviest 45 = .ok (.getfield 10, 3) := by decide +kernel
theorem dX4_heaviest_48 : decode cX4_heaviest 48 = .ok (.iload_n 1, 1) := by decide +kernel
theorem dX4_heaviest_49 : decode cX4_heaviest 49 = .ok (.iload_n 2, 1) := by decide +kernel
theorem dX4_heaviest_50 : decode cX4_heaviest 50 = .ok (.invokevirtual 217, 3) := by decide +kernel
theorem dX4_heaviest_53 : decode cX4_heaviest 53 = .ok (.if_icmp .le 5, 3) := by decide +kernel
theorem dX4_heaviest_56 : decode cX4_heaviest 56 = .ok (.iload_n 3, 1) := by decide +kernel
theorem dX4_heaviest_57 : decode cX4_heaviest 57 = .ok (.istore_n 2, 1) := by decide +kernel
theorem dX4_heaviest_58 : decode cX4_heaviest 58 = .ok (.iinc 3 1, 3) := by decide +kernel
theorem dX4_heaviest_61 : decode cX4_heaviest 61 = .ok (.goto (-39), 3) := by decide +kernel
theorem dX4_heaviest_64 : decode cX4_heaviest 64 = .ok (.iload_n 2, 1) := by decide +kernel
theorem dX4_heaviest_65 : decode cX4_heaviest 65 = .ok (.ireturn, 1) := by decide +kernel
theorem dX4_turned_0 : decode cX4_turned 0 = .ok (.aload_n 0, 1) := by decide +kernel
theorem dX4_turned_1 : decode cX4_turned 1 = .ok (.getfield 10, 3) := by decide +kernel
theorem dX4_turned_4 : decode cX4_turned 4 = .ok (.iload_n 1, 1) := by decide +kernel
theorem dX4_turned_5 : decode cX4_turned 5 = .ok (.invokevirtual 101, 3) := by decide +kernel
theorem dX4_turned_8 : decode cX4_turned 8 = .ok (.ifCond .ne 10, 3) := by decide +kernel
theorem dX4_turned_11 : decode cX4_turned 11 = .ok (.aload_n 0, 1) := by decide +kernel
theorem dX4_turned_12 : decode cX4_turned 12 = .ok (.bipush (-2), 2) := by decide +kernel
theorem dX4_turned_14 : decode cX4_turned 14 = .ok (.invokevirtual 61, 3) := by decide +kernel
theorem dX4_turned_17 : decode cX4_turned 17 = .ok (.ireturn, 1) := by decide +kernel
theorem dX4_turned_18 : decode cX4_turned 18 = .ok (.aload_n 0, 1) := by decide +kernel
theorem dX4_turned_19 : decode cX4_turned 19 = .ok (.getfield 19, 3) := by decide +kernel
theorem dX4_turned_22 : decode cX4_turned 22 = .ok (.aload_n 0, 1) := by decide +kernel
theorem dX4_turned_23 : decode cX4_turned 23 = .ok (.getfield 10, 3) := by decide +kernel
theorem dX4_turned_26 : decode cX4_turned 26 = .ok (.invokevirtual 159, 3) := by decide +kernel
theorem dX4_turned_29 : decode cX4_turned 29 = .ok (.aload_n 0, 1) := by decide +kernel
theorem dX4_turned_30 : decode cX4_turned 30 = .ok (.getfield 19, 3) := by decide +kernel
theorem dX4_turned_33 : decode cX4_turned 33 = .ok (.invokevirtual 220, 3) := by decide +kernel
theorem dX4_turned_36 : decode cX4_turned 36 = .ok (.aload_n 0, 1) := by decide +kernel
theorem dX4_turned_37 : decode cX4_turned 37 = .ok (.getfield 19, 3) := by decide +kernel
theorem dX4_turned_40 : decode cX4_turned 40 = .ok (.iload_n 1, 1) := by decide +kernel
theorem dX4_turned_41 : decode cX4_turned 41 = .ok (.invokevirtual 223, 3) := by decide +kernel
theorem dX4_turned_44 : decode cX4_turned 44 = .ok (.ireturn, 1) := by decide +kernel
theorem dX4_unlike_0 : decode cX4_unlike 0 = .ok (.aload_n 0, 1) := by decide +kernel
theorem dX4_unlike_1 : decode cX4_unlike 1 = .ok (.getfield 10, 3) := by decide +kernel
theorem dX4_unlike_4 : decode cX4_unlike 4 = .ok (.iload_n 1, 1) := by decide +kernel
theorem dX4_unlike_5 : decode cX4_unlike 5 = .ok (.invokevirtual 101, 3) := by decide +kernel
theorem dX4_unlike_8 : decode cX4_unlike 8 = .ok (.ifCond .eq 14, 3) := by decide +kernel
theorem dX4_unlike_11 : decode cX4_unlike 11 = .ok (.aload_n 0, 1) := by decide +kernel
theorem dX4_unlike_12 : decode cX4_unlike 12 = .ok (.getfield 10, 3) := by decide +kernel
theorem dX4_unlike_15 : decode cX4_unlike 15 = .ok (.iload_n 2, 1) := by decide +kernel
theorem dX4_unlike_16 : decode cX4_unlike 16 = .ok (.invokevirtual 101, 3) := by decide +kernel
theorem dX4_unlike_19 : decode cX4_unlike 19 = .ok (.ifCond .ne 10, 3) := by decide +kernel
theorem dX4_unlike_22 : decode cX4_unlike 22 = .ok (.aload_n 0, 1) := by decide +kernel
theorem dX4_unlike_23 : decode cX4_unlike 23 = .ok (.bipush (-2), 2) := by decide +kernel
theorem dX4_unlike_25 : decode cX4_unlike 25 = .ok (.invokevirtual 61, 3) := by decide +kernel
theorem dX4_unlike_28 : decode cX4_unlike 28 = .ok (.ireturn, 1) := by decide +kernel
theorem dX4_unlike_29 : decode cX4_unlike 29 = .ok (.iconst 0, 1) := by decide +kernel
theorem dX4_unlike_30 : decode cX4_unlike 30 = .ok (.istore_n 3, 1) := by decide +kernel
theorem dX4_unlike_31 : decode cX4_unlike 31 = .ok (.iconst 0, 1) := by decide +kernel
theorem dX4_unlike_32 : decode cX4_unlike 32 = .ok (.istore 4, 2) := by decide +kernel
theorem dX4_unlike_34 : decode cX4_unlike 34 = .ok (.iload 4, 2) := by decide +kernel
theorem dX4_unlike_36 : decode cX4_unlike 36 = .ok (.aload_n 0, 1) := by decide +kernel
theorem dX4_unlike_37 : decode cX4_unlike 37 = .ok (.getfield 10, 3) := by decide +kernel
theorem dX4_unlike_40 : decode cX4_unlike 40 = .ok (.getfield 128, 3) := by decide +kernel
theorem dX4_unlike_43 : decode cX4_unlike 43 = .ok (.if_icmp .ge 35, 3) := by decide +kernel
theorem dX4_unlike_46 : decode cX4_unlike 46 = .ok (.aload_n 0, 1) := by decide +kernel
theorem dX4_unlike_47 : decode cX4_unlike 47 = .ok (.getfield 10, 3) := by decide +kernel
theorem dX4_unlike_50 : decode cX4_unlike 50 = .ok (.iload_n 1, 1) := by decide +kernel
theorem dX4_unlike_51 : decode cX4_unlike 51 = .ok (.iload 4, 2) := by decide +kernel
theorem dX4_unlike_53 : decode cX4_unlike 53 = .ok (.invokevirtual 208, 3) := by decide +kernel
theorem dX4_unlike_56 : decode cX4_unlike 56 = .ok (.aload_n 0, 1) := by decide +kernel
theorem dX4_unlike_57 : decode cX4_unlike 57 = .ok (.getfield 10, 3) := by decide +kernel
theorem dX4_unlike_60 : decode cX4_unlike 60 = .ok (.iload_n 2, 1) := by decide +kernel
theorem dX4_unlike_61 : decode cX4_unlike 61 = .ok (.iload 4, 2) := by decide +kernel
theorem dX4_unlike_63 : decode cX4_unlike 63 = .ok (.invokevirtual 208, 3) := by decide +kernel
theorem dX4_unlike_66 : decode cX4_unlike 66 = .ok (.if_icmp .eq 6, 3) := by decide +kernel
theorem dX4_unlike_69 : decode cX4_unlike 69 = .ok (.iinc 3 1, 3) := by decide +kernel
theorem dX4_unlike_72 : decode cX4_unlike 72 = .ok (.iinc 4 1, 3) := by decide +kernel
theorem dX4_unlike_75 : decode cX4_unlike 75 = .ok (.goto (-41), 3) := by decide +kernel
theorem dX4_unlike_78 : decode cX4_unlike 78 = .ok (.iload_n 3, 1) := by decide +kernel
theorem dX4_unlike_79 : decode cX4_unlike 79 = .ok (.ireturn, 1) := by decide +kernel
theorem dX4_unmet_0 : decode cX4_unmet 0 = .ok (.aload_n 0, 1) := by decide +kernel
theorem dX4_unmet_1 : decode cX4_unmet 1 = .ok (.getfield 10, 3) := by decide +kernel
theorem dX4_unmet_4 : decode cX4_unmet 4 = .ok (.iload_n 1, 1) := by decide +kernel
theorem dX4_unmet_5 : decode cX4_unmet 5 = .ok (.invokevirtual 101, 3) := by decide +kernel
theorem dX4_unmet_8 : decode cX4_unmet 8 = .ok (.ifCond .ne 10, 3) := by decide +kernel
theorem dX4_unmet_11 : decode cX4_unmet 11 = .ok (.aload_n 0, 1) := by decide +kernel
theorem dX4_unmet_12 : decode cX4_unmet 12 = .ok (.bipush (-2), 2) := by decide +kernel
theorem dX4_unmet_14 : decode cX4_unmet 14 = .ok (.invokevirtual 61, 3) := by decide +kernel
theorem dX4_unmet_17 : decode cX4_unmet 17 = .ok (.ireturn, 1) := by decide +kernel
theorem dX4_unmet_18 : decode cX4_unmet 18 = .ok (.iconst (-1), 1) := by decide +kernel
theorem dX4_unmet_19 : decode cX4_unmet 19 = .ok (.istore_n 2, 1) := by decide +kernel
theorem dX4_unmet_20 : decode cX4_unmet 20 = .ok (.iconst 0, 1) := by decide +kernel
theorem dX4_unmet_21 : decode cX4_unmet 21 = .ok (.istore_n 3, 1) := by decide +kernel
theorem dX4_unmet_22 : decode cX4_unmet 22 = .ok (.iload_n 3, 1) := by decide +kernel
theorem dX4_unmet_23 : decode cX4_unmet 23 = .ok (.aload_n 0, 1) := by decide +kernel
theorem dX4_unmet_24 : decode cX4_unmet 24 = .ok (.getfield 10, 3) := by decide +kernel
theorem dX4_unmet_27 : decode cX4_unmet 27 = .ok (.getfield 144, 3) := by decide +kernel
theorem dX4_unmet_30 : decode cX4_unmet 30 = .ok (.if_icmp .ge 61, 3) := by decide +kernel
theorem dX4_unmet_33 : decode cX4_unmet 33 = .ok (.iload_n 2, 1) := by decide +kernel
theorem dX4_unmet_34 : decode cX4_unmet 34 = .ok (.iconst (-1), 1) := by decide +kernel
theorem dX4_unmet_35 : decode cX4_unmet 35 = .ok (.if_icmp .eq 24, 3) := by decide +kernel
theorem dX4_unmet_38 : decode cX4_unmet 38 = .ok (.aload_n 0, 1) := by decide +kernel
theorem dX4_unmet_39 : decode cX4_unmet 39 = .ok (.getfield 10, 3) := by decide +kernel
theorem dX4_unmet_42 : decode cX4_unmet 42 = .ok (.getfield 199, 3) := by decide +kernel
theorem dX4_unmet_45 : decode cX4_unmet 45 = .ok (.iload_n 3, 1) := by decide +kernel
theorem dX4_unmet_46 : decode cX4_unmet 46 = .ok (.iaload, 1) := by decide +kernel
theorem dX4_unmet_47 : decode cX4_unmet 47 = .ok (.aload_n 0, 1) := by decide +kernel
theorem dX4_unmet_48 : decode cX4_unmet 48 = .ok (.getfield 10, 3) := by decide +kernel
theorem dX4_unmet_51 : decode cX4_unmet 51 = .ok (.getfield 199, 3) := by decide +kernel
theorem dX4_unmet_54 : decode cX4_unmet 54 = .ok (.iload_n 2, 1) := by decide +kernel
theorem dX4_unmet_55 : decode cX4_unmet 55 = .ok (.iaload, 1) := by decide +kernel
theorem dX4_unmet_56 : decode cX4_unmet 56 = .ok (.if_icmp .le 7, 3) := by decide +kernel
theorem dX4_unmet_59 : decode cX4_unmet 59 = .ok (.iconst 1, 1) := by decide +kernel
theorem dX4_unmet_60 : decode cX4_unmet 60 = .ok (.goto 4, 3) := by decide +kernel
theorem dX4_unmet_63 : decode cX4_unmet 63 = .ok (.iconst 0, 1) := by decide +kernel
theorem dX4_unmet_64 : decode cX4_unmet 64 = .ok (.istore 4, 2) := by decide +kernel
theorem dX4_unmet_66 : decode cX4_unmet 66 = .ok (.iload 4, 2) := by decide +kernel
theorem dX4_unmet_68 : decode cX4_unmet 68 = .ok (.ifCond .eq 17, 3) := by decide +kernel
theorem dX4_unmet_71 : decode cX4_unmet 71 = .ok (.aload_n 0, 1) := by decide +kernel
theorem dX4_unmet_72 : decode cX4_unmet 72 = .ok (.getfield 10, 3) := by decide +kernel
theorem dX4_unmet_75 : decode cX4_unmet 75 = .ok (.iload_n 1, 1) := by decide +kernel
theorem dX4_unmet_76 : decode cX4_unmet 76 = .ok (.iload_n 3, 1) := by decide +kernel
theorem dX4_unmet_77 : decode cX4_unmet 77 = .ok (.invokevirtual 226, 3) := by decide +kernel
theorem dX4_unmet_80 : decode cX4_unmet 80 = .ok (.ifCond .ne 5, 3) := by decide +kernel
theorem dX4_unmet_83 : decode cX4_unmet 83 = .ok (.iload_n 3, 1) := by decide +kernel
theorem dX4_unmet_84 : decode cX4_unmet 84 = .ok (.istore_n 2, 1) := by decide +kernel
theorem dX4_unmet_85 : decode cX4_unmet 85 = .ok (.iinc 3 1, 3) := by decide +kernel
theorem dX4_unmet_88 : decode cX4_unmet 88 = .ok (.goto (-66), 3) := by decide +kernel
theorem dX4_unmet_91 : decode cX4_unmet 91 = .ok (.iload_n 2, 1) := by decide +kernel
theorem dX4_unmet_92 : decode cX4_unmet 92 = .ok (.ireturn, 1) := by decide +kernel
theorem dX4_friendsOf_0 : decode cX4_friendsOf 0 = .ok (.aload_n 0, 1) := by decide +kernel
theorem dX4_friendsOf_1 : decode cX4_friendsOf 1 = .ok (.getfield 10, 3) := by decide +kernel
theorem dX4_friendsOf_4 : decode cX4_friendsOf 4 = .ok (.iload_n 1, 1) := by decide +kernel
theorem dX4_friendsOf_5 : decode cX4_friendsOf 5 = .ok (.invokevirtual 166, 3) := by decide +kernel
theorem dX4_friendsOf_8 : decode cX4_friendsOf 8 = .ok (.ifCond .eq 14, 3) := by decide +kernel
theorem dX4_friendsOf_11 : decode cX4_friendsOf 11 = .ok (.aload_n 0, 1) := by decide +kernel
theorem dX4_friendsOf_12 : decode cX4_friendsOf 12 = .ok (.getfield 10, 3) := by decide +kernel
theorem dX4_friendsOf_15 : decode cX4_friendsOf 15 = .ok (.iload_n 1, 1) := by decide +kernel
theorem dX4_friendsOf_16 : decode cX4_friendsOf 16 = .ok (.invokevirtual 229, 3) := by decide +kernel
theorem dX4_friendsOf_19 : decode cX4_friendsOf 19 = .ok (.goto 9, 3) := by decide +kernel
theorem dX4_friendsOf_22 : decode cX4_friendsOf 22 = .ok (.aload_n 0, 1) := by decide +kernel
theorem dX4_friendsOf_23 : decode cX4_friendsOf 23 = .ok (.bipush (-2), 2) := by decide +kernel
theorem dX4_friendsOf_25 : decode cX4_friendsOf 25 = .ok (.invokevirtual 61, 3) := by decide +kernel
theorem dX4_friendsOf_28 : decode cX4_friendsOf 28 = .ok (.ireturn, 1) := by decide +kernel
theorem dX4_groups_0 : decode cX4_groups 0 = .ok (.iconst 0, 1) := by decide +kernel
theorem dX4_groups_1 : decode cX4_groups 1 = .ok (.istore_n 1, 1) := by decide +kernel
theorem dX4_groups_2 : decode cX4_groups 2 = .ok (.iconst 0, 1) := by decide +kernel
theorem dX4_groups_3 : decode cX4_groups 3 = .ok (.istore_n 2, 1) := by decide +kernel
theorem dX4_groups_4 : decode cX4_groups 4 = .ok (.iconst 0, 1) := by decide +kernel
theorem dX4_groups_5 : decode cX4_groups 5 = .ok (.istore_n 3, 1) := by decide +kernel
theorem dX4_groups_6 : decode cX4_groups 6 = .ok (.iload_n 3, 1) := by decide +kernel
theorem dX4_groups_7 : decode cX4_groups 7 = .ok (.aload_n 0, 1) := by decide +kernel
theorem dX4_groups_8 : decode cX4_groups 8 = .ok (.getfield 10, 3) := by decide +kernel
theorem dX4_groups_11 : decode cX4_groups 11 = .ok (.getfield 128, 3) := by decide +kernel
theorem dX4_groups_14 : decode cX4_groups 14 = .ok (.if_icmp .ge 31, 3) := by decide +kernel
theorem dX4_groups_17 : decode cX4_groups 17 = .ok (.iload_n 2, 1) := by decide +kernel
theorem dX4_groups_18 : decode cX4_groups 18 = .ok (.iload_n 3, 1) := by decide +kernel
theorem dX4_groups_19 : decode cX4_groups 19 = .ok (.ishr, 1) := by decide +kernel
theorem dX4_groups_20 : decode cX4_groups 20 = .ok (.iconst 1, 1) := by decide +kernel
theorem dX4_groups_21 : decode cX4_groups 21 = .ok (.iand, 1) := by decide +kernel
theorem dX4_groups_22 : decode cX4_groups 22 = .ok (.ifCond .ne 17, 3) := by decide +kernel
theorem dX4_groups_25 : decode cX4_groups 25 = .ok (.iinc 1 1, 3) := by decide +kernel
theorem dX4_groups_28 : decode cX4_groups 28 = .ok (.iload_n 2, 1) := by decide +kernel
theorem dX4_groups_29 : decode cX4_groups 29 = .ok (.aload_n 0, 1) := by decide +kernel
theorem dX4_groups_30 : decode cX4_groups 30 = .ok (.getfield 10, 3) := by decide +kernel
theorem dX4_groups_33 : decode cX4_groups 33 = .ok (.iload_n 3, 1) := by decide +kernel
theorem dX4_groups_34 : decode cX4_groups 34 = .ok (.invokevirtual 229, 3) := by decide +kernel
theorem dX4_groups_37 : decode cX4_groups 37 = .ok (.ior, 1) := by decide +kernel
theorem dX4_groups_38 : decode cX4_groups 38 = .ok (.istore_n 2, 1) := by decide +kernel
theorem dX4_groups_39 : decode cX4_groups 39 = .ok (.iinc 3 1, 3) := by decide +kernel
theorem dX4_groups_42 : decode cX4_groups 42 = .ok (.goto (-36), 3) := by decide +kernel
theorem dX4_groups_45 : decode cX4_groups 45 = .ok (.iload_n 1, 1) := by decide +kernel
theorem dX4_groups_46 : decode cX4_groups 46 = .ok (.ireturn, 1) := by decide +kernel
theorem dX4_conflict_0 : decode cX4_conflict 0 = .ok (.iconst 0, 1) := by decide +kernel
theorem dX4_conflict_1 : decode cX4_conflict 1 = .ok (.istore_n 1, 1) := by decide +kernel
theorem dX4_conflict_2 : decode cX4_conflict 2 = .ok (.iload_n 1, 1) := by decide +kernel
theorem dX4_conflict_3 : decode cX4_conflict 3 = .ok (.aload_n 0, 1) := by decide +kernel
theorem dX4_conflict_4 : decode cX4_conflict 4 = .ok (.getfield 10, 3) := by decide +kernel
theorem dX4_conflict_7 : decode cX4_conflict 7 = .ok (.getfield 144, 3) := by decide +kernel
theorem dX4_conflict_10 : decode cX4_conflict 10 = .ok (.if_icmp .ge 55, 3) := by decide +kernel
theorem dX4_conflict_13 : decode cX4_conflict 13 = .ok (.aload_n 0, 1) := by decide +kernel
theorem dX4_conflict_14 : decode cX4_conflict 14 = .ok (.getfield 10, 3) := by decide +kernel
theorem dX4_conflict_17 : decode cX4_conflict 17 = .ok (.getfield 196, 3) := by decide +kernel
theorem dX4_conflict_20 : decode cX4_conflict 20 = .ok (.iload_n 1, 1) := by decide +kernel
theorem dX4_conflict_21 : decode cX4_conflict 21 = .ok (.iaload, 1) := by decide +kernel
theorem dX4_conflict_22 : decode cX4_conflict 22 = .ok (.ifCond .ne 37, 3) := by decide +kernel
theorem dX4_conflict_25 : decode cX4_conflict 25 = .ok (.aload_n 0, 1) := by decide +kernel
theorem dX4_conflict_26 : decode cX4_conflict 26 = .ok (.getfield 10, 3) := by decide +kernel
theorem dX4_conflict_29 : decode cX4_conflict 29 = .ok (.aload_n 0, 1) := by decide +kernel
theorem dX4_conflict_30 : decode cX4_conflict 30 = .ok (.getfield 10, 3) := by decide +kernel
theorem dX4_conflict_33 : decode cX4_conflict 33 = .ok (.getfield 190, 3) := by decide +kernel
theorem dX4_conflict_36 : decode cX4_conflict 36 = .ok (.iload_n 1, 1) := by decide +kernel
theorem dX4_conflict_37 : decode cX4_conflict 37 = .ok (.iaload, 1) := by decide +kernel
theorem dX4_conflict_38 : decode cX4_conflict 38 = .ok (.invokevirtual 229, 3) := by decide +kernel
theorem dX4_conflict_41 : decode cX4_conflict 41 = .ok (.aload_n 0, 1) := by decide +kernel
theorem dX4_conflict_42 : decode cX4_conflict 42 = .ok (.getfield 10, 3) := by decide +kernel
theorem dX4_conflict_45 : decode cX4_conflict 45 = .ok (.getfield 193, 3) := by decide +kernel
theorem dX4_conflict_48 : decode cX4_conflict 48 = .ok (.iload_n 1, 1) := by decide +kernel
theorem dX4_conflict_49 : decode cX4_conflict 49 = .ok (.iaload, 1) := by decide +kernel
theorem dX4_conflict_50 : decode cX4_conflict 50 = .ok (.ishr, 1) := by decide +kernel
theorem dX4_conflict_51 : decode cX4_conflict 51 = .ok (.iconst 1, 1) := by decide +kernel
theorem dX4_conflict_52 : decode cX4_conflict 52 = .ok (.iand, 1) := by decide +kernel
theorem dX4_conflict_53 : decode cX4_conflict 53 = .ok (.iconst 1, 1) := by decide +kernel
theorem dX4_conflict_54 : decode cX4_conflict 54 = .ok (.if_icmp .ne 5, 3) := by decide +kernel
theorem dX4_conflict_57 : decode cX4_conflict 57 = .ok (.iload_n 1, 1) := by decide +kernel
theorem dX4_conflict_58 : decode cX4_conflict 58 = .ok (.ireturn, 1) := by decide +kernel
theorem dX4_conflict_59 : decode cX4_conflict 59 = .ok (.iinc 1 1, 3) := by decide +kernel
theorem dX4_conflict_62 : decode cX4_conflict 62 = .ok (.goto (-60), 3) := by decide +kernel
theorem dX4_conflict_65 : decode cX4_conflict 65 = .ok (.iconst (-1), 1) := by decide +kernel
theorem dX4_conflict_66 : decode cX4_conflict 66 = .ok (.ireturn, 1) := by decide +kernel
theorem dX4_changes_0 : decode cX4_changes 0 = .ok (.aload_n 0, 1) := by decide +kernel
theorem dX4_changes_1 : decode cX4_changes 1 = .ok (.getfield 10, 3) := by decide +kernel
theorem dX4_changes_4 : decode cX4_changes 4 = .ok (.iload_n 1, 1) := by decide +kernel
theorem dX4_changes_5 : decode cX4_changes 5 = .ok (.invokevirtual 101, 3) := by decide +kernel
theorem dX4_changes_8 : decode cX4_changes 8 = .ok (.ifCond .eq 14, 3) := by decide +kernel
theorem dX4_changes_11 : decode cX4_changes 11 = .ok (.iload_n 2, 1) := by decide +kernel
theorem dX4_changes_12 : decode cX4_changes 12 = .ok (.iconst 0, 1) := by decide +kernel
theorem dX4_changes_13 : decode cX4_changes 13 = .ok (.sipush 9999, 3) := by decide +kernel
theorem dX4_changes_16 : decode cX4_changes 16 = .ok (.invokestatic 57, 3) := by decide +kernel
theorem dX4_changes_19 : decode cX4_changes 19 = .ok (.ifCond .ne 10, 3) := by decide +kernel
theorem dX4_changes_22 : decode cX4_changes 22 = .ok (.aload_n 0, 1) := by decide +kernel
theorem dX4_changes_23 : decode cX4_changes 23 = .ok (.bipush (-2), 2) := by decide +kernel
theorem dX4_changes_25 : decode cX4_changes 25 = .ok (.invokevirtual 61, 3) := by decide +kernel
theorem dX4_changes_28 : decode cX4_changes 28 = .ok (.ireturn, 1) := by decide +kernel
theorem dX4_changes_29 : decode cX4_changes 29 = .ok (.aload_n 0, 1) := by decide +kernel
theorem dX4_changes_30 : decode cX4_changes 30 = .ok (.getfield 27, 3) := by decide +kernel
theorem dX4_changes_33 : decode cX4_changes 33 = .ok (.iload_n 1, 1) := by decide +kernel
theorem dX4_changes_34 : decode cX4_changes 34 = .ok (.iload_n 2, 1) := by decide +kernel
theorem dX4_changes_35 : decode cX4_changes 35 = .ok (.invokevirtual 232, 3) := by decide +kernel
theorem dX4_changes_38 : decode cX4_changes 38 = .ok (.ireturn, 1) := by decide +kernel
theorem dX4_place_0 : decode cX4_place 0 = .ok (.aload_n 0, 1) := by decide +kernel
theorem dX4_place_1 : decode cX4_place 1 = .ok (.getfield 10, 3) := by decide +kernel
theorem dX4_place_4 : decode cX4_place 4 = .ok (.iload_n 1, 1) := by decide +kernel
theorem dX4_place_5 : decode cX4_place 5 = .ok (.invokevirtual 166, 3) := by decide +kernel
theorem dX4_place_8 : decode cX4_place 8 = .ok (.ifCond .eq 14, 3) := by decide +kernel
theorem dX4_place_11 : decode cX4_place 11 = .ok (.aload_n 0, 1) := by decide +kernel
theorem dX4_place_12 : decode cX4_place 12 = .ok (.getfield 27, 3) := by decide +kernel
theorem dX4_place_15 : decode cX4_place 15 = .ok (.iload_n 1, 1) := by decide +kernel
theorem dX4_place_16 : decode cX4_place 16 = .ok (.invokevirtual 235, 3) := by decide +kernel
theorem dX4_place_19 : decode cX4_place 19 = .ok (.goto 9, 3) := by decide +kernel
theorem dX4_place_22 : decode cX4_place 22 = .ok (.aload_n 0, 1) := by decide +kernel
theorem dX4_place_23 : decode cX4_place 23 = .ok (.bipush (-2), 2) := by decide +kernel
theorem dX4_place_25 : decode cX4_place 25 = .ok (.invokevirtual 61, 3) := by decide +kernel
theorem dX4_place_28 : decode cX4_place 28 = .ok (.ireturn, 1) := by decide +kernel
theorem dX4_value_0 : decode cX4_value 0 = .ok (.aload_n 0, 1) := by decide +kernel
theorem dX4_value_1 : decode cX4_value 1 = .ok (.getfield 10, 3) := by decide +kernel
theorem dX4_value_4 : decode cX4_value 4 = .ok (.iload_n 1, 1) := by decide +kernel
theorem dX4_value_5 : decode cX4_value 5 = .ok (.invokevirtual 101, 3) := by decide +kernel
theorem dX4_value_8 : decode cX4_value 8 = .ok (.ifCond .eq 14, 3) := by decide +kernel
theorem dX4_value_11 : decode cX4_value 11 = .ok (.aload_n 0, 1) := by decide +kernel
theorem dX4_value_12 : decode cX4_value 12 = .ok (.getfield 10, 3) := by decide +kernel
theorem dX4_value_15 : decode cX4_value 15 = .ok (.iload_n 1, 1) := by decide +kernel
theorem dX4_value_16 : decode cX4_value 16 = .ok (.invokevirtual 223, 3) := by decide +kernel
theorem dX4_value_19 : decode cX4_value 19 = .ok (.goto 9, 3) := by decide +kernel
theorem dX4_value_22 : decode cX4_value 22 = .ok (.aload_n 0, 1) := by decide +kernel
theorem dX4_value_23 : decode cX4_value 23 = .ok (.bipush (-2), 2) := by decide +kernel
theorem dX4_value_25 : decode cX4_value 25 = .ok (.invokevirtual 61, 3) := by decide +kernel
theorem dX4_value_28 : decode cX4_value 28 = .ok (.ireturn, 1) := by decide +kernel
theorem dX4_met_0 : decode cX4_met 0 = .ok (.aload_n 0, 1) := by decide +kernel
theorem dX4_met_1 : decode cX4_met 1 = .ok (.getfield 10, 3) := by decide +kernel
theorem dX4_met_4 : decode cX4_met 4 = .ok (.iload_n 1, 1) := by decide +kernel
theorem dX4_met_5 : decode cX4_met 5 = .ok (.invokevirtual 101, 3) := by decide +kernel
theorem dX4_met_8 : decode cX4_met 8 = .ok (.ifCond .eq 14, 3) := by decide +kernel
theorem dX4_met_11 : decode cX4_met 11 = .ok (.aload_n 0, 1) := by decide +kernel
theorem dX4_met_12 : decode cX4_met 12 = .ok (.getfield 10, 3) := by decide +kernel
theorem dX4_met_15 : decode cX4_met 15 = .ok (.iload_n 2, 1) := by decide +kernel
theorem dX4_met_16 : decode cX4_met 16 = .ok (.invokevirtual 187, 3) := by decide +kernel
theorem dX4_met_19 : decode cX4_met 19 = .ok (.ifCond .ne 10, 3) := by decide +kernel
theorem dX4_met_22 : decode cX4_met 22 = .ok (.aload_n 0, 1) := by decide +kernel
theorem dX4_met_23 : decode cX4_met 23 = .ok (.bipush (-2), 2) := by decide +kernel
theorem dX4_met_25 : decode cX4_met 25 = .ok (.invokevirtual 61, 3) := by decide +kernel
theorem dX4_met_28 : decode cX4_met 28 = .ok (.ireturn, 1) := by decide +kernel
theorem dX4_met_29 : decode cX4_met 29 = .ok (.aload_n 0, 1) := by decide +kernel
theorem dX4_met_30 : decode cX4_met 30 = .ok (.getfield 10, 3) := by decide +kernel
theorem dX4_met_33 : decode cX4_met 33 = .ok (.iload_n 1, 1) := by decide +kernel
theorem dX4_met_34 : decode cX4_met 34 = .ok (.iload_n 2, 1) := by decide +kernel
theorem dX4_met_35 : decode cX4_met 35 = .ok (.invokevirtual 226, 3) := by decide +kernel
theorem dX4_met_38 : decode cX4_met 38 = .ok (.ifCond .eq 7, 3) := by decide +kernel
theorem dX4_met_41 : decode cX4_met 41 = .ok (.iconst 1, 1) := by decide +kernel
theorem dX4_met_42 : decode cX4_met 42 = .ok (.goto 4, 3) := by decide +kernel
theorem dX4_met_45 : decode cX4_met 45 = .ok (.iconst 0, 1) := by decide +kernel
theorem dX4_met_46 : decode cX4_met 46 = .ok (.ireturn, 1) := by decide +kernel
theorem dX4_best_0 : decode cX4_best 0 = .ok (.iload_n 1, 1) := by decide +kernel
theorem dX4_best_1 : decode cX4_best 1 = .ok (.iconst 0, 1) := by decide +kernel
theorem dX4_best_2 : decode cX4_best 2 = .ok (.iconst 2, 1) := by decide +kernel
theorem dX4_best_3 : decode cX4_best 3 = .ok (.invokestatic 57, 3) := by decide +kernel
theorem dX4_best_6 : decode cX4_best 6 = .ok (.ifCond .ne 10, 3) := by decide +kernel
theorem dX4_best_9 : decode cX4_best 9 = .ok (.aload_n 0, 1) := by decide +kernel
theorem dX4_best_10 : decode cX4_best 10 = .ok (.bipush (-2), 2) := by decide +kernel
theorem dX4_best_12 : decode cX4_best 12 = .ok (.invokevirtual 61, 3) := by decide +kernel
theorem dX4_best_15 : decode cX4_best 15 = .ok (.ireturn, 1) := by decide +kernel
theorem dX4_best_16 : decode cX4_best 16 = .ok (.aload_n 0, 1) := by decide +kernel
theorem dX4_best_17 : decode cX4_best 17 = .ok (.getfield 10, 3) := by decide +kernel
theorem dX4_best_20 : decode cX4_best 20 = .ok (.getfield 134, 3) := by decide +kernel
theorem dX4_best_23 : decode cX4_best 23 = .ok (.ifCond .ne 10, 3) := by decide +kernel
theorem dX4_best_26 : decode cX4_best 26 = .ok (.aload_n 0, 1) := by decide +kernel
theorem dX4_best_27 : decode cX4_best 27 = .ok (.bipush (-5), 2) := by decide +kernel
theorem dX4_best_29 : decode cX4_best 29 = .ok (.invokevirtual 61, 3) := by decide +kernel
theorem dX4_best_32 : decode cX4_best 32 = .ok (.ireturn, 1) := by decide +kernel
theorem dX4_best_33 : decode cX4_best 33 = .ok (.iconst 0, 1) := by decide +kernel
theorem dX4_best_34 : decode cX4_best 34 = .ok (.istore_n 2, 1) := by decide +kernel
theorem dX4_best_35 : decode cX4_best 35 = .ok (.iconst 1, 1) := by decide +kernel
theorem dX4_best_36 : decode cX4_best 36 = .ok (.istore_n 3, 1) := by decide +kernel
theorem dX4_best_37 : decode cX4_best 37 = .ok (.iload_n 3, 1) := by decide +kernel
theorem dX4_best_38 : decode cX4_best 38 = .ok (.aload_n 0, 1) := by decide +kernel
theorem dX4_best_39 : decode cX4_best 39 = .ok (.getfield 10, 3) := by decide +kernel
theorem dX4_best_42 : decode cX4_best 42 = .ok (.getfield 134, 3) := by decide +kernel
theorem dX4_best_45 : decode cX4_best 45 = .ok (.if_icmp .ge 26, 3) := by decide +kernel
theorem dX4_best_48 : decode cX4_best 48 = .ok (.aload_n 0, 1) := by decide +kernel
theorem dX4_best_49 : decode cX4_best 49 = .ok (.iload_n 3, 1) := by decide +kernel
theorem dX4_best_50 : decode cX4_best 50 = .ok (.iload_n 1, 1) := by decide +kernel
theorem dX4_best_51 : decode cX4_best 51 = .ok (.invokevirtual 238, 3) := by decide +kernel
theorem dX4_best_54 : decode cX4_best 54 = .ok (.aload_n 0, 1) := by decide +kernel
theorem dX4_best_55 : decode cX4_best 55 = .ok (.iload_n 2, 1) := by decide +kernel
theorem dX4_best_56 : decode cX4_best 56 = .ok (.iload_n 1, 1) := by decide +kernel
theorem dX4_best_57 : decode cX4_best 57 = .ok (.invokevirtual 238, 3) := by decide +kernel
theorem dX4_best_60 : decode cX4_best 60 = .ok (.if_icmp .le 5, 3) := by decide +kernel
theorem dX4_best_63 : decode cX4_best 63 = .ok (.iload_n 3, 1) := by decide +kernel
theorem dX4_best_64 : decode cX4_best 64 = .ok (.istore_n 2, 1) := by decide +kernel
theorem dX4_best_65 : decode cX4_best 65 = .ok (.iinc 3 1, 3) := by decide +kernel
theorem dX4_best_68 : decode cX4_best 68 = .ok (.goto (-31), 3) := by decide +kernel
theorem dX4_best_71 : decode cX4_best 71 = .ok (.iload_n 2, 1) := by decide +kernel
theorem dX4_best_72 : decode cX4_best 72 = .ok (.ireturn, 1) := by decide +kernel
theorem dX4_even_0 : decode cX4_even 0 = .ok (.aload_n 0, 1) := by decide +kernel
theorem dX4_even_1 : decode cX4_even 1 = .ok (.getfield 10, 3) := by decide +kernel
theorem dX4_even_4 : decode cX4_even 4 = .ok (.iload_n 1, 1) := by decide +kernel
theorem dX4_even_5 : decode cX4_even 5 = .ok (.invokevirtual 101, 3) := by decide +kernel
theorem dX4_even_8 : decode cX4_even 8 = .ok (.ifCond .eq 14, 3) := by decide +kernel
theorem dX4_even_11 : decode cX4_even 11 = .ok (.aload_n 0, 1) := by decide +kernel
theorem dX4_even_12 : decode cX4_even 12 = .ok (.getfield 10, 3) := by decide +kernel
theorem dX4_even_15 : decode cX4_even 15 = .ok (.iload_n 1, 1) := by decide +kernel
theorem dX4_even_16 : decode cX4_even 16 = .ok (.invokevirtual 241, 3) := by decide +kernel
theorem dX4_even_19 : decode cX4_even 19 = .ok (.goto 9, 3) := by decide +kernel
theorem dX4_even_22 : decode cX4_even 22 = .ok (.aload_n 0, 1) := by decide +kernel
theorem dX4_even_23 : decode cX4_even 23 = .ok (.bipush (-2), 2) := by decide +kernel
theorem dX4_even_25 : decode cX4_even 25 = .ok (.invokevirtual 61, 3) := by decide +kernel
theorem dX4_even_28 : decode cX4_even 28 = .ok (.ireturn, 1) := by decide +kernel
theorem dX4_change_0 : decode cX4_change 0 = .ok (.aload_n 0, 1) := by decide +kernel
theorem dX4_change_1 : decode cX4_change 1 = .ok (.getfield 10, 3) := by decide +kernel
theorem dX4_change_4 : decode cX4_change 4 = .ok (.iload_n 1, 1) := by decide +kernel
theorem dX4_change_5 : decode cX4_change 5 = .ok (.invokevirtual 101, 3) := by decide +kernel
theorem dX4_change_8 : decode cX4_change 8 = .ok (.ifCond .eq 14, 3) := by decide +kernel
theorem dX4_change_11 : decode cX4_change 11 = .ok (.aload_n 0, 1) := by decide +kernel
theorem dX4_change_12 : decode cX4_change 12 = .ok (.getfield 27, 3) := by decide +kernel
theorem dX4_change_15 : decode cX4_change 15 = .ok (.iload_n 1, 1) := by decide +kernel
theorem dX4_change_16 : decode cX4_change 16 = .ok (.invokevirtual 244, 3) := by decide +kernel
theorem dX4_change_19 : decode cX4_change 19 = .ok (.goto 9, 3) := by decide +kernel
theorem dX4_change_22 : decode cX4_change 22 = .ok (.aload_n 0, 1) := by decide +kernel
theorem dX4_change_23 : decode cX4_change 23 = .ok (.bipush (-2), 2) := by decide +kernel
theorem dX4_change_25 : decode cX4_change 25 = .ok (.invokevirtual 61, 3) := by decide +kernel
theorem dX4_change_28 : decode cX4_change 28 = .ok (.ireturn, 1) := by decide +kernel
theorem dX4_far_0 : decode cX4_far 0 = .ok (.aload_n 0, 1) := by decide +kernel
theorem dX4_far_1 : decode cX4_far 1 = .ok (.getfield 10, 3) := by decide +kernel
theorem dX4_far_4 : decode cX4_far 4 = .ok (.iload_n 1, 1) := by decide +kernel
theorem dX4_far_5 : decode cX4_far 5 = .ok (.invokevirtual 101, 3) := by decide +kernel
theorem dX4_far_8 : decode cX4_far 8 = .ok (.ifCond .eq 12, 3) := by decide +kernel
theorem dX4_far_11 : decode cX4_far 11 = .ok (.aload_n 0, 1) := by decide +kernel
theorem dX4_far_12 : decode cX4_far 12 = .ok (.iload_n 2, 1) := by decide +kernel
theorem dX4_far_13 : decode cX4_far 13 = .ok (.iload_n 3, 1) := by decide +kernel
theorem dX4_far_14 : decode cX4_far 14 = .ok (.invokevirtual 141, 3) := by decide +kernel
theorem dX4_far_17 : decode cX4_far 17 = .ok (.ifCond .ne 10, 3) := by decide +kernel
theorem dX4_far_20 : decode cX4_far 20 = .ok (.aload_n 0, 1) := by decide +kernel
theorem dX4_far_21 : decode cX4_far 21 = .ok (.bipush (-2), 2) := by decide +kernel
theorem dX4_far_23 : decode cX4_far 23 = .ok (.invokevirtual 61, 3) := by decide +kernel
theorem dX4_far_26 : decode cX4_far 26 = .ok (.ireturn, 1) := by decide +kernel
theorem dX4_far_27 : decode cX4_far 27 = .ok (.aload_n 0, 1) := by decide +kernel
theorem dX4_far_28 : decode cX4_far 28 = .ok (.getfield 27, 3) := by decide +kernel
theorem dX4_far_31 : decode cX4_far 31 = .ok (.iload_n 1, 1) := by decide +kernel
