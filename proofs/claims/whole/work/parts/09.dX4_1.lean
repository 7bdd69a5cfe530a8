theorem dX4_far_32 : decode cX4_far 32 = .ok (.iload_n 2, 1) := by decide +kernel
theorem dX4_far_33 : decode cX4_far 33 = .ok (.iload_n 3, 1) := by decide +kernel
theorem dX4_far_34 : decode cX4_far 34 = .ok (.invokevirtual 247, 3) := by decide +kernel
theorem dX4_far_37 : decode cX4_far 37 = .ok (.ireturn, 1) := by decide +kernel
theorem dX4_most_0 : decode cX4_most 0 = .ok (.aload_n 0, 1) := by decide +kernel
theorem dX4_most_1 : decode cX4_most 1 = .ok (.getfield 10, 3) := by decide +kernel
theorem dX4_most_4 : decode cX4_most 4 = .ok (.iload_n 1, 1) := by decide +kernel
theorem dX4_most_5 : decode cX4_most 5 = .ok (.invokevirtual 101, 3) := by decide +kernel
theorem dX4_most_8 : decode cX4_most 8 = .ok (.ifCond .ne 10, 3) := by decide +kernel
theorem dX4_most_11 : decode cX4_most 11 = .ok (.aload_n 0, 1) := by decide +kernel
theorem dX4_most_12 : decode cX4_most 12 = .ok (.bipush (-2), 2) := by decide +kernel
theorem dX4_most_14 : decode cX4_most 14 = .ok (.invokevirtual 61, 3) := by decide +kernel
theorem dX4_most_17 : decode cX4_most 17 = .ok (.ireturn, 1) := by decide +kernel
theorem dX4_most_18 : decode cX4_most 18 = .ok (.aload_n 0, 1) := by decide +kernel
theorem dX4_most_19 : decode cX4_most 19 = .ok (.getfield 10, 3) := by decide +kernel
theorem dX4_most_22 : decode cX4_most 22 = .ok (.getfield 128, 3) := by decide +kernel
theorem dX4_most_25 : decode cX4_most 25 = .ok (.bipush 8, 2) := by decide +kernel
theorem dX4_most_27 : decode cX4_most 27 = .ok (.if_icmp .le 10, 3) := by decide +kernel
theorem dX4_most_30 : decode cX4_most 30 = .ok (.aload_n 0, 1) := by decide +kernel
theorem dX4_most_31 : decode cX4_most 31 = .ok (.bipush (-5), 2) := by decide +kernel
theorem dX4_most_33 : decode cX4_most 33 = .ok (.invokevirtual 61, 3) := by decide +kernel
theorem dX4_most_36 : decode cX4_most 36 = .ok (.ireturn, 1) := by decide +kernel
theorem dX4_most_37 : decode cX4_most 37 = .ok (.aload_n 0, 1) := by decide +kernel
theorem dX4_most_38 : decode cX4_most 38 = .ok (.getfield 27, 3) := by decide +kernel
theorem dX4_most_41 : decode cX4_most 41 = .ok (.iload_n 1, 1) := by decide +kernel
theorem dX4_most_42 : decode cX4_most 42 = .ok (.invokevirtual 250, 3) := by decide +kernel
theorem dX4_most_45 : decode cX4_most 45 = .ok (.ireturn, 1) := by decide +kernel
theorem dX4_always_0 : decode cX4_always 0 = .ok (.aload_n 0, 1) := by decide +kernel
theorem dX4_always_1 : decode cX4_always 1 = .ok (.getfield 10, 3) := by decide +kernel
theorem dX4_always_4 : decode cX4_always 4 = .ok (.iload_n 1, 1) := by decide +kernel
theorem dX4_always_5 : decode cX4_always 5 = .ok (.invokevirtual 166, 3) := by decide +kernel
theorem dX4_always_8 : decode cX4_always 8 = .ok (.ifCond .ne 10, 3) := by decide +kernel
theorem dX4_always_11 : decode cX4_always 11 = .ok (.aload_n 0, 1) := by decide +kernel
theorem dX4_always_12 : decode cX4_always 12 = .ok (.bipush (-2), 2) := by decide +kernel
theorem dX4_always_14 : decode cX4_always 14 = .ok (.invokevirtual 61, 3) := by decide +kernel
theorem dX4_always_17 : decode cX4_always 17 = .ok (.ireturn, 1) := by decide +kernel
theorem dX4_always_18 : decode cX4_always 18 = .ok (.iconst 0, 1) := by decide +kernel
theorem dX4_always_19 : decode cX4_always 19 = .ok (.istore_n 2, 1) := by decide +kernel
theorem dX4_always_20 : decode cX4_always 20 = .ok (.iconst 0, 1) := by decide +kernel
theorem dX4_always_21 : decode cX4_always 21 = .ok (.istore_n 3, 1) := by decide +kernel
theorem dX4_always_22 : decode cX4_always 22 = .ok (.iload_n 3, 1) := by decide +kernel
theorem dX4_always_23 : decode cX4_always 23 = .ok (.aload_n 0, 1) := by decide +kernel
theorem dX4_always_24 : decode cX4_always 24 = .ok (.getfield 10, 3) := by decide +kernel
theorem dX4_always_27 : decode cX4_always 27 = .ok (.getfield 128, 3) := by decide +kernel
theorem dX4_always_30 : decode cX4_always 30 = .ok (.if_icmp .ge 34, 3) := by decide +kernel
theorem dX4_always_33 : decode cX4_always 33 = .ok (.aload_n 0, 1) := by decide +kernel
theorem dX4_always_34 : decode cX4_always 34 = .ok (.getfield 10, 3) := by decide +kernel
theorem dX4_always_37 : decode cX4_always 37 = .ok (.iload_n 1, 1) := by decide +kernel
theorem dX4_always_38 : decode cX4_always 38 = .ok (.iload_n 3, 1) := by decide +kernel
theorem dX4_always_39 : decode cX4_always 39 = .ok (.invokevirtual 253, 3) := by decide +kernel
theorem dX4_always_42 : decode cX4_always 42 = .ok (.aload_n 0, 1) := by decide +kernel
theorem dX4_always_43 : decode cX4_always 43 = .ok (.getfield 10, 3) := by decide +kernel
theorem dX4_always_46 : decode cX4_always 46 = .ok (.getfield 134, 3) := by decide +kernel
theorem dX4_always_49 : decode cX4_always 49 = .ok (.if_icmp .ne 9, 3) := by decide +kernel
theorem dX4_always_52 : decode cX4_always 52 = .ok (.iload_n 2, 1) := by decide +kernel
theorem dX4_always_53 : decode cX4_always 53 = .ok (.iconst 1, 1) := by decide +kernel
theorem dX4_always_54 : decode cX4_always 54 = .ok (.iload_n 3, 1) := by decide +kernel
theorem dX4_always_55 : decode cX4_always 55 = .ok (.ishl, 1) := by decide +kernel
theorem dX4_always_56 : decode cX4_always 56 = .ok (.ior, 1) := by decide +kernel
theorem dX4_always_57 : decode cX4_always 57 = .ok (.istore_n 2, 1) := by decide +kernel
theorem dX4_always_58 : decode cX4_always 58 = .ok (.iinc 3 1, 3) := by decide +kernel
theorem dX4_always_61 : decode cX4_always 61 = .ok (.goto (-39), 3) := by decide +kernel
theorem dX4_always_64 : decode cX4_always 64 = .ok (.iload_n 2, 1) := by decide +kernel
theorem dX4_always_65 : decode cX4_always 65 = .ok (.ireturn, 1) := by decide +kernel
theorem dX4_often_0 : decode cX4_often 0 = .ok (.aload_n 0, 1) := by decide +kernel
theorem dX4_often_1 : decode cX4_often 1 = .ok (.iload_n 1, 1) := by decide +kernel
theorem dX4_often_2 : decode cX4_often 2 = .ok (.iload_n 2, 1) := by decide +kernel
theorem dX4_often_3 : decode cX4_often 3 = .ok (.invokevirtual 141, 3) := by decide +kernel
theorem dX4_often_6 : decode cX4_often 6 = .ok (.ifCond .eq 15, 3) := by decide +kernel
theorem dX4_often_9 : decode cX4_often 9 = .ok (.aload_n 0, 1) := by decide +kernel
theorem dX4_often_10 : decode cX4_often 10 = .ok (.getfield 10, 3) := by decide +kernel
theorem dX4_often_13 : decode cX4_often 13 = .ok (.iload_n 1, 1) := by decide +kernel
theorem dX4_often_14 : decode cX4_often 14 = .ok (.iload_n 2, 1) := by decide +kernel
theorem dX4_often_15 : decode cX4_often 15 = .ok (.invokevirtual 253, 3) := by decide +kernel
theorem dX4_often_18 : decode cX4_often 18 = .ok (.goto 9, 3) := by decide +kernel
theorem dX4_often_21 : decode cX4_often 21 = .ok (.aload_n 0, 1) := by decide +kernel
theorem dX4_often_22 : decode cX4_often 22 = .ok (.bipush (-2), 2) := by decide +kernel
theorem dX4_often_24 : decode cX4_often 24 = .ok (.invokevirtual 61, 3) := by decide +kernel
theorem dX4_often_27 : decode cX4_often 27 = .ok (.ireturn, 1) := by decide +kernel
theorem dX4_safe_0 : decode cX4_safe 0 = .ok (.aload_n 0, 1) := by decide +kernel
theorem dX4_safe_1 : decode cX4_safe 1 = .ok (.iload_n 1, 1) := by decide +kernel
theorem dX4_safe_2 : decode cX4_safe 2 = .ok (.iload_n 2, 1) := by decide +kernel
theorem dX4_safe_3 : decode cX4_safe 3 = .ok (.invokevirtual 141, 3) := by decide +kernel
theorem dX4_safe_6 : decode cX4_safe 6 = .ok (.ifCond .eq 15, 3) := by decide +kernel
theorem dX4_safe_9 : decode cX4_safe 9 = .ok (.aload_n 0, 1) := by decide +kernel
theorem dX4_safe_10 : decode cX4_safe 10 = .ok (.getfield 27, 3) := by decide +kernel
theorem dX4_safe_13 : decode cX4_safe 13 = .ok (.iload_n 1, 1) := by decide +kernel
theorem dX4_safe_14 : decode cX4_safe 14 = .ok (.iload_n 2, 1) := by decide +kernel
theorem dX4_safe_15 : decode cX4_safe 15 = .ok (.invokevirtual 256, 3) := by decide +kernel
theorem dX4_safe_18 : decode cX4_safe 18 = .ok (.goto 9, 3) := by decide +kernel
theorem dX4_safe_21 : decode cX4_safe 21 = .ok (.aload_n 0, 1) := by decide +kernel
theorem dX4_safe_22 : decode cX4_safe 22 = .ok (.bipush (-2), 2) := by decide +kernel
theorem dX4_safe_24 : decode cX4_safe 24 = .ok (.invokevirtual 61, 3) := by decide +kernel
theorem dX4_safe_27 : decode cX4_safe 27 = .ok (.ireturn, 1) := by decide +kernel
theorem dX4_out_0 : decode cX4_out 0 = .ok (.iload_n 1, 1) := by decide +kernel
theorem dX4_out_1 : decode cX4_out 1 = .ok (.iconst 1, 1) := by decide +kernel
theorem dX4_out_2 : decode cX4_out 2 = .ok (.bipush 20, 2) := by decide +kernel
theorem dX4_out_4 : decode cX4_out 4 = .ok (.invokestatic 57, 3) := by decide +kernel
theorem dX4_out_7 : decode cX4_out 7 = .ok (.ifCond .eq 14, 3) := by decide +kernel
theorem dX4_out_10 : decode cX4_out 10 = .ok (.aload_n 0, 1) := by decide +kernel
theorem dX4_out_11 : decode cX4_out 11 = .ok (.getfield 10, 3) := by decide +kernel
theorem dX4_out_14 : decode cX4_out 14 = .ok (.iload_n 2, 1) := by decide +kernel
theorem dX4_out_15 : decode cX4_out 15 = .ok (.invokevirtual 202, 3) := by decide +kernel
theorem dX4_out_18 : decode cX4_out 18 = .ok (.ifCond .ne 10, 3) := by decide +kernel
theorem dX4_out_21 : decode cX4_out 21 = .ok (.aload_n 0, 1) := by decide +kernel
theorem dX4_out_22 : decode cX4_out 22 = .ok (.bipush (-2), 2) := by decide +kernel
theorem dX4_out_24 : decode cX4_out 24 = .ok (.invokevirtual 61, 3) := by decide +kernel
theorem dX4_out_27 : decode cX4_out 27 = .ok (.ireturn, 1) := by decide +kernel
theorem dX4_out_28 : decode cX4_out 28 = .ok (.aload_n 0, 1) := by decide +kernel
theorem dX4_out_29 : decode cX4_out 29 = .ok (.getfield 27, 3) := by decide +kernel
theorem dX4_out_32 : decode cX4_out 32 = .ok (.iload_n 1, 1) := by decide +kernel
theorem dX4_out_33 : decode cX4_out 33 = .ok (.invokevirtual 259, 3) := by decide +kernel
theorem dX4_out_36 : decode cX4_out 36 = .ok (.aload_n 0, 1) := by decide +kernel
theorem dX4_out_37 : decode cX4_out 37 = .ok (.getfield 27, 3) := by decide +kernel
theorem dX4_out_40 : decode cX4_out 40 = .ok (.getfield 262, 3) := by decide +kernel
theorem dX4_out_43 : decode cX4_out 43 = .ok (.iload_n 2, 1) := by decide +kernel
theorem dX4_out_44 : decode cX4_out 44 = .ok (.iaload, 1) := by decide +kernel
theorem dX4_out_45 : decode cX4_out 45 = .ok (.ireturn, 1) := by decide +kernel
theorem dX4_outAt_0 : decode cX4_outAt 0 = .ok (.iload_n 1, 1) := by decide +kernel
theorem dX4_outAt_1 : decode cX4_outAt 1 = .ok (.iconst 1, 1) := by decide +kernel
theorem dX4_outAt_2 : decode cX4_outAt 2 = .ok (.bipush 20, 2) := by decide +kernel
theorem dX4_outAt_4 : decode cX4_outAt 4 = .ok (.invokestatic 57, 3) := by decide +kernel
theorem dX4_outAt_7 : decode cX4_outAt 7 = .ok (.ifCond .eq 14, 3) := by decide +kernel
theorem dX4_outAt_10 : decode cX4_outAt 10 = .ok (.aload_n 0, 1) := by decide +kernel
theorem dX4_outAt_11 : decode cX4_outAt 11 = .ok (.getfield 10, 3) := by decide +kernel
theorem dX4_outAt_14 : decode cX4_outAt 14 = .ok (.iload_n 2, 1) := by decide +kernel
theorem dX4_outAt_15 : decode cX4_outAt 15 = .ok (.invokevirtual 166, 3) := by decide +kernel
theorem dX4_outAt_18 : decode cX4_outAt 18 = .ok (.ifCond .ne 10, 3) := by decide +kernel
theorem dX4_outAt_21 : decode cX4_outAt 21 = .ok (.aload_n 0, 1) := by decide +kernel
theorem dX4_outAt_22 : decode cX4_outAt 22 = .ok (.bipush (-2), 2) := by decide +kernel
theorem dX4_outAt_24 : decode cX4_outAt 24 = .ok (.invokevirtual 61, 3) := by decide +kernel
theorem dX4_outAt_27 : decode cX4_outAt 27 = .ok (.ireturn, 1) := by decide +kernel
theorem dX4_outAt_28 : decode cX4_outAt 28 = .ok (.aload_n 0, 1) := by decide +kernel
theorem dX4_outAt_29 : decode cX4_outAt 29 = .ok (.getfield 27, 3) := by decide +kernel
theorem dX4_outAt_32 : decode cX4_outAt 32 = .ok (.iload_n 1, 1) := by decide +kernel
theorem dX4_outAt_33 : decode cX4_outAt 33 = .ok (.invokevirtual 259, 3) := by decide +kernel
theorem dX4_outAt_36 : decode cX4_outAt 36 = .ok (.iconst 0, 1) := by decide +kernel
theorem dX4_outAt_37 : decode cX4_outAt 37 = .ok (.istore_n 3, 1) := by decide +kernel
theorem dX4_outAt_38 : decode cX4_outAt 38 = .ok (.iload_n 3, 1) := by decide +kernel
theorem dX4_outAt_39 : decode cX4_outAt 39 = .ok (.aload_n 0, 1) := by decide +kernel
theorem dX4_outAt_40 : decode cX4_outAt 40 = .ok (.getfield 10, 3) := by decide +kernel
theorem dX4_outAt_43 : decode cX4_outAt 43 = .ok (.getfield 128, 3) := by decide +kernel
theorem dX4_outAt_46 : decode cX4_outAt 46 = .ok (.if_icmp .ge 24, 3) := by decide +kernel
theorem dX4_outAt_49 : decode cX4_outAt 49 = .ok (.aload_n 0, 1) := by decide +kernel
theorem dX4_outAt_50 : decode cX4_outAt 50 = .ok (.getfield 27, 3) := by decide +kernel
theorem dX4_outAt_53 : decode cX4_outAt 53 = .ok (.getfield 262, 3) := by decide +kernel
theorem dX4_outAt_56 : decode cX4_outAt 56 = .ok (.iload_n 3, 1) := by decide +kernel
theorem dX4_outAt_57 : decode cX4_outAt 57 = .ok (.iaload, 1) := by decide +kernel
theorem dX4_outAt_58 : decode cX4_outAt 58 = .ok (.iload_n 2, 1) := by decide +kernel
theorem dX4_outAt_59 : decode cX4_outAt 59 = .ok (.if_icmp .ne 5, 3) := by decide +kernel
theorem dX4_outAt_62 : decode cX4_outAt 62 = .ok (.iload_n 3, 1) := by decide +kernel
theorem dX4_outAt_63 : decode cX4_outAt 63 = .ok (.ireturn, 1) := by decide +kernel
theorem dX4_outAt_64 : decode cX4_outAt 64 = .ok (.iinc 3 1, 3) := by decide +kernel
theorem dX4_outAt_67 : decode cX4_outAt 67 = .ok (.goto (-29), 3) := by decide +kernel
theorem dX4_outAt_70 : decode cX4_outAt 70 = .ok (.iconst (-1), 1) := by decide +kernel
theorem dX4_outAt_71 : decode cX4_outAt 71 = .ok (.ireturn, 1) := by decide +kernel
theorem dX4_stays_0 : decode cX4_stays 0 = .ok (.aload_n 0, 1) := by decide +kernel
theorem dX4_stays_1 : decode cX4_stays 1 = .ok (.getfield 10, 3) := by decide +kernel
theorem dX4_stays_4 : decode cX4_stays 4 = .ok (.iload_n 1, 1) := by decide +kernel
theorem dX4_stays_5 : decode cX4_stays 5 = .ok (.invokevirtual 166, 3) := by decide +kernel
theorem dX4_stays_8 : decode cX4_stays 8 = .ok (.ifCond .ne 10, 3) := by decide +kernel
theorem dX4_stays_11 : decode cX4_stays 11 = .ok (.aload_n 0, 1) := by decide +kernel
theorem dX4_stays_12 : decode cX4_stays 12 = .ok (.bipush (-2), 2) := by decide +kernel
theorem dX4_stays_14 : decode cX4_stays 14 = .ok (.invokevirtual 61, 3) := by decide +kernel
theorem dX4_stays_17 : decode cX4_stays 17 = .ok (.ireturn, 1) := by decide +kernel
theorem dX4_stays_18 : decode cX4_stays 18 = .ok (.iconst 1, 1) := by decide +kernel
theorem dX4_stays_19 : decode cX4_stays 19 = .ok (.istore_n 2, 1) := by decide +kernel
theorem dX4_stays_20 : decode cX4_stays 20 = .ok (.iload_n 2, 1) := by decide +kernel
theorem dX4_stays_21 : decode cX4_stays 21 = .ok (.bipush 20, 2) := by decide +kernel
theorem dX4_stays_23 : decode cX4_stays 23 = .ok (.if_icmp .gt 40, 3) := by decide +kernel
theorem dX4_stays_26 : decode cX4_stays 26 = .ok (.aload_n 0, 1) := by decide +kernel
theorem dX4_stays_27 : decode cX4_stays 27 = .ok (.getfield 27, 3) := by decide +kernel
theorem dX4_stays_30 : decode cX4_stays 30 = .ok (.iload_n 2, 1) := by decide +kernel
theorem dX4_stays_31 : decode cX4_stays 31 = .ok (.invokevirtual 259, 3) := by decide +kernel
theorem dX4_stays_34 : decode cX4_stays 34 = .ok (.aload_n 0, 1) := by decide +kernel
theorem dX4_stays_35 : decode cX4_stays 35 = .ok (.getfield 27, 3) := by decide +kernel
theorem dX4_stays_38 : decode cX4_stays 38 = .ok (.getfield 262, 3) := by decide +kernel
theorem dX4_stays_41 : decode cX4_stays 41 = .ok (.aload_n 0, 1) := by decide +kernel
theorem dX4_stays_42 : decode cX4_stays 42 = .ok (.getfield 10, 3) := by decide +kernel
theorem dX4_stays_45 : decode cX4_stays 45 = .ok (.getfield 128, 3) := by decide +kernel
theorem dX4_stays_48 : decode cX4_stays 48 = .ok (.iconst 1, 1) := by decide +kernel
theorem dX4_stays_49 : decode cX4_stays 49 = .ok (.isub, 1) := by decide +kernel
theorem dX4_stays_50 : decode cX4_stays 50 = .ok (.iaload, 1) := by decide +kernel
theorem dX4_stays_51 : decode cX4_stays 51 = .ok (.iload_n 1, 1) := by decide +kernel
theorem dX4_stays_52 : decode cX4_stays 52 = .ok (.if_icmp .ne 5, 3) := by decide +kernel
theorem dX4_stays_55 : decode cX4_stays 55 = .ok (.iload_n 2, 1) := by decide +kernel
theorem dX4_stays_56 : decode cX4_stays 56 = .ok (.ireturn, 1) := by decide +kernel
theorem dX4_stays_57 : decode cX4_stays 57 = .ok (.iinc 2 1, 3) := by decide +kernel
theorem dX4_stays_60 : decode cX4_stays 60 = .ok (.goto (-40), 3) := by decide +kernel
theorem dX4_stays_63 : decode cX4_stays 63 = .ok (.iconst (-1), 1) := by decide +kernel
theorem dX4_stays_64 : decode cX4_stays 64 = .ok (.ireturn, 1) := by decide +kernel
theorem dX4_fits_0 : decode cX4_fits 0 = .ok (.aload_n 0, 1) := by decide +kernel
theorem dX4_fits_1 : decode cX4_fits 1 = .ok (.iload_n 1, 1) := by decide +kernel
theorem dX4_fits_2 : decode cX4_fits 2 = .ok (.aload_n 0, 1) := by decide +kernel
theorem dX4_fits_3 : decode cX4_fits 3 = .ok (.getfield 10, 3) := by decide +kernel
theorem dX4_fits_6 : decode cX4_fits 6 = .ok (.getfield 128, 3) := by decide +kernel
theorem dX4_fits_9 : decode cX4_fits 9 = .ok (.invokevirtual 265, 3) := by decide +kernel
theorem dX4_fits_12 : decode cX4_fits 12 = .ok (.istore_n 2, 1) := by decide +kernel
theorem dX4_fits_13 : decode cX4_fits 13 = .ok (.iload_n 2, 1) := by decide +kernel
theorem dX4_fits_14 : decode cX4_fits 14 = .ok (.ifCond .eq 9, 3) := by decide +kernel
theorem dX4_fits_17 : decode cX4_fits 17 = .ok (.aload_n 0, 1) := by decide +kernel
theorem dX4_fits_18 : decode cX4_fits 18 = .ok (.iload_n 2, 1) := by decide +kernel
theorem dX4_fits_19 : decode cX4_fits 19 = .ok (.invokevirtual 61, 3) := by decide +kernel
theorem dX4_fits_22 : decode cX4_fits 22 = .ok (.ireturn, 1) := by decide +kernel
theorem dX4_fits_23 : decode cX4_fits 23 = .ok (.iconst 0, 1) := by decide +kernel
theorem dX4_fits_24 : decode cX4_fits 24 = .ok (.istore_n 3, 1) := by decide +kernel
theorem dX4_fits_25 : decode cX4_fits 25 = .ok (.iconst 0, 1) := by decide +kernel
theorem dX4_fits_26 : decode cX4_fits 26 = .ok (.istore 4, 2) := by decide +kernel
theorem dX4_fits_28 : decode cX4_fits 28 = .ok (.iload 4, 2) := by decide +kernel
theorem dX4_fits_30 : decode cX4_fits 30 = .ok (.aload_n 0, 1) := by decide +kernel
theorem dX4_fits_31 : decode cX4_fits 31 = .ok (.getfield 10, 3) := by decide +kernel
theorem dX4_fits_34 : decode cX4_fits 34 = .ok (.getfield 134, 3) := by decide +kernel
theorem dX4_fits_37 : decode cX4_fits 37 = .ok (.if_icmp .ge 37, 3) := by decide +kernel
theorem dX4_fits_40 : decode cX4_fits 40 = .ok (.aload_n 0, 1) := by decide +kernel
theorem dX4_fits_41 : decode cX4_fits 41 = .ok (.getfield 10, 3) := by decide +kernel
theorem dX4_fits_44 : decode cX4_fits 44 = .ok (.iload 4, 2) := by decide +kernel
theorem dX4_fits_46 : decode cX4_fits 46 = .ok (.aload_n 0, 1) := by decide +kernel
theorem dX4_fits_47 : decode cX4_fits 47 = .ok (.getfield 40, 3) := by decide +kernel
theorem dX4_fits_50 : decode cX4_fits 50 = .ok (.iload_n 1, 1) := by decide +kernel
theorem dX4_fits_51 : decode cX4_fits 51 = .ok (.aaload, 1) := by decide +kernel
theorem dX4_fits_52 : decode cX4_fits 52 = .ok (.getfield 87, 3) := by decide +kernel
theorem dX4_fits_55 : decode cX4_fits 55 = .ok (.invokevirtual 268, 3) := by decide +kernel
theorem dX4_fits_58 : decode cX4_fits 58 = .ok (.ifCond .ne 10, 3) := by decide +kernel
theorem dX4_fits_61 : decode cX4_fits 61 = .ok (.iload_n 3, 1) := by decide +kernel
theorem dX4_fits_62 : decode cX4_fits 62 = .ok (.iconst 1, 1) := by decide +kernel
theorem dX4_fits_63 : decode cX4_fits 63 = .ok (.iload 4, 2) := by decide +kernel
theorem dX4_fits_65 : decode cX4_fits 65 = .ok (.ishl, 1) := by decide +kernel
theorem dX4_fits_66 : decode cX4_fits 66 = .ok (.ior, 1) := by decide +kernel
theorem dX4_fits_67 : decode cX4_fits 67 = .ok (.istore_n 3, 1) := by decide +kernel
theorem dX4_fits_68 : decode cX4_fits 68 = .ok (.iinc 4 1, 3) := by decide +kernel
theorem dX4_fits_71 : decode cX4_fits 71 = .ok (.goto (-43), 3) := by decide +kernel
theorem dX4_fits_74 : decode cX4_fits 74 = .ok (.iload_n 3, 1) := by decide +kernel
theorem dX4_fits_75 : decode cX4_fits 75 = .ok (.ireturn, 1) := by decide +kernel
theorem dX4_moved_0 : decode cX4_moved 0 = .ok (.aload_n 0, 1) := by decide +kernel
theorem dX4_moved_1 : decode cX4_moved 1 = .ok (.getfield 10, 3) := by decide +kernel
theorem dX4_moved_4 : decode cX4_moved 4 = .ok (.iload_n 1, 1) := by decide +kernel
theorem dX4_moved_5 : decode cX4_moved 5 = .ok (.invokevirtual 101, 3) := by decide +kernel
theorem dX4_moved_8 : decode cX4_moved 8 = .ok (.ifCond .eq 18, 3) := by decide +kernel
theorem dX4_moved_11 : decode cX4_moved 11 = .ok (.aload_n 0, 1) := by decide +kernel
theorem dX4_moved_12 : decode cX4_moved 12 = .ok (.iload_n 2, 1) := by decide +kernel
theorem dX4_moved_13 : decode cX4_moved 13 = .ok (.aload_n 0, 1) := by decide +kernel
theorem dX4_moved_14 : decode cX4_moved 14 = .ok (.getfield 10, 3) := by decide +kernel
theorem dX4_moved_17 : decode cX4_moved 17 = .ok (.getfield 128, 3) := by decide +kernel
theorem dX4_moved_20 : decode cX4_moved 20 = .ok (.invokevirtual 265, 3) := by decide +kernel
theorem dX4_moved_23 : decode cX4_moved 23 = .ok (.goto 5, 3) := by decide +kernel
theorem dX4_moved_26 : decode cX4_moved 26 = .ok (.bipush (-2), 2) := by decide +kernel
theorem dX4_moved_28 : decode cX4_moved 28 = .ok (.istore_n 3, 1) := by decide +kernel
theorem dX4_moved_29 : decode cX4_moved 29 = .ok (.iload_n 3, 1) := by decide +kernel
theorem dX4_moved_30 : decode cX4_moved 30 = .ok (.ifCond .eq 9, 3) := by decide +kernel
theorem dX4_moved_33 : decode cX4_moved 33 = .ok (.aload_n 0, 1) := by decide +kernel
theorem dX4_moved_34 : decode cX4_moved 34 = .ok (.iload_n 3, 1) := by decide +kernel
theorem dX4_moved_35 : decode cX4_moved 35 = .ok (.invokevirtual 61, 3) := by decide +kernel
theorem dX4_moved_38 : decode cX4_moved 38 = .ok (.ireturn, 1) := by decide +kernel
theorem dX4_moved_39 : decode cX4_moved 39 = .ok (.aload_n 0, 1) := by decide +kernel
theorem dX4_moved_40 : decode cX4_moved 40 = .ok (.getfield 27, 3) := by decide +kernel
theorem dX4_moved_43 : decode cX4_moved 43 = .ok (.iload_n 1, 1) := by decide +kernel
theorem dX4_moved_44 : decode cX4_moved 44 = .ok (.aload_n 0, 1) := by decide +kernel
theorem dX4_moved_45 : decode cX4_moved 45 = .ok (.getfield 40, 3) := by decide +kernel
theorem dX4_moved_48 : decode cX4_moved 48 = .ok (.iload_n 2, 1) := by decide +kernel
theorem dX4_moved_49 : decode cX4_moved 49 = .ok (.aaload, 1) := by decide +kernel
theorem dX4_moved_50 : decode cX4_moved 50 = .ok (.getfield 87, 3) := by decide +kernel
theorem dX4_moved_53 : decode cX4_moved 53 = .ok (.invokevirtual 272, 3) := by decide +kernel
theorem dX4_moved_56 : decode cX4_moved 56 = .ok (.ireturn, 1) := by decide +kernel
theorem dX4_miscounted_0 : decode cX4_miscounted 0 = .ok (.aload_n 0, 1) := by decide +kernel
theorem dX4_miscounted_1 : decode cX4_miscounted 1 = .ok (.iload_n 1, 1) := by decide +kernel
theorem dX4_miscounted_2 : decode cX4_miscounted 2 = .ok (.aload_n 0, 1) := by decide +kernel
theorem dX4_miscounted_3 : decode cX4_miscounted 3 = .ok (.getfield 10, 3) := by decide +kernel
theorem dX4_miscounted_6 : decode cX4_miscounted 6 = .ok (.getfield 128, 3) := by decide +kernel
theorem dX4_miscounted_9 : decode cX4_miscounted 9 = .ok (.invokevirtual 265, 3) := by decide +kernel
theorem dX4_miscounted_12 : decode cX4_miscounted 12 = .ok (.istore_n 2, 1) := by decide +kernel
theorem dX4_miscounted_13 : decode cX4_miscounted 13 = .ok (.iload_n 2, 1) := by decide +kernel
theorem dX4_miscounted_14 : decode cX4_miscounted 14 = .ok (.ifCond .ne 16, 3) := by decide +kernel
theorem dX4_miscounted_17 : decode cX4_miscounted 17 = .ok (.aload_n 0, 1) := by decide +kernel
theorem dX4_miscounted_18 : decode cX4_miscounted 18 = .ok (.getfield 10, 3) := by decide +kernel
theorem dX4_miscounted_21 : decode cX4_miscounted 21 = .ok (.getfield 134, 3) := by decide +kernel
theorem dX4_miscounted_24 : decode cX4_miscounted 24 = .ok (.ifCond .ne 6, 3) := by decide +kernel
theorem dX4_miscounted_27 : decode cX4_miscounted 27 = .ok (.bipush (-5), 2) := by decide +kernel
theorem dX4_miscounted_29 : decode cX4_miscounted 29 = .ok (.istore_n 2, 1) := by decide +kernel
theorem dX4_miscounted_30 : decode cX4_miscounted 30 = .ok (.iload_n 2, 1) := by decide +kernel
theorem dX4_miscounted_31 : decode cX4_miscounted 31 = .ok (.ifCond .eq 9, 3) := by decide +kernel
theorem dX4_miscounted_34 : decode cX4_miscounted 34 = .ok (.aload_n 0, 1) := by decide +kernel
theorem dX4_miscounted_35 : decode cX4_miscounted 35 = .ok (.iload_n 2, 1) := by decide +kernel
theorem dX4_miscounted_36 : decode cX4_miscounted 36 = .ok (.invokevirtual 61, 3) := by decide +kernel
theorem dX4_miscounted_39 : decode cX4_miscounted 39 = .ok (.ireturn, 1) := by decide +kernel
theorem dX4_miscounted_40 : decode cX4_miscounted 40 = .ok (.aload_n 0, 1) := by decide +kernel
theorem dX4_miscounted_41 : decode cX4_miscounted 41 = .ok (.getfield 10, 3) := by decide +kernel
theorem dX4_miscounted_44 : decode cX4_miscounted 44 = .ok (.getfield 128, 3) := by decide +kernel
theorem dX4_miscounted_47 : decode cX4_miscounted 47 = .ok (.istore_n 3, 1) := by decide +kernel
theorem dX4_miscounted_48 : decode cX4_miscounted 48 = .ok (.iconst 0, 1) := by decide +kernel
theorem dX4_miscounted_49 : decode cX4_miscounted 49 = .ok (.istore 4, 2) := by decide +kernel
theorem dX4_miscounted_51 : decode cX4_miscounted 51 = .ok (.iload 4, 2) := by decide +kernel
theorem dX4_miscounted_53 : decode cX4_miscounted 53 = .ok (.aload_n 0, 1) := by decide +kernel
theorem dX4_miscounted_54 : decode cX4_miscounted 54 = .ok (.getfield 10, 3) := by decide +kernel
theorem dX4_miscounted_57 : decode cX4_miscounted 57 = .ok (.getfield 134, 3) := by decide +kernel
theorem dX4_miscounted_60 : decode cX4_miscounted 60 = .ok (.if_icmp .ge 32, 3) := by decide +kernel
theorem dX4_miscounted_63 : decode cX4_miscounted 63 = .ok (.iload_n 3, 1) := by decide +kernel
theorem dX4_miscounted_64 : decode cX4_miscounted 64 = .ok (.aload_n 0, 1) := by decide +kernel
theorem dX4_miscounted_65 : decode cX4_miscounted 65 = .ok (.getfield 10, 3) := by decide +kernel
theorem dX4_miscounted_68 : decode cX4_miscounted 68 = .ok (.iload 4, 2) := by decide +kernel
theorem dX4_miscounted_70 : decode cX4_miscounted 70 = .ok (.aload_n 0, 1) := by decide +kernel
theorem dX4_miscounted_71 : decode cX4_miscounted 71 = .ok (.getfield 40, 3) := by decide +kernel
theorem dX4_miscounted_74 : decode cX4_miscounted 74 = .ok (.iload_n 1, 1) := by decide +kernel
theorem dX4_miscounted_75 : decode cX4_miscounted 75 = .ok (.aaload, 1) := by decide +kernel
theorem dX4_miscounted_76 : decode cX4_miscounted 76 = .ok (.getfield 87, 3) := by decide +kernel
theorem dX4_miscounted_79 : decode cX4_miscounted 79 = .ok (.invokevirtual 268, 3) := by decide +kernel
theorem dX4_miscounted_82 : decode cX4_miscounted 82 = .ok (.invokestatic 275, 3) := by decide +kernel
theorem dX4_miscounted_85 : decode cX4_miscounted 85 = .ok (.istore_n 3, 1) := by decide +kernel
theorem dX4_miscounted_86 : decode cX4_miscounted 86 = .ok (.iinc 4 1, 3) := by decide +kernel
theorem dX4_miscounted_89 : decode cX4_miscounted 89 = .ok (.goto (-38), 3) := by decide +kernel
theorem dX4_miscounted_92 : decode cX4_miscounted 92 = .ok (.iload_n 3, 1) := by decide +kernel
theorem dX4_miscounted_93 : decode cX4_miscounted 93 = .ok (.ireturn, 1) := by decide +kernel
theorem dX4_judge_0 : decode cX4_judge 0 = .ok (.aload_n 0, 1) := by decide +kernel
theorem dX4_judge_1 : decode cX4_judge 1 = .ok (.iload_n 1, 1) := by decide +kernel
theorem dX4_judge_2 : decode cX4_judge 2 = .ok (.iload_n 2, 1) := by decide +kernel
theorem dX4_judge_3 : decode cX4_judge 3 = .ok (.invokevirtual 265, 3) := by decide +kernel
theorem dX4_judge_6 : decode cX4_judge 6 = .ok (.istore_n 3, 1) := by decide +kernel
theorem dX4_judge_7 : decode cX4_judge 7 = .ok (.iload_n 3, 1) := by decide +kernel
theorem dX4_judge_8 : decode cX4_judge 8 = .ok (.ifCond .ne 12, 3) := by decide +kernel
theorem dX4_judge_11 : decode cX4_judge 11 = .ok (.aload_n 0, 1) := by decide +kernel
theorem dX4_judge_12 : decode cX4_judge 12 = .ok (.iload_n 1, 1) := by decide +kernel
theorem dX4_judge_13 : decode cX4_judge 13 = .ok (.iload_n 2, 1) := by decide +kernel
theorem dX4_judge_14 : decode cX4_judge 14 = .ok (.invokevirtual 280, 3) := by decide +kernel
theorem dX4_judge_17 : decode cX4_judge 17 = .ok (.goto 8, 3) := by decide +kernel
theorem dX4_judge_20 : decode cX4_judge 20 = .ok (.aload_n 0, 1) := by decide +kernel
theorem dX4_judge_21 : decode cX4_judge 21 = .ok (.iload_n 3, 1) := by decide +kernel
theorem dX4_judge_22 : decode cX4_judge 22 = .ok (.invokevirtual 61, 3) := by decide +kernel
theorem dX4_judge_25 : decode cX4_judge 25 = .ok (.ireturn, 1) := by decide +kernel
theorem dX4_behind_0 : decode cX4_behind 0 = .ok (.aload_n 0, 1) := by decide +kernel
theorem dX4_behind_1 : decode cX4_behind 1 = .ok (.getfield 10, 3) := by decide +kernel
theorem dX4_behind_4 : decode cX4_behind 4 = .ok (.iload_n 3, 1) := by decide +kernel
theorem dX4_behind_5 : decode cX4_behind 5 = .ok (.invokevirtual 101, 3) := by decide +kernel
theorem dX4_behind_8 : decode cX4_behind 8 = .ok (.ifCond .eq 12, 3) := by decide +kernel
theorem dX4_behind_11 : decode cX4_behind 11 = .ok (.aload_n 0, 1) := by decide +kernel
theorem dX4_behind_12 : decode cX4_behind 12 = .ok (.iload_n 1, 1) := by decide +kernel
theorem dX4_behind_13 : decode cX4_behind 13 = .ok (.iload_n 2, 1) := by decide +kernel
theorem dX4_behind_14 : decode cX4_behind 14 = .ok (.invokevirtual 265, 3) := by decide +kernel
theorem dX4_behind_17 : decode cX4_behind 17 = .ok (.goto 5, 3) := by decide +kernel
theorem dX4_behind_20 : decode cX4_behind 20 = .ok (.bipush (-2), 2) := by decide +kernel
theorem dX4_behind_22 : decode cX4_behind 22 = .ok (.istore 4, 2) := by decide +kernel
theorem dX4_behind_24 : decode cX4_behind 24 = .ok (.iload 4, 2) := by decide +kernel
theorem dX4_behind_26 : decode cX4_behind 26 = .ok (.ifCond .eq 10, 3) := by decide +kernel
theorem dX4_behind_29 : decode cX4_behind 29 = .ok (.aload_n 0, 1) := by decide +kernel
theorem dX4_behind_30 : decode cX4_behind 30 = .ok (.iload 4, 2) := by decide +kernel
theorem dX4_behind_32 : decode cX4_behind 32 = .ok (.invokevirtual 61, 3) := by decide +kernel
theorem dX4_behind_35 : decode cX4_behind 35 = .ok (.ireturn, 1) := by decide +kernel
theorem dX4_behind_36 : decode cX4_behind 36 = .ok (.aload_n 0, 1) := by decide +kernel
theorem dX4_behind_37 : decode cX4_behind 37 = .ok (.iload_n 1, 1) := by decide +kernel
theorem dX4_behind_38 : decode cX4_behind 38 = .ok (.iload_n 2, 1) := by decide +kernel
theorem dX4_behind_39 : decode cX4_behind 39 = .ok (.invokevirtual 280, 3) := by decide +kernel
theorem dX4_behind_42 : decode cX4_behind 42 = .ok (.iconst (-1), 1) := by decide +kernel
theorem dX4_behind_43 : decode cX4_behind 43 = .ok (.if_icmp .eq 10, 3) := by decide +kernel
theorem dX4_behind_46 : decode cX4_behind 46 = .ok (.aload_n 0, 1) := by decide +kernel
theorem dX4_behind_47 : decode cX4_behind 47 = .ok (.bipush (-5), 2) := by decide +kernel
theorem dX4_behind_49 : decode cX4_behind 49 = .ok (.invokevirtual 61, 3) := by decide +kernel
theorem dX4_behind_52 : decode cX4_behind 52 = .ok (.ireturn, 1) := by decide +kernel
theorem dX4_behind_53 : decode cX4_behind 53 = .ok (.aload_n 0, 1) := by decide +kernel
theorem dX4_behind_54 : decode cX4_behind 54 = .ok (.getfield 19, 3) := by decide +kernel
theorem dX4_behind_57 : decode cX4_behind 57 = .ok (.iload_n 3, 1) := by decide +kernel
theorem dX4_behind_58 : decode cX4_behind 58 = .ok (.invokevirtual 223, 3) := by decide +kernel
theorem dX4_behind_61 : decode cX4_behind 61 = .ok (.ireturn, 1) := by decide +kernel
theorem dX4_done_0 : decode cX4_done 0 = .ok (.aload_n 0, 1) := by decide +kernel
theorem dX4_done_1 : decode cX4_done 1 = .ok (.iload_n 1, 1) := by decide +kernel
theorem dX4_done_2 : decode cX4_done 2 = .ok (.iload_n 2, 1) := by decide +kernel
theorem dX4_done_3 : decode cX4_done 3 = .ok (.invokevirtual 265, 3) := by decide +kernel
theorem dX4_done_6 : decode cX4_done 6 = .ok (.istore_n 3, 1) := by decide +kernel
theorem dX4_done_7 : decode cX4_done 7 = .ok (.iload_n 3, 1) := by decide +kernel
theorem dX4_done_8 : decode cX4_done 8 = .ok (.ifCond .eq 9, 3) := by decide +kernel
theorem dX4_done_11 : decode cX4_done 11 = .ok (.aload_n 0, 1) := by decide +kernel
theorem dX4_done_12 : decode cX4_done 12 = .ok (.iload_n 3, 1) := by decide +kernel
theorem dX4_done_13 : decode cX4_done 13 = .ok (.invokevirtual 61, 3) := by decide +kernel
theorem dX4_done_16 : decode cX4_done 16 = .ok (.ireturn, 1) := by decide +kernel
theorem dX4_done_17 : decode cX4_done 17 = .ok (.aload_n 0, 1) := by decide +kernel
theorem dX4_done_18 : decode cX4_done 18 = .ok (.iload_n 1, 1) := by decide +kernel
theorem dX4_done_19 : decode cX4_done 19 = .ok (.iload_n 2, 1) := by decide +kernel
theorem dX4_done_20 : decode cX4_done 20 = .ok (.invokevirtual 280, 3) := by decide +kernel
theorem dX4_done_23 : decode cX4_done 23 = .ok (.iconst (-1), 1) := by decide +kernel
theorem dX4_done_24 : decode cX4_done 24 = .ok (.if_icmp .eq 10, 3) := by decide +kernel
theorem dX4_done_27 : decode cX4_done 27 = .ok (.aload_n 0, 1) := by decide +kernel
theorem dX4_done_28 : decode cX4_done 28 = .ok (.bipush (-5), 2) := by decide +kernel
theorem dX4_done_30 : decode cX4_done 30 = .ok (.invokevirtual 61, 3) := by decide +kernel
theorem dX4_done_33 : decode cX4_done 33 = .ok (.ireturn, 1) := by decide +kernel
theorem dX4_done_34 : decode cX4_done 34 = .ok (.aload_n 0, 1) := by decide +kernel
theorem dX4_done_35 : decode cX4_done 35 = .ok (.getfield 10, 3) := by decide +kernel
theorem dX4_done_38 : decode cX4_done 38 = .ok (.aload_n 0, 1) := by decide +kernel
theorem dX4_done_39 : decode cX4_done 39 = .ok (.getfield 19, 3) := by decide +kernel
theorem dX4_done_42 : decode cX4_done 42 = .ok (.invokevirtual 159, 3) := by decide +kernel
theorem dX4_done_45 : decode cX4_done 45 = .ok (.iload_n 2, 1) := by decide +kernel
theorem dX4_done_46 : decode cX4_done 46 = .ok (.ireturn, 1) := by decide +kernel
theorem dX4_swap_0 : decode cX4_swap 0 = .ok (.aload_n 0, 1) := by decide +kernel
theorem dX4_swap_1 : decode cX4_swap 1 = .ok (.getfield 10, 3) := by decide +kernel
theorem dX4_swap_4 : decode cX4_swap 4 = .ok (.iload_n 1, 1) := by decide +kernel
theorem dX4_swap_5 : decode cX4_swap 5 = .ok (.invokevirtual 166, 3) := by decide +kernel
theorem dX4_swap_8 : decode cX4_swap 8 = .ok (.ifCond .eq 14, 3) := by decide +kernel
theorem dX4_swap_11 : decode cX4_swap 11 = .ok (.aload_n 0, 1) := by decide +kernel
theorem dX4_swap_12 : decode cX4_swap 12 = .ok (.getfield 10, 3) := by decide +kernel
theorem dX4_swap_15 : decode cX4_swap 15 = .ok (.iload_n 2, 1) := by decide +kernel
theorem dX4_swap_16 : decode cX4_swap 16 = .ok (.invokevirtual 166, 3) := by decide +kernel
theorem dX4_swap_19 : decode cX4_swap 19 = .ok (.ifCond .ne 10, 3) := by decide +kernel
theorem dX4_swap_22 : decode cX4_swap 22 = .ok (.aload_n 0, 1) := by decide +kernel
theorem dX4_swap_23 : decode cX4_swap 23 = .ok (.bipush (-2), 2) := by decide +kernel
theorem dX4_swap_25 : decode cX4_swap 25 = .ok (.invokevirtual 61, 3) := by decide +kernel
theorem dX4_swap_28 : decode cX4_swap 28 = .ok (.ireturn, 1) := by decide +kernel
theorem dX4_swap_29 : decode cX4_swap 29 = .ok (.iload_n 1, 1) := by decide +kernel
theorem dX4_swap_30 : decode cX4_swap 30 = .ok (.iload_n 2, 1) := by decide +kernel
theorem dX4_swap_31 : decode cX4_swap 31 = .ok (.if_icmp .ne 5, 3) := by decide +kernel
theorem dX4_swap_34 : decode cX4_swap 34 = .ok (.iconst 0, 1) := by decide +kernel
theorem dX4_swap_35 : decode cX4_swap 35 = .ok (.ireturn, 1) := by decide +kernel
theorem dX4_swap_36 : decode cX4_swap 36 = .ok (.aload_n 0, 1) := by decide +kernel
theorem dX4_swap_37 : decode cX4_swap 37 = .ok (.getfield 10, 3) := by decide +kernel
theorem dX4_swap_40 : decode cX4_swap 40 = .ok (.iload_n 1, 1) := by decide +kernel
theorem dX4_swap_41 : decode cX4_swap 41 = .ok (.iload_n 2, 1) := by decide +kernel
theorem dX4_swap_42 : decode cX4_swap 42 = .ok (.invokevirtual 283, 3) := by decide +kernel
theorem dX4_swap_45 : decode cX4_swap 45 = .ok (.ifCond .ne 10, 3) := by decide +kernel
theorem dX4_swap_48 : decode cX4_swap 48 = .ok (.aload_n 0, 1) := by decide +kernel
theorem dX4_swap_49 : decode cX4_swap 49 = .ok (.bipush (-5), 2) := by decide +kernel
theorem dX4_swap_51 : decode cX4_swap 51 = .ok (.invokevirtual 61, 3) := by decide +kernel
theorem dX4_swap_54 : decode cX4_swap 54 = .ok (.ireturn, 1) := by decide +kernel
theorem dX4_swap_55 : decode cX4_swap 55 = .ok (.aload_n 0, 1) := by decide +kernel
theorem dX4_swap_56 : decode cX4_swap 56 = .ok (.getfield 10, 3) := by decide +kernel
theorem dX4_swap_59 : decode cX4_swap 59 = .ok (.iload_n 1, 1) := by decide +kernel
theorem dX4_swap_60 : decode cX4_swap 60 = .ok (.iload_n 2, 1) := by decide +kernel
theorem dX4_swap_61 : decode cX4_swap 61 = .ok (.invokevirtual 286, 3) := by decide +kernel
theorem dX4_swap_64 : decode cX4_swap 64 = .ok (.iconst 1, 1) := by decide +kernel
theorem dX4_swap_65 : decode cX4_swap 65 = .ok (.ireturn, 1) := by decide +kernel
theorem dX4_move_0 : decode cX4_move 0 = .ok (.aload_n 0, 1) := by decide +kernel
theorem dX4_move_1 : decode cX4_move 1 = .ok (.getfield 10, 3) := by decide +kernel
theorem dX4_move_4 : decode cX4_move 4 = .ok (.iload_n 1, 1) := by decide +kernel
theorem dX4_move_5 : decode cX4_move 5 = .ok (.invokevirtual 166, 3) := by decide +kernel
theorem dX4_move_8 : decode cX4_move 8 = .ok (.ifCond .eq 14, 3) := by decide +kernel
theorem dX4_move_11 : decode cX4_move 11 = .ok (.aload_n 0, 1) := by decide +kernel
theorem dX4_move_12 : decode cX4_move 12 = .ok (.getfield 10, 3) := by decide +kernel
theorem dX4_move_15 : decode cX4_move 15 = .ok (.iload_n 2, 1) := by decide +kernel
theorem dX4_move_16 : decode cX4_move 16 = .ok (.invokevirtual 202, 3) := by decide +kernel
theorem dX4_move_19 : decode cX4_move 19 = .ok (.ifCond .ne 10, 3) := by decide +kernel
theorem dX4_move_22 : decode cX4_move 22 = .ok (.aload_n 0, 1) := by decide +kernel
theorem dX4_move_23 : decode cX4_move 23 = .ok (.bipush (-2), 2) := by decide +kernel
theorem dX4_move_25 : decode cX4_move 25 = .ok (.invokevirtual 61, 3) := by decide +kernel
theorem dX4_move_28 : decode cX4_move 28 = .ok (.ireturn, 1) := by decide +kernel
theorem dX4_move_29 : decode cX4_move 29 = .ok (.aload_n 0, 1) := by decide +kernel
theorem dX4_move_30 : decode cX4_move 30 = .ok (.getfield 10, 3) := by decide +kernel
theorem dX4_move_33 : decode cX4_move 33 = .ok (.getfield 175, 3) := by decide +kernel
theorem dX4_move_36 : decode cX4_move 36 = .ok (.iload_n 1, 1) := by decide +kernel
theorem dX4_move_37 : decode cX4_move 37 = .ok (.iaload, 1) := by decide +kernel
theorem dX4_move_38 : decode cX4_move 38 = .ok (.istore_n 3, 1) := by decide +kernel
theorem dX4_move_39 : decode cX4_move 39 = .ok (.aload_n 0, 1) := by decide +kernel
theorem dX4_move_40 : decode cX4_move 40 = .ok (.getfield 10, 3) := by decide +kernel
theorem dX4_move_43 : decode cX4_move 43 = .ok (.iload_n 1, 1) := by decide +kernel
theorem dX4_move_44 : decode cX4_move 44 = .ok (.iload_n 2, 1) := by decide +kernel
theorem dX4_move_45 : decode cX4_move 45 = .ok (.invokevirtual 289, 3) := by decide +kernel
theorem dX4_move_48 : decode cX4_move 48 = .ok (.iload_n 3, 1) := by decide +kernel
theorem dX4_move_49 : decode cX4_move 49 = .ok (.ireturn, 1) := by decide +kernel
theorem dX4_turn_0 : decode cX4_turn 0 = .ok (.aload_n 0, 1) := by decide +kernel
theorem dX4_turn_1 : decode cX4_turn 1 = .ok (.getfield 10, 3) := by decide +kernel
theorem dX4_turn_4 : decode cX4_turn 4 = .ok (.invokevirtual 220, 3) := by decide +kernel
theorem dX4_turn_7 : decode cX4_turn 7 = .ok (.aload_n 0, 1) := by decide +kernel
theorem dX4_turn_8 : decode cX4_turn 8 = .ok (.getfield 10, 3) := by decide +kernel
theorem dX4_turn_11 : decode cX4_turn 11 = .ok (.getfield 128, 3) := by decide +kernel
theorem dX4_turn_14 : decode cX4_turn 14 = .ok (.ifCond .ne 7, 3) := by decide +kernel
theorem dX4_turn_17 : decode cX4_turn 17 = .ok (.iconst (-1), 1) := by decide +kernel
theorem dX4_turn_18 : decode cX4_turn 18 = .ok (.goto 12, 3) := by decide +kernel
theorem dX4_turn_21 : decode cX4_turn 21 = .ok (.aload_n 0, 1) := by decide +kernel
theorem dX4_turn_22 : decode cX4_turn 22 = .ok (.getfield 10, 3) := by decide +kernel
theorem dX4_turn_25 : decode cX4_turn 25 = .ok (.getfield 205, 3) := by decide +kernel
theorem dX4_turn_28 : decode cX4_turn 28 = .ok (.iconst 0, 1) := by decide +kernel
theorem dX4_turn_29 : decode cX4_turn 29 = .ok (.iaload, 1) := by decide +kernel
theorem dX4_turn_30 : decode cX4_turn 30 = .ok (.ireturn, 1) := by decide +kernel
theorem dX4_leaves_0 : decode cX4_leaves 0 = .ok (.aload_n 0, 1) := by decide +kernel
theorem dX4_leaves_1 : decode cX4_leaves 1 = .ok (.getfield 10, 3) := by decide +kernel
theorem dX4_leaves_4 : decode cX4_leaves 4 = .ok (.getfield 128, 3) := by decide +kernel
theorem dX4_leaves_7 : decode cX4_leaves 7 = .ok (.ifCond .ne 10, 3) := by decide +kernel
theorem dX4_leaves_10 : decode cX4_leaves 10 = .ok (.aload_n 0, 1) := by decide +kernel
theorem dX4_leaves_11 : decode cX4_leaves 11 = .ok (.bipush (-5), 2) := by decide +kernel
theorem dX4_leaves_13 : decode cX4_leaves 13 = .ok (.invokevirtual 61, 3) := by decide +kernel
theorem dX4_leaves_16 : decode cX4_leaves 16 = .ok (.ireturn, 1) := by decide +kernel
theorem dX4_leaves_17 : decode cX4_leaves 17 = .ok (.aload_n 0, 1) := by decide +kernel
theorem dX4_leaves_18 : decode cX4_leaves 18 = .ok (.getfield 10, 3) := by decide +kernel
theorem dX4_leaves_21 : decode cX4_leaves 21 = .ok (.invokevirtual 292, 3) := by decide +kernel
theorem dX4_leaves_24 : decode cX4_leaves 24 = .ok (.aload_n 0, 1) := by decide +kernel
theorem dX4_leaves_25 : decode cX4_leaves 25 = .ok (.getfield 10, 3) := by decide +kernel
theorem dX4_leaves_28 : decode cX4_leaves 28 = .ok (.getfield 128, 3) := by decide +kernel
theorem dX4_leaves_31 : decode cX4_leaves 31 = .ok (.ireturn, 1) := by decide +kernel
theorem dX4_term_0 : decode cX4_term 0 = .ok (.iload_n 1, 1) := by decide +kernel
theorem dX4_term_1 : decode cX4_term 1 = .ok (.iconst 1, 1) := by decide +kernel
theorem dX4_term_2 : decode cX4_term 2 = .ok (.bipush 60, 2) := by decide +kernel
theorem dX4_term_4 : decode cX4_term 4 = .ok (.invokestatic 57, 3) := by decide +kernel
theorem dX4_term_7 : decode cX4_term 7 = .ok (.ifCond .ne 10, 3) := by decide +kernel
theorem dX4_term_10 : decode cX4_term 10 = .ok (.aload_n 0, 1) := by decide +kernel
theorem dX4_term_11 : decode cX4_term 11 = .ok (.bipush (-2), 2) := by decide +kernel
theorem dX4_term_13 : decode cX4_term 13 = .ok (.invokevirtual 61, 3) := by decide +kernel
theorem dX4_term_16 : decode cX4_term 16 = .ok (.ireturn, 1) := by decide +kernel
theorem dX4_term_17 : decode cX4_term 17 = .ok (.aload_n 0, 1) := by decide +kernel
theorem dX4_term_18 : decode cX4_term 18 = .ok (.getfield 10, 3) := by decide +kernel
theorem dX4_term_21 : decode cX4_term 21 = .ok (.getfield 128, 3) := by decide +kernel
theorem dX4_term_24 : decode cX4_term 24 = .ok (.ifCond .eq 13, 3) := by decide +kernel
theorem dX4_term_27 : decode cX4_term 27 = .ok (.aload_n 0, 1) := by decide +kernel
theorem dX4_term_28 : decode cX4_term 28 = .ok (.getfield 10, 3) := by decide +kernel
theorem dX4_term_31 : decode cX4_term 31 = .ok (.getfield 134, 3) := by decide +kernel
theorem dX4_term_34 : decode cX4_term 34 = .ok (.ifCond .ne 10, 3) := by decide +kernel
theorem dX4_term_37 : decode cX4_term 37 = .ok (.aload_n 0, 1) := by decide +kernel
theorem dX4_term_38 : decode cX4_term 38 = .ok (.bipush (-5), 2) := by decide +kernel
theorem dX4_term_40 : decode cX4_term 40 = .ok (.invokevirtual 61, 3) := by decide +kernel
theorem dX4_term_43 : decode cX4_term 43 = .ok (.ireturn, 1) := by decide +kernel
theorem dX4_term_44 : decode cX4_term 44 = .ok (.iconst 0, 1) := by decide +kernel
theorem dX4_term_45 : decode cX4_term 45 = .ok (.istore_n 2, 1) := by decide +kernel
theorem dX4_term_46 : decode cX4_term 46 = .ok (.iconst 0, 1) := by decide +kernel
theorem dX4_term_47 : decode cX4_term 47 = .ok (.istore_n 3, 1) := by decide +kernel
theorem dX4_term_48 : decode cX4_term 48 = .ok (.iload_n 3, 1) := by decide +kernel
theorem dX4_term_49 : decode cX4_term 49 = .ok (.iload_n 1, 1) := by decide +kernel
theorem dX4_term_50 : decode cX4_term 50 = .ok (.if_icmp .ge 76, 3) := by decide +kernel
theorem dX4_term_53 : decode cX4_term 53 = .ok (.aload_n 0, 1) := by decide +kernel
theorem dX4_term_54 : decode cX4_term 54 = .ok (.getfield 10, 3) := by decide +kernel
theorem dX4_term_57 : decode cX4_term 57 = .ok (.aload_n 0, 1) := by decide +kernel
theorem dX4_term_58 : decode cX4_term 58 = .ok (.getfield 10, 3) := by decide +kernel
theorem dX4_term_61 : decode cX4_term 61 = .ok (.getfield 128, 3) := by decide +kernel
theorem dX4_term_64 : decode cX4_term 64 = .ok (.invokevirtual 295, 3) := by decide +kernel
theorem dX4_term_67 : decode cX4_term 67 = .ok (.istore 4, 2) := by decide +kernel
theorem dX4_term_69 : decode cX4_term 69 = .ok (.aload_n 0, 1) := by decide +kernel
theorem dX4_term_70 : decode cX4_term 70 = .ok (.getfield 10, 3) := by decide +kernel
theorem dX4_term_73 : decode cX4_term 73 = .ok (.aload_n 0, 1) := by decide +kernel
theorem dX4_term_74 : decode cX4_term 74 = .ok (.getfield 10, 3) := by decide +kernel
theorem dX4_term_77 : decode cX4_term 77 = .ok (.getfield 128, 3) := by decide +kernel
theorem dX4_term_80 : decode cX4_term 80 = .ok (.invokevirtual 295, 3) := by decide +kernel
theorem dX4_term_83 : decode cX4_term 83 = .ok (.istore 5, 2) := by decide +kernel
theorem dX4_term_85 : decode cX4_term 85 = .ok (.aload_n 0, 1) := by decide +kernel
theorem dX4_term_86 : decode cX4_term 86 = .ok (.getfield 10, 3) := by decide +kernel
theorem dX4_term_89 : decode cX4_term 89 = .ok (.iload 4, 2) := by decide +kernel
theorem dX4_term_91 : decode cX4_term 91 = .ok (.iload 5, 2) := by decide +kernel
theorem dX4_term_93 : decode cX4_term 93 = .ok (.invokevirtual 286, 3) := by decide +kernel
theorem dX4_term_96 : decode cX4_term 96 = .ok (.iload_n 2, 1) := by decide +kernel
theorem dX4_term_97 : decode cX4_term 97 = .ok (.aload_n 0, 1) := by decide +kernel
theorem dX4_term_98 : decode cX4_term 98 = .ok (.getfield 10, 3) := by decide +kernel
theorem dX4_term_101 : decode cX4_term 101 = .ok (.aload_n 0, 1) := by decide +kernel
theorem dX4_term_102 : decode cX4_term 102 = .ok (.getfield 10, 3) := by decide +kernel
theorem dX4_term_105 : decode cX4_term 105 = .ok (.aload_n 0, 1) := by decide +kernel
theorem dX4_term_106 : decode cX4_term 106 = .ok (.getfield 10, 3) := by decide +kernel
theorem dX4_term_109 : decode cX4_term 109 = .ok (.getfield 134, 3) := by decide +kernel
theorem dX4_term_112 : decode cX4_term 112 = .ok (.invokevirtual 295, 3) := by decide +kernel
theorem dX4_term_115 : decode cX4_term 115 = .ok (.invokevirtual 223, 3) := by decide +kernel
theorem dX4_term_118 : decode cX4_term 118 = .ok (.iadd, 1) := by decide +kernel
theorem dX4_term_119 : decode cX4_term 119 = .ok (.istore_n 2, 1) := by decide +kernel
theorem dX4_term_120 : decode cX4_term 120 = .ok (.iinc 3 1, 3) := by decide +kernel
theorem dX4_term_123 : decode cX4_term 123 = .ok (.goto (-75), 3) := by decide +kernel
theorem dX4_term_126 : decode cX4_term 126 = .ok (.iload_n 2, 1) := by decide +kernel
theorem dX4_term_127 : decode cX4_term 127 = .ok (.ireturn, 1) := by decide +kernel
theorem dX4_seed_0 : decode cX4_seed 0 = .ok (.aload_n 0, 1) := by decide +kernel
theorem dX4_seed_1 : decode cX4_seed 1 = .ok (.getfield 10, 3) := by decide +kernel
theorem dX4_seed_4 : decode cX4_seed 4 = .ok (.getfield 298, 3) := by decide +kernel
theorem dX4_seed_7 : decode cX4_seed 7 = .ok (.istore_n 2, 1) := by decide +kernel
theorem dX4_seed_8 : decode cX4_seed 8 = .ok (.aload_n 0, 1) := by decide +kernel
theorem dX4_seed_9 : decode cX4_seed 9 = .ok (.getfield 10, 3) := by decide +kernel
theorem dX4_seed_12 : decode cX4_seed 12 = .ok (.iload_n 1, 1) := by decide +kernel
theorem dX4_seed_13 : decode cX4_seed 13 = .ok (.putfield 298, 3) := by decide +kernel
theorem dX4_seed_16 : decode cX4_seed 16 = .ok (.iload_n 2, 1) := by decide +kernel
theorem dX4_seed_17 : decode cX4_seed 17 = .ok (.ireturn, 1) := by decide +kernel
theorem dX4_image_0 : decode cX4_image 0 = .ok (.aload_n 0, 1) := by decide +kernel
theorem dX4_image_1 : decode cX4_image 1 = .ok (.getfield 16, 3) := by decide +kernel
theorem dX4_image_4 : decode cX4_image 4 = .ok (.aload_n 0, 1) := by decide +kernel
theorem dX4_image_5 : decode cX4_image 5 = .ok (.getfield 10, 3) := by decide +kernel
theorem dX4_image_8 : decode cX4_image 8 = .ok (.invokevirtual 159, 3) := by decide +kernel
theorem dX4_image_11 : decode cX4_image 11 = .ok (.aload_n 0, 1) := by decide +kernel
theorem dX4_image_12 : decode cX4_image 12 = .ok (.iconst 1, 1) := by decide +kernel
theorem dX4_image_13 : decode cX4_image 13 = .ok (.putfield 48, 3) := by decide +kernel
theorem dX4_image_16 : decode cX4_image 16 = .ok (.iconst 1, 1) := by decide +kernel
theorem dX4_image_17 : decode cX4_image 17 = .ok (.ireturn, 1) := by decide +kernel
theorem dX4_back_0 : decode cX4_back 0 = .ok (.aload_n 0, 1) := by decide +kernel
theorem dX4_back_1 : decode cX4_back 1 = .ok (.getfield 48, 3) := by decide +kernel
theorem dX4_back_4 : decode cX4_back 4 = .ok (.ifCond .ne 10, 3) := by decide +kernel
theorem dX4_back_7 : decode cX4_back 7 = .ok (.aload_n 0, 1) := by decide +kernel
theorem dX4_back_8 : decode cX4_back 8 = .ok (.bipush (-5), 2) := by decide +kernel
theorem dX4_back_10 : decode cX4_back 10 = .ok (.invokevirtual 61, 3) := by decide +kernel
theorem dX4_back_13 : decode cX4_back 13 = .ok (.ireturn, 1) := by decide +kernel
theorem dX4_back_14 : decode cX4_back 14 = .ok (.aload_n 0, 1) := by decide +kernel
theorem dX4_back_15 : decode cX4_back 15 = .ok (.getfield 10, 3) := by decide +kernel
theorem dX4_back_18 : decode cX4_back 18 = .ok (.aload_n 0, 1) := by decide +kernel
theorem dX4_back_19 : decode cX4_back 19 = .ok (.getfield 16, 3) := by decide +kernel
theorem dX4_back_22 : decode cX4_back 22 = .ok (.invokevirtual 159, 3) := by decide +kernel
theorem dX4_back_25 : decode cX4_back 25 = .ok (.iconst 0, 1) := by decide +kernel
theorem dX4_back_26 : decode cX4_back 26 = .ok (.istore_n 1, 1) := by decide +kernel
theorem dX4_back_27 : decode cX4_back 27 = .ok (.iload_n 1, 1) := by decide +kernel
theorem dX4_back_28 : decode cX4_back 28 = .ok (.bipush 8, 2) := by decide +kernel
theorem dX4_back_30 : decode cX4_back 30 = .ok (.if_icmp .ge 49, 3) := by decide +kernel
theorem dX4_back_33 : decode cX4_back 33 = .ok (.aload_n 0, 1) := by decide +kernel
theorem dX4_back_34 : decode cX4_back 34 = .ok (.getfield 40, 3) := by decide +kernel
theorem dX4_back_37 : decode cX4_back 37 = .ok (.iload_n 1, 1) := by decide +kernel
theorem dX4_back_38 : decode cX4_back 38 = .ok (.aaload, 1) := by decide +kernel
theorem dX4_back_39 : decode cX4_back 39 = .ok (.invokevirtual 301, 3) := by decide +kernel
theorem dX4_back_42 : decode cX4_back 42 = .ok (.ifCond .eq 31, 3) := by decide +kernel
theorem dX4_back_45 : decode cX4_back 45 = .ok (.aload_n 0, 1) := by decide +kernel
theorem dX4_back_46 : decode cX4_back 46 = .ok (.getfield 10, 3) := by decide +kernel
theorem dX4_back_49 : decode cX4_back 49 = .ok (.aload_n 0, 1) := by decide +kernel
theorem dX4_back_50 : decode cX4_back 50 = .ok (.getfield 40, 3) := by decide +kernel
theorem dX4_back_53 : decode cX4_back 53 = .ok (.iload_n 1, 1) := by decide +kernel
theorem dX4_back_54 : decode cX4_back 54 = .ok (.aaload, 1) := by decide +kernel
theorem dX4_back_55 : decode cX4_back 55 = .ok (.invokevirtual 115, 3) := by decide +kernel
theorem dX4_back_58 : decode cX4_back 58 = .ok (.invokevirtual 101, 3) := by decide +kernel
theorem dX4_back_61 : decode cX4_back 61 = .ok (.ifCond .ne 12, 3) := by decide +kernel
theorem dX4_back_64 : decode cX4_back 64 = .ok (.aload_n 0, 1) := by decide +kernel
theorem dX4_back_65 : decode cX4_back 65 = .ok (.getfield 40, 3) := by decide +kernel
theorem dX4_back_68 : decode cX4_back 68 = .ok (.iload_n 1, 1) := by decide +kernel
theorem dX4_back_69 : decode cX4_back 69 = .ok (.aaload, 1) := by decide +kernel
theorem dX4_back_70 : decode cX4_back 70 = .ok (.invokevirtual 104, 3) := by decide +kernel
theorem dX4_back_73 : decode cX4_back 73 = .ok (.iinc 1 1, 3) := by decide +kernel
theorem dX4_back_76 : decode cX4_back 76 = .ok (.goto (-49), 3) := by decide +kernel
theorem dX4_back_79 : decode cX4_back 79 = .ok (.iconst 1, 1) := by decide +kernel
theorem dX4_back_80 : decode cX4_back 80 = .ok (.ireturn, 1) := by decide +kernel
theorem dX4_status_0 : decode cX4_status 0 = .ok (.iload_n 1, 1) := by decide +kernel
theorem dX4_status_1 : decode cX4_status 1 = .ok (.tableswitch 108 0 7 #[47, 55, 63, 71, 79, 87, 95, 103], 47) := by decide +kernel
theorem dX4_status_48 : decode cX4_status 48 = .ok (.aload_n 0, 1) := by decide +kernel
theorem dX4_status_49 : decode cX4_status 49 = .ok (.getfield 10, 3) := by decide +kernel
theorem dX4_status_52 : decode cX4_status 52 = .ok (.getfield 128, 3) := by decide +kernel
theorem dX4_status_55 : decode cX4_status 55 = .ok (.ireturn, 1) := by decide +kernel
theorem dX4_status_56 : decode cX4_status 56 = .ok (.aload_n 0, 1) := by decide +kernel
theorem dX4_status_57 : decode cX4_status 57 = .ok (.getfield 10, 3) := by decide +kernel
theorem dX4_status_60 : decode cX4_status 60 = .ok (.getfield 134, 3) := by decide +kernel
theorem dX4_status_63 : decode cX4_status 63 = .ok (.ireturn, 1) := by decide +kernel
theorem dX4_status_64 : decode cX4_status 64 = .ok (.aload_n 0, 1) := by decide +kernel
theorem dX4_status_65 : decode cX4_status 65 = .ok (.getfield 10, 3) := by decide +kernel
theorem dX4_status_68 : decode cX4_status 68 = .ok (.getfield 144, 3) := by decide +kernel
theorem dX4_status_71 : decode cX4_status 71 = .ok (.ireturn, 1) := by decide +kernel
theorem dX4_status_72 : decode cX4_status 72 = .ok (.aload_n 0, 1) := by decide +kernel
theorem dX4_status_73 : decode cX4_status 73 = .ok (.getfield 10, 3) := by decide +kernel
theorem dX4_status_76 : decode cX4_status 76 = .ok (.invokevirtual 304, 3) := by decide +kernel
theorem dX4_status_79 : decode cX4_status 79 = .ok (.ireturn, 1) := by decide +kernel
theorem dX4_status_80 : decode cX4_status 80 = .ok (.aload_n 0, 1) := by decide +kernel
theorem dX4_status_81 : decode cX4_status 81 = .ok (.getfield 10, 3) := by decide +kernel
theorem dX4_status_84 : decode cX4_status 84 = .ok (.invokevirtual 307, 3) := by decide +kernel
theorem dX4_status_87 : decode cX4_status 87 = .ok (.ireturn, 1) := by decide +kernel
theorem dX4_status_88 : decode cX4_status 88 = .ok (.aload_n 0, 1) := by decide +kernel
theorem dX4_status_89 : decode cX4_status 89 = .ok (.getfield 34, 3) := by decide +kernel
theorem dX4_status_92 : decode cX4_status 92 = .ok (.getfield 151, 3) := by decide +kernel
theorem dX4_status_95 : decode cX4_status 95 = .ok (.ireturn, 1) := by decide +kernel
theorem dX4_status_96 : decode cX4_status 96 = .ok (.aload_n 0, 1) := by decide +kernel
theorem dX4_status_97 : decode cX4_status 97 = .ok (.getfield 10, 3) := by decide +kernel
theorem dX4_status_100 : decode cX4_status 100 = .ok (.getfield 298, 3) := by decide +kernel
theorem dX4_status_103 : decode cX4_status 103 = .ok (.ireturn, 1) := by decide +kernel
theorem dX4_status_104 : decode cX4_status 104 = .ok (.aload_n 0, 1) := by decide +kernel
theorem dX4_status_105 : decode cX4_status 105 = .ok (.invokevirtual 310, 3) := by decide +kernel
theorem dX4_status_108 : decode cX4_status 108 = .ok (.ireturn, 1) := by decide +kernel
theorem dX4_status_109 : decode cX4_status 109 = .ok (.iload_n 1, 1) := by decide +kernel
theorem dX4_status_110 : decode cX4_status 110 = .ok (.bipush 12, 2) := by decide +kernel
theorem dX4_status_112 : decode cX4_status 112 = .ok (.bipush 16, 2) := by decide +kernel
theorem dX4_status_114 : decode cX4_status 114 = .ok (.invokestatic 57, 3) := by decide +kernel
theorem dX4_status_117 : decode cX4_status 117 = .ok (.ifCond .eq 15, 3) := by decide +kernel
theorem dX4_status_120 : decode cX4_status 120 = .ok (.aload_n 0, 1) := by decide +kernel
theorem dX4_status_121 : decode cX4_status 121 = .ok (.getfield 44, 3) := by decide +kernel
theorem dX4_status_124 : decode cX4_status 124 = .ok (.iload_n 1, 1) := by decide +kernel
theorem dX4_status_125 : decode cX4_status 125 = .ok (.bipush 12, 2) := by decide +kernel
theorem dX4_status_127 : decode cX4_status 127 = .ok (.isub, 1) := by decide +kernel
theorem dX4_status_128 : decode cX4_status 128 = .ok (.iaload, 1) := by decide +kernel
theorem dX4_status_129 : decode cX4_status 129 = .ok (.goto 4, 3) := by decide +kernel
theorem dX4_status_132 : decode cX4_status 132 = .ok (.iconst (-1), 1) := by decide +kernel
theorem dX4_status_133 : decode cX4_status 133 = .ok (.ireturn, 1) := by decide +kernel
theorem dX4_within_0 : decode cX4_within 0 = .ok (.iload_n 0, 1) := by decide +kernel
theorem dX4_within_1 : decode cX4_within 1 = .ok (.iload_n 1, 1) := by decide +kernel
theorem dX4_within_2 : decode cX4_within 2 = .ok (.if_icmp .lt 12, 3) := by decide +kernel
theorem dX4_within_5 : decode cX4_within 5 = .ok (.iload_n 0, 1) := by decide +kernel
theorem dX4_within_6 : decode cX4_within 6 = .ok (.iload_n 2, 1) := by decide +kernel
theorem dX4_within_7 : decode cX4_within 7 = .ok (.if_icmp .gt 7, 3) := by decide +kernel
theorem dX4_within_10 : decode cX4_within 10 = .ok (.iconst 1, 1) := by decide +kernel
theorem dX4_within_11 : decode cX4_within 11 = .ok (.goto 4, 3) := by decide +kernel
theorem dX4_within_14 : decode cX4_within 14 = .ok (.iconst 0, 1) := by decide +kernel
theorem dX4_within_15 : decode cX4_within 15 = .ok (.ireturn, 1) := by decide +kernel
theorem dX4_isShelf_0 : decode cX4_isShelf 0 = .ok (.iload_n 0, 1) := by decide +kernel
theorem dX4_isShelf_1 : decode cX4_isShelf 1 = .ok (.iconst 0, 1) := by decide +kernel
theorem dX4_isShelf_2 : decode cX4_isShelf 2 = .ok (.bipush 7, 2) := by decide +kernel
theorem dX4_isShelf_4 : decode cX4_isShelf 4 = .ok (.invokestatic 57, 3) := by decide +kernel
theorem dX4_isShelf_7 : decode cX4_isShelf 7 = .ok (.ireturn, 1) := by decide +kernel
theorem dX4_isOfKind_0 : decode cX4_isOfKind 0 = .ok (.iload_n 1, 1) := by decide +kernel
theorem dX4_isOfKind_1 : decode cX4_isOfKind 1 = .ok (.ifCond .eq 17, 3) := by decide +kernel
theorem dX4_isOfKind_4 : decode cX4_isOfKind 4 = .ok (.iload_n 0, 1) := by decide +kernel
theorem dX4_isOfKind_5 : decode cX4_isOfKind 5 = .ok (.iload_n 1, 1) := by decide +kernel
theorem dX4_isOfKind_6 : decode cX4_isOfKind 6 = .ok (.if_icmp .eq 12, 3) := by decide +kernel
theorem dX4_isOfKind_9 : decode cX4_isOfKind 9 = .ok (.getstatic 313, 3) := by decide +kernel
theorem dX4_isOfKind_12 : decode cX4_isOfKind 12 = .ok (.iload_n 0, 1) := by decide +kernel
theorem dX4_isOfKind_13 : decode cX4_isOfKind 13 = .ok (.iaload, 1) := by decide +kernel
theorem dX4_isOfKind_14 : decode cX4_isOfKind 14 = .ok (.iload_n 1, 1) := by decide +kernel
theorem dX4_isOfKind_15 : decode cX4_isOfKind 15 = .ok (.if_icmp .ne 7, 3) := by decide +kernel
theorem dX4_isOfKind_18 : decode cX4_isOfKind 18 = .ok (.iconst 1, 1) := by decide +kernel
theorem dX4_isOfKind_19 : decode cX4_isOfKind 19 = .ok (.goto 4, 3) := by decide +kernel
theorem dX4_isOfKind_22 : decode cX4_isOfKind 22 = .ok (.iconst 0, 1) := by decide +kernel
theorem dX4_isOfKind_23 : decode cX4_isOfKind 23 = .ok (.ireturn, 1) := by decide +kernel
theorem dX4_areTwo_0 : decode cX4_areTwo 0 = .ok (.aload_n 0, 1) := by decide +kernel
theorem dX4_areTwo_1 : decode cX4_areTwo 1 = .ok (.getfield 10, 3) := by decide +kernel
theorem dX4_areTwo_4 : decode cX4_areTwo 4 = .ok (.iload_n 1, 1) := by decide +kernel
theorem dX4_areTwo_5 : decode cX4_areTwo 5 = .ok (.invokevirtual 166, 3) := by decide +kernel
theorem dX4_areTwo_8 : decode cX4_areTwo 8 = .ok (.ifCond .eq 23, 3) := by decide +kernel
theorem dX4_areTwo_11 : decode cX4_areTwo 11 = .ok (.aload_n 0, 1) := by decide +kernel
theorem dX4_areTwo_12 : decode cX4_areTwo 12 = .ok (.getfield 10, 3) := by decide +kernel
theorem dX4_areTwo_15 : decode cX4_areTwo 15 = .ok (.iload_n 2, 1) := by decide +kernel
theorem dX4_areTwo_16 : decode cX4_areTwo 16 = .ok (.invokevirtual 166, 3) := by decide +kernel
theorem dX4_areTwo_19 : decode cX4_areTwo 19 = .ok (.ifCond .eq 12, 3) := by decide +kernel
theorem dX4_areTwo_22 : decode cX4_areTwo 22 = .ok (.iload_n 1, 1) := by decide +kernel
theorem dX4_areTwo_23 : decode cX4_areTwo 23 = .ok (.iload_n 2, 1) := by decide +kernel
theorem dX4_areTwo_24 : decode cX4_areTwo 24 = .ok (.if_icmp .eq 7, 3) := by decide +kernel
theorem dX4_areTwo_27 : decode cX4_areTwo 27 = .ok (.iconst 1, 1) := by decide +kernel
theorem dX4_areTwo_28 : decode cX4_areTwo 28 = .ok (.goto 4, 3) := by decide +kernel
theorem dX4_areTwo_31 : decode cX4_areTwo 31 = .ok (.iconst 0, 1) := by decide +kernel
theorem dX4_areTwo_32 : decode cX4_areTwo 32 = .ok (.ireturn, 1) := by decide +kernel
theorem dX4_refuse_0 : decode cX4_refuse 0 = .ok (.bipush (-2), 2) := by decide +kernel
theorem dX4_refuse_2 : decode cX4_refuse 2 = .ok (.iload_n 1, 1) := by decide +kernel
theorem dX4_refuse_3 : decode cX4_refuse 3 = .ok (.isub, 1) := by decide +kernel
theorem dX4_refuse_4 : decode cX4_refuse 4 = .ok (.istore_n 2, 1) := by decide +kernel
theorem dX4_refuse_5 : decode cX4_refuse 5 = .ok (.iload_n 2, 1) := by decide +kernel
theorem dX4_refuse_6 : decode cX4_refuse 6 = .ok (.iconst 0, 1) := by decide +kernel
theorem dX4_refuse_7 : decode cX4_refuse 7 = .ok (.iconst 4, 1) := by decide +kernel
theorem dX4_refuse_8 : decode cX4_refuse 8 = .ok (.invokestatic 57, 3) := by decide +kernel
theorem dX4_refuse_11 : decode cX4_refuse 11 = .ok (.ifCond .eq 13, 3) := by decide +kernel
theorem dX4_refuse_14 : decode cX4_refuse 14 = .ok (.aload_n 0, 1) := by decide +kernel
theorem dX4_refuse_15 : decode cX4_refuse 15 = .ok (.getfield 44, 3) := by decide +kernel
theorem dX4_refuse_18 : decode cX4_refuse 18 = .ok (.iload_n 2, 1) := by decide +kernel
theorem dX4_refuse_19 : decode cX4_refuse 19 = .ok (.dup2, 1) := by decide +kernel
theorem dX4_refuse_20 : decode cX4_refuse 20 = .ok (.iaload, 1) := by decide +kernel
theorem dX4_refuse_21 : decode cX4_refuse 21 = .ok (.iconst 1, 1) := by decide +kernel
theorem dX4_refuse_22 : decode cX4_refuse 22 = .ok (.iadd, 1) := by decide +kernel
theorem dX4_refuse_23 : decode cX4_refuse 23 = .ok (.iastore, 1) := by decide +kernel
theorem dX4_refuse_24 : decode cX4_refuse 24 = .ok (.iload_n 1, 1) := by decide +kernel
theorem dX4_refuse_25 : decode cX4_refuse 25 = .ok (.ireturn, 1) := by decide +kernel
theorem dX4_rowTrouble_0 : decode cX4_rowTrouble 0 = .ok (.iload_n 1, 1) := by decide +kernel
theorem dX4_rowTrouble_1 : decode cX4_rowTrouble 1 = .ok (.invokestatic 53, 3) := by decide +kernel
theorem dX4_rowTrouble_4 : decode cX4_rowTrouble 4 = .ok (.ifCond .ne 6, 3) := by decide +kernel
theorem dX4_rowTrouble_7 : decode cX4_rowTrouble 7 = .ok (.bipush (-2), 2) := by decide +kernel
theorem dX4_rowTrouble_9 : decode cX4_rowTrouble 9 = .ok (.ireturn, 1) := by decide +kernel
theorem dX4_rowTrouble_10 : decode cX4_rowTrouble 10 = .ok (.aload_n 0, 1) := by decide +kernel
theorem dX4_rowTrouble_11 : decode cX4_rowTrouble 11 = .ok (.getfield 40, 3) := by decide +kernel
theorem dX4_rowTrouble_14 : decode cX4_rowTrouble 14 = .ok (.iload_n 1, 1) := by decide +kernel
theorem dX4_rowTrouble_15 : decode cX4_rowTrouble 15 = .ok (.aaload, 1) := by decide +kernel
theorem dX4_rowTrouble_16 : decode cX4_rowTrouble 16 = .ok (.invokevirtual 301, 3) := by decide +kernel
theorem dX4_rowTrouble_19 : decode cX4_rowTrouble 19 = .ok (.ifCond .eq 6, 3) := by decide +kernel
theorem dX4_rowTrouble_22 : decode cX4_rowTrouble 22 = .ok (.bipush (-3), 2) := by decide +kernel
theorem dX4_rowTrouble_24 : decode cX4_rowTrouble 24 = .ok (.ireturn, 1) := by decide +kernel
theorem dX4_rowTrouble_25 : decode cX4_rowTrouble 25 = .ok (.aload_n 0, 1) := by decide +kernel
theorem dX4_rowTrouble_26 : decode cX4_rowTrouble 26 = .ok (.getfield 40, 3) := by decide +kernel
theorem dX4_rowTrouble_29 : decode cX4_rowTrouble 29 = .ok (.iload_n 1, 1) := by decide +kernel
theorem dX4_rowTrouble_30 : decode cX4_rowTrouble 30 = .ok (.aaload, 1) := by decide +kernel
theorem dX4_rowTrouble_31 : decode cX4_rowTrouble 31 = .ok (.invokevirtual 111, 3) := by decide +kernel
theorem dX4_rowTrouble_34 : decode cX4_rowTrouble 34 = .ok (.ifCond .eq 7, 3) := by decide +kernel
theorem dX4_rowTrouble_37 : decode cX4_rowTrouble 37 = .ok (.iconst 0, 1) := by decide +kernel
theorem dX4_rowTrouble_38 : decode cX4_rowTrouble 38 = .ok (.goto 5, 3) := by decide +kernel
theorem dX4_rowTrouble_41 : decode cX4_rowTrouble 41 = .ok (.bipush (-4), 2) := by decide +kernel
theorem dX4_rowTrouble_43 : decode cX4_rowTrouble 43 = .ok (.ireturn, 1) := by decide +kernel
theorem dX4_copyTrouble_0 : decode cX4_copyTrouble 0 = .ok (.iload_n 1, 1) := by decide +kernel
theorem dX4_copyTrouble_1 : decode cX4_copyTrouble 1 = .ok (.invokestatic 53, 3) := by decide +kernel
theorem dX4_copyTrouble_4 : decode cX4_copyTrouble 4 = .ok (.ifCond .eq 10, 3) := by decide +kernel
theorem dX4_copyTrouble_7 : decode cX4_copyTrouble 7 = .ok (.iload_n 2, 1) := by decide +kernel
theorem dX4_copyTrouble_8 : decode cX4_copyTrouble 8 = .ok (.invokestatic 53, 3) := by decide +kernel
theorem dX4_copyTrouble_11 : decode cX4_copyTrouble 11 = .ok (.ifCond .ne 6, 3) := by decide +kernel
theorem dX4_copyTrouble_14 : decode cX4_copyTrouble 14 = .ok (.bipush (-2), 2) := by decide +kernel
theorem dX4_copyTrouble_16 : decode cX4_copyTrouble 16 = .ok (.ireturn, 1) := by decide +kernel
theorem dX4_copyTrouble_17 : decode cX4_copyTrouble 17 = .ok (.aload_n 0, 1) := by decide +kernel
theorem dX4_copyTrouble_18 : decode cX4_copyTrouble 18 = .ok (.getfield 40, 3) := by decide +kernel
theorem dX4_copyTrouble_21 : decode cX4_copyTrouble 21 = .ok (.iload_n 1, 1) := by decide +kernel
theorem dX4_copyTrouble_22 : decode cX4_copyTrouble 22 = .ok (.aaload, 1) := by decide +kernel
theorem dX4_copyTrouble_23 : decode cX4_copyTrouble 23 = .ok (.invokevirtual 301, 3) := by decide +kernel
theorem dX4_copyTrouble_26 : decode cX4_copyTrouble 26 = .ok (.ifCond .ne 15, 3) := by decide +kernel
theorem dX4_copyTrouble_29 : decode cX4_copyTrouble 29 = .ok (.aload_n 0, 1) := by decide +kernel
theorem dX4_copyTrouble_30 : decode cX4_copyTrouble 30 = .ok (.getfield 40, 3) := by decide +kernel
theorem dX4_copyTrouble_33 : decode cX4_copyTrouble 33 = .ok (.iload_n 2, 1) := by decide +kernel
theorem dX4_copyTrouble_34 : decode cX4_copyTrouble 34 = .ok (.aaload, 1) := by decide +kernel
theorem dX4_copyTrouble_35 : decode cX4_copyTrouble 35 = .ok (.invokevirtual 301, 3) := by decide +kernel
theorem dX4_copyTrouble_38 : decode cX4_copyTrouble 38 = .ok (.ifCond .eq 6, 3) := by decide +kernel
theorem dX4_copyTrouble_41 : decode cX4_copyTrouble 41 = .ok (.bipush (-3), 2) := by decide +kernel
theorem dX4_copyTrouble_43 : decode cX4_copyTrouble 43 = .ok (.ireturn, 1) := by decide +kernel
theorem dX4_copyTrouble_44 : decode cX4_copyTrouble 44 = .ok (.aload_n 0, 1) := by decide +kernel
theorem dX4_copyTrouble_45 : decode cX4_copyTrouble 45 = .ok (.getfield 40, 3) := by decide +kernel
theorem dX4_copyTrouble_48 : decode cX4_copyTrouble 48 = .ok (.iload_n 1, 1) := by decide +kernel
theorem dX4_copyTrouble_49 : decode cX4_copyTrouble 49 = .ok (.aaload, 1) := by decide +kernel
theorem dX4_copyTrouble_50 : decode cX4_copyTrouble 50 = .ok (.invokevirtual 111, 3) := by decide +kernel
theorem dX4_copyTrouble_53 : decode cX4_copyTrouble 53 = .ok (.ifCond .eq 15, 3) := by decide +kernel
theorem dX4_copyTrouble_56 : decode cX4_copyTrouble 56 = .ok (.aload_n 0, 1) := by decide +kernel
theorem dX4_copyTrouble_57 : decode cX4_copyTrouble 57 = .ok (.getfield 40, 3) := by decide +kernel
theorem dX4_copyTrouble_60 : decode cX4_copyTrouble 60 = .ok (.iload_n 2, 1) := by decide +kernel
theorem dX4_copyTrouble_61 : decode cX4_copyTrouble 61 = .ok (.aaload, 1) := by decide +kernel
theorem dX4_copyTrouble_62 : decode cX4_copyTrouble 62 = .ok (.invokevirtual 111, 3) := by decide +kernel
theorem dX4_copyTrouble_65 : decode cX4_copyTrouble 65 = .ok (.ifCond .ne 6, 3) := by decide +kernel
theorem dX4_copyTrouble_68 : decode cX4_copyTrouble 68 = .ok (.bipush (-4), 2) := by decide +kernel
theorem dX4_copyTrouble_70 : decode cX4_copyTrouble 70 = .ok (.ireturn, 1) := by decide +kernel
theorem dX4_copyTrouble_71 : decode cX4_copyTrouble 71 = .ok (.aload_n 0, 1) := by decide +kernel
theorem dX4_copyTrouble_72 : decode cX4_copyTrouble 72 = .ok (.getfield 40, 3) := by decide +kernel
theorem dX4_copyTrouble_75 : decode cX4_copyTrouble 75 = .ok (.iload_n 1, 1) := by decide +kernel
theorem dX4_copyTrouble_76 : decode cX4_copyTrouble 76 = .ok (.aaload, 1) := by decide +kernel
theorem dX4_copyTrouble_77 : decode cX4_copyTrouble 77 = .ok (.getfield 97, 3) := by decide +kernel
theorem dX4_copyTrouble_80 : decode cX4_copyTrouble 80 = .ok (.aload_n 0, 1) := by decide +kernel
theorem dX4_copyTrouble_81 : decode cX4_copyTrouble 81 = .ok (.getfield 40, 3) := by decide +kernel
theorem dX4_copyTrouble_84 : decode cX4_copyTrouble 84 = .ok (.iload_n 2, 1) := by decide +kernel
theorem dX4_copyTrouble_85 : decode cX4_copyTrouble 85 = .ok (.aaload, 1) := by decide +kernel
theorem dX4_copyTrouble_86 : decode cX4_copyTrouble 86 = .ok (.getfield 97, 3) := by decide +kernel
theorem dX4_copyTrouble_89 : decode cX4_copyTrouble 89 = .ok (.if_icmp .ne 7, 3) := by decide +kernel
theorem dX4_copyTrouble_92 : decode cX4_copyTrouble 92 = .ok (.iconst 0, 1) := by decide +kernel
theorem dX4_copyTrouble_93 : decode cX4_copyTrouble 93 = .ok (.goto 5, 3) := by decide +kernel
theorem dX4_copyTrouble_96 : decode cX4_copyTrouble 96 = .ok (.bipush (-3), 2) := by decide +kernel
theorem dX4_copyTrouble_98 : decode cX4_copyTrouble 98 = .ok (.ireturn, 1) := by decide +kernel
theorem dX4_toldTrouble_0 : decode cX4_toldTrouble 0 = .ok (.iload_n 2, 1) := by decide +kernel
theorem dX4_toldTrouble_1 : decode cX4_toldTrouble 1 = .ok (.iconst 0, 1) := by decide +kernel
theorem dX4_toldTrouble_2 : decode cX4_toldTrouble 2 = .ok (.bipush 40, 2) := by decide +kernel
theorem dX4_toldTrouble_4 : decode cX4_toldTrouble 4 = .ok (.invokestatic 57, 3) := by decide +kernel
theorem dX4_toldTrouble_7 : decode cX4_toldTrouble 7 = .ok (.ifCond .ne 6, 3) := by decide +kernel
theorem dX4_toldTrouble_10 : decode cX4_toldTrouble 10 = .ok (.bipush (-2), 2) := by decide +kernel
theorem dX4_toldTrouble_12 : decode cX4_toldTrouble 12 = .ok (.ireturn, 1) := by decide +kernel
theorem dX4_toldTrouble_13 : decode cX4_toldTrouble 13 = .ok (.aload_n 0, 1) := by decide +kernel
theorem dX4_toldTrouble_14 : decode cX4_toldTrouble 14 = .ok (.iload_n 1, 1) := by decide +kernel
theorem dX4_toldTrouble_15 : decode cX4_toldTrouble 15 = .ok (.invokevirtual 69, 3) := by decide +kernel
theorem dX4_toldTrouble_18 : decode cX4_toldTrouble 18 = .ok (.istore_n 3, 1) := by decide +kernel
theorem dX4_toldTrouble_19 : decode cX4_toldTrouble 19 = .ok (.iload_n 3, 1) := by decide +kernel
theorem dX4_toldTrouble_20 : decode cX4_toldTrouble 20 = .ok (.ifCond .ne 19, 3) := by decide +kernel
theorem dX4_toldTrouble_23 : decode cX4_toldTrouble 23 = .ok (.aload_n 0, 1) := by decide +kernel
theorem dX4_toldTrouble_24 : decode cX4_toldTrouble 24 = .ok (.getfield 40, 3) := by decide +kernel
theorem dX4_toldTrouble_27 : decode cX4_toldTrouble 27 = .ok (.iload_n 1, 1) := by decide +kernel
theorem dX4_toldTrouble_28 : decode cX4_toldTrouble 28 = .ok (.aaload, 1) := by decide +kernel
theorem dX4_toldTrouble_29 : decode cX4_toldTrouble 29 = .ok (.getfield 316, 3) := by decide +kernel
theorem dX4_toldTrouble_32 : decode cX4_toldTrouble 32 = .ok (.iload_n 2, 1) := by decide +kernel
theorem dX4_toldTrouble_33 : decode cX4_toldTrouble 33 = .ok (.if_icmp .ge 6, 3) := by decide +kernel
theorem dX4_toldTrouble_36 : decode cX4_toldTrouble 36 = .ok (.bipush (-2), 2) := by decide +kernel
theorem dX4_toldTrouble_38 : decode cX4_toldTrouble 38 = .ok (.ireturn, 1) := by decide +kernel
theorem dX4_toldTrouble_39 : decode cX4_toldTrouble 39 = .ok (.iload_n 3, 1) := by decide +kernel
theorem dX4_toldTrouble_40 : decode cX4_toldTrouble 40 = .ok (.ireturn, 1) := by decide +kernel
theorem dX4_firstWrong_0 : decode cX4_firstWrong 0 = .ok (.aload_n 0, 1) := by decide +kernel
theorem dX4_firstWrong_1 : decode cX4_firstWrong 1 = .ok (.getfield 19, 3) := by decide +kernel
theorem dX4_firstWrong_4 : decode cX4_firstWrong 4 = .ok (.aload_n 0, 1) := by decide +kernel
theorem dX4_firstWrong_5 : decode cX4_firstWrong 5 = .ok (.getfield 10, 3) := by decide +kernel
theorem dX4_firstWrong_8 : decode cX4_firstWrong 8 = .ok (.invokevirtual 159, 3) := by decide +kernel
theorem dX4_firstWrong_11 : decode cX4_firstWrong 11 = .ok (.iconst 0, 1) := by decide +kernel
theorem dX4_firstWrong_12 : decode cX4_firstWrong 12 = .ok (.istore_n 3, 1) := by decide +kernel
theorem dX4_firstWrong_13 : decode cX4_firstWrong 13 = .ok (.iload_n 3, 1) := by decide +kernel
theorem dX4_firstWrong_14 : decode cX4_firstWrong 14 = .ok (.iload_n 2, 1) := by decide +kernel
theorem dX4_firstWrong_15 : decode cX4_firstWrong 15 = .ok (.if_icmp .ge 32, 3) := by decide +kernel
theorem dX4_firstWrong_18 : decode cX4_firstWrong 18 = .ok (.aload_n 0, 1) := by decide +kernel
theorem dX4_firstWrong_19 : decode cX4_firstWrong 19 = .ok (.getfield 19, 3) := by decide +kernel
theorem dX4_firstWrong_22 : decode cX4_firstWrong 22 = .ok (.aload_n 0, 1) := by decide +kernel
theorem dX4_firstWrong_23 : decode cX4_firstWrong 23 = .ok (.getfield 40, 3) := by decide +kernel
theorem dX4_firstWrong_26 : decode cX4_firstWrong 26 = .ok (.iload_n 1, 1) := by decide +kernel
theorem dX4_firstWrong_27 : decode cX4_firstWrong 27 = .ok (.aaload, 1) := by decide +kernel
theorem dX4_firstWrong_28 : decode cX4_firstWrong 28 = .ok (.getfield 87, 3) := by decide +kernel
theorem dX4_firstWrong_31 : decode cX4_firstWrong 31 = .ok (.iload_n 3, 1) := by decide +kernel
theorem dX4_firstWrong_32 : decode cX4_firstWrong 32 = .ok (.laload, 1) := by decide +kernel
theorem dX4_firstWrong_33 : decode cX4_firstWrong 33 = .ok (.invokevirtual 319, 3) := by decide +kernel
theorem dX4_firstWrong_36 : decode cX4_firstWrong 36 = .ok (.ifCond .ne 5, 3) := by decide +kernel
theorem dX4_firstWrong_39 : decode cX4_firstWrong 39 = .ok (.iload_n 3, 1) := by decide +kernel
theorem dX4_firstWrong_40 : decode cX4_firstWrong 40 = .ok (.ireturn, 1) := by decide +kernel
theorem dX4_firstWrong_41 : decode cX4_firstWrong 41 = .ok (.iinc 3 1, 3) := by decide +kernel
theorem dX4_firstWrong_44 : decode cX4_firstWrong 44 = .ok (.goto (-31), 3) := by decide +kernel
theorem dX4_firstWrong_47 : decode cX4_firstWrong 47 = .ok (.iconst (-1), 1) := by decide +kernel
theorem dX4_firstWrong_48 : decode cX4_firstWrong 48 = .ok (.ireturn, 1) := by decide +kernel
theorem dX4_saying_0 : decode cX4_saying 0 = .ok (.aload_n 0, 1) := by decide +kernel
theorem dX4_saying_1 : decode cX4_saying 1 = .ok (.getfield 10, 3) := by decide +kernel
theorem dX4_saying_4 : decode cX4_saying 4 = .ok (.getfield 128, 3) := by decide +kernel
theorem dX4_saying_7 : decode cX4_saying 7 = .ok (.iconst 1, 1) := by decide +kernel
theorem dX4_saying_8 : decode cX4_saying 8 = .ok (.isub, 1) := by decide +kernel
theorem dX4_saying_9 : decode cX4_saying 9 = .ok (.istore_n 3, 1) := by decide +kernel
theorem dX4_saying_10 : decode cX4_saying 10 = .ok (.iload_n 2, 1) := by decide +kernel
theorem dX4_saying_11 : decode cX4_saying 11 = .ok (.tableswitch 100 1 5 #[33, 51, 59, 82, 59], 33) := by decide +kernel
theorem dX4_saying_44 : decode cX4_saying 44 = .ok (.iload_n 3, 1) := by decide +kernel
theorem dX4_saying_45 : decode cX4_saying 45 = .ok (.ifCond .ge 7, 3) := by decide +kernel
theorem dX4_saying_48 : decode cX4_saying 48 = .ok (.iconst (-1), 1) := by decide +kernel
theorem dX4_saying_49 : decode cX4_saying 49 = .ok (.goto 12, 3) := by decide +kernel
theorem dX4_saying_52 : decode cX4_saying 52 = .ok (.aload_n 0, 1) := by decide +kernel
theorem dX4_saying_53 : decode cX4_saying 53 = .ok (.getfield 10, 3) := by decide +kernel
theorem dX4_saying_56 : decode cX4_saying 56 = .ok (.iload_n 1, 1) := by decide +kernel
theorem dX4_saying_57 : decode cX4_saying 57 = .ok (.iconst 0, 1) := by decide +kernel
theorem dX4_saying_58 : decode cX4_saying 58 = .ok (.invokevirtual 323, 3) := by decide +kernel
theorem dX4_saying_61 : decode cX4_saying 61 = .ok (.ireturn, 1) := by decide +kernel
theorem dX4_saying_62 : decode cX4_saying 62 = .ok (.aload_n 0, 1) := by decide +kernel
theorem dX4_saying_63 : decode cX4_saying 63 = .ok (.getfield 10, 3) := by decide +kernel
theorem dX4_saying_66 : decode cX4_saying 66 = .ok (.invokevirtual 326, 3) := by decide +kernel
theorem dX4_saying_69 : decode cX4_saying 69 = .ok (.ireturn, 1) := by decide +kernel
theorem dX4_saying_70 : decode cX4_saying 70 = .ok (.aload_n 0, 1) := by decide +kernel
theorem dX4_saying_71 : decode cX4_saying 71 = .ok (.getfield 10, 3) := by decide +kernel
theorem dX4_saying_74 : decode cX4_saying 74 = .ok (.getfield 184, 3) := by decide +kernel
theorem dX4_saying_77 : decode cX4_saying 77 = .ok (.iload_n 1, 1) := by decide +kernel
theorem dX4_saying_78 : decode cX4_saying 78 = .ok (.iaload, 1) := by decide +kernel
theorem dX4_saying_79 : decode cX4_saying 79 = .ok (.iconst 1, 1) := by decide +kernel
theorem dX4_saying_80 : decode cX4_saying 80 = .ok (.iload_n 3, 1) := by decide +kernel
theorem dX4_saying_81 : decode cX4_saying 81 = .ok (.invokestatic 57, 3) := by decide +kernel
theorem dX4_saying_84 : decode cX4_saying 84 = .ok (.ifCond .eq 7, 3) := by decide +kernel
theorem dX4_saying_87 : decode cX4_saying 87 = .ok (.iconst 1, 1) := by decide +kernel
theorem dX4_saying_88 : decode cX4_saying 88 = .ok (.goto 4, 3) := by decide +kernel
theorem dX4_saying_91 : decode cX4_saying 91 = .ok (.iconst 0, 1) := by decide +kernel
theorem dX4_saying_92 : decode cX4_saying 92 = .ok (.ireturn, 1) := by decide +kernel
theorem dX4_saying_93 : decode cX4_saying 93 = .ok (.iload_n 3, 1) := by decide +kernel
theorem dX4_saying_94 : decode cX4_saying 94 = .ok (.ifCond .ge 7, 3) := by decide +kernel
theorem dX4_saying_97 : decode cX4_saying 97 = .ok (.iconst (-1), 1) := by decide +kernel
theorem dX4_saying_98 : decode cX4_saying 98 = .ok (.goto 12, 3) := by decide +kernel
theorem dX4_saying_101 : decode cX4_saying 101 = .ok (.aload_n 0, 1) := by decide +kernel
theorem dX4_saying_102 : decode cX4_saying 102 = .ok (.getfield 10, 3) := by decide +kernel
theorem dX4_saying_105 : decode cX4_saying 105 = .ok (.iload_n 1, 1) := by decide +kernel
theorem dX4_saying_106 : decode cX4_saying 106 = .ok (.iload_n 3, 1) := by decide +kernel
theorem dX4_saying_107 : decode cX4_saying 107 = .ok (.invokevirtual 323, 3) := by decide +kernel
theorem dX4_saying_110 : decode cX4_saying 110 = .ok (.ireturn, 1) := by decide +kernel
theorem dX4_saying_111 : decode cX4_saying 111 = .ok (.aload_n 0, 1) := by decide +kernel
theorem dX4_saying_112 : decode cX4_saying 112 = .ok (.getfield 10, 3) := by decide +kernel
theorem dX4_saying_115 : decode cX4_saying 115 = .ok (.getfield 181, 3) := by decide +kernel
theorem dX4_saying_118 : decode cX4_saying 118 = .ok (.iload_n 1, 1) := by decide +kernel
theorem dX4_saying_119 : decode cX4_saying 119 = .ok (.iaload, 1) := by decide +kernel
theorem dX4_saying_120 : decode cX4_saying 120 = .ok (.ireturn, 1) := by decide +kernel
theorem dX4_merit_0 : decode cX4_merit 0 = .ok (.iload_n 2, 1) := by decide +kernel
theorem dX4_merit_1 : decode cX4_merit 1 = .ok (.iconst 2, 1) := by decide +kernel
theorem dX4_merit_2 : decode cX4_merit 2 = .ok (.if_icmp .ne 13, 3) := by decide +kernel
theorem dX4_merit_5 : decode cX4_merit 5 = .ok (.aload_n 0, 1) := by decide +kernel
theorem dX4_merit_6 : decode cX4_merit 6 = .ok (.getfield 10, 3) := by decide +kernel
theorem dX4_merit_9 : decode cX4_merit 9 = .ok (.iload_n 1, 1) := by decide +kernel
theorem dX4_merit_10 : decode cX4_merit 10 = .ok (.invokevirtual 241, 3) := by decide +kernel
theorem dX4_merit_13 : decode cX4_merit 13 = .ok (.ineg, 1) := by decide +kernel
theorem dX4_merit_14 : decode cX4_merit 14 = .ok (.ireturn, 1) := by decide +kernel
theorem dX4_merit_15 : decode cX4_merit 15 = .ok (.aload_n 0, 1) := by decide +kernel
theorem dX4_merit_16 : decode cX4_merit 16 = .ok (.getfield 10, 3) := by decide +kernel
theorem dX4_merit_19 : decode cX4_merit 19 = .ok (.iload_n 1, 1) := by decide +kernel
theorem dX4_merit_20 : decode cX4_merit 20 = .ok (.invokevirtual 223, 3) := by decide +kernel
theorem dX4_merit_23 : decode cX4_merit 23 = .ok (.istore_n 3, 1) := by decide +kernel
theorem dX4_merit_24 : decode cX4_merit 24 = .ok (.iload_n 2, 1) := by decide +kernel
theorem dX4_merit_25 : decode cX4_merit 25 = .ok (.ifCond .ne 7, 3) := by decide +kernel
theorem dX4_merit_28 : decode cX4_merit 28 = .ok (.iload_n 3, 1) := by decide +kernel
theorem dX4_merit_29 : decode cX4_merit 29 = .ok (.goto 5, 3) := by decide +kernel
theorem dX4_merit_32 : decode cX4_merit 32 = .ok (.iload_n 3, 1) := by decide +kernel
theorem dX4_merit_33 : decode cX4_merit 33 = .ok (.ineg, 1) := by decide +kernel
theorem dX4_merit_34 : decode cX4_merit 34 = .ok (.ireturn, 1) := by decide +kernel
theorem dX4_shelvesInUse_0 : decode cX4_shelvesInUse 0 = .ok (.iconst 0, 1) := by decide +kernel
theorem dX4_shelvesInUse_1 : decode cX4_shelvesInUse 1 = .ok (.istore_n 1, 1) := by decide +kernel
theorem dX4_shelvesInUse_2 : decode cX4_shelvesInUse 2 = .ok (.iconst 0, 1) := by decide +kernel
theorem dX4_shelvesInUse_3 : decode cX4_shelvesInUse 3 = .ok (.istore_n 2, 1) := by decide +kernel
theorem dX4_shelvesInUse_4 : decode cX4_shelvesInUse 4 = .ok (.iload_n 2, 1) := by decide +kernel
theorem dX4_shelvesInUse_5 : decode cX4_shelvesInUse 5 = .ok (.bipush 8, 2) := by decide +kernel
theorem dX4_shelvesInUse_7 : decode cX4_shelvesInUse 7 = .ok (.if_icmp .ge 25, 3) := by decide +kernel
theorem dX4_shelvesInUse_10 : decode cX4_shelvesInUse 10 = .ok (.aload_n 0, 1) := by decide +kernel
theorem dX4_shelvesInUse_11 : decode cX4_shelvesInUse 11 = .ok (.getfield 40, 3) := by decide +kernel
theorem dX4_shelvesInUse_14 : decode cX4_shelvesInUse 14 = .ok (.iload_n 2, 1) := by decide +kernel
theorem dX4_shelvesInUse_15 : decode cX4_shelvesInUse 15 = .ok (.aaload, 1) := by decide +kernel
theorem dX4_shelvesInUse_16 : decode cX4_shelvesInUse 16 = .ok (.getfield 97, 3) := by decide +kernel
theorem dX4_shelvesInUse_19 : decode cX4_shelvesInUse 19 = .ok (.iconst (-1), 1) := by decide +kernel
theorem dX4_shelvesInUse_20 : decode cX4_shelvesInUse 20 = .ok (.if_icmp .eq 6, 3) := by decide +kernel
theorem dX4_shelvesInUse_23 : decode cX4_shelvesInUse 23 = .ok (.iinc 1 1, 3) := by decide +kernel
theorem dX4_shelvesInUse_26 : decode cX4_shelvesInUse 26 = .ok (.iinc 2 1, 3) := by decide +kernel
theorem dX4_shelvesInUse_29 : decode cX4_shelvesInUse 29 = .ok (.goto (-25), 3) := by decide +kernel
theorem dX4_shelvesInUse_32 : decode cX4_shelvesInUse 32 = .ok (.iload_n 1, 1) := by decide +kernel
theorem dX4_shelvesInUse_33 : decode cX4_shelvesInUse 33 = .ok (.ireturn, 1) := by decide +kernel
