theorem dX5_findOut_102 : decode cX5_findOut 102 = .ok (.return_, 1) := by decide +kernel
theorem dX5_out_0 : decode cX5_out 0 = .ok (.iload_n 1, 1) := by decide +kernel
theorem dX5_out_1 : decode cX5_out 1 = .ok (.i2l, 1) := by decide +kernel
theorem dX5_out_2 : decode cX5_out 2 = .ok (.lconst 1, 1) := by decide +kernel
theorem dX5_out_3 : decode cX5_out 3 = .ok (.ldc2_w 307, 3) := by decide +kernel
theorem dX5_out_6 : decode cX5_out 6 = .ok (.invokestatic 83, 3) := by decide +kernel
theorem dX5_out_9 : decode cX5_out 9 = .ok (.ifCond .eq 12, 3) := by decide +kernel
theorem dX5_out_12 : decode cX5_out 12 = .ok (.aload_n 0, 1) := by decide +kernel
theorem dX5_out_13 : decode cX5_out 13 = .ok (.iload_n 2, 1) := by decide +kernel
theorem dX5_out_14 : decode cX5_out 14 = .ok (.i2l, 1) := by decide +kernel
theorem dX5_out_15 : decode cX5_out 15 = .ok (.invokevirtual 87, 3) := by decide +kernel
theorem dX5_out_18 : decode cX5_out 18 = .ok (.ifCond .ne 10, 3) := by decide +kernel
theorem dX5_out_21 : decode cX5_out 21 = .ok (.aload_n 0, 1) := by decide +kernel
theorem dX5_out_22 : decode cX5_out 22 = .ok (.bipush (-2), 2) := by decide +kernel
theorem dX5_out_24 : decode cX5_out 24 = .ok (.invokevirtual 104, 3) := by decide +kernel
theorem dX5_out_27 : decode cX5_out 27 = .ok (.ireturn, 1) := by decide +kernel
theorem dX5_out_28 : decode cX5_out 28 = .ok (.aload_n 0, 1) := by decide +kernel
theorem dX5_out_29 : decode cX5_out 29 = .ok (.iload_n 1, 1) := by decide +kernel
theorem dX5_out_30 : decode cX5_out 30 = .ok (.invokevirtual 309, 3) := by decide +kernel
theorem dX5_out_33 : decode cX5_out 33 = .ok (.aload_n 0, 1) := by decide +kernel
theorem dX5_out_34 : decode cX5_out 34 = .ok (.getfield 77, 3) := by decide +kernel
theorem dX5_out_37 : decode cX5_out 37 = .ok (.iload_n 2, 1) := by decide +kernel
theorem dX5_out_38 : decode cX5_out 38 = .ok (.iaload, 1) := by decide +kernel
theorem dX5_out_39 : decode cX5_out 39 = .ok (.ireturn, 1) := by decide +kernel
theorem dX5_outAt_0 : decode cX5_outAt 0 = .ok (.iload_n 1, 1) := by decide +kernel
theorem dX5_outAt_1 : decode cX5_outAt 1 = .ok (.i2l, 1) := by decide +kernel
theorem dX5_outAt_2 : decode cX5_outAt 2 = .ok (.lconst 1, 1) := by decide +kernel
theorem dX5_outAt_3 : decode cX5_outAt 3 = .ok (.ldc2_w 307, 3) := by decide +kernel
theorem dX5_outAt_6 : decode cX5_outAt 6 = .ok (.invokestatic 83, 3) := by decide +kernel
theorem dX5_outAt_9 : decode cX5_outAt 9 = .ok (.ifCond .eq 12, 3) := by decide +kernel
theorem dX5_outAt_12 : decode cX5_outAt 12 = .ok (.aload_n 0, 1) := by decide +kernel
theorem dX5_outAt_13 : decode cX5_outAt 13 = .ok (.iload_n 2, 1) := by decide +kernel
theorem dX5_outAt_14 : decode cX5_outAt 14 = .ok (.i2l, 1) := by decide +kernel
theorem dX5_outAt_15 : decode cX5_outAt 15 = .ok (.invokevirtual 87, 3) := by decide +kernel
theorem dX5_outAt_18 : decode cX5_outAt 18 = .ok (.ifCond .ne 10, 3) := by decide +kernel
theorem dX5_outAt_21 : decode cX5_outAt 21 = .ok (.aload_n 0, 1) := by decide +kernel
theorem dX5_outAt_22 : decode cX5_outAt 22 = .ok (.bipush (-2), 2) := by decide +kernel
theorem dX5_outAt_24 : decode cX5_outAt 24 = .ok (.invokevirtual 104, 3) := by decide +kernel
theorem dX5_outAt_27 : decode cX5_outAt 27 = .ok (.ireturn, 1) := by decide +kernel
theorem dX5_outAt_28 : decode cX5_outAt 28 = .ok (.aload_n 0, 1) := by decide +kernel
theorem dX5_outAt_29 : decode cX5_outAt 29 = .ok (.iload_n 1, 1) := by decide +kernel
theorem dX5_outAt_30 : decode cX5_outAt 30 = .ok (.invokevirtual 309, 3) := by decide +kernel
theorem dX5_outAt_33 : decode cX5_outAt 33 = .ok (.iconst 0, 1) := by decide +kernel
theorem dX5_outAt_34 : decode cX5_outAt 34 = .ok (.istore_n 3, 1) := by decide +kernel
theorem dX5_outAt_35 : decode cX5_outAt 35 = .ok (.aload_n 0, 1) := by decide +kernel
theorem dX5_outAt_36 : decode cX5_outAt 36 = .ok (.getfield 77, 3) := by decide +kernel
theorem dX5_outAt_39 : decode cX5_outAt 39 = .ok (.iload_n 3, 1) := by decide +kernel
theorem dX5_outAt_40 : decode cX5_outAt 40 = .ok (.iaload, 1) := by decide +kernel
theorem dX5_outAt_41 : decode cX5_outAt 41 = .ok (.iload_n 2, 1) := by decide +kernel
theorem dX5_outAt_42 : decode cX5_outAt 42 = .ok (.if_icmp .eq 9, 3) := by decide +kernel
theorem dX5_outAt_45 : decode cX5_outAt 45 = .ok (.iinc 3 1, 3) := by decide +kernel
theorem dX5_outAt_48 : decode cX5_outAt 48 = .ok (.goto (-13), 3) := by decide +kernel
theorem dX5_outAt_51 : decode cX5_outAt 51 = .ok (.iload_n 3, 1) := by decide +kernel
theorem dX5_outAt_52 : decode cX5_outAt 52 = .ok (.ireturn, 1) := by decide +kernel
theorem dX5_stays_0 : decode cX5_stays 0 = .ok (.aload_n 0, 1) := by decide +kernel
theorem dX5_stays_1 : decode cX5_stays 1 = .ok (.iload_n 1, 1) := by decide +kernel
theorem dX5_stays_2 : decode cX5_stays 2 = .ok (.i2l, 1) := by decide +kernel
theorem dX5_stays_3 : decode cX5_stays 3 = .ok (.invokevirtual 87, 3) := by decide +kernel
theorem dX5_stays_6 : decode cX5_stays 6 = .ok (.ifCond .ne 10, 3) := by decide +kernel
theorem dX5_stays_9 : decode cX5_stays 9 = .ok (.aload_n 0, 1) := by decide +kernel
theorem dX5_stays_10 : decode cX5_stays 10 = .ok (.bipush (-2), 2) := by decide +kernel
theorem dX5_stays_12 : decode cX5_stays 12 = .ok (.invokevirtual 104, 3) := by decide +kernel
theorem dX5_stays_15 : decode cX5_stays 15 = .ok (.ireturn, 1) := by decide +kernel
theorem dX5_stays_16 : decode cX5_stays 16 = .ok (.iconst 1, 1) := by decide +kernel
theorem dX5_stays_17 : decode cX5_stays 17 = .ok (.istore_n 2, 1) := by decide +kernel
theorem dX5_stays_18 : decode cX5_stays 18 = .ok (.iload_n 2, 1) := by decide +kernel
theorem dX5_stays_19 : decode cX5_stays 19 = .ok (.bipush 20, 2) := by decide +kernel
theorem dX5_stays_21 : decode cX5_stays 21 = .ok (.if_icmp .gt 31, 3) := by decide +kernel
theorem dX5_stays_24 : decode cX5_stays 24 = .ok (.aload_n 0, 1) := by decide +kernel
theorem dX5_stays_25 : decode cX5_stays 25 = .ok (.iload_n 2, 1) := by decide +kernel
theorem dX5_stays_26 : decode cX5_stays 26 = .ok (.invokevirtual 309, 3) := by decide +kernel
theorem dX5_stays_29 : decode cX5_stays 29 = .ok (.aload_n 0, 1) := by decide +kernel
theorem dX5_stays_30 : decode cX5_stays 30 = .ok (.getfield 77, 3) := by decide +kernel
theorem dX5_stays_33 : decode cX5_stays 33 = .ok (.aload_n 0, 1) := by decide +kernel
theorem dX5_stays_34 : decode cX5_stays 34 = .ok (.getfield 80, 3) := by decide +kernel
theorem dX5_stays_37 : decode cX5_stays 37 = .ok (.iconst 1, 1) := by decide +kernel
theorem dX5_stays_38 : decode cX5_stays 38 = .ok (.isub, 1) := by decide +kernel
theorem dX5_stays_39 : decode cX5_stays 39 = .ok (.iaload, 1) := by decide +kernel
theorem dX5_stays_40 : decode cX5_stays 40 = .ok (.iload_n 1, 1) := by decide +kernel
theorem dX5_stays_41 : decode cX5_stays 41 = .ok (.if_icmp .ne 5, 3) := by decide +kernel
theorem dX5_stays_44 : decode cX5_stays 44 = .ok (.iload_n 2, 1) := by decide +kernel
theorem dX5_stays_45 : decode cX5_stays 45 = .ok (.ireturn, 1) := by decide +kernel
theorem dX5_stays_46 : decode cX5_stays 46 = .ok (.iinc 2 1, 3) := by decide +kernel
theorem dX5_stays_49 : decode cX5_stays 49 = .ok (.goto (-31), 3) := by decide +kernel
theorem dX5_stays_52 : decode cX5_stays 52 = .ok (.iconst (-1), 1) := by decide +kernel
theorem dX5_stays_53 : decode cX5_stays 53 = .ok (.ireturn, 1) := by decide +kernel
theorem dX5_noMorning_0 : decode cX5_noMorning 0 = .ok (.aload_n 0, 1) := by decide +kernel
theorem dX5_noMorning_1 : decode cX5_noMorning 1 = .ok (.iload_n 1, 1) := by decide +kernel
theorem dX5_noMorning_2 : decode cX5_noMorning 2 = .ok (.invokevirtual 108, 3) := by decide +kernel
theorem dX5_noMorning_5 : decode cX5_noMorning 5 = .ok (.istore_n 2, 1) := by decide +kernel
theorem dX5_noMorning_6 : decode cX5_noMorning 6 = .ok (.iload_n 2, 1) := by decide +kernel
theorem dX5_noMorning_7 : decode cX5_noMorning 7 = .ok (.ifCond .eq 5, 3) := by decide +kernel
theorem dX5_noMorning_10 : decode cX5_noMorning 10 = .ok (.iload_n 2, 1) := by decide +kernel
theorem dX5_noMorning_11 : decode cX5_noMorning 11 = .ok (.ireturn, 1) := by decide +kernel
theorem dX5_noMorning_12 : decode cX5_noMorning 12 = .ok (.aload_n 0, 1) := by decide +kernel
theorem dX5_noMorning_13 : decode cX5_noMorning 13 = .ok (.getfield 16, 3) := by decide +kernel
theorem dX5_noMorning_16 : decode cX5_noMorning 16 = .ok (.iload_n 1, 1) := by decide +kernel
theorem dX5_noMorning_17 : decode cX5_noMorning 17 = .ok (.iaload, 1) := by decide +kernel
theorem dX5_noMorning_18 : decode cX5_noMorning 18 = .ok (.aload_n 0, 1) := by decide +kernel
theorem dX5_noMorning_19 : decode cX5_noMorning 19 = .ok (.getfield 80, 3) := by decide +kernel
theorem dX5_noMorning_22 : decode cX5_noMorning 22 = .ok (.if_icmp .ge 12, 3) := by decide +kernel
theorem dX5_noMorning_25 : decode cX5_noMorning 25 = .ok (.aload_n 0, 1) := by decide +kernel
theorem dX5_noMorning_26 : decode cX5_noMorning 26 = .ok (.bipush (-2), 2) := by decide +kernel
theorem dX5_noMorning_28 : decode cX5_noMorning 28 = .ok (.invokevirtual 104, 3) := by decide +kernel
theorem dX5_noMorning_31 : decode cX5_noMorning 31 = .ok (.goto 4, 3) := by decide +kernel
theorem dX5_noMorning_34 : decode cX5_noMorning 34 = .ok (.iconst 0, 1) := by decide +kernel
theorem dX5_noMorning_35 : decode cX5_noMorning 35 = .ok (.ireturn, 1) := by decide +kernel
theorem dX5_wrongTeams_0 : decode cX5_wrongTeams 0 = .ok (.iconst 0, 1) := by decide +kernel
theorem dX5_wrongTeams_1 : decode cX5_wrongTeams 1 = .ok (.istore_n 3, 1) := by decide +kernel
theorem dX5_wrongTeams_2 : decode cX5_wrongTeams 2 = .ok (.iconst 0, 1) := by decide +kernel
theorem dX5_wrongTeams_3 : decode cX5_wrongTeams 3 = .ok (.istore 4, 2) := by decide +kernel
theorem dX5_wrongTeams_5 : decode cX5_wrongTeams 5 = .ok (.iload 4, 2) := by decide +kernel
theorem dX5_wrongTeams_7 : decode cX5_wrongTeams 7 = .ok (.aload_n 0, 1) := by decide +kernel
theorem dX5_wrongTeams_8 : decode cX5_wrongTeams 8 = .ok (.getfield 80, 3) := by decide +kernel
theorem dX5_wrongTeams_11 : decode cX5_wrongTeams 11 = .ok (.if_icmp .ge 33, 3) := by decide +kernel
theorem dX5_wrongTeams_14 : decode cX5_wrongTeams 14 = .ok (.iload_n 3, 1) := by decide +kernel
theorem dX5_wrongTeams_15 : decode cX5_wrongTeams 15 = .ok (.aload_n 2, 1) := by decide +kernel
theorem dX5_wrongTeams_16 : decode cX5_wrongTeams 16 = .ok (.iload 4, 2) := by decide +kernel
theorem dX5_wrongTeams_18 : decode cX5_wrongTeams 18 = .ok (.laload, 1) := by decide +kernel
theorem dX5_wrongTeams_19 : decode cX5_wrongTeams 19 = .ok (.aload_n 0, 1) := by decide +kernel
theorem dX5_wrongTeams_20 : decode cX5_wrongTeams 20 = .ok (.iload_n 1, 1) := by decide +kernel
theorem dX5_wrongTeams_21 : decode cX5_wrongTeams 21 = .ok (.iload 4, 2) := by decide +kernel
theorem dX5_wrongTeams_23 : decode cX5_wrongTeams 23 = .ok (.invokevirtual 260, 3) := by decide +kernel
theorem dX5_wrongTeams_26 : decode cX5_wrongTeams 26 = .ok (.i2l, 1) := by decide +kernel
theorem dX5_wrongTeams_27 : decode cX5_wrongTeams 27 = .ok (.lcmp, 1) := by decide +kernel
theorem dX5_wrongTeams_28 : decode cX5_wrongTeams 28 = .ok (.ifCond .eq 7, 3) := by decide +kernel
theorem dX5_wrongTeams_31 : decode cX5_wrongTeams 31 = .ok (.iconst 1, 1) := by decide +kernel
theorem dX5_wrongTeams_32 : decode cX5_wrongTeams 32 = .ok (.goto 4, 3) := by decide +kernel
theorem dX5_wrongTeams_35 : decode cX5_wrongTeams 35 = .ok (.iconst 0, 1) := by decide +kernel
theorem dX5_wrongTeams_36 : decode cX5_wrongTeams 36 = .ok (.iadd, 1) := by decide +kernel
theorem dX5_wrongTeams_37 : decode cX5_wrongTeams 37 = .ok (.istore_n 3, 1) := by decide +kernel
theorem dX5_wrongTeams_38 : decode cX5_wrongTeams 38 = .ok (.iinc 4 1, 3) := by decide +kernel
theorem dX5_wrongTeams_41 : decode cX5_wrongTeams 41 = .ok (.goto (-36), 3) := by decide +kernel
theorem dX5_wrongTeams_44 : decode cX5_wrongTeams 44 = .ok (.iload_n 3, 1) := by decide +kernel
theorem dX5_wrongTeams_45 : decode cX5_wrongTeams 45 = .ok (.ireturn, 1) := by decide +kernel
theorem dX5_fits_0 : decode cX5_fits 0 = .ok (.aload_n 0, 1) := by decide +kernel
theorem dX5_fits_1 : decode cX5_fits 1 = .ok (.iload_n 1, 1) := by decide +kernel
theorem dX5_fits_2 : decode cX5_fits 2 = .ok (.invokevirtual 313, 3) := by decide +kernel
theorem dX5_fits_5 : decode cX5_fits 5 = .ok (.istore_n 2, 1) := by decide +kernel
theorem dX5_fits_6 : decode cX5_fits 6 = .ok (.iload_n 2, 1) := by decide +kernel
theorem dX5_fits_7 : decode cX5_fits 7 = .ok (.ifCond .eq 5, 3) := by decide +kernel
theorem dX5_fits_10 : decode cX5_fits 10 = .ok (.iload_n 2, 1) := by decide +kernel
theorem dX5_fits_11 : decode cX5_fits 11 = .ok (.ireturn, 1) := by decide +kernel
theorem dX5_fits_12 : decode cX5_fits 12 = .ok (.iconst 0, 1) := by decide +kernel
theorem dX5_fits_13 : decode cX5_fits 13 = .ok (.istore_n 3, 1) := by decide +kernel
theorem dX5_fits_14 : decode cX5_fits 14 = .ok (.iconst 0, 1) := by decide +kernel
theorem dX5_fits_15 : decode cX5_fits 15 = .ok (.istore 4, 2) := by decide +kernel
theorem dX5_fits_17 : decode cX5_fits 17 = .ok (.iload 4, 2) := by decide +kernel
theorem dX5_fits_19 : decode cX5_fits 19 = .ok (.aload_n 0, 1) := by decide +kernel
theorem dX5_fits_20 : decode cX5_fits 20 = .ok (.getfield 91, 3) := by decide +kernel
theorem dX5_fits_23 : decode cX5_fits 23 = .ok (.if_icmp .ge 35, 3) := by decide +kernel
theorem dX5_fits_26 : decode cX5_fits 26 = .ok (.iload_n 3, 1) := by decide +kernel
theorem dX5_fits_27 : decode cX5_fits 27 = .ok (.aload_n 0, 1) := by decide +kernel
theorem dX5_fits_28 : decode cX5_fits 28 = .ok (.iload 4, 2) := by decide +kernel
theorem dX5_fits_30 : decode cX5_fits 30 = .ok (.aload_n 0, 1) := by decide +kernel
theorem dX5_fits_31 : decode cX5_fits 31 = .ok (.getfield 21, 3) := by decide +kernel
theorem dX5_fits_34 : decode cX5_fits 34 = .ok (.iload_n 1, 1) := by decide +kernel
theorem dX5_fits_35 : decode cX5_fits 35 = .ok (.aaload, 1) := by decide +kernel
theorem dX5_fits_36 : decode cX5_fits 36 = .ok (.invokevirtual 316, 3) := by decide +kernel
theorem dX5_fits_39 : decode cX5_fits 39 = .ok (.ifCond .ne 10, 3) := by decide +kernel
theorem dX5_fits_42 : decode cX5_fits 42 = .ok (.iconst 1, 1) := by decide +kernel
theorem dX5_fits_43 : decode cX5_fits 43 = .ok (.iload 4, 2) := by decide +kernel
theorem dX5_fits_45 : decode cX5_fits 45 = .ok (.ishl, 1) := by decide +kernel
theorem dX5_fits_46 : decode cX5_fits 46 = .ok (.goto 4, 3) := by decide +kernel
theorem dX5_fits_49 : decode cX5_fits 49 = .ok (.iconst 0, 1) := by decide +kernel
theorem dX5_fits_50 : decode cX5_fits 50 = .ok (.ior, 1) := by decide +kernel
theorem dX5_fits_51 : decode cX5_fits 51 = .ok (.istore_n 3, 1) := by decide +kernel
theorem dX5_fits_52 : decode cX5_fits 52 = .ok (.iinc 4 1, 3) := by decide +kernel
theorem dX5_fits_55 : decode cX5_fits 55 = .ok (.goto (-38), 3) := by decide +kernel
theorem dX5_fits_58 : decode cX5_fits 58 = .ok (.iload_n 3, 1) := by decide +kernel
theorem dX5_fits_59 : decode cX5_fits 59 = .ok (.ireturn, 1) := by decide +kernel
theorem dX5_moved_0 : decode cX5_moved 0 = .ok (.aload_n 0, 1) := by decide +kernel
theorem dX5_moved_1 : decode cX5_moved 1 = .ok (.iload_n 1, 1) := by decide +kernel
theorem dX5_moved_2 : decode cX5_moved 2 = .ok (.invokevirtual 94, 3) := by decide +kernel
theorem dX5_moved_5 : decode cX5_moved 5 = .ok (.ifCond .ne 10, 3) := by decide +kernel
theorem dX5_moved_8 : decode cX5_moved 8 = .ok (.aload_n 0, 1) := by decide +kernel
theorem dX5_moved_9 : decode cX5_moved 9 = .ok (.bipush (-2), 2) := by decide +kernel
theorem dX5_moved_11 : decode cX5_moved 11 = .ok (.invokevirtual 104, 3) := by decide +kernel
theorem dX5_moved_14 : decode cX5_moved 14 = .ok (.ireturn, 1) := by decide +kernel
theorem dX5_moved_15 : decode cX5_moved 15 = .ok (.aload_n 0, 1) := by decide +kernel
theorem dX5_moved_16 : decode cX5_moved 16 = .ok (.iload_n 2, 1) := by decide +kernel
theorem dX5_moved_17 : decode cX5_moved 17 = .ok (.invokevirtual 313, 3) := by decide +kernel
theorem dX5_moved_20 : decode cX5_moved 20 = .ok (.istore_n 3, 1) := by decide +kernel
theorem dX5_moved_21 : decode cX5_moved 21 = .ok (.iload_n 3, 1) := by decide +kernel
theorem dX5_moved_22 : decode cX5_moved 22 = .ok (.ifCond .eq 5, 3) := by decide +kernel
theorem dX5_moved_25 : decode cX5_moved 25 = .ok (.iload_n 3, 1) := by decide +kernel
theorem dX5_moved_26 : decode cX5_moved 26 = .ok (.ireturn, 1) := by decide +kernel
theorem dX5_moved_27 : decode cX5_moved 27 = .ok (.iconst 0, 1) := by decide +kernel
theorem dX5_moved_28 : decode cX5_moved 28 = .ok (.istore 4, 2) := by decide +kernel
theorem dX5_moved_30 : decode cX5_moved 30 = .ok (.iload 4, 2) := by decide +kernel
theorem dX5_moved_32 : decode cX5_moved 32 = .ok (.aload_n 0, 1) := by decide +kernel
theorem dX5_moved_33 : decode cX5_moved 33 = .ok (.getfield 80, 3) := by decide +kernel
theorem dX5_moved_36 : decode cX5_moved 36 = .ok (.if_icmp .ge 73, 3) := by decide +kernel
theorem dX5_moved_39 : decode cX5_moved 39 = .ok (.iload 4, 2) := by decide +kernel
theorem dX5_moved_41 : decode cX5_moved 41 = .ok (.iconst 1, 1) := by decide +kernel
theorem dX5_moved_42 : decode cX5_moved 42 = .ok (.iadd, 1) := by decide +kernel
theorem dX5_moved_43 : decode cX5_moved 43 = .ok (.istore 5, 2) := by decide +kernel
theorem dX5_moved_45 : decode cX5_moved 45 = .ok (.iload 5, 2) := by decide +kernel
theorem dX5_moved_47 : decode cX5_moved 47 = .ok (.aload_n 0, 1) := by decide +kernel
theorem dX5_moved_48 : decode cX5_moved 48 = .ok (.getfield 80, 3) := by decide +kernel
theorem dX5_moved_51 : decode cX5_moved 51 = .ok (.if_icmp .ge 52, 3) := by decide +kernel
theorem dX5_moved_54 : decode cX5_moved 54 = .ok (.aload_n 0, 1) := by decide +kernel
theorem dX5_moved_55 : decode cX5_moved 55 = .ok (.iload 4, 2) := by decide +kernel
theorem dX5_moved_57 : decode cX5_moved 57 = .ok (.iload 5, 2) := by decide +kernel
theorem dX5_moved_59 : decode cX5_moved 59 = .ok (.invokevirtual 222, 3) := by decide +kernel
theorem dX5_moved_62 : decode cX5_moved 62 = .ok (.aload_n 0, 1) := by decide +kernel
theorem dX5_moved_63 : decode cX5_moved 63 = .ok (.iload_n 1, 1) := by decide +kernel
theorem dX5_moved_64 : decode cX5_moved 64 = .ok (.aload_n 0, 1) := by decide +kernel
theorem dX5_moved_65 : decode cX5_moved 65 = .ok (.getfield 21, 3) := by decide +kernel
theorem dX5_moved_68 : decode cX5_moved 68 = .ok (.iload_n 2, 1) := by decide +kernel
theorem dX5_moved_69 : decode cX5_moved 69 = .ok (.aaload, 1) := by decide +kernel
theorem dX5_moved_70 : decode cX5_moved 70 = .ok (.invokevirtual 316, 3) := by decide +kernel
theorem dX5_moved_73 : decode cX5_moved 73 = .ok (.istore 6, 2) := by decide +kernel
theorem dX5_moved_75 : decode cX5_moved 75 = .ok (.aload_n 0, 1) := by decide +kernel
theorem dX5_moved_76 : decode cX5_moved 76 = .ok (.iload 4, 2) := by decide +kernel
theorem dX5_moved_78 : decode cX5_moved 78 = .ok (.iload 5, 2) := by decide +kernel
theorem dX5_moved_80 : decode cX5_moved 80 = .ok (.invokevirtual 222, 3) := by decide +kernel
theorem dX5_moved_83 : decode cX5_moved 83 = .ok (.iload 6, 2) := by decide +kernel
theorem dX5_moved_85 : decode cX5_moved 85 = .ok (.ifCond .ne 12, 3) := by decide +kernel
theorem dX5_moved_88 : decode cX5_moved 88 = .ok (.bipush 100, 2) := by decide +kernel
theorem dX5_moved_90 : decode cX5_moved 90 = .ok (.iload 4, 2) := by decide +kernel
theorem dX5_moved_92 : decode cX5_moved 92 = .ok (.imul, 1) := by decide +kernel
theorem dX5_moved_93 : decode cX5_moved 93 = .ok (.iload 5, 2) := by decide +kernel
theorem dX5_moved_95 : decode cX5_moved 95 = .ok (.iadd, 1) := by decide +kernel
theorem dX5_moved_96 : decode cX5_moved 96 = .ok (.ireturn, 1) := by decide +kernel
theorem dX5_moved_97 : decode cX5_moved 97 = .ok (.iinc 5 1, 3) := by decide +kernel
theorem dX5_moved_100 : decode cX5_moved 100 = .ok (.goto (-55), 3) := by decide +kernel
theorem dX5_moved_103 : decode cX5_moved 103 = .ok (.iinc 4 1, 3) := by decide +kernel
theorem dX5_moved_106 : decode cX5_moved 106 = .ok (.goto (-76), 3) := by decide +kernel
theorem dX5_moved_109 : decode cX5_moved 109 = .ok (.iconst (-1), 1) := by decide +kernel
theorem dX5_moved_110 : decode cX5_moved 110 = .ok (.ireturn, 1) := by decide +kernel
theorem dX5_miscounted_0 : decode cX5_miscounted 0 = .ok (.aload_n 0, 1) := by decide +kernel
theorem dX5_miscounted_1 : decode cX5_miscounted 1 = .ok (.iload_n 1, 1) := by decide +kernel
theorem dX5_miscounted_2 : decode cX5_miscounted 2 = .ok (.invokevirtual 313, 3) := by decide +kernel
theorem dX5_miscounted_5 : decode cX5_miscounted 5 = .ok (.istore_n 2, 1) := by decide +kernel
theorem dX5_miscounted_6 : decode cX5_miscounted 6 = .ok (.iload_n 2, 1) := by decide +kernel
theorem dX5_miscounted_7 : decode cX5_miscounted 7 = .ok (.ifCond .eq 5, 3) := by decide +kernel
theorem dX5_miscounted_10 : decode cX5_miscounted 10 = .ok (.iload_n 2, 1) := by decide +kernel
theorem dX5_miscounted_11 : decode cX5_miscounted 11 = .ok (.ireturn, 1) := by decide +kernel
theorem dX5_miscounted_12 : decode cX5_miscounted 12 = .ok (.aload_n 0, 1) := by decide +kernel
theorem dX5_miscounted_13 : decode cX5_miscounted 13 = .ok (.getfield 91, 3) := by decide +kernel
theorem dX5_miscounted_16 : decode cX5_miscounted 16 = .ok (.ifCond .ne 10, 3) := by decide +kernel
theorem dX5_miscounted_19 : decode cX5_miscounted 19 = .ok (.aload_n 0, 1) := by decide +kernel
theorem dX5_miscounted_20 : decode cX5_miscounted 20 = .ok (.bipush (-5), 2) := by decide +kernel
theorem dX5_miscounted_22 : decode cX5_miscounted 22 = .ok (.invokevirtual 104, 3) := by decide +kernel
theorem dX5_miscounted_25 : decode cX5_miscounted 25 = .ok (.ireturn, 1) := by decide +kernel
theorem dX5_miscounted_26 : decode cX5_miscounted 26 = .ok (.aload_n 0, 1) := by decide +kernel
theorem dX5_miscounted_27 : decode cX5_miscounted 27 = .ok (.getfield 80, 3) := by decide +kernel
theorem dX5_miscounted_30 : decode cX5_miscounted 30 = .ok (.istore_n 3, 1) := by decide +kernel
theorem dX5_miscounted_31 : decode cX5_miscounted 31 = .ok (.iconst 0, 1) := by decide +kernel
theorem dX5_miscounted_32 : decode cX5_miscounted 32 = .ok (.istore 4, 2) := by decide +kernel
theorem dX5_miscounted_34 : decode cX5_miscounted 34 = .ok (.iload 4, 2) := by decide +kernel
theorem dX5_miscounted_36 : decode cX5_miscounted 36 = .ok (.aload_n 0, 1) := by decide +kernel
theorem dX5_miscounted_37 : decode cX5_miscounted 37 = .ok (.getfield 91, 3) := by decide +kernel
theorem dX5_miscounted_40 : decode cX5_miscounted 40 = .ok (.if_icmp .ge 36, 3) := by decide +kernel
theorem dX5_miscounted_43 : decode cX5_miscounted 43 = .ok (.aload_n 0, 1) := by decide +kernel
theorem dX5_miscounted_44 : decode cX5_miscounted 44 = .ok (.iload 4, 2) := by decide +kernel
theorem dX5_miscounted_46 : decode cX5_miscounted 46 = .ok (.aload_n 0, 1) := by decide +kernel
theorem dX5_miscounted_47 : decode cX5_miscounted 47 = .ok (.getfield 21, 3) := by decide +kernel
theorem dX5_miscounted_50 : decode cX5_miscounted 50 = .ok (.iload_n 1, 1) := by decide +kernel
theorem dX5_miscounted_51 : decode cX5_miscounted 51 = .ok (.aaload, 1) := by decide +kernel
theorem dX5_miscounted_52 : decode cX5_miscounted 52 = .ok (.invokevirtual 316, 3) := by decide +kernel
theorem dX5_miscounted_55 : decode cX5_miscounted 55 = .ok (.istore 5, 2) := by decide +kernel
theorem dX5_miscounted_57 : decode cX5_miscounted 57 = .ok (.iload 5, 2) := by decide +kernel
theorem dX5_miscounted_59 : decode cX5_miscounted 59 = .ok (.iload_n 3, 1) := by decide +kernel
theorem dX5_miscounted_60 : decode cX5_miscounted 60 = .ok (.if_icmp .ge 8, 3) := by decide +kernel
theorem dX5_miscounted_63 : decode cX5_miscounted 63 = .ok (.iload 5, 2) := by decide +kernel
theorem dX5_miscounted_65 : decode cX5_miscounted 65 = .ok (.goto 4, 3) := by decide +kernel
theorem dX5_miscounted_68 : decode cX5_miscounted 68 = .ok (.iload_n 3, 1) := by decide +kernel
theorem dX5_miscounted_69 : decode cX5_miscounted 69 = .ok (.istore_n 3, 1) := by decide +kernel
theorem dX5_miscounted_70 : decode cX5_miscounted 70 = .ok (.iinc 4 1, 3) := by decide +kernel
theorem dX5_miscounted_73 : decode cX5_miscounted 73 = .ok (.goto (-39), 3) := by decide +kernel
theorem dX5_miscounted_76 : decode cX5_miscounted 76 = .ok (.iload_n 3, 1) := by decide +kernel
theorem dX5_miscounted_77 : decode cX5_miscounted 77 = .ok (.ireturn, 1) := by decide +kernel
theorem dX5_noChanges_0 : decode cX5_noChanges 0 = .ok (.iload_n 1, 1) := by decide +kernel
theorem dX5_noChanges_1 : decode cX5_noChanges 1 = .ok (.i2l, 1) := by decide +kernel
theorem dX5_noChanges_2 : decode cX5_noChanges 2 = .ok (.lconst 0, 1) := by decide +kernel
theorem dX5_noChanges_3 : decode cX5_noChanges 3 = .ok (.ldc2_w 98, 3) := by decide +kernel
theorem dX5_noChanges_6 : decode cX5_noChanges 6 = .ok (.invokestatic 83, 3) := by decide +kernel
theorem dX5_noChanges_9 : decode cX5_noChanges 9 = .ok (.ifCond .eq 15, 3) := by decide +kernel
theorem dX5_noChanges_12 : decode cX5_noChanges 12 = .ok (.iload_n 2, 1) := by decide +kernel
theorem dX5_noChanges_13 : decode cX5_noChanges 13 = .ok (.i2l, 1) := by decide +kernel
theorem dX5_noChanges_14 : decode cX5_noChanges 14 = .ok (.lconst 0, 1) := by decide +kernel
theorem dX5_noChanges_15 : decode cX5_noChanges 15 = .ok (.ldc2_w 102, 3) := by decide +kernel
theorem dX5_noChanges_18 : decode cX5_noChanges 18 = .ok (.invokestatic 83, 3) := by decide +kernel
theorem dX5_noChanges_21 : decode cX5_noChanges 21 = .ok (.ifCond .ne 10, 3) := by decide +kernel
theorem dX5_noChanges_24 : decode cX5_noChanges 24 = .ok (.aload_n 0, 1) := by decide +kernel
theorem dX5_noChanges_25 : decode cX5_noChanges 25 = .ok (.bipush (-2), 2) := by decide +kernel
theorem dX5_noChanges_27 : decode cX5_noChanges 27 = .ok (.invokevirtual 104, 3) := by decide +kernel
theorem dX5_noChanges_30 : decode cX5_noChanges 30 = .ok (.ireturn, 1) := by decide +kernel
theorem dX5_noChanges_31 : decode cX5_noChanges 31 = .ok (.aload_n 0, 1) := by decide +kernel
theorem dX5_noChanges_32 : decode cX5_noChanges 32 = .ok (.iload_n 1, 1) := by decide +kernel
theorem dX5_noChanges_33 : decode cX5_noChanges 33 = .ok (.invokevirtual 108, 3) := by decide +kernel
theorem dX5_noChanges_36 : decode cX5_noChanges 36 = .ok (.istore_n 3, 1) := by decide +kernel
theorem dX5_noChanges_37 : decode cX5_noChanges 37 = .ok (.iload_n 3, 1) := by decide +kernel
theorem dX5_noChanges_38 : decode cX5_noChanges 38 = .ok (.ifCond .eq 5, 3) := by decide +kernel
theorem dX5_noChanges_41 : decode cX5_noChanges 41 = .ok (.iload_n 3, 1) := by decide +kernel
theorem dX5_noChanges_42 : decode cX5_noChanges 42 = .ok (.ireturn, 1) := by decide +kernel
theorem dX5_noChanges_43 : decode cX5_noChanges 43 = .ok (.aload_n 0, 1) := by decide +kernel
theorem dX5_noChanges_44 : decode cX5_noChanges 44 = .ok (.getfield 16, 3) := by decide +kernel
theorem dX5_noChanges_47 : decode cX5_noChanges 47 = .ok (.iload_n 1, 1) := by decide +kernel
theorem dX5_noChanges_48 : decode cX5_noChanges 48 = .ok (.iaload, 1) := by decide +kernel
theorem dX5_noChanges_49 : decode cX5_noChanges 49 = .ok (.iload_n 2, 1) := by decide +kernel
theorem dX5_noChanges_50 : decode cX5_noChanges 50 = .ok (.if_icmp .ge 12, 3) := by decide +kernel
theorem dX5_noChanges_53 : decode cX5_noChanges 53 = .ok (.aload_n 0, 1) := by decide +kernel
theorem dX5_noChanges_54 : decode cX5_noChanges 54 = .ok (.bipush (-2), 2) := by decide +kernel
theorem dX5_noChanges_56 : decode cX5_noChanges 56 = .ok (.invokevirtual 104, 3) := by decide +kernel
theorem dX5_noChanges_59 : decode cX5_noChanges 59 = .ok (.goto 4, 3) := by decide +kernel
theorem dX5_noChanges_62 : decode cX5_noChanges 62 = .ok (.iconst 0, 1) := by decide +kernel
theorem dX5_noChanges_63 : decode cX5_noChanges 63 = .ok (.ireturn, 1) := by decide +kernel
theorem dX5_goesBy_0 : decode cX5_goesBy 0 = .ok (.iconst 0, 1) := by decide +kernel
theorem dX5_goesBy_1 : decode cX5_goesBy 1 = .ok (.istore_n 3, 1) := by decide +kernel
theorem dX5_goesBy_2 : decode cX5_goesBy 2 = .ok (.iload_n 3, 1) := by decide +kernel
theorem dX5_goesBy_3 : decode cX5_goesBy 3 = .ok (.iload_n 2, 1) := by decide +kernel
theorem dX5_goesBy_4 : decode cX5_goesBy 4 = .ok (.if_icmp .ge 81, 3) := by decide +kernel
theorem dX5_goesBy_7 : decode cX5_goesBy 7 = .ok (.aload_n 1, 1) := by decide +kernel
theorem dX5_goesBy_8 : decode cX5_goesBy 8 = .ok (.iload_n 3, 1) := by decide +kernel
theorem dX5_goesBy_9 : decode cX5_goesBy 9 = .ok (.laload, 1) := by decide +kernel
theorem dX5_goesBy_10 : decode cX5_goesBy 10 = .ok (.lconst 0, 1) := by decide +kernel
theorem dX5_goesBy_11 : decode cX5_goesBy 11 = .ok (.lcmp, 1) := by decide +kernel
theorem dX5_goesBy_12 : decode cX5_goesBy 12 = .ok (.ifCond .lt 24, 3) := by decide +kernel
theorem dX5_goesBy_15 : decode cX5_goesBy 15 = .ok (.aload_n 0, 1) := by decide +kernel
theorem dX5_goesBy_16 : decode cX5_goesBy 16 = .ok (.aload_n 1, 1) := by decide +kernel
theorem dX5_goesBy_17 : decode cX5_goesBy 17 = .ok (.iload_n 3, 1) := by decide +kernel
theorem dX5_goesBy_18 : decode cX5_goesBy 18 = .ok (.laload, 1) := by decide +kernel
theorem dX5_goesBy_19 : decode cX5_goesBy 19 = .ok (.ldc2_w 320, 3) := by decide +kernel
theorem dX5_goesBy_22 : decode cX5_goesBy 22 = .ok (.ldiv, 1) := by decide +kernel
theorem dX5_goesBy_23 : decode cX5_goesBy 23 = .ok (.aload_n 1, 1) := by decide +kernel
theorem dX5_goesBy_24 : decode cX5_goesBy 24 = .ok (.iload_n 3, 1) := by decide +kernel
theorem dX5_goesBy_25 : decode cX5_goesBy 25 = .ok (.laload, 1) := by decide +kernel
theorem dX5_goesBy_26 : decode cX5_goesBy 26 = .ok (.ldc2_w 320, 3) := by decide +kernel
theorem dX5_goesBy_29 : decode cX5_goesBy 29 = .ok (.lrem, 1) := by decide +kernel
theorem dX5_goesBy_30 : decode cX5_goesBy 30 = .ok (.invokevirtual 144, 3) := by decide +kernel
theorem dX5_goesBy_33 : decode cX5_goesBy 33 = .ok (.ifCond .ne 5, 3) := by decide +kernel
theorem dX5_goesBy_36 : decode cX5_goesBy 36 = .ok (.iload_n 3, 1) := by decide +kernel
theorem dX5_goesBy_37 : decode cX5_goesBy 37 = .ok (.ireturn, 1) := by decide +kernel
theorem dX5_goesBy_38 : decode cX5_goesBy 38 = .ok (.aload_n 1, 1) := by decide +kernel
theorem dX5_goesBy_39 : decode cX5_goesBy 39 = .ok (.iload_n 3, 1) := by decide +kernel
theorem dX5_goesBy_40 : decode cX5_goesBy 40 = .ok (.laload, 1) := by decide +kernel
theorem dX5_goesBy_41 : decode cX5_goesBy 41 = .ok (.ldc2_w 320, 3) := by decide +kernel
theorem dX5_goesBy_44 : decode cX5_goesBy 44 = .ok (.ldiv, 1) := by decide +kernel
theorem dX5_goesBy_45 : decode cX5_goesBy 45 = .ok (.l2i, 1) := by decide +kernel
theorem dX5_goesBy_46 : decode cX5_goesBy 46 = .ok (.istore 4, 2) := by decide +kernel
theorem dX5_goesBy_48 : decode cX5_goesBy 48 = .ok (.aload_n 1, 1) := by decide +kernel
theorem dX5_goesBy_49 : decode cX5_goesBy 49 = .ok (.iload_n 3, 1) := by decide +kernel
theorem dX5_goesBy_50 : decode cX5_goesBy 50 = .ok (.laload, 1) := by decide +kernel
theorem dX5_goesBy_51 : decode cX5_goesBy 51 = .ok (.ldc2_w 320, 3) := by decide +kernel
theorem dX5_goesBy_54 : decode cX5_goesBy 54 = .ok (.lrem, 1) := by decide +kernel
theorem dX5_goesBy_55 : decode cX5_goesBy 55 = .ok (.l2i, 1) := by decide +kernel
theorem dX5_goesBy_56 : decode cX5_goesBy 56 = .ok (.istore 5, 2) := by decide +kernel
theorem dX5_goesBy_58 : decode cX5_goesBy 58 = .ok (.aload_n 0, 1) := by decide +kernel
theorem dX5_goesBy_59 : decode cX5_goesBy 59 = .ok (.iload 4, 2) := by decide +kernel
theorem dX5_goesBy_61 : decode cX5_goesBy 61 = .ok (.iload 5, 2) := by decide +kernel
theorem dX5_goesBy_63 : decode cX5_goesBy 63 = .ok (.invokevirtual 290, 3) := by decide +kernel
theorem dX5_goesBy_66 : decode cX5_goesBy 66 = .ok (.ifCond .ne 5, 3) := by decide +kernel
theorem dX5_goesBy_69 : decode cX5_goesBy 69 = .ok (.iload_n 3, 1) := by decide +kernel
theorem dX5_goesBy_70 : decode cX5_goesBy 70 = .ok (.ireturn, 1) := by decide +kernel
theorem dX5_goesBy_71 : decode cX5_goesBy 71 = .ok (.aload_n 0, 1) := by decide +kernel
theorem dX5_goesBy_72 : decode cX5_goesBy 72 = .ok (.iload 4, 2) := by decide +kernel
theorem dX5_goesBy_74 : decode cX5_goesBy 74 = .ok (.iload 5, 2) := by decide +kernel
theorem dX5_goesBy_76 : decode cX5_goesBy 76 = .ok (.invokevirtual 222, 3) := by decide +kernel
theorem dX5_goesBy_79 : decode cX5_goesBy 79 = .ok (.iinc 3 1, 3) := by decide +kernel
theorem dX5_goesBy_82 : decode cX5_goesBy 82 = .ok (.goto (-80), 3) := by decide +kernel
theorem dX5_goesBy_85 : decode cX5_goesBy 85 = .ok (.iconst (-1), 1) := by decide +kernel
theorem dX5_goesBy_86 : decode cX5_goesBy 86 = .ok (.ireturn, 1) := by decide +kernel
theorem dX5_judge_0 : decode cX5_judge 0 = .ok (.aload_n 0, 1) := by decide +kernel
theorem dX5_judge_1 : decode cX5_judge 1 = .ok (.iload_n 1, 1) := by decide +kernel
theorem dX5_judge_2 : decode cX5_judge 2 = .ok (.iload_n 2, 1) := by decide +kernel
theorem dX5_judge_3 : decode cX5_judge 3 = .ok (.invokevirtual 322, 3) := by decide +kernel
theorem dX5_judge_6 : decode cX5_judge 6 = .ok (.istore_n 3, 1) := by decide +kernel
theorem dX5_judge_7 : decode cX5_judge 7 = .ok (.iload_n 3, 1) := by decide +kernel
theorem dX5_judge_8 : decode cX5_judge 8 = .ok (.ifCond .eq 7, 3) := by decide +kernel
theorem dX5_judge_11 : decode cX5_judge 11 = .ok (.iload_n 3, 1) := by decide +kernel
theorem dX5_judge_12 : decode cX5_judge 12 = .ok (.goto 17, 3) := by decide +kernel
theorem dX5_judge_15 : decode cX5_judge 15 = .ok (.aload_n 0, 1) := by decide +kernel
theorem dX5_judge_16 : decode cX5_judge 16 = .ok (.invokevirtual 245, 3) := by decide +kernel
theorem dX5_judge_19 : decode cX5_judge 19 = .ok (.aload_n 0, 1) := by decide +kernel
theorem dX5_judge_20 : decode cX5_judge 20 = .ok (.getfield 21, 3) := by decide +kernel
theorem dX5_judge_23 : decode cX5_judge 23 = .ok (.iload_n 1, 1) := by decide +kernel
theorem dX5_judge_24 : decode cX5_judge 24 = .ok (.aaload, 1) := by decide +kernel
theorem dX5_judge_25 : decode cX5_judge 25 = .ok (.iload_n 2, 1) := by decide +kernel
theorem dX5_judge_26 : decode cX5_judge 26 = .ok (.invokevirtual 325, 3) := by decide +kernel
theorem dX5_judge_29 : decode cX5_judge 29 = .ok (.ireturn, 1) := by decide +kernel
theorem dX5_behind_0 : decode cX5_behind 0 = .ok (.iload_n 1, 1) := by decide +kernel
theorem dX5_behind_1 : decode cX5_behind 1 = .ok (.i2l, 1) := by decide +kernel
theorem dX5_behind_2 : decode cX5_behind 2 = .ok (.lconst 0, 1) := by decide +kernel
theorem dX5_behind_3 : decode cX5_behind 3 = .ok (.ldc2_w 98, 3) := by decide +kernel
theorem dX5_behind_6 : decode cX5_behind 6 = .ok (.invokestatic 83, 3) := by decide +kernel
theorem dX5_behind_9 : decode cX5_behind 9 = .ok (.ifCond .eq 23, 3) := by decide +kernel
theorem dX5_behind_12 : decode cX5_behind 12 = .ok (.iload_n 2, 1) := by decide +kernel
theorem dX5_behind_13 : decode cX5_behind 13 = .ok (.i2l, 1) := by decide +kernel
theorem dX5_behind_14 : decode cX5_behind 14 = .ok (.lconst 0, 1) := by decide +kernel
theorem dX5_behind_15 : decode cX5_behind 15 = .ok (.ldc2_w 102, 3) := by decide +kernel
theorem dX5_behind_18 : decode cX5_behind 18 = .ok (.invokestatic 83, 3) := by decide +kernel
theorem dX5_behind_21 : decode cX5_behind 21 = .ok (.ifCond .eq 11, 3) := by decide +kernel
theorem dX5_behind_24 : decode cX5_behind 24 = .ok (.aload_n 0, 1) := by decide +kernel
theorem dX5_behind_25 : decode cX5_behind 25 = .ok (.iload_n 3, 1) := by decide +kernel
theorem dX5_behind_26 : decode cX5_behind 26 = .ok (.invokevirtual 94, 3) := by decide +kernel
theorem dX5_behind_29 : decode cX5_behind 29 = .ok (.ifCond .ne 10, 3) := by decide +kernel
theorem dX5_behind_32 : decode cX5_behind 32 = .ok (.aload_n 0, 1) := by decide +kernel
theorem dX5_behind_33 : decode cX5_behind 33 = .ok (.bipush (-2), 2) := by decide +kernel
theorem dX5_behind_35 : decode cX5_behind 35 = .ok (.invokevirtual 104, 3) := by decide +kernel
theorem dX5_behind_38 : decode cX5_behind 38 = .ok (.ireturn, 1) := by decide +kernel
theorem dX5_behind_39 : decode cX5_behind 39 = .ok (.aload_n 0, 1) := by decide +kernel
theorem dX5_behind_40 : decode cX5_behind 40 = .ok (.iload_n 1, 1) := by decide +kernel
theorem dX5_behind_41 : decode cX5_behind 41 = .ok (.iload_n 2, 1) := by decide +kernel
theorem dX5_behind_42 : decode cX5_behind 42 = .ok (.invokevirtual 322, 3) := by decide +kernel
theorem dX5_behind_45 : decode cX5_behind 45 = .ok (.istore 4, 2) := by decide +kernel
theorem dX5_behind_47 : decode cX5_behind 47 = .ok (.iload 4, 2) := by decide +kernel
theorem dX5_behind_49 : decode cX5_behind 49 = .ok (.ifCond .eq 6, 3) := by decide +kernel
theorem dX5_behind_52 : decode cX5_behind 52 = .ok (.iload 4, 2) := by decide +kernel
theorem dX5_behind_54 : decode cX5_behind 54 = .ok (.ireturn, 1) := by decide +kernel
theorem dX5_behind_55 : decode cX5_behind 55 = .ok (.aload_n 0, 1) := by decide +kernel
theorem dX5_behind_56 : decode cX5_behind 56 = .ok (.invokevirtual 245, 3) := by decide +kernel
theorem dX5_behind_59 : decode cX5_behind 59 = .ok (.astore 5, 2) := by decide +kernel
theorem dX5_behind_61 : decode cX5_behind 61 = .ok (.aload 5, 2) := by decide +kernel
theorem dX5_behind_63 : decode cX5_behind 63 = .ok (.aload_n 0, 1) := by decide +kernel
theorem dX5_behind_64 : decode cX5_behind 64 = .ok (.getfield 21, 3) := by decide +kernel
theorem dX5_behind_67 : decode cX5_behind 67 = .ok (.iload_n 1, 1) := by decide +kernel
theorem dX5_behind_68 : decode cX5_behind 68 = .ok (.aaload, 1) := by decide +kernel
theorem dX5_behind_69 : decode cX5_behind 69 = .ok (.iload_n 2, 1) := by decide +kernel
theorem dX5_behind_70 : decode cX5_behind 70 = .ok (.invokevirtual 325, 3) := by decide +kernel
theorem dX5_behind_73 : decode cX5_behind 73 = .ok (.iconst (-1), 1) := by decide +kernel
theorem dX5_behind_74 : decode cX5_behind 74 = .ok (.if_icmp .ne 12, 3) := by decide +kernel
theorem dX5_behind_77 : decode cX5_behind 77 = .ok (.aload 5, 2) := by decide +kernel
theorem dX5_behind_79 : decode cX5_behind 79 = .ok (.iload_n 3, 1) := by decide +kernel
theorem dX5_behind_80 : decode cX5_behind 80 = .ok (.invokevirtual 278, 3) := by decide +kernel
theorem dX5_behind_83 : decode cX5_behind 83 = .ok (.goto 9, 3) := by decide +kernel
theorem dX5_behind_86 : decode cX5_behind 86 = .ok (.aload_n 0, 1) := by decide +kernel
theorem dX5_behind_87 : decode cX5_behind 87 = .ok (.bipush (-5), 2) := by decide +kernel
theorem dX5_behind_89 : decode cX5_behind 89 = .ok (.invokevirtual 104, 3) := by decide +kernel
theorem dX5_behind_92 : decode cX5_behind 92 = .ok (.ireturn, 1) := by decide +kernel
theorem dX5_done_0 : decode cX5_done 0 = .ok (.aload_n 0, 1) := by decide +kernel
theorem dX5_done_1 : decode cX5_done 1 = .ok (.iload_n 1, 1) := by decide +kernel
theorem dX5_done_2 : decode cX5_done 2 = .ok (.iload_n 2, 1) := by decide +kernel
theorem dX5_done_3 : decode cX5_done 3 = .ok (.invokevirtual 322, 3) := by decide +kernel
theorem dX5_done_6 : decode cX5_done 6 = .ok (.istore_n 3, 1) := by decide +kernel
theorem dX5_done_7 : decode cX5_done 7 = .ok (.iload_n 3, 1) := by decide +kernel
theorem dX5_done_8 : decode cX5_done 8 = .ok (.ifCond .eq 5, 3) := by decide +kernel
theorem dX5_done_11 : decode cX5_done 11 = .ok (.iload_n 3, 1) := by decide +kernel
theorem dX5_done_12 : decode cX5_done 12 = .ok (.ireturn, 1) := by decide +kernel
theorem dX5_done_13 : decode cX5_done 13 = .ok (.aload_n 0, 1) := by decide +kernel
theorem dX5_done_14 : decode cX5_done 14 = .ok (.invokevirtual 245, 3) := by decide +kernel
theorem dX5_done_17 : decode cX5_done 17 = .ok (.aload_n 0, 1) := by decide +kernel
theorem dX5_done_18 : decode cX5_done 18 = .ok (.getfield 21, 3) := by decide +kernel
theorem dX5_done_21 : decode cX5_done 21 = .ok (.iload_n 1, 1) := by decide +kernel
theorem dX5_done_22 : decode cX5_done 22 = .ok (.aaload, 1) := by decide +kernel
theorem dX5_done_23 : decode cX5_done 23 = .ok (.iload_n 2, 1) := by decide +kernel
theorem dX5_done_24 : decode cX5_done 24 = .ok (.invokevirtual 325, 3) := by decide +kernel
theorem dX5_done_27 : decode cX5_done 27 = .ok (.iconst (-1), 1) := by decide +kernel
theorem dX5_done_28 : decode cX5_done 28 = .ok (.if_icmp .eq 10, 3) := by decide +kernel
theorem dX5_done_31 : decode cX5_done 31 = .ok (.aload_n 0, 1) := by decide +kernel
theorem dX5_done_32 : decode cX5_done 32 = .ok (.bipush (-5), 2) := by decide +kernel
theorem dX5_done_34 : decode cX5_done 34 = .ok (.invokevirtual 104, 3) := by decide +kernel
theorem dX5_done_37 : decode cX5_done 37 = .ok (.ireturn, 1) := by decide +kernel
theorem dX5_done_38 : decode cX5_done 38 = .ok (.aload_n 0, 1) := by decide +kernel
theorem dX5_done_39 : decode cX5_done 39 = .ok (.aload_n 0, 1) := by decide +kernel
theorem dX5_done_40 : decode cX5_done 40 = .ok (.getfield 21, 3) := by decide +kernel
theorem dX5_done_43 : decode cX5_done 43 = .ok (.iload_n 1, 1) := by decide +kernel
theorem dX5_done_44 : decode cX5_done 44 = .ok (.aaload, 1) := by decide +kernel
theorem dX5_done_45 : decode cX5_done 45 = .ok (.iload_n 2, 1) := by decide +kernel
theorem dX5_done_46 : decode cX5_done 46 = .ok (.invokevirtual 325, 3) := by decide +kernel
theorem dX5_done_49 : decode cX5_done 49 = .ok (.pop, 1) := by decide +kernel
theorem dX5_done_50 : decode cX5_done 50 = .ok (.iload_n 2, 1) := by decide +kernel
theorem dX5_done_51 : decode cX5_done 51 = .ok (.ireturn, 1) := by decide +kernel
theorem dX5_swap_0 : decode cX5_swap 0 = .ok (.aload_n 0, 1) := by decide +kernel
theorem dX5_swap_1 : decode cX5_swap 1 = .ok (.iload_n 1, 1) := by decide +kernel
theorem dX5_swap_2 : decode cX5_swap 2 = .ok (.i2l, 1) := by decide +kernel
theorem dX5_swap_3 : decode cX5_swap 3 = .ok (.invokevirtual 87, 3) := by decide +kernel
theorem dX5_swap_6 : decode cX5_swap 6 = .ok (.ifCond .eq 12, 3) := by decide +kernel
theorem dX5_swap_9 : decode cX5_swap 9 = .ok (.aload_n 0, 1) := by decide +kernel
theorem dX5_swap_10 : decode cX5_swap 10 = .ok (.iload_n 2, 1) := by decide +kernel
theorem dX5_swap_11 : decode cX5_swap 11 = .ok (.i2l, 1) := by decide +kernel
theorem dX5_swap_12 : decode cX5_swap 12 = .ok (.invokevirtual 87, 3) := by decide +kernel
theorem dX5_swap_15 : decode cX5_swap 15 = .ok (.ifCond .ne 10, 3) := by decide +kernel
theorem dX5_swap_18 : decode cX5_swap 18 = .ok (.aload_n 0, 1) := by decide +kernel
theorem dX5_swap_19 : decode cX5_swap 19 = .ok (.bipush (-2), 2) := by decide +kernel
theorem dX5_swap_21 : decode cX5_swap 21 = .ok (.invokevirtual 104, 3) := by decide +kernel
theorem dX5_swap_24 : decode cX5_swap 24 = .ok (.ireturn, 1) := by decide +kernel
theorem dX5_swap_25 : decode cX5_swap 25 = .ok (.aload_n 0, 1) := by decide +kernel
theorem dX5_swap_26 : decode cX5_swap 26 = .ok (.iload_n 1, 1) := by decide +kernel
theorem dX5_swap_27 : decode cX5_swap 27 = .ok (.iload_n 2, 1) := by decide +kernel
theorem dX5_swap_28 : decode cX5_swap 28 = .ok (.invokevirtual 290, 3) := by decide +kernel
theorem dX5_swap_31 : decode cX5_swap 31 = .ok (.ifCond .ne 10, 3) := by decide +kernel
theorem dX5_swap_34 : decode cX5_swap 34 = .ok (.aload_n 0, 1) := by decide +kernel
theorem dX5_swap_35 : decode cX5_swap 35 = .ok (.bipush (-5), 2) := by decide +kernel
theorem dX5_swap_37 : decode cX5_swap 37 = .ok (.invokevirtual 104, 3) := by decide +kernel
theorem dX5_swap_40 : decode cX5_swap 40 = .ok (.ireturn, 1) := by decide +kernel
theorem dX5_swap_41 : decode cX5_swap 41 = .ok (.aload_n 0, 1) := by decide +kernel
theorem dX5_swap_42 : decode cX5_swap 42 = .ok (.iload_n 1, 1) := by decide +kernel
theorem dX5_swap_43 : decode cX5_swap 43 = .ok (.iload_n 2, 1) := by decide +kernel
theorem dX5_swap_44 : decode cX5_swap 44 = .ok (.invokevirtual 222, 3) := by decide +kernel
theorem dX5_swap_47 : decode cX5_swap 47 = .ok (.iload_n 1, 1) := by decide +kernel
theorem dX5_swap_48 : decode cX5_swap 48 = .ok (.iload_n 2, 1) := by decide +kernel
theorem dX5_swap_49 : decode cX5_swap 49 = .ok (.if_icmp .ne 7, 3) := by decide +kernel
theorem dX5_swap_52 : decode cX5_swap 52 = .ok (.iconst 0, 1) := by decide +kernel
theorem dX5_swap_53 : decode cX5_swap 53 = .ok (.goto 4, 3) := by decide +kernel
theorem dX5_swap_56 : decode cX5_swap 56 = .ok (.iconst 1, 1) := by decide +kernel
theorem dX5_swap_57 : decode cX5_swap 57 = .ok (.ireturn, 1) := by decide +kernel
theorem dX5_move_0 : decode cX5_move 0 = .ok (.aload_n 0, 1) := by decide +kernel
theorem dX5_move_1 : decode cX5_move 1 = .ok (.iload_n 1, 1) := by decide +kernel
theorem dX5_move_2 : decode cX5_move 2 = .ok (.i2l, 1) := by decide +kernel
theorem dX5_move_3 : decode cX5_move 3 = .ok (.invokevirtual 87, 3) := by decide +kernel
theorem dX5_move_6 : decode cX5_move 6 = .ok (.ifCond .eq 12, 3) := by decide +kernel
theorem dX5_move_9 : decode cX5_move 9 = .ok (.aload_n 0, 1) := by decide +kernel
theorem dX5_move_10 : decode cX5_move 10 = .ok (.iload_n 2, 1) := by decide +kernel
theorem dX5_move_11 : decode cX5_move 11 = .ok (.i2l, 1) := by decide +kernel
theorem dX5_move_12 : decode cX5_move 12 = .ok (.invokevirtual 87, 3) := by decide +kernel
theorem dX5_move_15 : decode cX5_move 15 = .ok (.ifCond .ne 10, 3) := by decide +kernel
theorem dX5_move_18 : decode cX5_move 18 = .ok (.aload_n 0, 1) := by decide +kernel
theorem dX5_move_19 : decode cX5_move 19 = .ok (.bipush (-2), 2) := by decide +kernel
theorem dX5_move_21 : decode cX5_move 21 = .ok (.invokevirtual 104, 3) := by decide +kernel
theorem dX5_move_24 : decode cX5_move 24 = .ok (.ireturn, 1) := by decide +kernel
theorem dX5_move_25 : decode cX5_move 25 = .ok (.aload_n 0, 1) := by decide +kernel
theorem dX5_move_26 : decode cX5_move 26 = .ok (.getfield 43, 3) := by decide +kernel
theorem dX5_move_29 : decode cX5_move 29 = .ok (.iload_n 1, 1) := by decide +kernel
theorem dX5_move_30 : decode cX5_move 30 = .ok (.iaload, 1) := by decide +kernel
theorem dX5_move_31 : decode cX5_move 31 = .ok (.istore_n 3, 1) := by decide +kernel
theorem dX5_move_32 : decode cX5_move 32 = .ok (.aload_n 0, 1) := by decide +kernel
theorem dX5_move_33 : decode cX5_move 33 = .ok (.iload_n 1, 1) := by decide +kernel
theorem dX5_move_34 : decode cX5_move 34 = .ok (.iload_n 2, 1) := by decide +kernel
theorem dX5_move_35 : decode cX5_move 35 = .ok (.invokevirtual 227, 3) := by decide +kernel
theorem dX5_move_38 : decode cX5_move 38 = .ok (.iload_n 3, 1) := by decide +kernel
theorem dX5_move_39 : decode cX5_move 39 = .ok (.ireturn, 1) := by decide +kernel
theorem dX5_turn_0 : decode cX5_turn 0 = .ok (.aload_n 0, 1) := by decide +kernel
theorem dX5_turn_1 : decode cX5_turn 1 = .ok (.invokevirtual 275, 3) := by decide +kernel
theorem dX5_turn_4 : decode cX5_turn 4 = .ok (.aload_n 0, 1) := by decide +kernel
theorem dX5_turn_5 : decode cX5_turn 5 = .ok (.getfield 80, 3) := by decide +kernel
theorem dX5_turn_8 : decode cX5_turn 8 = .ok (.ifCond .ne 7, 3) := by decide +kernel
theorem dX5_turn_11 : decode cX5_turn 11 = .ok (.iconst (-1), 1) := by decide +kernel
theorem dX5_turn_12 : decode cX5_turn 12 = .ok (.goto 8, 3) := by decide +kernel
theorem dX5_turn_15 : decode cX5_turn 15 = .ok (.aload_n 0, 1) := by decide +kernel
theorem dX5_turn_16 : decode cX5_turn 16 = .ok (.iconst 0, 1) := by decide +kernel
theorem dX5_turn_17 : decode cX5_turn 17 = .ok (.invokevirtual 254, 3) := by decide +kernel
theorem dX5_turn_20 : decode cX5_turn 20 = .ok (.ireturn, 1) := by decide +kernel
theorem dX5_leaves_0 : decode cX5_leaves 0 = .ok (.aload_n 0, 1) := by decide +kernel
theorem dX5_leaves_1 : decode cX5_leaves 1 = .ok (.getfield 80, 3) := by decide +kernel
theorem dX5_leaves_4 : decode cX5_leaves 4 = .ok (.ifCond .ne 10, 3) := by decide +kernel
theorem dX5_leaves_7 : decode cX5_leaves 7 = .ok (.aload_n 0, 1) := by decide +kernel
theorem dX5_leaves_8 : decode cX5_leaves 8 = .ok (.bipush (-5), 2) := by decide +kernel
theorem dX5_leaves_10 : decode cX5_leaves 10 = .ok (.invokevirtual 104, 3) := by decide +kernel
theorem dX5_leaves_13 : decode cX5_leaves 13 = .ok (.ireturn, 1) := by decide +kernel
theorem dX5_leaves_14 : decode cX5_leaves 14 = .ok (.aload_n 0, 1) := by decide +kernel
theorem dX5_leaves_15 : decode cX5_leaves 15 = .ok (.aload_n 0, 1) := by decide +kernel
theorem dX5_leaves_16 : decode cX5_leaves 16 = .ok (.getfield 80, 3) := by decide +kernel
theorem dX5_leaves_19 : decode cX5_leaves 19 = .ok (.iconst 1, 1) := by decide +kernel
theorem dX5_leaves_20 : decode cX5_leaves 20 = .ok (.isub, 1) := by decide +kernel
theorem dX5_leaves_21 : decode cX5_leaves 21 = .ok (.aload_n 0, 1) := by decide +kernel
theorem dX5_leaves_22 : decode cX5_leaves 22 = .ok (.getfield 80, 3) := by decide +kernel
theorem dX5_leaves_25 : decode cX5_leaves 25 = .ok (.iconst 1, 1) := by decide +kernel
theorem dX5_leaves_26 : decode cX5_leaves 26 = .ok (.isub, 1) := by decide +kernel
theorem dX5_leaves_27 : decode cX5_leaves 27 = .ok (.invokevirtual 227, 3) := by decide +kernel
theorem dX5_leaves_30 : decode cX5_leaves 30 = .ok (.aload_n 0, 1) := by decide +kernel
theorem dX5_leaves_31 : decode cX5_leaves 31 = .ok (.dup, 1) := by decide +kernel
theorem dX5_leaves_32 : decode cX5_leaves 32 = .ok (.getfield 80, 3) := by decide +kernel
theorem dX5_leaves_35 : decode cX5_leaves 35 = .ok (.iconst 1, 1) := by decide +kernel
theorem dX5_leaves_36 : decode cX5_leaves 36 = .ok (.isub, 1) := by decide +kernel
theorem dX5_leaves_37 : decode cX5_leaves 37 = .ok (.putfield 80, 3) := by decide +kernel
theorem dX5_leaves_40 : decode cX5_leaves 40 = .ok (.iconst 0, 1) := by decide +kernel
theorem dX5_leaves_41 : decode cX5_leaves 41 = .ok (.istore_n 1, 1) := by decide +kernel
theorem dX5_leaves_42 : decode cX5_leaves 42 = .ok (.iconst 0, 1) := by decide +kernel
theorem dX5_leaves_43 : decode cX5_leaves 43 = .ok (.istore_n 2, 1) := by decide +kernel
theorem dX5_leaves_44 : decode cX5_leaves 44 = .ok (.iload_n 2, 1) := by decide +kernel
theorem dX5_leaves_45 : decode cX5_leaves 45 = .ok (.aload_n 0, 1) := by decide +kernel
theorem dX5_leaves_46 : decode cX5_leaves 46 = .ok (.getfield 141, 3) := by decide +kernel
theorem dX5_leaves_49 : decode cX5_leaves 49 = .ok (.if_icmp .ge 86, 3) := by decide +kernel
theorem dX5_leaves_52 : decode cX5_leaves 52 = .ok (.aload_n 0, 1) := by decide +kernel
theorem dX5_leaves_53 : decode cX5_leaves 53 = .ok (.getfield 55, 3) := by decide +kernel
theorem dX5_leaves_56 : decode cX5_leaves 56 = .ok (.iload_n 2, 1) := by decide +kernel
theorem dX5_leaves_57 : decode cX5_leaves 57 = .ok (.iaload, 1) := by decide +kernel
theorem dX5_leaves_58 : decode cX5_leaves 58 = .ok (.aload_n 0, 1) := by decide +kernel
theorem dX5_leaves_59 : decode cX5_leaves 59 = .ok (.getfield 80, 3) := by decide +kernel
theorem dX5_leaves_62 : decode cX5_leaves 62 = .ok (.if_icmp .eq 67, 3) := by decide +kernel
theorem dX5_leaves_65 : decode cX5_leaves 65 = .ok (.aload_n 0, 1) := by decide +kernel
theorem dX5_leaves_66 : decode cX5_leaves 66 = .ok (.getfield 58, 3) := by decide +kernel
theorem dX5_leaves_69 : decode cX5_leaves 69 = .ok (.iload_n 2, 1) := by decide +kernel
theorem dX5_leaves_70 : decode cX5_leaves 70 = .ok (.iaload, 1) := by decide +kernel
theorem dX5_leaves_71 : decode cX5_leaves 71 = .ok (.aload_n 0, 1) := by decide +kernel
theorem dX5_leaves_72 : decode cX5_leaves 72 = .ok (.getfield 80, 3) := by decide +kernel
theorem dX5_leaves_75 : decode cX5_leaves 75 = .ok (.if_icmp .eq 54, 3) := by decide +kernel
theorem dX5_leaves_78 : decode cX5_leaves 78 = .ok (.aload_n 0, 1) := by decide +kernel
theorem dX5_leaves_79 : decode cX5_leaves 79 = .ok (.getfield 55, 3) := by decide +kernel
theorem dX5_leaves_82 : decode cX5_leaves 82 = .ok (.iload_n 1, 1) := by decide +kernel
theorem dX5_leaves_83 : decode cX5_leaves 83 = .ok (.aload_n 0, 1) := by decide +kernel
theorem dX5_leaves_84 : decode cX5_leaves 84 = .ok (.getfield 55, 3) := by decide +kernel
theorem dX5_leaves_87 : decode cX5_leaves 87 = .ok (.iload_n 2, 1) := by decide +kernel
theorem dX5_leaves_88 : decode cX5_leaves 88 = .ok (.iaload, 1) := by decide +kernel
theorem dX5_leaves_89 : decode cX5_leaves 89 = .ok (.iastore, 1) := by decide +kernel
theorem dX5_leaves_90 : decode cX5_leaves 90 = .ok (.aload_n 0, 1) := by decide +kernel
theorem dX5_leaves_91 : decode cX5_leaves 91 = .ok (.getfield 58, 3) := by decide +kernel
theorem dX5_leaves_94 : decode cX5_leaves 94 = .ok (.iload_n 1, 1) := by decide +kernel
theorem dX5_leaves_95 : decode cX5_leaves 95 = .ok (.aload_n 0, 1) := by decide +kernel
theorem dX5_leaves_96 : decode cX5_leaves 96 = .ok (.getfield 58, 3) := by decide +kernel
theorem dX5_leaves_99 : decode cX5_leaves 99 = .ok (.iload_n 2, 1) := by decide +kernel
theorem dX5_leaves_100 : decode cX5_leaves 100 = .ok (.iaload, 1) := by decide +kernel
theorem dX5_leaves_101 : decode cX5_leaves 101 = .ok (.iastore, 1) := by decide +kernel
theorem dX5_leaves_102 : decode cX5_leaves 102 = .ok (.aload_n 0, 1) := by decide +kernel
theorem dX5_leaves_103 : decode cX5_leaves 103 = .ok (.getfield 61, 3) := by decide +kernel
theorem dX5_leaves_106 : decode cX5_leaves 106 = .ok (.iload_n 1, 1) := by decide +kernel
theorem dX5_leaves_107 : decode cX5_leaves 107 = .ok (.aload_n 0, 1) := by decide +kernel
theorem dX5_leaves_108 : decode cX5_leaves 108 = .ok (.getfield 61, 3) := by decide +kernel
theorem dX5_leaves_111 : decode cX5_leaves 111 = .ok (.iload_n 2, 1) := by decide +kernel
theorem dX5_leaves_112 : decode cX5_leaves 112 = .ok (.iaload, 1) := by decide +kernel
theorem dX5_leaves_113 : decode cX5_leaves 113 = .ok (.iastore, 1) := by decide +kernel
theorem dX5_leaves_114 : decode cX5_leaves 114 = .ok (.aload_n 0, 1) := by decide +kernel
theorem dX5_leaves_115 : decode cX5_leaves 115 = .ok (.getfield 64, 3) := by decide +kernel
theorem dX5_leaves_118 : decode cX5_leaves 118 = .ok (.iload_n 1, 1) := by decide +kernel
theorem dX5_leaves_119 : decode cX5_leaves 119 = .ok (.aload_n 0, 1) := by decide +kernel
theorem dX5_leaves_120 : decode cX5_leaves 120 = .ok (.getfield 64, 3) := by decide +kernel
theorem dX5_leaves_123 : decode cX5_leaves 123 = .ok (.iload_n 2, 1) := by decide +kernel
theorem dX5_leaves_124 : decode cX5_leaves 124 = .ok (.iaload, 1) := by decide +kernel
theorem dX5_leaves_125 : decode cX5_leaves 125 = .ok (.iastore, 1) := by decide +kernel
theorem dX5_leaves_126 : decode cX5_leaves 126 = .ok (.iinc 1 1, 3) := by decide +kernel
theorem dX5_leaves_129 : decode cX5_leaves 129 = .ok (.iinc 2 1, 3) := by decide +kernel
theorem dX5_leaves_132 : decode cX5_leaves 132 = .ok (.goto (-88), 3) := by decide +kernel
theorem dX5_leaves_135 : decode cX5_leaves 135 = .ok (.aload_n 0, 1) := by decide +kernel
theorem dX5_leaves_136 : decode cX5_leaves 136 = .ok (.iload_n 1, 1) := by decide +kernel
theorem dX5_leaves_137 : decode cX5_leaves 137 = .ok (.putfield 141, 3) := by decide +kernel
theorem dX5_leaves_140 : decode cX5_leaves 140 = .ok (.aload_n 0, 1) := by decide +kernel
theorem dX5_leaves_141 : decode cX5_leaves 141 = .ok (.getfield 80, 3) := by decide +kernel
theorem dX5_leaves_144 : decode cX5_leaves 144 = .ok (.ireturn, 1) := by decide +kernel
theorem dX5_below_0 : decode cX5_below 0 = .ok (.aload_n 0, 1) := by decide +kernel
theorem dX5_below_1 : decode cX5_below 1 = .ok (.aload_n 0, 1) := by decide +kernel
theorem dX5_below_2 : decode cX5_below 2 = .ok (.getfield 67, 3) := by decide +kernel
theorem dX5_below_5 : decode cX5_below 5 = .ok (.ldc_w 329, 3) := by decide +kernel
theorem dX5_below_8 : decode cX5_below 8 = .ok (.imul, 1) := by decide +kernel
theorem dX5_below_9 : decode cX5_below 9 = .ok (.sipush 12345, 3) := by decide +kernel
theorem dX5_below_12 : decode cX5_below 12 = .ok (.iadd, 1) := by decide +kernel
theorem dX5_below_13 : decode cX5_below 13 = .ok (.putfield 67, 3) := by decide +kernel
theorem dX5_below_16 : decode cX5_below 16 = .ok (.aload_n 0, 1) := by decide +kernel
theorem dX5_below_17 : decode cX5_below 17 = .ok (.getfield 67, 3) := by decide +kernel
theorem dX5_below_20 : decode cX5_below 20 = .ok (.bipush 16, 2) := by decide +kernel
theorem dX5_below_22 : decode cX5_below 22 = .ok (.iushr, 1) := by decide +kernel
theorem dX5_below_23 : decode cX5_below 23 = .ok (.iload_n 1, 1) := by decide +kernel
theorem dX5_below_24 : decode cX5_below 24 = .ok (.irem, 1) := by decide +kernel
theorem dX5_below_25 : decode cX5_below 25 = .ok (.ireturn, 1) := by decide +kernel
theorem dX5_term_0 : decode cX5_term 0 = .ok (.iload_n 1, 1) := by decide +kernel
theorem dX5_term_1 : decode cX5_term 1 = .ok (.i2l, 1) := by decide +kernel
theorem dX5_term_2 : decode cX5_term 2 = .ok (.lconst 1, 1) := by decide +kernel
theorem dX5_term_3 : decode cX5_term 3 = .ok (.ldc2_w 330, 3) := by decide +kernel
theorem dX5_term_6 : decode cX5_term 6 = .ok (.invokestatic 83, 3) := by decide +kernel
theorem dX5_term_9 : decode cX5_term 9 = .ok (.ifCond .ne 10, 3) := by decide +kernel
theorem dX5_term_12 : decode cX5_term 12 = .ok (.aload_n 0, 1) := by decide +kernel
theorem dX5_term_13 : decode cX5_term 13 = .ok (.bipush (-2), 2) := by decide +kernel
theorem dX5_term_15 : decode cX5_term 15 = .ok (.invokevirtual 104, 3) := by decide +kernel
theorem dX5_term_18 : decode cX5_term 18 = .ok (.ireturn, 1) := by decide +kernel
theorem dX5_term_19 : decode cX5_term 19 = .ok (.aload_n 0, 1) := by decide +kernel
theorem dX5_term_20 : decode cX5_term 20 = .ok (.getfield 80, 3) := by decide +kernel
theorem dX5_term_23 : decode cX5_term 23 = .ok (.ifCond .eq 10, 3) := by decide +kernel
theorem dX5_term_26 : decode cX5_term 26 = .ok (.aload_n 0, 1) := by decide +kernel
theorem dX5_term_27 : decode cX5_term 27 = .ok (.getfield 91, 3) := by decide +kernel
theorem dX5_term_30 : decode cX5_term 30 = .ok (.ifCond .ne 10, 3) := by decide +kernel
theorem dX5_term_33 : decode cX5_term 33 = .ok (.aload_n 0, 1) := by decide +kernel
theorem dX5_term_34 : decode cX5_term 34 = .ok (.bipush (-5), 2) := by decide +kernel
theorem dX5_term_36 : decode cX5_term 36 = .ok (.invokevirtual 104, 3) := by decide +kernel
theorem dX5_term_39 : decode cX5_term 39 = .ok (.ireturn, 1) := by decide +kernel
theorem dX5_term_40 : decode cX5_term 40 = .ok (.iconst 0, 1) := by decide +kernel
theorem dX5_term_41 : decode cX5_term 41 = .ok (.istore_n 2, 1) := by decide +kernel
theorem dX5_term_42 : decode cX5_term 42 = .ok (.iconst 0, 1) := by decide +kernel
theorem dX5_term_43 : decode cX5_term 43 = .ok (.istore_n 3, 1) := by decide +kernel
theorem dX5_term_44 : decode cX5_term 44 = .ok (.iload_n 3, 1) := by decide +kernel
theorem dX5_term_45 : decode cX5_term 45 = .ok (.iload_n 1, 1) := by decide +kernel
theorem dX5_term_46 : decode cX5_term 46 = .ok (.if_icmp .ge 48, 3) := by decide +kernel
theorem dX5_term_49 : decode cX5_term 49 = .ok (.aload_n 0, 1) := by decide +kernel
theorem dX5_term_50 : decode cX5_term 50 = .ok (.aload_n 0, 1) := by decide +kernel
theorem dX5_term_51 : decode cX5_term 51 = .ok (.getfield 80, 3) := by decide +kernel
theorem dX5_term_54 : decode cX5_term 54 = .ok (.invokevirtual 332, 3) := by decide +kernel
theorem dX5_term_57 : decode cX5_term 57 = .ok (.istore 4, 2) := by decide +kernel
theorem dX5_term_59 : decode cX5_term 59 = .ok (.aload_n 0, 1) := by decide +kernel
theorem dX5_term_60 : decode cX5_term 60 = .ok (.iload 4, 2) := by decide +kernel
theorem dX5_term_62 : decode cX5_term 62 = .ok (.aload_n 0, 1) := by decide +kernel
theorem dX5_term_63 : decode cX5_term 63 = .ok (.aload_n 0, 1) := by decide +kernel
theorem dX5_term_64 : decode cX5_term 64 = .ok (.getfield 80, 3) := by decide +kernel
theorem dX5_term_67 : decode cX5_term 67 = .ok (.invokevirtual 332, 3) := by decide +kernel
theorem dX5_term_70 : decode cX5_term 70 = .ok (.invokevirtual 222, 3) := by decide +kernel
theorem dX5_term_73 : decode cX5_term 73 = .ok (.iload_n 2, 1) := by decide +kernel
theorem dX5_term_74 : decode cX5_term 74 = .ok (.aload_n 0, 1) := by decide +kernel
theorem dX5_term_75 : decode cX5_term 75 = .ok (.aload_n 0, 1) := by decide +kernel
theorem dX5_term_76 : decode cX5_term 76 = .ok (.aload_n 0, 1) := by decide +kernel
theorem dX5_term_77 : decode cX5_term 77 = .ok (.getfield 91, 3) := by decide +kernel
theorem dX5_term_80 : decode cX5_term 80 = .ok (.invokevirtual 332, 3) := by decide +kernel
theorem dX5_term_83 : decode cX5_term 83 = .ok (.invokevirtual 278, 3) := by decide +kernel
theorem dX5_term_86 : decode cX5_term 86 = .ok (.iadd, 1) := by decide +kernel
theorem dX5_term_87 : decode cX5_term 87 = .ok (.istore_n 2, 1) := by decide +kernel
theorem dX5_term_88 : decode cX5_term 88 = .ok (.iinc 3 1, 3) := by decide +kernel
theorem dX5_term_91 : decode cX5_term 91 = .ok (.goto (-47), 3) := by decide +kernel
theorem dX5_term_94 : decode cX5_term 94 = .ok (.iload_n 2, 1) := by decide +kernel
theorem dX5_term_95 : decode cX5_term 95 = .ok (.ireturn, 1) := by decide +kernel
theorem dX5_seed_0 : decode cX5_seed 0 = .ok (.aload_n 0, 1) := by decide +kernel
theorem dX5_seed_1 : decode cX5_seed 1 = .ok (.getfield 67, 3) := by decide +kernel
theorem dX5_seed_4 : decode cX5_seed 4 = .ok (.istore_n 2, 1) := by decide +kernel
theorem dX5_seed_5 : decode cX5_seed 5 = .ok (.aload_n 0, 1) := by decide +kernel
theorem dX5_seed_6 : decode cX5_seed 6 = .ok (.iload_n 1, 1) := by decide +kernel
theorem dX5_seed_7 : decode cX5_seed 7 = .ok (.putfield 67, 3) := by decide +kernel
theorem dX5_seed_10 : decode cX5_seed 10 = .ok (.iload_n 2, 1) := by decide +kernel
theorem dX5_seed_11 : decode cX5_seed 11 = .ok (.ireturn, 1) := by decide +kernel
theorem dX5_copied_0 : decode cX5_copied 0 = .ok (.iconst 0, 1) := by decide +kernel
theorem dX5_copied_1 : decode cX5_copied 1 = .ok (.istore_n 2, 1) := by decide +kernel
theorem dX5_copied_2 : decode cX5_copied 2 = .ok (.iload_n 2, 1) := by decide +kernel
theorem dX5_copied_3 : decode cX5_copied 3 = .ok (.aload_n 0, 1) := by decide +kernel
theorem dX5_copied_4 : decode cX5_copied 4 = .ok (.arraylength, 1) := by decide +kernel
theorem dX5_copied_5 : decode cX5_copied 5 = .ok (.if_icmp .ge 15, 3) := by decide +kernel
theorem dX5_copied_8 : decode cX5_copied 8 = .ok (.aload_n 1, 1) := by decide +kernel
theorem dX5_copied_9 : decode cX5_copied 9 = .ok (.iload_n 2, 1) := by decide +kernel
theorem dX5_copied_10 : decode cX5_copied 10 = .ok (.aload_n 0, 1) := by decide +kernel
theorem dX5_copied_11 : decode cX5_copied 11 = .ok (.iload_n 2, 1) := by decide +kernel
theorem dX5_copied_12 : decode cX5_copied 12 = .ok (.iaload, 1) := by decide +kernel
theorem dX5_copied_13 : decode cX5_copied 13 = .ok (.iastore, 1) := by decide +kernel
theorem dX5_copied_14 : decode cX5_copied 14 = .ok (.iinc 2 1, 3) := by decide +kernel
theorem dX5_copied_17 : decode cX5_copied 17 = .ok (.goto (-15), 3) := by decide +kernel
theorem dX5_copied_20 : decode cX5_copied 20 = .ok (.return_, 1) := by decide +kernel
theorem dX5_takeFrom_0 : decode cX5_takeFrom 0 = .ok (.aload_n 0, 1) := by decide +kernel
theorem dX5_takeFrom_1 : decode cX5_takeFrom 1 = .ok (.aload_n 1, 1) := by decide +kernel
theorem dX5_takeFrom_2 : decode cX5_takeFrom 2 = .ok (.getfield 80, 3) := by decide +kernel
theorem dX5_takeFrom_5 : decode cX5_takeFrom 5 = .ok (.putfield 80, 3) := by decide +kernel
theorem dX5_takeFrom_8 : decode cX5_takeFrom 8 = .ok (.aload_n 1, 1) := by decide +kernel
theorem dX5_takeFrom_9 : decode cX5_takeFrom 9 = .ok (.getfield 37, 3) := by decide +kernel
theorem dX5_takeFrom_12 : decode cX5_takeFrom 12 = .ok (.aload_n 0, 1) := by decide +kernel
theorem dX5_takeFrom_13 : decode cX5_takeFrom 13 = .ok (.getfield 37, 3) := by decide +kernel
theorem dX5_takeFrom_16 : decode cX5_takeFrom 16 = .ok (.invokestatic 335, 3) := by decide +kernel
theorem dX5_takeFrom_19 : decode cX5_takeFrom 19 = .ok (.aload_n 1, 1) := by decide +kernel
theorem dX5_takeFrom_20 : decode cX5_takeFrom 20 = .ok (.getfield 40, 3) := by decide +kernel
theorem dX5_takeFrom_23 : decode cX5_takeFrom 23 = .ok (.aload_n 0, 1) := by decide +kernel
theorem dX5_takeFrom_24 : decode cX5_takeFrom 24 = .ok (.getfield 40, 3) := by decide +kernel
theorem dX5_takeFrom_27 : decode cX5_takeFrom 27 = .ok (.invokestatic 335, 3) := by decide +kernel
theorem dX5_takeFrom_30 : decode cX5_takeFrom 30 = .ok (.aload_n 1, 1) := by decide +kernel
theorem dX5_takeFrom_31 : decode cX5_takeFrom 31 = .ok (.getfield 43, 3) := by decide +kernel
theorem dX5_takeFrom_34 : decode cX5_takeFrom 34 = .ok (.aload_n 0, 1) := by decide +kernel
theorem dX5_takeFrom_35 : decode cX5_takeFrom 35 = .ok (.getfield 43, 3) := by decide +kernel
theorem dX5_takeFrom_38 : decode cX5_takeFrom 38 = .ok (.invokestatic 335, 3) := by decide +kernel
theorem dX5_takeFrom_41 : decode cX5_takeFrom 41 = .ok (.aload_n 0, 1) := by decide +kernel
theorem dX5_takeFrom_42 : decode cX5_takeFrom 42 = .ok (.aload_n 1, 1) := by decide +kernel
theorem dX5_takeFrom_43 : decode cX5_takeFrom 43 = .ok (.getfield 91, 3) := by decide +kernel
theorem dX5_takeFrom_46 : decode cX5_takeFrom 46 = .ok (.putfield 91, 3) := by decide +kernel
theorem dX5_takeFrom_49 : decode cX5_takeFrom 49 = .ok (.aload_n 1, 1) := by decide +kernel
theorem dX5_takeFrom_50 : decode cX5_takeFrom 50 = .ok (.getfield 46, 3) := by decide +kernel
theorem dX5_takeFrom_53 : decode cX5_takeFrom 53 = .ok (.aload_n 0, 1) := by decide +kernel
theorem dX5_takeFrom_54 : decode cX5_takeFrom 54 = .ok (.getfield 46, 3) := by decide +kernel
theorem dX5_takeFrom_57 : decode cX5_takeFrom 57 = .ok (.invokestatic 335, 3) := by decide +kernel
theorem dX5_takeFrom_60 : decode cX5_takeFrom 60 = .ok (.aload_n 1, 1) := by decide +kernel
theorem dX5_takeFrom_61 : decode cX5_takeFrom 61 = .ok (.getfield 49, 3) := by decide +kernel
theorem dX5_takeFrom_64 : decode cX5_takeFrom 64 = .ok (.aload_n 0, 1) := by decide +kernel
theorem dX5_takeFrom_65 : decode cX5_takeFrom 65 = .ok (.getfield 49, 3) := by decide +kernel
theorem dX5_takeFrom_68 : decode cX5_takeFrom 68 = .ok (.invokestatic 335, 3) := by decide +kernel
theorem dX5_takeFrom_71 : decode cX5_takeFrom 71 = .ok (.aload_n 1, 1) := by decide +kernel
theorem dX5_takeFrom_72 : decode cX5_takeFrom 72 = .ok (.getfield 52, 3) := by decide +kernel
theorem dX5_takeFrom_75 : decode cX5_takeFrom 75 = .ok (.aload_n 0, 1) := by decide +kernel
theorem dX5_takeFrom_76 : decode cX5_takeFrom 76 = .ok (.getfield 52, 3) := by decide +kernel
theorem dX5_takeFrom_79 : decode cX5_takeFrom 79 = .ok (.invokestatic 335, 3) := by decide +kernel
theorem dX5_takeFrom_82 : decode cX5_takeFrom 82 = .ok (.aload_n 0, 1) := by decide +kernel
theorem dX5_takeFrom_83 : decode cX5_takeFrom 83 = .ok (.aload_n 1, 1) := by decide +kernel
theorem dX5_takeFrom_84 : decode cX5_takeFrom 84 = .ok (.getfield 141, 3) := by decide +kernel
theorem dX5_takeFrom_87 : decode cX5_takeFrom 87 = .ok (.putfield 141, 3) := by decide +kernel
theorem dX5_takeFrom_90 : decode cX5_takeFrom 90 = .ok (.aload_n 1, 1) := by decide +kernel
theorem dX5_takeFrom_91 : decode cX5_takeFrom 91 = .ok (.getfield 55, 3) := by decide +kernel
theorem dX5_takeFrom_94 : decode cX5_takeFrom 94 = .ok (.aload_n 0, 1) := by decide +kernel
theorem dX5_takeFrom_95 : decode cX5_takeFrom 95 = .ok (.getfield 55, 3) := by decide +kernel
theorem dX5_takeFrom_98 : decode cX5_takeFrom 98 = .ok (.invokestatic 335, 3) := by decide +kernel
theorem dX5_takeFrom_101 : decode cX5_takeFrom 101 = .ok (.aload_n 1, 1) := by decide +kernel
theorem dX5_takeFrom_102 : decode cX5_takeFrom 102 = .ok (.getfield 58, 3) := by decide +kernel
theorem dX5_takeFrom_105 : decode cX5_takeFrom 105 = .ok (.aload_n 0, 1) := by decide +kernel
theorem dX5_takeFrom_106 : decode cX5_takeFrom 106 = .ok (.getfield 58, 3) := by decide +kernel
theorem dX5_takeFrom_109 : decode cX5_takeFrom 109 = .ok (.invokestatic 335, 3) := by decide +kernel
theorem dX5_takeFrom_112 : decode cX5_takeFrom 112 = .ok (.aload_n 1, 1) := by decide +kernel
theorem dX5_takeFrom_113 : decode cX5_takeFrom 113 = .ok (.getfield 61, 3) := by decide +kernel
theorem dX5_takeFrom_116 : decode cX5_takeFrom 116 = .ok (.aload_n 0, 1) := by decide +kernel
theorem dX5_takeFrom_117 : decode cX5_takeFrom 117 = .ok (.getfield 61, 3) := by decide +kernel
theorem dX5_takeFrom_120 : decode cX5_takeFrom 120 = .ok (.invokestatic 335, 3) := by decide +kernel
theorem dX5_takeFrom_123 : decode cX5_takeFrom 123 = .ok (.aload_n 1, 1) := by decide +kernel
theorem dX5_takeFrom_124 : decode cX5_takeFrom 124 = .ok (.getfield 64, 3) := by decide +kernel
theorem dX5_takeFrom_127 : decode cX5_takeFrom 127 = .ok (.aload_n 0, 1) := by decide +kernel
theorem dX5_takeFrom_128 : decode cX5_takeFrom 128 = .ok (.getfield 64, 3) := by decide +kernel
theorem dX5_takeFrom_131 : decode cX5_takeFrom 131 = .ok (.invokestatic 335, 3) := by decide +kernel
theorem dX5_takeFrom_134 : decode cX5_takeFrom 134 = .ok (.aload_n 0, 1) := by decide +kernel
theorem dX5_takeFrom_135 : decode cX5_takeFrom 135 = .ok (.aload_n 1, 1) := by decide +kernel
theorem dX5_takeFrom_136 : decode cX5_takeFrom 136 = .ok (.getfield 67, 3) := by decide +kernel
theorem dX5_takeFrom_139 : decode cX5_takeFrom 139 = .ok (.putfield 67, 3) := by decide +kernel
theorem dX5_takeFrom_142 : decode cX5_takeFrom 142 = .ok (.return_, 1) := by decide +kernel
theorem dX5_image_0 : decode cX5_image 0 = .ok (.aload_n 0, 1) := by decide +kernel
theorem dX5_image_1 : decode cX5_image 1 = .ok (.getfield 339, 3) := by decide +kernel
theorem dX5_image_4 : decode cX5_image 4 = .ok (.ifnonnull 14, 3) := by decide +kernel
theorem dX5_image_7 : decode cX5_image 7 = .ok (.aload_n 0, 1) := by decide +kernel
theorem dX5_image_8 : decode cX5_image 8 = .ok (.new 8, 3) := by decide +kernel
theorem dX5_image_11 : decode cX5_image 11 = .ok (.dup, 1) := by decide +kernel
theorem dX5_image_12 : decode cX5_image 12 = .ok (.invokespecial 240, 3) := by decide +kernel
theorem dX5_image_15 : decode cX5_image 15 = .ok (.putfield 339, 3) := by decide +kernel
theorem dX5_image_18 : decode cX5_image 18 = .ok (.aload_n 0, 1) := by decide +kernel
theorem dX5_image_19 : decode cX5_image 19 = .ok (.getfield 339, 3) := by decide +kernel
theorem dX5_image_22 : decode cX5_image 22 = .ok (.aload_n 0, 1) := by decide +kernel
theorem dX5_image_23 : decode cX5_image 23 = .ok (.invokevirtual 241, 3) := by decide +kernel
theorem dX5_image_26 : decode cX5_image 26 = .ok (.iconst 1, 1) := by decide +kernel
theorem dX5_image_27 : decode cX5_image 27 = .ok (.ireturn, 1) := by decide +kernel
theorem dX5_back_0 : decode cX5_back 0 = .ok (.aload_n 0, 1) := by decide +kernel
theorem dX5_back_1 : decode cX5_back 1 = .ok (.getfield 339, 3) := by decide +kernel
theorem dX5_back_4 : decode cX5_back 4 = .ok (.ifnonnull 10, 3) := by decide +kernel
theorem dX5_back_7 : decode cX5_back 7 = .ok (.aload_n 0, 1) := by decide +kernel
theorem dX5_back_8 : decode cX5_back 8 = .ok (.bipush (-5), 2) := by decide +kernel
theorem dX5_back_10 : decode cX5_back 10 = .ok (.invokevirtual 104, 3) := by decide +kernel
theorem dX5_back_13 : decode cX5_back 13 = .ok (.ireturn, 1) := by decide +kernel
theorem dX5_back_14 : decode cX5_back 14 = .ok (.aload_n 0, 1) := by decide +kernel
theorem dX5_back_15 : decode cX5_back 15 = .ok (.aload_n 0, 1) := by decide +kernel
theorem dX5_back_16 : decode cX5_back 16 = .ok (.getfield 339, 3) := by decide +kernel
theorem dX5_back_19 : decode cX5_back 19 = .ok (.invokevirtual 241, 3) := by decide +kernel
theorem dX5_back_22 : decode cX5_back 22 = .ok (.iconst 0, 1) := by decide +kernel
theorem dX5_back_23 : decode cX5_back 23 = .ok (.istore_n 1, 1) := by decide +kernel
theorem dX5_back_24 : decode cX5_back 24 = .ok (.iload_n 1, 1) := by decide +kernel
theorem dX5_back_25 : decode cX5_back 25 = .ok (.bipush 8, 2) := by decide +kernel
theorem dX5_back_27 : decode cX5_back 27 = .ok (.if_icmp .ge 39, 3) := by decide +kernel
theorem dX5_back_30 : decode cX5_back 30 = .ok (.aload_n 0, 1) := by decide +kernel
theorem dX5_back_31 : decode cX5_back 31 = .ok (.getfield 7, 3) := by decide +kernel
theorem dX5_back_34 : decode cX5_back 34 = .ok (.iload_n 1, 1) := by decide +kernel
theorem dX5_back_35 : decode cX5_back 35 = .ok (.iaload, 1) := by decide +kernel
theorem dX5_back_36 : decode cX5_back 36 = .ok (.iconst 2, 1) := by decide +kernel
theorem dX5_back_37 : decode cX5_back 37 = .ok (.if_icmp .ne 23, 3) := by decide +kernel
theorem dX5_back_40 : decode cX5_back 40 = .ok (.aload_n 0, 1) := by decide +kernel
theorem dX5_back_41 : decode cX5_back 41 = .ok (.getfield 28, 3) := by decide +kernel
theorem dX5_back_44 : decode cX5_back 44 = .ok (.iload_n 1, 1) := by decide +kernel
theorem dX5_back_45 : decode cX5_back 45 = .ok (.iaload, 1) := by decide +kernel
theorem dX5_back_46 : decode cX5_back 46 = .ok (.aload_n 0, 1) := by decide +kernel
theorem dX5_back_47 : decode cX5_back 47 = .ok (.getfield 91, 3) := by decide +kernel
theorem dX5_back_50 : decode cX5_back 50 = .ok (.if_icmp .lt 10, 3) := by decide +kernel
theorem dX5_back_53 : decode cX5_back 53 = .ok (.aload_n 0, 1) := by decide +kernel
theorem dX5_back_54 : decode cX5_back 54 = .ok (.getfield 7, 3) := by decide +kernel
theorem dX5_back_57 : decode cX5_back 57 = .ok (.iload_n 1, 1) := by decide +kernel
theorem dX5_back_58 : decode cX5_back 58 = .ok (.iconst 0, 1) := by decide +kernel
theorem dX5_back_59 : decode cX5_back 59 = .ok (.iastore, 1) := by decide +kernel
theorem dX5_back_60 : decode cX5_back 60 = .ok (.iinc 1 1, 3) := by decide +kernel
theorem dX5_back_63 : decode cX5_back 63 = .ok (.goto (-39), 3) := by decide +kernel
theorem dX5_back_66 : decode cX5_back 66 = .ok (.iconst 1, 1) := by decide +kernel
theorem dX5_back_67 : decode cX5_back 67 = .ok (.ireturn, 1) := by decide +kernel
theorem dX5_status_0 : decode cX5_status 0 = .ok (.iconst 0, 1) := by decide +kernel
theorem dX5_status_1 : decode cX5_status 1 = .ok (.istore_n 2, 1) := by decide +kernel
theorem dX5_status_2 : decode cX5_status 2 = .ok (.iload_n 1, 1) := by decide +kernel
theorem dX5_status_3 : decode cX5_status 3 = .ok (.tableswitch 157 0 7 #[45, 50, 55, 60, 87, 114, 119, 124], 45) := by decide +kernel
theorem dX5_status_48 : decode cX5_status 48 = .ok (.aload_n 0, 1) := by decide +kernel
theorem dX5_status_49 : decode cX5_status 49 = .ok (.getfield 80, 3) := by decide +kernel
theorem dX5_status_52 : decode cX5_status 52 = .ok (.ireturn, 1) := by decide +kernel
theorem dX5_status_53 : decode cX5_status 53 = .ok (.aload_n 0, 1) := by decide +kernel
theorem dX5_status_54 : decode cX5_status 54 = .ok (.getfield 91, 3) := by decide +kernel
theorem dX5_status_57 : decode cX5_status 57 = .ok (.ireturn, 1) := by decide +kernel
theorem dX5_status_58 : decode cX5_status 58 = .ok (.aload_n 0, 1) := by decide +kernel
theorem dX5_status_59 : decode cX5_status 59 = .ok (.getfield 141, 3) := by decide +kernel
theorem dX5_status_62 : decode cX5_status 62 = .ok (.ireturn, 1) := by decide +kernel
theorem dX5_status_63 : decode cX5_status 63 = .ok (.iconst 0, 1) := by decide +kernel
theorem dX5_status_64 : decode cX5_status 64 = .ok (.istore_n 3, 1) := by decide +kernel
theorem dX5_status_65 : decode cX5_status 65 = .ok (.iload_n 3, 1) := by decide +kernel
theorem dX5_status_66 : decode cX5_status 66 = .ok (.aload_n 0, 1) := by decide +kernel
theorem dX5_status_67 : decode cX5_status 67 = .ok (.getfield 141, 3) := by decide +kernel
theorem dX5_status_70 : decode cX5_status 70 = .ok (.if_icmp .ge 18, 3) := by decide +kernel
theorem dX5_status_73 : decode cX5_status 73 = .ok (.iload_n 2, 1) := by decide +kernel
theorem dX5_status_74 : decode cX5_status 74 = .ok (.aload_n 0, 1) := by decide +kernel
theorem dX5_status_75 : decode cX5_status 75 = .ok (.getfield 64, 3) := by decide +kernel
theorem dX5_status_78 : decode cX5_status 78 = .ok (.iload_n 3, 1) := by decide +kernel
theorem dX5_status_79 : decode cX5_status 79 = .ok (.iaload, 1) := by decide +kernel
theorem dX5_status_80 : decode cX5_status 80 = .ok (.iadd, 1) := by decide +kernel
theorem dX5_status_81 : decode cX5_status 81 = .ok (.istore_n 2, 1) := by decide +kernel
theorem dX5_status_82 : decode cX5_status 82 = .ok (.iinc 3 1, 3) := by decide +kernel
theorem dX5_status_85 : decode cX5_status 85 = .ok (.goto (-20), 3) := by decide +kernel
theorem dX5_status_88 : decode cX5_status 88 = .ok (.iload_n 2, 1) := by decide +kernel
theorem dX5_status_89 : decode cX5_status 89 = .ok (.ireturn, 1) := by decide +kernel
theorem dX5_status_90 : decode cX5_status 90 = .ok (.iconst 0, 1) := by decide +kernel
theorem dX5_status_91 : decode cX5_status 91 = .ok (.istore_n 3, 1) := by decide +kernel
theorem dX5_status_92 : decode cX5_status 92 = .ok (.iload_n 3, 1) := by decide +kernel
theorem dX5_status_93 : decode cX5_status 93 = .ok (.aload_n 0, 1) := by decide +kernel
theorem dX5_status_94 : decode cX5_status 94 = .ok (.getfield 80, 3) := by decide +kernel
theorem dX5_status_97 : decode cX5_status 97 = .ok (.if_icmp .ge 18, 3) := by decide +kernel
theorem dX5_status_100 : decode cX5_status 100 = .ok (.iload_n 2, 1) := by decide +kernel
theorem dX5_status_101 : decode cX5_status 101 = .ok (.aload_n 0, 1) := by decide +kernel
theorem dX5_status_102 : decode cX5_status 102 = .ok (.getfield 37, 3) := by decide +kernel
theorem dX5_status_105 : decode cX5_status 105 = .ok (.iload_n 3, 1) := by decide +kernel
theorem dX5_status_106 : decode cX5_status 106 = .ok (.iaload, 1) := by decide +kernel
theorem dX5_status_107 : decode cX5_status 107 = .ok (.iadd, 1) := by decide +kernel
theorem dX5_status_108 : decode cX5_status 108 = .ok (.istore_n 2, 1) := by decide +kernel
theorem dX5_status_109 : decode cX5_status 109 = .ok (.iinc 3 1, 3) := by decide +kernel
theorem dX5_status_112 : decode cX5_status 112 = .ok (.goto (-20), 3) := by decide +kernel
theorem dX5_status_115 : decode cX5_status 115 = .ok (.iload_n 2, 1) := by decide +kernel
theorem dX5_status_116 : decode cX5_status 116 = .ok (.ireturn, 1) := by decide +kernel
theorem dX5_status_117 : decode cX5_status 117 = .ok (.aload_n 0, 1) := by decide +kernel
theorem dX5_status_118 : decode cX5_status 118 = .ok (.getfield 154, 3) := by decide +kernel
theorem dX5_status_121 : decode cX5_status 121 = .ok (.ireturn, 1) := by decide +kernel
theorem dX5_status_122 : decode cX5_status 122 = .ok (.aload_n 0, 1) := by decide +kernel
theorem dX5_status_123 : decode cX5_status 123 = .ok (.getfield 67, 3) := by decide +kernel
theorem dX5_status_126 : decode cX5_status 126 = .ok (.ireturn, 1) := by decide +kernel
theorem dX5_status_127 : decode cX5_status 127 = .ok (.iconst 0, 1) := by decide +kernel
theorem dX5_status_128 : decode cX5_status 128 = .ok (.istore_n 3, 1) := by decide +kernel
theorem dX5_status_129 : decode cX5_status 129 = .ok (.iload_n 3, 1) := by decide +kernel
theorem dX5_status_130 : decode cX5_status 130 = .ok (.bipush 8, 2) := by decide +kernel
theorem dX5_status_132 : decode cX5_status 132 = .ok (.if_icmp .ge 26, 3) := by decide +kernel
theorem dX5_status_135 : decode cX5_status 135 = .ok (.iload_n 2, 1) := by decide +kernel
theorem dX5_status_136 : decode cX5_status 136 = .ok (.aload_n 0, 1) := by decide +kernel
theorem dX5_status_137 : decode cX5_status 137 = .ok (.getfield 7, 3) := by decide +kernel
theorem dX5_status_140 : decode cX5_status 140 = .ok (.iload_n 3, 1) := by decide +kernel
theorem dX5_status_141 : decode cX5_status 141 = .ok (.iaload, 1) := by decide +kernel
theorem dX5_status_142 : decode cX5_status 142 = .ok (.ifCond .eq 7, 3) := by decide +kernel
theorem dX5_status_145 : decode cX5_status 145 = .ok (.iconst 1, 1) := by decide +kernel
theorem dX5_status_146 : decode cX5_status 146 = .ok (.goto 4, 3) := by decide +kernel
theorem dX5_status_149 : decode cX5_status 149 = .ok (.iconst 0, 1) := by decide +kernel
theorem dX5_status_150 : decode cX5_status 150 = .ok (.iadd, 1) := by decide +kernel
theorem dX5_status_151 : decode cX5_status 151 = .ok (.istore_n 2, 1) := by decide +kernel
theorem dX5_status_152 : decode cX5_status 152 = .ok (.iinc 3 1, 3) := by decide +kernel
theorem dX5_status_155 : decode cX5_status 155 = .ok (.goto (-26), 3) := by decide +kernel
theorem dX5_status_158 : decode cX5_status 158 = .ok (.iload_n 2, 1) := by decide +kernel
theorem dX5_status_159 : decode cX5_status 159 = .ok (.ireturn, 1) := by decide +kernel
theorem dX5_status_160 : decode cX5_status 160 = .ok (.iload_n 1, 1) := by decide +kernel
theorem dX5_status_161 : decode cX5_status 161 = .ok (.i2l, 1) := by decide +kernel
theorem dX5_status_162 : decode cX5_status 162 = .ok (.ldc2_w 342, 3) := by decide +kernel
theorem dX5_status_165 : decode cX5_status 165 = .ok (.ldc2_w 344, 3) := by decide +kernel
theorem dX5_status_168 : decode cX5_status 168 = .ok (.invokestatic 83, 3) := by decide +kernel
theorem dX5_status_171 : decode cX5_status 171 = .ok (.ifCond .eq 15, 3) := by decide +kernel
theorem dX5_status_174 : decode cX5_status 174 = .ok (.aload_n 0, 1) := by decide +kernel
theorem dX5_status_175 : decode cX5_status 175 = .ok (.getfield 34, 3) := by decide +kernel
theorem dX5_status_178 : decode cX5_status 178 = .ok (.iload_n 1, 1) := by decide +kernel
theorem dX5_status_179 : decode cX5_status 179 = .ok (.bipush 10, 2) := by decide +kernel
theorem dX5_status_181 : decode cX5_status 181 = .ok (.isub, 1) := by decide +kernel
theorem dX5_status_182 : decode cX5_status 182 = .ok (.iaload, 1) := by decide +kernel
theorem dX5_status_183 : decode cX5_status 183 = .ok (.goto 4, 3) := by decide +kernel
theorem dX5_status_186 : decode cX5_status 186 = .ok (.iconst (-1), 1) := by decide +kernel
theorem dX5_status_187 : decode cX5_status 187 = .ok (.ireturn, 1) := by decide +kernel
