theorem dX5_init_0 : decode cX5_init 0 = .ok (.aload_n 0, 1) := by decide +kernel
theorem dX5_init_1 : decode cX5_init 1 = .ok (.invokespecial 1, 3) := by decide +kernel
theorem dX5_init_4 : decode cX5_init 4 = .ok (.aload_n 0, 1) := by decide +kernel
theorem dX5_init_5 : decode cX5_init 5 = .ok (.bipush 8, 2) := by decide +kernel
theorem dX5_init_7 : decode cX5_init 7 = .ok (.newarray .int, 2) := by decide +kernel
theorem dX5_init_9 : decode cX5_init 9 = .ok (.putfield 7, 3) := by decide +kernel
theorem dX5_init_12 : decode cX5_init 12 = .ok (.aload_n 0, 1) := by decide +kernel
theorem dX5_init_13 : decode cX5_init 13 = .ok (.bipush 8, 2) := by decide +kernel
theorem dX5_init_15 : decode cX5_init 15 = .ok (.newarray .int, 2) := by decide +kernel
theorem dX5_init_17 : decode cX5_init 17 = .ok (.putfield 13, 3) := by decide +kernel
theorem dX5_init_20 : decode cX5_init 20 = .ok (.aload_n 0, 1) := by decide +kernel
theorem dX5_init_21 : decode cX5_init 21 = .ok (.bipush 8, 2) := by decide +kernel
theorem dX5_init_23 : decode cX5_init 23 = .ok (.newarray .int, 2) := by decide +kernel
theorem dX5_init_25 : decode cX5_init 25 = .ok (.putfield 16, 3) := by decide +kernel
theorem dX5_init_28 : decode cX5_init 28 = .ok (.aload_n 0, 1) := by decide +kernel
theorem dX5_init_29 : decode cX5_init 29 = .ok (.bipush 8, 2) := by decide +kernel
theorem dX5_init_31 : decode cX5_init 31 = .ok (.bipush 40, 2) := by decide +kernel
theorem dX5_init_33 : decode cX5_init 33 = .ok (.multianewarray 19 2, 4) := by decide +kernel
theorem dX5_init_37 : decode cX5_init 37 = .ok (.putfield 21, 3) := by decide +kernel
theorem dX5_init_40 : decode cX5_init 40 = .ok (.aload_n 0, 1) := by decide +kernel
theorem dX5_init_41 : decode cX5_init 41 = .ok (.bipush 40, 2) := by decide +kernel
theorem dX5_init_43 : decode cX5_init 43 = .ok (.newarray .long, 2) := by decide +kernel
theorem dX5_init_45 : decode cX5_init 45 = .ok (.putfield 24, 3) := by decide +kernel
theorem dX5_init_48 : decode cX5_init 48 = .ok (.aload_n 0, 1) := by decide +kernel
theorem dX5_init_49 : decode cX5_init 49 = .ok (.bipush 8, 2) := by decide +kernel
theorem dX5_init_51 : decode cX5_init 51 = .ok (.newarray .int, 2) := by decide +kernel
theorem dX5_init_53 : decode cX5_init 53 = .ok (.putfield 28, 3) := by decide +kernel
theorem dX5_init_56 : decode cX5_init 56 = .ok (.aload_n 0, 1) := by decide +kernel
theorem dX5_init_57 : decode cX5_init 57 = .ok (.sipush 250, 3) := by decide +kernel
theorem dX5_init_60 : decode cX5_init 60 = .ok (.newarray .int, 2) := by decide +kernel
theorem dX5_init_62 : decode cX5_init 62 = .ok (.putfield 31, 3) := by decide +kernel
theorem dX5_init_65 : decode cX5_init 65 = .ok (.aload_n 0, 1) := by decide +kernel
theorem dX5_init_66 : decode cX5_init 66 = .ok (.bipush 8, 2) := by decide +kernel
theorem dX5_init_68 : decode cX5_init 68 = .ok (.newarray .int, 2) := by decide +kernel
theorem dX5_init_70 : decode cX5_init 70 = .ok (.putfield 34, 3) := by decide +kernel
theorem dX5_init_73 : decode cX5_init 73 = .ok (.aload_n 0, 1) := by decide +kernel
theorem dX5_init_74 : decode cX5_init 74 = .ok (.bipush 14, 2) := by decide +kernel
theorem dX5_init_76 : decode cX5_init 76 = .ok (.newarray .int, 2) := by decide +kernel
theorem dX5_init_78 : decode cX5_init 78 = .ok (.putfield 37, 3) := by decide +kernel
theorem dX5_init_81 : decode cX5_init 81 = .ok (.aload_n 0, 1) := by decide +kernel
theorem dX5_init_82 : decode cX5_init 82 = .ok (.bipush 14, 2) := by decide +kernel
theorem dX5_init_84 : decode cX5_init 84 = .ok (.newarray .int, 2) := by decide +kernel
theorem dX5_init_86 : decode cX5_init 86 = .ok (.putfield 40, 3) := by decide +kernel
theorem dX5_init_89 : decode cX5_init 89 = .ok (.aload_n 0, 1) := by decide +kernel
theorem dX5_init_90 : decode cX5_init 90 = .ok (.bipush 14, 2) := by decide +kernel
theorem dX5_init_92 : decode cX5_init 92 = .ok (.newarray .int, 2) := by decide +kernel
theorem dX5_init_94 : decode cX5_init 94 = .ok (.putfield 43, 3) := by decide +kernel
theorem dX5_init_97 : decode cX5_init 97 = .ok (.aload_n 0, 1) := by decide +kernel
theorem dX5_init_98 : decode cX5_init 98 = .ok (.bipush 6, 2) := by decide +kernel
theorem dX5_init_100 : decode cX5_init 100 = .ok (.newarray .int, 2) := by decide +kernel
theorem dX5_init_102 : decode cX5_init 102 = .ok (.putfield 46, 3) := by decide +kernel
theorem dX5_init_105 : decode cX5_init 105 = .ok (.aload_n 0, 1) := by decide +kernel
theorem dX5_init_106 : decode cX5_init 106 = .ok (.bipush 6, 2) := by decide +kernel
theorem dX5_init_108 : decode cX5_init 108 = .ok (.newarray .int, 2) := by decide +kernel
theorem dX5_init_110 : decode cX5_init 110 = .ok (.putfield 49, 3) := by decide +kernel
theorem dX5_init_113 : decode cX5_init 113 = .ok (.aload_n 0, 1) := by decide +kernel
theorem dX5_init_114 : decode cX5_init 114 = .ok (.bipush 6, 2) := by decide +kernel
theorem dX5_init_116 : decode cX5_init 116 = .ok (.newarray .int, 2) := by decide +kernel
theorem dX5_init_118 : decode cX5_init 118 = .ok (.putfield 52, 3) := by decide +kernel
theorem dX5_init_121 : decode cX5_init 121 = .ok (.aload_n 0, 1) := by decide +kernel
theorem dX5_init_122 : decode cX5_init 122 = .ok (.bipush 20, 2) := by decide +kernel
theorem dX5_init_124 : decode cX5_init 124 = .ok (.newarray .int, 2) := by decide +kernel
theorem dX5_init_126 : decode cX5_init 126 = .ok (.putfield 55, 3) := by decide +kernel
theorem dX5_init_129 : decode cX5_init 129 = .ok (.aload_n 0, 1) := by decide +kernel
theorem dX5_init_130 : decode cX5_init 130 = .ok (.bipush 20, 2) := by decide +kernel
theorem dX5_init_132 : decode cX5_init 132 = .ok (.newarray .int, 2) := by decide +kernel
theorem dX5_init_134 : decode cX5_init 134 = .ok (.putfield 58, 3) := by decide +kernel
theorem dX5_init_137 : decode cX5_init 137 = .ok (.aload_n 0, 1) := by decide +kernel
theorem dX5_init_138 : decode cX5_init 138 = .ok (.bipush 20, 2) := by decide +kernel
theorem dX5_init_140 : decode cX5_init 140 = .ok (.newarray .int, 2) := by decide +kernel
theorem dX5_init_142 : decode cX5_init 142 = .ok (.putfield 61, 3) := by decide +kernel
theorem dX5_init_145 : decode cX5_init 145 = .ok (.aload_n 0, 1) := by decide +kernel
theorem dX5_init_146 : decode cX5_init 146 = .ok (.bipush 20, 2) := by decide +kernel
theorem dX5_init_148 : decode cX5_init 148 = .ok (.newarray .int, 2) := by decide +kernel
theorem dX5_init_150 : decode cX5_init 150 = .ok (.putfield 64, 3) := by decide +kernel
theorem dX5_init_153 : decode cX5_init 153 = .ok (.aload_n 0, 1) := by decide +kernel
theorem dX5_init_154 : decode cX5_init 154 = .ok (.iconst 1, 1) := by decide +kernel
theorem dX5_init_155 : decode cX5_init 155 = .ok (.putfield 67, 3) := by decide +kernel
theorem dX5_init_158 : decode cX5_init 158 = .ok (.aload_n 0, 1) := by decide +kernel
theorem dX5_init_159 : decode cX5_init 159 = .ok (.iconst 3, 1) := by decide +kernel
theorem dX5_init_160 : decode cX5_init 160 = .ok (.newarray .int, 2) := by decide +kernel
theorem dX5_init_162 : decode cX5_init 162 = .ok (.putfield 71, 3) := by decide +kernel
theorem dX5_init_165 : decode cX5_init 165 = .ok (.aload_n 0, 1) := by decide +kernel
theorem dX5_init_166 : decode cX5_init 166 = .ok (.bipush 14, 2) := by decide +kernel
theorem dX5_init_168 : decode cX5_init 168 = .ok (.newarray .int, 2) := by decide +kernel
theorem dX5_init_170 : decode cX5_init 170 = .ok (.putfield 74, 3) := by decide +kernel
theorem dX5_init_173 : decode cX5_init 173 = .ok (.aload_n 0, 1) := by decide +kernel
theorem dX5_init_174 : decode cX5_init 174 = .ok (.bipush 14, 2) := by decide +kernel
theorem dX5_init_176 : decode cX5_init 176 = .ok (.newarray .int, 2) := by decide +kernel
theorem dX5_init_178 : decode cX5_init 178 = .ok (.putfield 77, 3) := by decide +kernel
theorem dX5_init_181 : decode cX5_init 181 = .ok (.return_, 1) := by decide +kernel
theorem dX5_refuse_0 : decode cX5_refuse 0 = .ok (.aload_n 0, 1) := by decide +kernel
theorem dX5_refuse_1 : decode cX5_refuse 1 = .ok (.getfield 34, 3) := by decide +kernel
theorem dX5_refuse_4 : decode cX5_refuse 4 = .ok (.iload_n 1, 1) := by decide +kernel
theorem dX5_refuse_5 : decode cX5_refuse 5 = .ok (.ineg, 1) := by decide +kernel
theorem dX5_refuse_6 : decode cX5_refuse 6 = .ok (.dup2, 1) := by decide +kernel
theorem dX5_refuse_7 : decode cX5_refuse 7 = .ok (.iaload, 1) := by decide +kernel
theorem dX5_refuse_8 : decode cX5_refuse 8 = .ok (.iconst 1, 1) := by decide +kernel
theorem dX5_refuse_9 : decode cX5_refuse 9 = .ok (.iadd, 1) := by decide +kernel
theorem dX5_refuse_10 : decode cX5_refuse 10 = .ok (.iastore, 1) := by decide +kernel
theorem dX5_refuse_11 : decode cX5_refuse 11 = .ok (.iload_n 1, 1) := by decide +kernel
theorem dX5_refuse_12 : decode cX5_refuse 12 = .ok (.ireturn, 1) := by decide +kernel
theorem dX5_in_0 : decode cX5_in 0 = .ok (.lload_n 0, 1) := by decide +kernel
theorem dX5_in_1 : decode cX5_in 1 = .ok (.lload_n 2, 1) := by decide +kernel
theorem dX5_in_2 : decode cX5_in 2 = .ok (.lcmp, 1) := by decide +kernel
theorem dX5_in_3 : decode cX5_in 3 = .ok (.ifCond .lt 14, 3) := by decide +kernel
theorem dX5_in_6 : decode cX5_in 6 = .ok (.lload_n 0, 1) := by decide +kernel
theorem dX5_in_7 : decode cX5_in 7 = .ok (.lload 4, 2) := by decide +kernel
theorem dX5_in_9 : decode cX5_in 9 = .ok (.lcmp, 1) := by decide +kernel
theorem dX5_in_10 : decode cX5_in 10 = .ok (.ifCond .gt 7, 3) := by decide +kernel
theorem dX5_in_13 : decode cX5_in 13 = .ok (.iconst 1, 1) := by decide +kernel
theorem dX5_in_14 : decode cX5_in 14 = .ok (.goto 4, 3) := by decide +kernel
theorem dX5_in_17 : decode cX5_in 17 = .ok (.iconst 0, 1) := by decide +kernel
theorem dX5_in_18 : decode cX5_in 18 = .ok (.ireturn, 1) := by decide +kernel
theorem dX5_isChild_0 : decode cX5_isChild 0 = .ok (.lload_n 1, 1) := by decide +kernel
theorem dX5_isChild_1 : decode cX5_isChild 1 = .ok (.lconst 0, 1) := by decide +kernel
theorem dX5_isChild_2 : decode cX5_isChild 2 = .ok (.aload_n 0, 1) := by decide +kernel
theorem dX5_isChild_3 : decode cX5_isChild 3 = .ok (.getfield 80, 3) := by decide +kernel
theorem dX5_isChild_6 : decode cX5_isChild 6 = .ok (.iconst 1, 1) := by decide +kernel
theorem dX5_isChild_7 : decode cX5_isChild 7 = .ok (.isub, 1) := by decide +kernel
theorem dX5_isChild_8 : decode cX5_isChild 8 = .ok (.i2l, 1) := by decide +kernel
theorem dX5_isChild_9 : decode cX5_isChild 9 = .ok (.invokestatic 83, 3) := by decide +kernel
theorem dX5_isChild_12 : decode cX5_isChild 12 = .ok (.ireturn, 1) := by decide +kernel
theorem dX5_areTwo_0 : decode cX5_areTwo 0 = .ok (.aload_n 0, 1) := by decide +kernel
theorem dX5_areTwo_1 : decode cX5_areTwo 1 = .ok (.lload_n 1, 1) := by decide +kernel
theorem dX5_areTwo_2 : decode cX5_areTwo 2 = .ok (.invokevirtual 87, 3) := by decide +kernel
theorem dX5_areTwo_5 : decode cX5_areTwo 5 = .ok (.ifCond .eq 21, 3) := by decide +kernel
theorem dX5_areTwo_8 : decode cX5_areTwo 8 = .ok (.aload_n 0, 1) := by decide +kernel
theorem dX5_areTwo_9 : decode cX5_areTwo 9 = .ok (.lload_n 3, 1) := by decide +kernel
theorem dX5_areTwo_10 : decode cX5_areTwo 10 = .ok (.invokevirtual 87, 3) := by decide +kernel
theorem dX5_areTwo_13 : decode cX5_areTwo 13 = .ok (.ifCond .eq 13, 3) := by decide +kernel
theorem dX5_areTwo_16 : decode cX5_areTwo 16 = .ok (.lload_n 1, 1) := by decide +kernel
theorem dX5_areTwo_17 : decode cX5_areTwo 17 = .ok (.lload_n 3, 1) := by decide +kernel
theorem dX5_areTwo_18 : decode cX5_areTwo 18 = .ok (.lcmp, 1) := by decide +kernel
theorem dX5_areTwo_19 : decode cX5_areTwo 19 = .ok (.ifCond .eq 7, 3) := by decide +kernel
theorem dX5_areTwo_22 : decode cX5_areTwo 22 = .ok (.iconst 1, 1) := by decide +kernel
theorem dX5_areTwo_23 : decode cX5_areTwo 23 = .ok (.goto 4, 3) := by decide +kernel
theorem dX5_areTwo_26 : decode cX5_areTwo 26 = .ok (.iconst 0, 1) := by decide +kernel
theorem dX5_areTwo_27 : decode cX5_areTwo 27 = .ok (.ireturn, 1) := by decide +kernel
theorem dX5_isCount_0 : decode cX5_isCount 0 = .ok (.iload_n 1, 1) := by decide +kernel
theorem dX5_isCount_1 : decode cX5_isCount 1 = .ok (.i2l, 1) := by decide +kernel
theorem dX5_isCount_2 : decode cX5_isCount 2 = .ok (.lconst 0, 1) := by decide +kernel
theorem dX5_isCount_3 : decode cX5_isCount 3 = .ok (.aload_n 0, 1) := by decide +kernel
theorem dX5_isCount_4 : decode cX5_isCount 4 = .ok (.getfield 91, 3) := by decide +kernel
theorem dX5_isCount_7 : decode cX5_isCount 7 = .ok (.iconst 1, 1) := by decide +kernel
theorem dX5_isCount_8 : decode cX5_isCount 8 = .ok (.isub, 1) := by decide +kernel
theorem dX5_isCount_9 : decode cX5_isCount 9 = .ok (.i2l, 1) := by decide +kernel
theorem dX5_isCount_10 : decode cX5_isCount 10 = .ok (.invokestatic 83, 3) := by decide +kernel
theorem dX5_isCount_13 : decode cX5_isCount 13 = .ok (.ireturn, 1) := by decide +kernel
theorem dX5_isTeam_0 : decode cX5_isTeam 0 = .ok (.aload_n 0, 1) := by decide +kernel
theorem dX5_isTeam_1 : decode cX5_isTeam 1 = .ok (.iload_n 1, 1) := by decide +kernel
theorem dX5_isTeam_2 : decode cX5_isTeam 2 = .ok (.invokevirtual 94, 3) := by decide +kernel
theorem dX5_isTeam_5 : decode cX5_isTeam 5 = .ok (.ifCond .eq 25, 3) := by decide +kernel
theorem dX5_isTeam_8 : decode cX5_isTeam 8 = .ok (.iload_n 2, 1) := by decide +kernel
theorem dX5_isTeam_9 : decode cX5_isTeam 9 = .ok (.i2l, 1) := by decide +kernel
theorem dX5_isTeam_10 : decode cX5_isTeam 10 = .ok (.lconst 0, 1) := by decide +kernel
theorem dX5_isTeam_11 : decode cX5_isTeam 11 = .ok (.aload_n 0, 1) := by decide +kernel
theorem dX5_isTeam_12 : decode cX5_isTeam 12 = .ok (.getfield 49, 3) := by decide +kernel
theorem dX5_isTeam_15 : decode cX5_isTeam 15 = .ok (.iload_n 1, 1) := by decide +kernel
theorem dX5_isTeam_16 : decode cX5_isTeam 16 = .ok (.iaload, 1) := by decide +kernel
theorem dX5_isTeam_17 : decode cX5_isTeam 17 = .ok (.iconst 1, 1) := by decide +kernel
theorem dX5_isTeam_18 : decode cX5_isTeam 18 = .ok (.isub, 1) := by decide +kernel
theorem dX5_isTeam_19 : decode cX5_isTeam 19 = .ok (.i2l, 1) := by decide +kernel
theorem dX5_isTeam_20 : decode cX5_isTeam 20 = .ok (.invokestatic 83, 3) := by decide +kernel
theorem dX5_isTeam_23 : decode cX5_isTeam 23 = .ok (.ifCond .eq 7, 3) := by decide +kernel
theorem dX5_isTeam_26 : decode cX5_isTeam 26 = .ok (.iconst 1, 1) := by decide +kernel
theorem dX5_isTeam_27 : decode cX5_isTeam 27 = .ok (.goto 4, 3) := by decide +kernel
theorem dX5_isTeam_30 : decode cX5_isTeam 30 = .ok (.iconst 0, 1) := by decide +kernel
theorem dX5_isTeam_31 : decode cX5_isTeam 31 = .ok (.ireturn, 1) := by decide +kernel
theorem dX5_has_0 : decode cX5_has 0 = .ok (.iload_n 0, 1) := by decide +kernel
theorem dX5_has_1 : decode cX5_has 1 = .ok (.iload_n 1, 1) := by decide +kernel
theorem dX5_has_2 : decode cX5_has 2 = .ok (.ishr, 1) := by decide +kernel
theorem dX5_has_3 : decode cX5_has 3 = .ok (.iconst 1, 1) := by decide +kernel
theorem dX5_has_4 : decode cX5_has 4 = .ok (.iand, 1) := by decide +kernel
theorem dX5_has_5 : decode cX5_has 5 = .ok (.ifCond .eq 7, 3) := by decide +kernel
theorem dX5_has_8 : decode cX5_has 8 = .ok (.iconst 1, 1) := by decide +kernel
theorem dX5_has_9 : decode cX5_has 9 = .ok (.goto 4, 3) := by decide +kernel
theorem dX5_has_12 : decode cX5_has 12 = .ok (.iconst 0, 1) := by decide +kernel
theorem dX5_has_13 : decode cX5_has 13 = .ok (.ireturn, 1) := by decide +kernel
theorem dX5_row_0 : decode cX5_row 0 = .ok (.iload_n 1, 1) := by decide +kernel
theorem dX5_row_1 : decode cX5_row 1 = .ok (.i2l, 1) := by decide +kernel
theorem dX5_row_2 : decode cX5_row 2 = .ok (.lconst 0, 1) := by decide +kernel
theorem dX5_row_3 : decode cX5_row 3 = .ok (.ldc2_w 98, 3) := by decide +kernel
theorem dX5_row_6 : decode cX5_row 6 = .ok (.invokestatic 83, 3) := by decide +kernel
theorem dX5_row_9 : decode cX5_row 9 = .ok (.ifCond .eq 27, 3) := by decide +kernel
theorem dX5_row_12 : decode cX5_row 12 = .ok (.iload_n 2, 1) := by decide +kernel
theorem dX5_row_13 : decode cX5_row 13 = .ok (.i2l, 1) := by decide +kernel
theorem dX5_row_14 : decode cX5_row 14 = .ok (.lconst 0, 1) := by decide +kernel
theorem dX5_row_15 : decode cX5_row 15 = .ok (.ldc2_w 100, 3) := by decide +kernel
theorem dX5_row_18 : decode cX5_row 18 = .ok (.invokestatic 83, 3) := by decide +kernel
theorem dX5_row_21 : decode cX5_row 21 = .ok (.ifCond .eq 15, 3) := by decide +kernel
theorem dX5_row_24 : decode cX5_row 24 = .ok (.iload_n 3, 1) := by decide +kernel
theorem dX5_row_25 : decode cX5_row 25 = .ok (.i2l, 1) := by decide +kernel
theorem dX5_row_26 : decode cX5_row 26 = .ok (.lconst 0, 1) := by decide +kernel
theorem dX5_row_27 : decode cX5_row 27 = .ok (.ldc2_w 102, 3) := by decide +kernel
theorem dX5_row_30 : decode cX5_row 30 = .ok (.invokestatic 83, 3) := by decide +kernel
theorem dX5_row_33 : decode cX5_row 33 = .ok (.ifCond .ne 10, 3) := by decide +kernel
theorem dX5_row_36 : decode cX5_row 36 = .ok (.aload_n 0, 1) := by decide +kernel
theorem dX5_row_37 : decode cX5_row 37 = .ok (.bipush (-2), 2) := by decide +kernel
theorem dX5_row_39 : decode cX5_row 39 = .ok (.invokevirtual 104, 3) := by decide +kernel
theorem dX5_row_42 : decode cX5_row 42 = .ok (.ireturn, 1) := by decide +kernel
theorem dX5_row_43 : decode cX5_row 43 = .ok (.aload_n 0, 1) := by decide +kernel
theorem dX5_row_44 : decode cX5_row 44 = .ok (.getfield 7, 3) := by decide +kernel
theorem dX5_row_47 : decode cX5_row 47 = .ok (.iload_n 1, 1) := by decide +kernel
theorem dX5_row_48 : decode cX5_row 48 = .ok (.iconst 1, 1) := by decide +kernel
theorem dX5_row_49 : decode cX5_row 49 = .ok (.iastore, 1) := by decide +kernel
theorem dX5_row_50 : decode cX5_row 50 = .ok (.aload_n 0, 1) := by decide +kernel
theorem dX5_row_51 : decode cX5_row 51 = .ok (.getfield 13, 3) := by decide +kernel
theorem dX5_row_54 : decode cX5_row 54 = .ok (.iload_n 1, 1) := by decide +kernel
theorem dX5_row_55 : decode cX5_row 55 = .ok (.iload_n 2, 1) := by decide +kernel
theorem dX5_row_56 : decode cX5_row 56 = .ok (.iastore, 1) := by decide +kernel
theorem dX5_row_57 : decode cX5_row 57 = .ok (.aload_n 0, 1) := by decide +kernel
theorem dX5_row_58 : decode cX5_row 58 = .ok (.getfield 16, 3) := by decide +kernel
theorem dX5_row_61 : decode cX5_row 61 = .ok (.iload_n 1, 1) := by decide +kernel
theorem dX5_row_62 : decode cX5_row 62 = .ok (.iload_n 3, 1) := by decide +kernel
theorem dX5_row_63 : decode cX5_row 63 = .ok (.iastore, 1) := by decide +kernel
theorem dX5_row_64 : decode cX5_row 64 = .ok (.iconst 0, 1) := by decide +kernel
theorem dX5_row_65 : decode cX5_row 65 = .ok (.istore 4, 2) := by decide +kernel
theorem dX5_row_67 : decode cX5_row 67 = .ok (.iload 4, 2) := by decide +kernel
theorem dX5_row_69 : decode cX5_row 69 = .ok (.bipush 40, 2) := by decide +kernel
theorem dX5_row_71 : decode cX5_row 71 = .ok (.if_icmp .ge 19, 3) := by decide +kernel
theorem dX5_row_74 : decode cX5_row 74 = .ok (.aload_n 0, 1) := by decide +kernel
theorem dX5_row_75 : decode cX5_row 75 = .ok (.getfield 21, 3) := by decide +kernel
theorem dX5_row_78 : decode cX5_row 78 = .ok (.iload_n 1, 1) := by decide +kernel
theorem dX5_row_79 : decode cX5_row 79 = .ok (.aaload, 1) := by decide +kernel
theorem dX5_row_80 : decode cX5_row 80 = .ok (.iload 4, 2) := by decide +kernel
theorem dX5_row_82 : decode cX5_row 82 = .ok (.lconst 0, 1) := by decide +kernel
theorem dX5_row_83 : decode cX5_row 83 = .ok (.lastore, 1) := by decide +kernel
theorem dX5_row_84 : decode cX5_row 84 = .ok (.iinc 4 1, 3) := by decide +kernel
theorem dX5_row_87 : decode cX5_row 87 = .ok (.goto (-20), 3) := by decide +kernel
theorem dX5_row_90 : decode cX5_row 90 = .ok (.iconst 1, 1) := by decide +kernel
theorem dX5_row_91 : decode cX5_row 91 = .ok (.ireturn, 1) := by decide +kernel
theorem dX5_fit_0 : decode cX5_fit 0 = .ok (.iload_n 0, 1) := by decide +kernel
theorem dX5_fit_1 : decode cX5_fit 1 = .ok (.tableswitch 47 0 3 #[31, 36, 41, 45], 31) := by decide +kernel
theorem dX5_fit_32 : decode cX5_fit 32 = .ok (.lload_n 1, 1) := by decide +kernel
theorem dX5_fit_33 : decode cX5_fit 33 = .ok (.l2i, 1) := by decide +kernel
theorem dX5_fit_34 : decode cX5_fit 34 = .ok (.i2b, 1) := by decide +kernel
theorem dX5_fit_35 : decode cX5_fit 35 = .ok (.i2l, 1) := by decide +kernel
theorem dX5_fit_36 : decode cX5_fit 36 = .ok (.lreturn, 1) := by decide +kernel
theorem dX5_fit_37 : decode cX5_fit 37 = .ok (.lload_n 1, 1) := by decide +kernel
theorem dX5_fit_38 : decode cX5_fit 38 = .ok (.l2i, 1) := by decide +kernel
theorem dX5_fit_39 : decode cX5_fit 39 = .ok (.i2s, 1) := by decide +kernel
theorem dX5_fit_40 : decode cX5_fit 40 = .ok (.i2l, 1) := by decide +kernel
theorem dX5_fit_41 : decode cX5_fit 41 = .ok (.lreturn, 1) := by decide +kernel
theorem dX5_fit_42 : decode cX5_fit 42 = .ok (.lload_n 1, 1) := by decide +kernel
theorem dX5_fit_43 : decode cX5_fit 43 = .ok (.l2i, 1) := by decide +kernel
theorem dX5_fit_44 : decode cX5_fit 44 = .ok (.i2l, 1) := by decide +kernel
theorem dX5_fit_45 : decode cX5_fit 45 = .ok (.lreturn, 1) := by decide +kernel
theorem dX5_fit_46 : decode cX5_fit 46 = .ok (.lload_n 1, 1) := by decide +kernel
theorem dX5_fit_47 : decode cX5_fit 47 = .ok (.lreturn, 1) := by decide +kernel
theorem dX5_fit_48 : decode cX5_fit 48 = .ok (.lload_n 1, 1) := by decide +kernel
theorem dX5_fit_49 : decode cX5_fit 49 = .ok (.lconst 0, 1) := by decide +kernel
theorem dX5_fit_50 : decode cX5_fit 50 = .ok (.lcmp, 1) := by decide +kernel
theorem dX5_fit_51 : decode cX5_fit 51 = .ok (.ifCond .eq 7, 3) := by decide +kernel
theorem dX5_fit_54 : decode cX5_fit 54 = .ok (.lconst 1, 1) := by decide +kernel
theorem dX5_fit_55 : decode cX5_fit 55 = .ok (.goto 4, 3) := by decide +kernel
theorem dX5_fit_58 : decode cX5_fit 58 = .ok (.lconst 0, 1) := by decide +kernel
theorem dX5_fit_59 : decode cX5_fit 59 = .ok (.lreturn, 1) := by decide +kernel
theorem dX5_noRow_0 : decode cX5_noRow 0 = .ok (.iload_n 1, 1) := by decide +kernel
theorem dX5_noRow_1 : decode cX5_noRow 1 = .ok (.i2l, 1) := by decide +kernel
theorem dX5_noRow_2 : decode cX5_noRow 2 = .ok (.lconst 0, 1) := by decide +kernel
theorem dX5_noRow_3 : decode cX5_noRow 3 = .ok (.ldc2_w 98, 3) := by decide +kernel
theorem dX5_noRow_6 : decode cX5_noRow 6 = .ok (.invokestatic 83, 3) := by decide +kernel
theorem dX5_noRow_9 : decode cX5_noRow 9 = .ok (.ifCond .ne 10, 3) := by decide +kernel
theorem dX5_noRow_12 : decode cX5_noRow 12 = .ok (.aload_n 0, 1) := by decide +kernel
theorem dX5_noRow_13 : decode cX5_noRow 13 = .ok (.bipush (-2), 2) := by decide +kernel
theorem dX5_noRow_15 : decode cX5_noRow 15 = .ok (.invokevirtual 104, 3) := by decide +kernel
theorem dX5_noRow_18 : decode cX5_noRow 18 = .ok (.ireturn, 1) := by decide +kernel
theorem dX5_noRow_19 : decode cX5_noRow 19 = .ok (.aload_n 0, 1) := by decide +kernel
theorem dX5_noRow_20 : decode cX5_noRow 20 = .ok (.getfield 7, 3) := by decide +kernel
theorem dX5_noRow_23 : decode cX5_noRow 23 = .ok (.iload_n 1, 1) := by decide +kernel
theorem dX5_noRow_24 : decode cX5_noRow 24 = .ok (.iaload, 1) := by decide +kernel
theorem dX5_noRow_25 : decode cX5_noRow 25 = .ok (.iconst 2, 1) := by decide +kernel
theorem dX5_noRow_26 : decode cX5_noRow 26 = .ok (.if_icmp .ne 10, 3) := by decide +kernel
theorem dX5_noRow_29 : decode cX5_noRow 29 = .ok (.aload_n 0, 1) := by decide +kernel
theorem dX5_noRow_30 : decode cX5_noRow 30 = .ok (.bipush (-3), 2) := by decide +kernel
theorem dX5_noRow_32 : decode cX5_noRow 32 = .ok (.invokevirtual 104, 3) := by decide +kernel
theorem dX5_noRow_35 : decode cX5_noRow 35 = .ok (.ireturn, 1) := by decide +kernel
theorem dX5_noRow_36 : decode cX5_noRow 36 = .ok (.aload_n 0, 1) := by decide +kernel
theorem dX5_noRow_37 : decode cX5_noRow 37 = .ok (.getfield 7, 3) := by decide +kernel
theorem dX5_noRow_40 : decode cX5_noRow 40 = .ok (.iload_n 1, 1) := by decide +kernel
theorem dX5_noRow_41 : decode cX5_noRow 41 = .ok (.iaload, 1) := by decide +kernel
theorem dX5_noRow_42 : decode cX5_noRow 42 = .ok (.ifCond .ne 12, 3) := by decide +kernel
theorem dX5_noRow_45 : decode cX5_noRow 45 = .ok (.aload_n 0, 1) := by decide +kernel
theorem dX5_noRow_46 : decode cX5_noRow 46 = .ok (.bipush (-4), 2) := by decide +kernel
theorem dX5_noRow_48 : decode cX5_noRow 48 = .ok (.invokevirtual 104, 3) := by decide +kernel
theorem dX5_noRow_51 : decode cX5_noRow 51 = .ok (.goto 4, 3) := by decide +kernel
theorem dX5_noRow_54 : decode cX5_noRow 54 = .ok (.iconst 0, 1) := by decide +kernel
theorem dX5_noRow_55 : decode cX5_noRow 55 = .ok (.ireturn, 1) := by decide +kernel
theorem dX5_set_0 : decode cX5_set 0 = .ok (.aload_n 0, 1) := by decide +kernel
theorem dX5_set_1 : decode cX5_set 1 = .ok (.iload_n 1, 1) := by decide +kernel
theorem dX5_set_2 : decode cX5_set 2 = .ok (.invokevirtual 108, 3) := by decide +kernel
theorem dX5_set_5 : decode cX5_set 5 = .ok (.istore 5, 2) := by decide +kernel
theorem dX5_set_7 : decode cX5_set 7 = .ok (.iload 5, 2) := by decide +kernel
theorem dX5_set_9 : decode cX5_set 9 = .ok (.ifCond .eq 6, 3) := by decide +kernel
theorem dX5_set_12 : decode cX5_set 12 = .ok (.iload 5, 2) := by decide +kernel
theorem dX5_set_14 : decode cX5_set 14 = .ok (.ireturn, 1) := by decide +kernel
theorem dX5_set_15 : decode cX5_set 15 = .ok (.iload_n 2, 1) := by decide +kernel
theorem dX5_set_16 : decode cX5_set 16 = .ok (.i2l, 1) := by decide +kernel
theorem dX5_set_17 : decode cX5_set 17 = .ok (.lconst 0, 1) := by decide +kernel
theorem dX5_set_18 : decode cX5_set 18 = .ok (.aload_n 0, 1) := by decide +kernel
theorem dX5_set_19 : decode cX5_set 19 = .ok (.getfield 16, 3) := by decide +kernel
theorem dX5_set_22 : decode cX5_set 22 = .ok (.iload_n 1, 1) := by decide +kernel
theorem dX5_set_23 : decode cX5_set 23 = .ok (.iaload, 1) := by decide +kernel
theorem dX5_set_24 : decode cX5_set 24 = .ok (.iconst 1, 1) := by decide +kernel
theorem dX5_set_25 : decode cX5_set 25 = .ok (.isub, 1) := by decide +kernel
theorem dX5_set_26 : decode cX5_set 26 = .ok (.i2l, 1) := by decide +kernel
theorem dX5_set_27 : decode cX5_set 27 = .ok (.invokestatic 83, 3) := by decide +kernel
theorem dX5_set_30 : decode cX5_set 30 = .ok (.ifCond .ne 10, 3) := by decide +kernel
theorem dX5_set_33 : decode cX5_set 33 = .ok (.aload_n 0, 1) := by decide +kernel
theorem dX5_set_34 : decode cX5_set 34 = .ok (.bipush (-2), 2) := by decide +kernel
theorem dX5_set_36 : decode cX5_set 36 = .ok (.invokevirtual 104, 3) := by decide +kernel
theorem dX5_set_39 : decode cX5_set 39 = .ok (.ireturn, 1) := by decide +kernel
theorem dX5_set_40 : decode cX5_set 40 = .ok (.aload_n 0, 1) := by decide +kernel
theorem dX5_set_41 : decode cX5_set 41 = .ok (.getfield 21, 3) := by decide +kernel
theorem dX5_set_44 : decode cX5_set 44 = .ok (.iload_n 1, 1) := by decide +kernel
theorem dX5_set_45 : decode cX5_set 45 = .ok (.aaload, 1) := by decide +kernel
theorem dX5_set_46 : decode cX5_set 46 = .ok (.iload_n 2, 1) := by decide +kernel
theorem dX5_set_47 : decode cX5_set 47 = .ok (.aload_n 0, 1) := by decide +kernel
theorem dX5_set_48 : decode cX5_set 48 = .ok (.getfield 13, 3) := by decide +kernel
theorem dX5_set_51 : decode cX5_set 51 = .ok (.iload_n 1, 1) := by decide +kernel
theorem dX5_set_52 : decode cX5_set 52 = .ok (.iaload, 1) := by decide +kernel
theorem dX5_set_53 : decode cX5_set 53 = .ok (.lload_n 3, 1) := by decide +kernel
theorem dX5_set_54 : decode cX5_set 54 = .ok (.invokestatic 111, 3) := by decide +kernel
theorem dX5_set_57 : decode cX5_set 57 = .ok (.lastore, 1) := by decide +kernel
theorem dX5_set_58 : decode cX5_set 58 = .ok (.iconst 1, 1) := by decide +kernel
theorem dX5_set_59 : decode cX5_set 59 = .ok (.ireturn, 1) := by decide +kernel
theorem dX5_copy_0 : decode cX5_copy 0 = .ok (.iload_n 1, 1) := by decide +kernel
theorem dX5_copy_1 : decode cX5_copy 1 = .ok (.i2l, 1) := by decide +kernel
theorem dX5_copy_2 : decode cX5_copy 2 = .ok (.lconst 0, 1) := by decide +kernel
theorem dX5_copy_3 : decode cX5_copy 3 = .ok (.ldc2_w 98, 3) := by decide +kernel
theorem dX5_copy_6 : decode cX5_copy 6 = .ok (.invokestatic 83, 3) := by decide +kernel
theorem dX5_copy_9 : decode cX5_copy 9 = .ok (.ifCond .eq 15, 3) := by decide +kernel
theorem dX5_copy_12 : decode cX5_copy 12 = .ok (.iload_n 2, 1) := by decide +kernel
theorem dX5_copy_13 : decode cX5_copy 13 = .ok (.i2l, 1) := by decide +kernel
theorem dX5_copy_14 : decode cX5_copy 14 = .ok (.lconst 0, 1) := by decide +kernel
theorem dX5_copy_15 : decode cX5_copy 15 = .ok (.ldc2_w 98, 3) := by decide +kernel
theorem dX5_copy_18 : decode cX5_copy 18 = .ok (.invokestatic 83, 3) := by decide +kernel
theorem dX5_copy_21 : decode cX5_copy 21 = .ok (.ifCond .ne 10, 3) := by decide +kernel
theorem dX5_copy_24 : decode cX5_copy 24 = .ok (.aload_n 0, 1) := by decide +kernel
theorem dX5_copy_25 : decode cX5_copy 25 = .ok (.bipush (-2), 2) := by decide +kernel
theorem dX5_copy_27 : decode cX5_copy 27 = .ok (.invokevirtual 104, 3) := by decide +kernel
theorem dX5_copy_30 : decode cX5_copy 30 = .ok (.ireturn, 1) := by decide +kernel
theorem dX5_copy_31 : decode cX5_copy 31 = .ok (.aload_n 0, 1) := by decide +kernel
theorem dX5_copy_32 : decode cX5_copy 32 = .ok (.getfield 7, 3) := by decide +kernel
theorem dX5_copy_35 : decode cX5_copy 35 = .ok (.iload_n 1, 1) := by decide +kernel
theorem dX5_copy_36 : decode cX5_copy 36 = .ok (.iaload, 1) := by decide +kernel
theorem dX5_copy_37 : decode cX5_copy 37 = .ok (.iconst 2, 1) := by decide +kernel
theorem dX5_copy_38 : decode cX5_copy 38 = .ok (.if_icmp .eq 48, 3) := by decide +kernel
theorem dX5_copy_41 : decode cX5_copy 41 = .ok (.aload_n 0, 1) := by decide +kernel
theorem dX5_copy_42 : decode cX5_copy 42 = .ok (.getfield 7, 3) := by decide +kernel
theorem dX5_copy_45 : decode cX5_copy 45 = .ok (.iload_n 2, 1) := by decide +kernel
theorem dX5_copy_46 : decode cX5_copy 46 = .ok (.iaload, 1) := by decide +kernel
theorem dX5_copy_47 : decode cX5_copy 47 = .ok (.iconst 2, 1) := by decide +kernel
theorem dX5_copy_48 : decode cX5_copy 48 = .ok (.if_icmp .eq 38, 3) := by decide +kernel
theorem dX5_copy_51 : decode cX5_copy 51 = .ok (.aload_n 0, 1) := by decide +kernel
theorem dX5_copy_52 : decode cX5_copy 52 = .ok (.getfield 7, 3) := by decide +kernel
theorem dX5_copy_55 : decode cX5_copy 55 = .ok (.iload_n 1, 1) := by decide +kernel
theorem dX5_copy_56 : decode cX5_copy 56 = .ok (.iaload, 1) := by decide +kernel
theorem dX5_copy_57 : decode cX5_copy 57 = .ok (.iconst 1, 1) := by decide +kernel
theorem dX5_copy_58 : decode cX5_copy 58 = .ok (.if_icmp .ne 35, 3) := by decide +kernel
theorem dX5_copy_61 : decode cX5_copy 61 = .ok (.aload_n 0, 1) := by decide +kernel
theorem dX5_copy_62 : decode cX5_copy 62 = .ok (.getfield 7, 3) := by decide +kernel
theorem dX5_copy_65 : decode cX5_copy 65 = .ok (.iload_n 2, 1) := by decide +kernel
theorem dX5_copy_66 : decode cX5_copy 66 = .ok (.iaload, 1) := by decide +kernel
theorem dX5_copy_67 : decode cX5_copy 67 = .ok (.iconst 1, 1) := by decide +kernel
theorem dX5_copy_68 : decode cX5_copy 68 = .ok (.if_icmp .ne 25, 3) := by decide +kernel
theorem dX5_copy_71 : decode cX5_copy 71 = .ok (.aload_n 0, 1) := by decide +kernel
theorem dX5_copy_72 : decode cX5_copy 72 = .ok (.getfield 13, 3) := by decide +kernel
theorem dX5_copy_75 : decode cX5_copy 75 = .ok (.iload_n 1, 1) := by decide +kernel
theorem dX5_copy_76 : decode cX5_copy 76 = .ok (.iaload, 1) := by decide +kernel
theorem dX5_copy_77 : decode cX5_copy 77 = .ok (.aload_n 0, 1) := by decide +kernel
theorem dX5_copy_78 : decode cX5_copy 78 = .ok (.getfield 13, 3) := by decide +kernel
theorem dX5_copy_81 : decode cX5_copy 81 = .ok (.iload_n 2, 1) := by decide +kernel
theorem dX5_copy_82 : decode cX5_copy 82 = .ok (.iaload, 1) := by decide +kernel
theorem dX5_copy_83 : decode cX5_copy 83 = .ok (.if_icmp .eq 10, 3) := by decide +kernel
theorem dX5_copy_86 : decode cX5_copy 86 = .ok (.aload_n 0, 1) := by decide +kernel
theorem dX5_copy_87 : decode cX5_copy 87 = .ok (.bipush (-3), 2) := by decide +kernel
theorem dX5_copy_89 : decode cX5_copy 89 = .ok (.invokevirtual 104, 3) := by decide +kernel
theorem dX5_copy_92 : decode cX5_copy 92 = .ok (.ireturn, 1) := by decide +kernel
theorem dX5_copy_93 : decode cX5_copy 93 = .ok (.aload_n 0, 1) := by decide +kernel
theorem dX5_copy_94 : decode cX5_copy 94 = .ok (.getfield 7, 3) := by decide +kernel
theorem dX5_copy_97 : decode cX5_copy 97 = .ok (.iload_n 1, 1) := by decide +kernel
theorem dX5_copy_98 : decode cX5_copy 98 = .ok (.iaload, 1) := by decide +kernel
theorem dX5_copy_99 : decode cX5_copy 99 = .ok (.ifCond .eq 12, 3) := by decide +kernel
theorem dX5_copy_102 : decode cX5_copy 102 = .ok (.aload_n 0, 1) := by decide +kernel
theorem dX5_copy_103 : decode cX5_copy 103 = .ok (.getfield 7, 3) := by decide +kernel
theorem dX5_copy_106 : decode cX5_copy 106 = .ok (.iload_n 2, 1) := by decide +kernel
theorem dX5_copy_107 : decode cX5_copy 107 = .ok (.iaload, 1) := by decide +kernel
theorem dX5_copy_108 : decode cX5_copy 108 = .ok (.ifCond .ne 10, 3) := by decide +kernel
theorem dX5_copy_111 : decode cX5_copy 111 = .ok (.aload_n 0, 1) := by decide +kernel
theorem dX5_copy_112 : decode cX5_copy 112 = .ok (.bipush (-4), 2) := by decide +kernel
theorem dX5_copy_114 : decode cX5_copy 114 = .ok (.invokevirtual 104, 3) := by decide +kernel
theorem dX5_copy_117 : decode cX5_copy 117 = .ok (.ireturn, 1) := by decide +kernel
theorem dX5_copy_118 : decode cX5_copy 118 = .ok (.iload 5, 2) := by decide +kernel
theorem dX5_copy_120 : decode cX5_copy 120 = .ok (.ifCond .lt 61, 3) := by decide +kernel
theorem dX5_copy_123 : decode cX5_copy 123 = .ok (.iload_n 3, 1) := by decide +kernel
theorem dX5_copy_124 : decode cX5_copy 124 = .ok (.ifCond .lt 57, 3) := by decide +kernel
theorem dX5_copy_127 : decode cX5_copy 127 = .ok (.iload 4, 2) := by decide +kernel
theorem dX5_copy_129 : decode cX5_copy 129 = .ok (.ifCond .lt 52, 3) := by decide +kernel
theorem dX5_copy_132 : decode cX5_copy 132 = .ok (.iload 5, 2) := by decide +kernel
theorem dX5_copy_134 : decode cX5_copy 134 = .ok (.aload_n 0, 1) := by decide +kernel
theorem dX5_copy_135 : decode cX5_copy 135 = .ok (.getfield 16, 3) := by decide +kernel
theorem dX5_copy_138 : decode cX5_copy 138 = .ok (.iload_n 1, 1) := by decide +kernel
theorem dX5_copy_139 : decode cX5_copy 139 = .ok (.iaload, 1) := by decide +kernel
theorem dX5_copy_140 : decode cX5_copy 140 = .ok (.if_icmp .gt 41, 3) := by decide +kernel
theorem dX5_copy_143 : decode cX5_copy 143 = .ok (.iload 5, 2) := by decide +kernel
theorem dX5_copy_145 : decode cX5_copy 145 = .ok (.aload_n 0, 1) := by decide +kernel
theorem dX5_copy_146 : decode cX5_copy 146 = .ok (.getfield 16, 3) := by decide +kernel
theorem dX5_copy_149 : decode cX5_copy 149 = .ok (.iload_n 2, 1) := by decide +kernel
theorem dX5_copy_150 : decode cX5_copy 150 = .ok (.iaload, 1) := by decide +kernel
theorem dX5_copy_151 : decode cX5_copy 151 = .ok (.if_icmp .gt 30, 3) := by decide +kernel
theorem dX5_copy_154 : decode cX5_copy 154 = .ok (.iload_n 3, 1) := by decide +kernel
theorem dX5_copy_155 : decode cX5_copy 155 = .ok (.aload_n 0, 1) := by decide +kernel
theorem dX5_copy_156 : decode cX5_copy 156 = .ok (.getfield 16, 3) := by decide +kernel
theorem dX5_copy_159 : decode cX5_copy 159 = .ok (.iload_n 1, 1) := by decide +kernel
theorem dX5_copy_160 : decode cX5_copy 160 = .ok (.iaload, 1) := by decide +kernel
theorem dX5_copy_161 : decode cX5_copy 161 = .ok (.iload 5, 2) := by decide +kernel
theorem dX5_copy_163 : decode cX5_copy 163 = .ok (.isub, 1) := by decide +kernel
theorem dX5_copy_164 : decode cX5_copy 164 = .ok (.if_icmp .gt 17, 3) := by decide +kernel
theorem dX5_copy_167 : decode cX5_copy 167 = .ok (.iload 4, 2) := by decide +kernel
theorem dX5_copy_169 : decode cX5_copy 169 = .ok (.aload_n 0, 1) := by decide +kernel
theorem dX5_copy_170 : decode cX5_copy 170 = .ok (.getfield 16, 3) := by decide +kernel
theorem dX5_copy_173 : decode cX5_copy 173 = .ok (.iload_n 2, 1) := by decide +kernel
theorem dX5_copy_174 : decode cX5_copy 174 = .ok (.iaload, 1) := by decide +kernel
theorem dX5_copy_175 : decode cX5_copy 175 = .ok (.iload 5, 2) := by decide +kernel
theorem dX5_copy_177 : decode cX5_copy 177 = .ok (.isub, 1) := by decide +kernel
theorem dX5_copy_178 : decode cX5_copy 178 = .ok (.if_icmp .le 10, 3) := by decide +kernel
theorem dX5_copy_181 : decode cX5_copy 181 = .ok (.aload_n 0, 1) := by decide +kernel
theorem dX5_copy_182 : decode cX5_copy 182 = .ok (.bipush (-2), 2) := by decide +kernel
theorem dX5_copy_184 : decode cX5_copy 184 = .ok (.invokevirtual 104, 3) := by decide +kernel
theorem dX5_copy_187 : decode cX5_copy 187 = .ok (.ireturn, 1) := by decide +kernel
theorem dX5_copy_188 : decode cX5_copy 188 = .ok (.iconst 0, 1) := by decide +kernel
theorem dX5_copy_189 : decode cX5_copy 189 = .ok (.istore 6, 2) := by decide +kernel
theorem dX5_copy_191 : decode cX5_copy 191 = .ok (.iload 6, 2) := by decide +kernel
theorem dX5_copy_193 : decode cX5_copy 193 = .ok (.iload 5, 2) := by decide +kernel
theorem dX5_copy_195 : decode cX5_copy 195 = .ok (.if_icmp .ge 27, 3) := by decide +kernel
theorem dX5_copy_198 : decode cX5_copy 198 = .ok (.aload_n 0, 1) := by decide +kernel
theorem dX5_copy_199 : decode cX5_copy 199 = .ok (.getfield 24, 3) := by decide +kernel
theorem dX5_copy_202 : decode cX5_copy 202 = .ok (.iload 6, 2) := by decide +kernel
theorem dX5_copy_204 : decode cX5_copy 204 = .ok (.aload_n 0, 1) := by decide +kernel
theorem dX5_copy_205 : decode cX5_copy 205 = .ok (.getfield 21, 3) := by decide +kernel
theorem dX5_copy_208 : decode cX5_copy 208 = .ok (.iload_n 1, 1) := by decide +kernel
theorem dX5_copy_209 : decode cX5_copy 209 = .ok (.aaload, 1) := by decide +kernel
theorem dX5_copy_210 : decode cX5_copy 210 = .ok (.iload_n 3, 1) := by decide +kernel
theorem dX5_copy_211 : decode cX5_copy 211 = .ok (.iload 6, 2) := by decide +kernel
theorem dX5_copy_213 : decode cX5_copy 213 = .ok (.iadd, 1) := by decide +kernel
theorem dX5_copy_214 : decode cX5_copy 214 = .ok (.laload, 1) := by decide +kernel
theorem dX5_copy_215 : decode cX5_copy 215 = .ok (.lastore, 1) := by decide +kernel
theorem dX5_copy_216 : decode cX5_copy 216 = .ok (.iinc 6 1, 3) := by decide +kernel
theorem dX5_copy_219 : decode cX5_copy 219 = .ok (.goto (-28), 3) := by decide +kernel
theorem dX5_copy_222 : decode cX5_copy 222 = .ok (.iconst 0, 1) := by decide +kernel
theorem dX5_copy_223 : decode cX5_copy 223 = .ok (.istore 6, 2) := by decide +kernel
theorem dX5_copy_225 : decode cX5_copy 225 = .ok (.iload 6, 2) := by decide +kernel
theorem dX5_copy_227 : decode cX5_copy 227 = .ok (.iload 5, 2) := by decide +kernel
theorem dX5_copy_229 : decode cX5_copy 229 = .ok (.if_icmp .ge 28, 3) := by decide +kernel
theorem dX5_copy_232 : decode cX5_copy 232 = .ok (.aload_n 0, 1) := by decide +kernel
theorem dX5_copy_233 : decode cX5_copy 233 = .ok (.getfield 21, 3) := by decide +kernel
theorem dX5_copy_236 : decode cX5_copy 236 = .ok (.iload_n 2, 1) := by decide +kernel
theorem dX5_copy_237 : decode cX5_copy 237 = .ok (.aaload, 1) := by decide +kernel
theorem dX5_copy_238 : decode cX5_copy 238 = .ok (.iload 4, 2) := by decide +kernel
theorem dX5_copy_240 : decode cX5_copy 240 = .ok (.iload 6, 2) := by decide +kernel
theorem dX5_copy_242 : decode cX5_copy 242 = .ok (.iadd, 1) := by decide +kernel
theorem dX5_copy_243 : decode cX5_copy 243 = .ok (.aload_n 0, 1) := by decide +kernel
theorem dX5_copy_244 : decode cX5_copy 244 = .ok (.getfield 24, 3) := by decide +kernel
theorem dX5_copy_247 : decode cX5_copy 247 = .ok (.iload 6, 2) := by decide +kernel
theorem dX5_copy_249 : decode cX5_copy 249 = .ok (.laload, 1) := by decide +kernel
theorem dX5_copy_250 : decode cX5_copy 250 = .ok (.lastore, 1) := by decide +kernel
theorem dX5_copy_251 : decode cX5_copy 251 = .ok (.iinc 6 1, 3) := by decide +kernel
theorem dX5_copy_254 : decode cX5_copy 254 = .ok (.goto (-29), 3) := by decide +kernel
theorem dX5_copy_257 : decode cX5_copy 257 = .ok (.iload 5, 2) := by decide +kernel
theorem dX5_copy_259 : decode cX5_copy 259 = .ok (.ireturn, 1) := by decide +kernel
theorem dX5_element_0 : decode cX5_element 0 = .ok (.iload_n 1, 1) := by decide +kernel
theorem dX5_element_1 : decode cX5_element 1 = .ok (.i2l, 1) := by decide +kernel
theorem dX5_element_2 : decode cX5_element 2 = .ok (.lconst 0, 1) := by decide +kernel
theorem dX5_element_3 : decode cX5_element 3 = .ok (.ldc2_w 98, 3) := by decide +kernel
theorem dX5_element_6 : decode cX5_element 6 = .ok (.invokestatic 83, 3) := by decide +kernel
theorem dX5_element_9 : decode cX5_element 9 = .ok (.ifCond .eq 42, 3) := by decide +kernel
theorem dX5_element_12 : decode cX5_element 12 = .ok (.aload_n 0, 1) := by decide +kernel
theorem dX5_element_13 : decode cX5_element 13 = .ok (.getfield 7, 3) := by decide +kernel
theorem dX5_element_16 : decode cX5_element 16 = .ok (.iload_n 1, 1) := by decide +kernel
theorem dX5_element_17 : decode cX5_element 17 = .ok (.iaload, 1) := by decide +kernel
theorem dX5_element_18 : decode cX5_element 18 = .ok (.iconst 1, 1) := by decide +kernel
theorem dX5_element_19 : decode cX5_element 19 = .ok (.if_icmp .ne 32, 3) := by decide +kernel
theorem dX5_element_22 : decode cX5_element 22 = .ok (.iload_n 2, 1) := by decide +kernel
theorem dX5_element_23 : decode cX5_element 23 = .ok (.i2l, 1) := by decide +kernel
theorem dX5_element_24 : decode cX5_element 24 = .ok (.lconst 0, 1) := by decide +kernel
theorem dX5_element_25 : decode cX5_element 25 = .ok (.aload_n 0, 1) := by decide +kernel
theorem dX5_element_26 : decode cX5_element 26 = .ok (.getfield 16, 3) := by decide +kernel
theorem dX5_element_29 : decode cX5_element 29 = .ok (.iload_n 1, 1) := by decide +kernel
theorem dX5_element_30 : decode cX5_element 30 = .ok (.iaload, 1) := by decide +kernel
theorem dX5_element_31 : decode cX5_element 31 = .ok (.iconst 1, 1) := by decide +kernel
theorem dX5_element_32 : decode cX5_element 32 = .ok (.isub, 1) := by decide +kernel
theorem dX5_element_33 : decode cX5_element 33 = .ok (.i2l, 1) := by decide +kernel
theorem dX5_element_34 : decode cX5_element 34 = .ok (.invokestatic 83, 3) := by decide +kernel
theorem dX5_element_37 : decode cX5_element 37 = .ok (.ifCond .eq 14, 3) := by decide +kernel
theorem dX5_element_40 : decode cX5_element 40 = .ok (.aload_n 0, 1) := by decide +kernel
theorem dX5_element_41 : decode cX5_element 41 = .ok (.getfield 21, 3) := by decide +kernel
theorem dX5_element_44 : decode cX5_element 44 = .ok (.iload_n 1, 1) := by decide +kernel
theorem dX5_element_45 : decode cX5_element 45 = .ok (.aaload, 1) := by decide +kernel
theorem dX5_element_46 : decode cX5_element 46 = .ok (.iload_n 2, 1) := by decide +kernel
theorem dX5_element_47 : decode cX5_element 47 = .ok (.laload, 1) := by decide +kernel
theorem dX5_element_48 : decode cX5_element 48 = .ok (.goto 4, 3) := by decide +kernel
theorem dX5_element_51 : decode cX5_element 51 = .ok (.lconst 0, 1) := by decide +kernel
theorem dX5_element_52 : decode cX5_element 52 = .ok (.lreturn, 1) := by decide +kernel
theorem dX5_holds_0 : decode cX5_holds 0 = .ok (.iload_n 1, 1) := by decide +kernel
theorem dX5_holds_1 : decode cX5_holds 1 = .ok (.i2l, 1) := by decide +kernel
theorem dX5_holds_2 : decode cX5_holds 2 = .ok (.lconst 0, 1) := by decide +kernel
theorem dX5_holds_3 : decode cX5_holds 3 = .ok (.ldc2_w 98, 3) := by decide +kernel
theorem dX5_holds_6 : decode cX5_holds 6 = .ok (.invokestatic 83, 3) := by decide +kernel
theorem dX5_holds_9 : decode cX5_holds 9 = .ok (.ifCond .eq 12, 3) := by decide +kernel
theorem dX5_holds_12 : decode cX5_holds 12 = .ok (.aload_n 0, 1) := by decide +kernel
theorem dX5_holds_13 : decode cX5_holds 13 = .ok (.getfield 7, 3) := by decide +kernel
theorem dX5_holds_16 : decode cX5_holds 16 = .ok (.iload_n 1, 1) := by decide +kernel
theorem dX5_holds_17 : decode cX5_holds 17 = .ok (.iaload, 1) := by decide +kernel
theorem dX5_holds_18 : decode cX5_holds 18 = .ok (.ifCond .ne 5, 3) := by decide +kernel
theorem dX5_holds_21 : decode cX5_holds 21 = .ok (.iconst (-1), 1) := by decide +kernel
theorem dX5_holds_22 : decode cX5_holds 22 = .ok (.ireturn, 1) := by decide +kernel
theorem dX5_holds_23 : decode cX5_holds 23 = .ok (.aload_n 0, 1) := by decide +kernel
theorem dX5_holds_24 : decode cX5_holds 24 = .ok (.getfield 7, 3) := by decide +kernel
theorem dX5_holds_27 : decode cX5_holds 27 = .ok (.iload_n 1, 1) := by decide +kernel
theorem dX5_holds_28 : decode cX5_holds 28 = .ok (.iaload, 1) := by decide +kernel
theorem dX5_holds_29 : decode cX5_holds 29 = .ok (.iconst 1, 1) := by decide +kernel
theorem dX5_holds_30 : decode cX5_holds 30 = .ok (.if_icmp .ne 12, 3) := by decide +kernel
theorem dX5_holds_33 : decode cX5_holds 33 = .ok (.aload_n 0, 1) := by decide +kernel
theorem dX5_holds_34 : decode cX5_holds 34 = .ok (.getfield 13, 3) := by decide +kernel
theorem dX5_holds_37 : decode cX5_holds 37 = .ok (.iload_n 1, 1) := by decide +kernel
theorem dX5_holds_38 : decode cX5_holds 38 = .ok (.iaload, 1) := by decide +kernel
theorem dX5_holds_39 : decode cX5_holds 39 = .ok (.goto 12, 3) := by decide +kernel
theorem dX5_holds_42 : decode cX5_holds 42 = .ok (.bipush 10, 2) := by decide +kernel
theorem dX5_holds_44 : decode cX5_holds 44 = .ok (.aload_n 0, 1) := by decide +kernel
theorem dX5_holds_45 : decode cX5_holds 45 = .ok (.getfield 28, 3) := by decide +kernel
theorem dX5_holds_48 : decode cX5_holds 48 = .ok (.iload_n 1, 1) := by decide +kernel
theorem dX5_holds_49 : decode cX5_holds 49 = .ok (.iaload, 1) := by decide +kernel
theorem dX5_holds_50 : decode cX5_holds 50 = .ok (.iadd, 1) := by decide +kernel
theorem dX5_holds_51 : decode cX5_holds 51 = .ok (.ireturn, 1) := by decide +kernel
theorem dX5_show_0 : decode cX5_show 0 = .ok (.iload_n 1, 1) := by decide +kernel
theorem dX5_show_1 : decode cX5_show 1 = .ok (.i2l, 1) := by decide +kernel
theorem dX5_show_2 : decode cX5_show 2 = .ok (.lconst 0, 1) := by decide +kernel
theorem dX5_show_3 : decode cX5_show 3 = .ok (.ldc2_w 98, 3) := by decide +kernel
theorem dX5_show_6 : decode cX5_show 6 = .ok (.invokestatic 83, 3) := by decide +kernel
theorem dX5_show_9 : decode cX5_show 9 = .ok (.ifCond .eq 16, 3) := by decide +kernel
theorem dX5_show_12 : decode cX5_show 12 = .ok (.iload_n 2, 1) := by decide +kernel
theorem dX5_show_13 : decode cX5_show 13 = .ok (.iconst (-1), 1) := by decide +kernel
theorem dX5_show_14 : decode cX5_show 14 = .ok (.if_icmp .eq 18, 3) := by decide +kernel
theorem dX5_show_17 : decode cX5_show 17 = .ok (.aload_n 0, 1) := by decide +kernel
theorem dX5_show_18 : decode cX5_show 18 = .ok (.iload_n 2, 1) := by decide +kernel
theorem dX5_show_19 : decode cX5_show 19 = .ok (.invokevirtual 94, 3) := by decide +kernel
theorem dX5_show_22 : decode cX5_show 22 = .ok (.ifCond .ne 10, 3) := by decide +kernel
theorem dX5_show_25 : decode cX5_show 25 = .ok (.aload_n 0, 1) := by decide +kernel
theorem dX5_show_26 : decode cX5_show 26 = .ok (.bipush (-2), 2) := by decide +kernel
theorem dX5_show_28 : decode cX5_show 28 = .ok (.invokevirtual 104, 3) := by decide +kernel
theorem dX5_show_31 : decode cX5_show 31 = .ok (.ireturn, 1) := by decide +kernel
theorem dX5_show_32 : decode cX5_show 32 = .ok (.aload_n 0, 1) := by decide +kernel
theorem dX5_show_33 : decode cX5_show 33 = .ok (.getfield 7, 3) := by decide +kernel
theorem dX5_show_36 : decode cX5_show 36 = .ok (.iload_n 1, 1) := by decide +kernel
theorem dX5_show_37 : decode cX5_show 37 = .ok (.iload_n 2, 1) := by decide +kernel
theorem dX5_show_38 : decode cX5_show 38 = .ok (.iconst (-1), 1) := by decide +kernel
theorem dX5_show_39 : decode cX5_show 39 = .ok (.if_icmp .ne 7, 3) := by decide +kernel
theorem dX5_show_42 : decode cX5_show 42 = .ok (.iconst 0, 1) := by decide +kernel
theorem dX5_show_43 : decode cX5_show 43 = .ok (.goto 4, 3) := by decide +kernel
theorem dX5_show_46 : decode cX5_show 46 = .ok (.iconst 2, 1) := by decide +kernel
theorem dX5_show_47 : decode cX5_show 47 = .ok (.iastore, 1) := by decide +kernel
theorem dX5_show_48 : decode cX5_show 48 = .ok (.aload_n 0, 1) := by decide +kernel
theorem dX5_show_49 : decode cX5_show 49 = .ok (.getfield 28, 3) := by decide +kernel
theorem dX5_show_52 : decode cX5_show 52 = .ok (.iload_n 1, 1) := by decide +kernel
theorem dX5_show_53 : decode cX5_show 53 = .ok (.iload_n 2, 1) := by decide +kernel
theorem dX5_show_54 : decode cX5_show 54 = .ok (.iastore, 1) := by decide +kernel
theorem dX5_show_55 : decode cX5_show 55 = .ok (.iconst 1, 1) := by decide +kernel
theorem dX5_show_56 : decode cX5_show 56 = .ok (.ireturn, 1) := by decide +kernel
theorem dX5_isUnder_0 : decode cX5_isUnder 0 = .ok (.iload_n 1, 1) := by decide +kernel
theorem dX5_isUnder_1 : decode cX5_isUnder 1 = .ok (.ifCond .eq 28, 3) := by decide +kernel
theorem dX5_isUnder_4 : decode cX5_isUnder 4 = .ok (.iload_n 0, 1) := by decide +kernel
theorem dX5_isUnder_5 : decode cX5_isUnder 5 = .ok (.iload_n 1, 1) := by decide +kernel
theorem dX5_isUnder_6 : decode cX5_isUnder 6 = .ok (.if_icmp .eq 23, 3) := by decide +kernel
theorem dX5_isUnder_9 : decode cX5_isUnder 9 = .ok (.iload_n 1, 1) := by decide +kernel
theorem dX5_isUnder_10 : decode cX5_isUnder 10 = .ok (.iconst 1, 1) := by decide +kernel
theorem dX5_isUnder_11 : decode cX5_isUnder 11 = .ok (.if_icmp .ne 8, 3) := by decide +kernel
theorem dX5_isUnder_14 : decode cX5_isUnder 14 = .ok (.iload_n 0, 1) := by decide +kernel
theorem dX5_isUnder_15 : decode cX5_isUnder 15 = .ok (.iconst 4, 1) := by decide +kernel
theorem dX5_isUnder_16 : decode cX5_isUnder 16 = .ok (.if_icmp .eq 13, 3) := by decide +kernel
theorem dX5_isUnder_19 : decode cX5_isUnder 19 = .ok (.iload_n 1, 1) := by decide +kernel
theorem dX5_isUnder_20 : decode cX5_isUnder 20 = .ok (.iconst 3, 1) := by decide +kernel
theorem dX5_isUnder_21 : decode cX5_isUnder 21 = .ok (.if_icmp .ne 12, 3) := by decide +kernel
theorem dX5_isUnder_24 : decode cX5_isUnder 24 = .ok (.iload_n 0, 1) := by decide +kernel
theorem dX5_isUnder_25 : decode cX5_isUnder 25 = .ok (.iconst 5, 1) := by decide +kernel
theorem dX5_isUnder_26 : decode cX5_isUnder 26 = .ok (.if_icmp .ne 7, 3) := by decide +kernel
theorem dX5_isUnder_29 : decode cX5_isUnder 29 = .ok (.iconst 1, 1) := by decide +kernel
theorem dX5_isUnder_30 : decode cX5_isUnder 30 = .ok (.goto 4, 3) := by decide +kernel
theorem dX5_isUnder_33 : decode cX5_isUnder 33 = .ok (.iconst 0, 1) := by decide +kernel
theorem dX5_isUnder_34 : decode cX5_isUnder 34 = .ok (.ireturn, 1) := by decide +kernel
theorem dX5_says_0 : decode cX5_says 0 = .ok (.iload_n 1, 1) := by decide +kernel
theorem dX5_says_1 : decode cX5_says 1 = .ok (.i2l, 1) := by decide +kernel
theorem dX5_says_2 : decode cX5_says 2 = .ok (.lconst 0, 1) := by decide +kernel
theorem dX5_says_3 : decode cX5_says 3 = .ok (.ldc2_w 98, 3) := by decide +kernel
theorem dX5_says_6 : decode cX5_says 6 = .ok (.invokestatic 83, 3) := by decide +kernel
theorem dX5_says_9 : decode cX5_says 9 = .ok (.ifCond .eq 15, 3) := by decide +kernel
theorem dX5_says_12 : decode cX5_says 12 = .ok (.iload_n 2, 1) := by decide +kernel
theorem dX5_says_13 : decode cX5_says 13 = .ok (.i2l, 1) := by decide +kernel
theorem dX5_says_14 : decode cX5_says 14 = .ok (.lconst 0, 1) := by decide +kernel
theorem dX5_says_15 : decode cX5_says 15 = .ok (.ldc2_w 115, 3) := by decide +kernel
theorem dX5_says_18 : decode cX5_says 18 = .ok (.invokestatic 83, 3) := by decide +kernel
theorem dX5_says_21 : decode cX5_says 21 = .ok (.ifCond .ne 10, 3) := by decide +kernel
theorem dX5_says_24 : decode cX5_says 24 = .ok (.aload_n 0, 1) := by decide +kernel
theorem dX5_says_25 : decode cX5_says 25 = .ok (.bipush (-2), 2) := by decide +kernel
theorem dX5_says_27 : decode cX5_says 27 = .ok (.invokevirtual 104, 3) := by decide +kernel
theorem dX5_says_30 : decode cX5_says 30 = .ok (.ireturn, 1) := by decide +kernel
theorem dX5_says_31 : decode cX5_says 31 = .ok (.aload_n 0, 1) := by decide +kernel
theorem dX5_says_32 : decode cX5_says 32 = .ok (.getfield 7, 3) := by decide +kernel
theorem dX5_says_35 : decode cX5_says 35 = .ok (.iload_n 1, 1) := by decide +kernel
theorem dX5_says_36 : decode cX5_says 36 = .ok (.iaload, 1) := by decide +kernel
theorem dX5_says_37 : decode cX5_says 37 = .ok (.iconst 1, 1) := by decide +kernel
theorem dX5_says_38 : decode cX5_says 38 = .ok (.if_icmp .eq 31, 3) := by decide +kernel
theorem dX5_says_41 : decode cX5_says 41 = .ok (.aload_n 0, 1) := by decide +kernel
theorem dX5_says_42 : decode cX5_says 42 = .ok (.getfield 7, 3) := by decide +kernel
theorem dX5_says_45 : decode cX5_says 45 = .ok (.iload_n 1, 1) := by decide +kernel
theorem dX5_says_46 : decode cX5_says 46 = .ok (.iaload, 1) := by decide +kernel
theorem dX5_says_47 : decode cX5_says 47 = .ok (.iconst 2, 1) := by decide +kernel
theorem dX5_says_48 : decode cX5_says 48 = .ok (.if_icmp .ne 28, 3) := by decide +kernel
theorem dX5_says_51 : decode cX5_says 51 = .ok (.aload_n 0, 1) := by decide +kernel
theorem dX5_says_52 : decode cX5_says 52 = .ok (.getfield 46, 3) := by decide +kernel
theorem dX5_says_55 : decode cX5_says 55 = .ok (.aload_n 0, 1) := by decide +kernel
theorem dX5_says_56 : decode cX5_says 56 = .ok (.getfield 28, 3) := by decide +kernel
theorem dX5_says_59 : decode cX5_says 59 = .ok (.iload_n 1, 1) := by decide +kernel
theorem dX5_says_60 : decode cX5_says 60 = .ok (.iaload, 1) := by decide +kernel
theorem dX5_says_61 : decode cX5_says 61 = .ok (.iaload, 1) := by decide +kernel
theorem dX5_says_62 : decode cX5_says 62 = .ok (.iload_n 2, 1) := by decide +kernel
theorem dX5_says_63 : decode cX5_says 63 = .ok (.invokestatic 117, 3) := by decide +kernel
theorem dX5_says_66 : decode cX5_says 66 = .ok (.ifCond .ne 10, 3) := by decide +kernel
theorem dX5_says_69 : decode cX5_says 69 = .ok (.aload_n 0, 1) := by decide +kernel
theorem dX5_says_70 : decode cX5_says 70 = .ok (.bipush (-3), 2) := by decide +kernel
theorem dX5_says_72 : decode cX5_says 72 = .ok (.invokevirtual 104, 3) := by decide +kernel
theorem dX5_says_75 : decode cX5_says 75 = .ok (.ireturn, 1) := by decide +kernel
theorem dX5_says_76 : decode cX5_says 76 = .ok (.aload_n 0, 1) := by decide +kernel
theorem dX5_says_77 : decode cX5_says 77 = .ok (.getfield 7, 3) := by decide +kernel
theorem dX5_says_80 : decode cX5_says 80 = .ok (.iload_n 1, 1) := by decide +kernel
theorem dX5_says_81 : decode cX5_says 81 = .ok (.iaload, 1) := by decide +kernel
theorem dX5_says_82 : decode cX5_says 82 = .ok (.ifCond .ne 10, 3) := by decide +kernel
theorem dX5_says_85 : decode cX5_says 85 = .ok (.aload_n 0, 1) := by decide +kernel
theorem dX5_says_86 : decode cX5_says 86 = .ok (.bipush (-4), 2) := by decide +kernel
theorem dX5_says_88 : decode cX5_says 88 = .ok (.invokevirtual 104, 3) := by decide +kernel
theorem dX5_says_91 : decode cX5_says 91 = .ok (.ireturn, 1) := by decide +kernel
theorem dX5_says_92 : decode cX5_says 92 = .ok (.aload_n 0, 1) := by decide +kernel
theorem dX5_says_93 : decode cX5_says 93 = .ok (.getfield 28, 3) := by decide +kernel
theorem dX5_says_96 : decode cX5_says 96 = .ok (.iload_n 1, 1) := by decide +kernel
theorem dX5_says_97 : decode cX5_says 97 = .ok (.iaload, 1) := by decide +kernel
theorem dX5_says_98 : decode cX5_says 98 = .ok (.istore_n 3, 1) := by decide +kernel
theorem dX5_says_99 : decode cX5_says 99 = .ok (.iload_n 2, 1) := by decide +kernel
theorem dX5_says_100 : decode cX5_says 100 = .ok (.tableswitch 93 0 4 #[36, 43, 61, 93, 70], 36) := by decide +kernel
theorem dX5_says_136 : decode cX5_says 136 = .ok (.aload_n 0, 1) := by decide +kernel
theorem dX5_says_137 : decode cX5_says 137 = .ok (.getfield 49, 3) := by decide +kernel
theorem dX5_says_140 : decode cX5_says 140 = .ok (.iload_n 3, 1) := by decide +kernel
theorem dX5_says_141 : decode cX5_says 141 = .ok (.iaload, 1) := by decide +kernel
theorem dX5_says_142 : decode cX5_says 142 = .ok (.ireturn, 1) := by decide +kernel
theorem dX5_says_143 : decode cX5_says 143 = .ok (.aload_n 0, 1) := by decide +kernel
theorem dX5_says_144 : decode cX5_says 144 = .ok (.getfield 80, 3) := by decide +kernel
theorem dX5_says_147 : decode cX5_says 147 = .ok (.ifCond .ne 7, 3) := by decide +kernel
theorem dX5_says_150 : decode cX5_says 150 = .ok (.iconst (-1), 1) := by decide +kernel
theorem dX5_says_151 : decode cX5_says 151 = .ok (.goto 9, 3) := by decide +kernel
theorem dX5_says_154 : decode cX5_says 154 = .ok (.aload_n 0, 1) := by decide +kernel
theorem dX5_says_155 : decode cX5_says 155 = .ok (.iload_n 3, 1) := by decide +kernel
theorem dX5_says_156 : decode cX5_says 156 = .ok (.iconst 0, 1) := by decide +kernel
theorem dX5_says_157 : decode cX5_says 157 = .ok (.invokevirtual 121, 3) := by decide +kernel
theorem dX5_says_160 : decode cX5_says 160 = .ok (.ireturn, 1) := by decide +kernel
theorem dX5_says_161 : decode cX5_says 161 = .ok (.aload_n 0, 1) := by decide +kernel
theorem dX5_says_162 : decode cX5_says 162 = .ok (.getfield 80, 3) := by decide +kernel
theorem dX5_says_165 : decode cX5_says 165 = .ok (.iconst 1, 1) := by decide +kernel
theorem dX5_says_166 : decode cX5_says 166 = .ok (.iadd, 1) := by decide +kernel
theorem dX5_says_167 : decode cX5_says 167 = .ok (.iconst 2, 1) := by decide +kernel
theorem dX5_says_168 : decode cX5_says 168 = .ok (.idiv, 1) := by decide +kernel
theorem dX5_says_169 : decode cX5_says 169 = .ok (.ireturn, 1) := by decide +kernel
theorem dX5_says_170 : decode cX5_says 170 = .ok (.aload_n 0, 1) := by decide +kernel
theorem dX5_says_171 : decode cX5_says 171 = .ok (.getfield 80, 3) := by decide +kernel
theorem dX5_says_174 : decode cX5_says 174 = .ok (.ifCond .ne 7, 3) := by decide +kernel
theorem dX5_says_177 : decode cX5_says 177 = .ok (.iconst (-1), 1) := by decide +kernel
theorem dX5_says_178 : decode cX5_says 178 = .ok (.goto 14, 3) := by decide +kernel
theorem dX5_says_181 : decode cX5_says 181 = .ok (.aload_n 0, 1) := by decide +kernel
theorem dX5_says_182 : decode cX5_says 182 = .ok (.iload_n 3, 1) := by decide +kernel
theorem dX5_says_183 : decode cX5_says 183 = .ok (.aload_n 0, 1) := by decide +kernel
theorem dX5_says_184 : decode cX5_says 184 = .ok (.getfield 80, 3) := by decide +kernel
theorem dX5_says_187 : decode cX5_says 187 = .ok (.iconst 1, 1) := by decide +kernel
theorem dX5_says_188 : decode cX5_says 188 = .ok (.isub, 1) := by decide +kernel
theorem dX5_says_189 : decode cX5_says 189 = .ok (.invokevirtual 121, 3) := by decide +kernel
theorem dX5_says_192 : decode cX5_says 192 = .ok (.ireturn, 1) := by decide +kernel
theorem dX5_says_193 : decode cX5_says 193 = .ok (.aload_n 0, 1) := by decide +kernel
theorem dX5_says_194 : decode cX5_says 194 = .ok (.getfield 52, 3) := by decide +kernel
theorem dX5_says_197 : decode cX5_says 197 = .ok (.iload_n 3, 1) := by decide +kernel
theorem dX5_says_198 : decode cX5_says 198 = .ok (.iaload, 1) := by decide +kernel
theorem dX5_says_199 : decode cX5_says 199 = .ok (.i2l, 1) := by decide +kernel
theorem dX5_says_200 : decode cX5_says 200 = .ok (.lconst 1, 1) := by decide +kernel
theorem dX5_says_201 : decode cX5_says 201 = .ok (.aload_n 0, 1) := by decide +kernel
theorem dX5_says_202 : decode cX5_says 202 = .ok (.getfield 80, 3) := by decide +kernel
theorem dX5_says_205 : decode cX5_says 205 = .ok (.iconst 1, 1) := by decide +kernel
theorem dX5_says_206 : decode cX5_says 206 = .ok (.isub, 1) := by decide +kernel
theorem dX5_says_207 : decode cX5_says 207 = .ok (.i2l, 1) := by decide +kernel
theorem dX5_says_208 : decode cX5_says 208 = .ok (.invokestatic 83, 3) := by decide +kernel
theorem dX5_says_211 : decode cX5_says 211 = .ok (.ifCond .eq 7, 3) := by decide +kernel
theorem dX5_says_214 : decode cX5_says 214 = .ok (.iconst 1, 1) := by decide +kernel
theorem dX5_says_215 : decode cX5_says 215 = .ok (.goto 4, 3) := by decide +kernel
theorem dX5_says_218 : decode cX5_says 218 = .ok (.iconst 0, 1) := by decide +kernel
theorem dX5_says_219 : decode cX5_says 219 = .ok (.ireturn, 1) := by decide +kernel
theorem dX5_addChild_0 : decode cX5_addChild 0 = .ok (.aload_n 0, 1) := by decide +kernel
theorem dX5_addChild_1 : decode cX5_addChild 1 = .ok (.getfield 37, 3) := by decide +kernel
theorem dX5_addChild_4 : decode cX5_addChild 4 = .ok (.aload_n 0, 1) := by decide +kernel
theorem dX5_addChild_5 : decode cX5_addChild 5 = .ok (.getfield 80, 3) := by decide +kernel
theorem dX5_addChild_8 : decode cX5_addChild 8 = .ok (.iload_n 1, 1) := by decide +kernel
theorem dX5_addChild_9 : decode cX5_addChild 9 = .ok (.iastore, 1) := by decide +kernel
theorem dX5_addChild_10 : decode cX5_addChild 10 = .ok (.aload_n 0, 1) := by decide +kernel
theorem dX5_addChild_11 : decode cX5_addChild 11 = .ok (.getfield 40, 3) := by decide +kernel
theorem dX5_addChild_14 : decode cX5_addChild 14 = .ok (.aload_n 0, 1) := by decide +kernel
theorem dX5_addChild_15 : decode cX5_addChild 15 = .ok (.getfield 80, 3) := by decide +kernel
theorem dX5_addChild_18 : decode cX5_addChild 18 = .ok (.iload_n 2, 1) := by decide +kernel
theorem dX5_addChild_19 : decode cX5_addChild 19 = .ok (.iastore, 1) := by decide +kernel
theorem dX5_addChild_20 : decode cX5_addChild 20 = .ok (.aload_n 0, 1) := by decide +kernel
theorem dX5_addChild_21 : decode cX5_addChild 21 = .ok (.getfield 43, 3) := by decide +kernel
theorem dX5_addChild_24 : decode cX5_addChild 24 = .ok (.aload_n 0, 1) := by decide +kernel
theorem dX5_addChild_25 : decode cX5_addChild 25 = .ok (.getfield 80, 3) := by decide +kernel
theorem dX5_addChild_28 : decode cX5_addChild 28 = .ok (.aload_n 0, 1) := by decide +kernel
theorem dX5_addChild_29 : decode cX5_addChild 29 = .ok (.getfield 80, 3) := by decide +kernel
theorem dX5_addChild_32 : decode cX5_addChild 32 = .ok (.iastore, 1) := by decide +kernel
theorem dX5_addChild_33 : decode cX5_addChild 33 = .ok (.aload_n 0, 1) := by decide +kernel
theorem dX5_addChild_34 : decode cX5_addChild 34 = .ok (.dup, 1) := by decide +kernel
theorem dX5_addChild_35 : decode cX5_addChild 35 = .ok (.getfield 80, 3) := by decide +kernel
theorem dX5_addChild_38 : decode cX5_addChild 38 = .ok (.iconst 1, 1) := by decide +kernel
theorem dX5_addChild_39 : decode cX5_addChild 39 = .ok (.iadd, 1) := by decide +kernel
theorem dX5_addChild_40 : decode cX5_addChild 40 = .ok (.putfield 80, 3) := by decide +kernel
theorem dX5_addChild_43 : decode cX5_addChild 43 = .ok (.return_, 1) := by decide +kernel
theorem dX5_child_0 : decode cX5_child 0 = .ok (.iload_n 1, 1) := by decide +kernel
theorem dX5_child_1 : decode cX5_child 1 = .ok (.i2l, 1) := by decide +kernel
theorem dX5_child_2 : decode cX5_child 2 = .ok (.lconst 1, 1) := by decide +kernel
theorem dX5_child_3 : decode cX5_child 3 = .ok (.ldc2_w 125, 3) := by decide +kernel
theorem dX5_child_6 : decode cX5_child 6 = .ok (.invokestatic 83, 3) := by decide +kernel
theorem dX5_child_9 : decode cX5_child 9 = .ok (.ifCond .eq 15, 3) := by decide +kernel
theorem dX5_child_12 : decode cX5_child 12 = .ok (.iload_n 2, 1) := by decide +kernel
theorem dX5_child_13 : decode cX5_child 13 = .ok (.i2l, 1) := by decide +kernel
theorem dX5_child_14 : decode cX5_child 14 = .ok (.lconst 0, 1) := by decide +kernel
theorem dX5_child_15 : decode cX5_child 15 = .ok (.ldc2_w 127, 3) := by decide +kernel
theorem dX5_child_18 : decode cX5_child 18 = .ok (.invokestatic 83, 3) := by decide +kernel
theorem dX5_child_21 : decode cX5_child 21 = .ok (.ifCond .ne 10, 3) := by decide +kernel
theorem dX5_child_24 : decode cX5_child 24 = .ok (.aload_n 0, 1) := by decide +kernel
theorem dX5_child_25 : decode cX5_child 25 = .ok (.bipush (-2), 2) := by decide +kernel
theorem dX5_child_27 : decode cX5_child 27 = .ok (.invokevirtual 104, 3) := by decide +kernel
theorem dX5_child_30 : decode cX5_child 30 = .ok (.ireturn, 1) := by decide +kernel
theorem dX5_child_31 : decode cX5_child 31 = .ok (.aload_n 0, 1) := by decide +kernel
theorem dX5_child_32 : decode cX5_child 32 = .ok (.getfield 80, 3) := by decide +kernel
theorem dX5_child_35 : decode cX5_child 35 = .ok (.bipush 14, 2) := by decide +kernel
theorem dX5_child_37 : decode cX5_child 37 = .ok (.if_icmp .ne 10, 3) := by decide +kernel
theorem dX5_child_40 : decode cX5_child 40 = .ok (.aload_n 0, 1) := by decide +kernel
theorem dX5_child_41 : decode cX5_child 41 = .ok (.bipush (-6), 2) := by decide +kernel
theorem dX5_child_43 : decode cX5_child 43 = .ok (.invokevirtual 104, 3) := by decide +kernel
theorem dX5_child_46 : decode cX5_child 46 = .ok (.ireturn, 1) := by decide +kernel
theorem dX5_child_47 : decode cX5_child 47 = .ok (.aload_n 0, 1) := by decide +kernel
theorem dX5_child_48 : decode cX5_child 48 = .ok (.iload_n 1, 1) := by decide +kernel
theorem dX5_child_49 : decode cX5_child 49 = .ok (.iload_n 2, 1) := by decide +kernel
theorem dX5_child_50 : decode cX5_child 50 = .ok (.invokevirtual 129, 3) := by decide +kernel
theorem dX5_child_53 : decode cX5_child 53 = .ok (.aload_n 0, 1) := by decide +kernel
theorem dX5_child_54 : decode cX5_child 54 = .ok (.getfield 80, 3) := by decide +kernel
theorem dX5_child_57 : decode cX5_child 57 = .ok (.iconst 1, 1) := by decide +kernel
theorem dX5_child_58 : decode cX5_child 58 = .ok (.isub, 1) := by decide +kernel
theorem dX5_child_59 : decode cX5_child 59 = .ok (.ireturn, 1) := by decide +kernel
theorem dX5_addCount_0 : decode cX5_addCount 0 = .ok (.aload_n 0, 1) := by decide +kernel
theorem dX5_addCount_1 : decode cX5_addCount 1 = .ok (.getfield 46, 3) := by decide +kernel
theorem dX5_addCount_4 : decode cX5_addCount 4 = .ok (.aload_n 0, 1) := by decide +kernel
theorem dX5_addCount_5 : decode cX5_addCount 5 = .ok (.getfield 91, 3) := by decide +kernel
theorem dX5_addCount_8 : decode cX5_addCount 8 = .ok (.iload_n 1, 1) := by decide +kernel
theorem dX5_addCount_9 : decode cX5_addCount 9 = .ok (.iastore, 1) := by decide +kernel
theorem dX5_addCount_10 : decode cX5_addCount 10 = .ok (.aload_n 0, 1) := by decide +kernel
theorem dX5_addCount_11 : decode cX5_addCount 11 = .ok (.getfield 49, 3) := by decide +kernel
theorem dX5_addCount_14 : decode cX5_addCount 14 = .ok (.aload_n 0, 1) := by decide +kernel
theorem dX5_addCount_15 : decode cX5_addCount 15 = .ok (.getfield 91, 3) := by decide +kernel
theorem dX5_addCount_18 : decode cX5_addCount 18 = .ok (.iload_n 2, 1) := by decide +kernel
theorem dX5_addCount_19 : decode cX5_addCount 19 = .ok (.iastore, 1) := by decide +kernel
theorem dX5_addCount_20 : decode cX5_addCount 20 = .ok (.aload_n 0, 1) := by decide +kernel
theorem dX5_addCount_21 : decode cX5_addCount 21 = .ok (.getfield 52, 3) := by decide +kernel
theorem dX5_addCount_24 : decode cX5_addCount 24 = .ok (.aload_n 0, 1) := by decide +kernel
theorem dX5_addCount_25 : decode cX5_addCount 25 = .ok (.getfield 91, 3) := by decide +kernel
theorem dX5_addCount_28 : decode cX5_addCount 28 = .ok (.iload_n 3, 1) := by decide +kernel
theorem dX5_addCount_29 : decode cX5_addCount 29 = .ok (.iastore, 1) := by decide +kernel
theorem dX5_addCount_30 : decode cX5_addCount 30 = .ok (.aload_n 0, 1) := by decide +kernel
theorem dX5_addCount_31 : decode cX5_addCount 31 = .ok (.dup, 1) := by decide +kernel
theorem dX5_addCount_32 : decode cX5_addCount 32 = .ok (.getfield 91, 3) := by decide +kernel
theorem dX5_addCount_35 : decode cX5_addCount 35 = .ok (.iconst 1, 1) := by decide +kernel
theorem dX5_addCount_36 : decode cX5_addCount 36 = .ok (.iadd, 1) := by decide +kernel
theorem dX5_addCount_37 : decode cX5_addCount 37 = .ok (.putfield 91, 3) := by decide +kernel
theorem dX5_addCount_40 : decode cX5_addCount 40 = .ok (.return_, 1) := by decide +kernel
theorem dX5_count_0 : decode cX5_count 0 = .ok (.iload_n 1, 1) := by decide +kernel
theorem dX5_count_1 : decode cX5_count 1 = .ok (.i2l, 1) := by decide +kernel
theorem dX5_count_2 : decode cX5_count 2 = .ok (.lconst 0, 1) := by decide +kernel
theorem dX5_count_3 : decode cX5_count 3 = .ok (.ldc2_w 115, 3) := by decide +kernel
theorem dX5_count_6 : decode cX5_count 6 = .ok (.invokestatic 83, 3) := by decide +kernel
theorem dX5_count_9 : decode cX5_count 9 = .ok (.ifCond .eq 29, 3) := by decide +kernel
theorem dX5_count_12 : decode cX5_count 12 = .ok (.iload_n 2, 1) := by decide +kernel
theorem dX5_count_13 : decode cX5_count 13 = .ok (.i2l, 1) := by decide +kernel
theorem dX5_count_14 : decode cX5_count 14 = .ok (.ldc2_w 133, 3) := by decide +kernel
theorem dX5_count_17 : decode cX5_count 17 = .ok (.ldc2_w 115, 3) := by decide +kernel
theorem dX5_count_20 : decode cX5_count 20 = .ok (.invokestatic 83, 3) := by decide +kernel
theorem dX5_count_23 : decode cX5_count 23 = .ok (.ifCond .eq 15, 3) := by decide +kernel
theorem dX5_count_26 : decode cX5_count 26 = .ok (.iload_n 3, 1) := by decide +kernel
theorem dX5_count_27 : decode cX5_count 27 = .ok (.i2l, 1) := by decide +kernel
theorem dX5_count_28 : decode cX5_count 28 = .ok (.lconst 0, 1) := by decide +kernel
theorem dX5_count_29 : decode cX5_count 29 = .ok (.ldc2_w 135, 3) := by decide +kernel
theorem dX5_count_32 : decode cX5_count 32 = .ok (.invokestatic 83, 3) := by decide +kernel
theorem dX5_count_35 : decode cX5_count 35 = .ok (.ifCond .ne 10, 3) := by decide +kernel
theorem dX5_count_38 : decode cX5_count 38 = .ok (.aload_n 0, 1) := by decide +kernel
theorem dX5_count_39 : decode cX5_count 39 = .ok (.bipush (-2), 2) := by decide +kernel
theorem dX5_count_41 : decode cX5_count 41 = .ok (.invokevirtual 104, 3) := by decide +kernel
theorem dX5_count_44 : decode cX5_count 44 = .ok (.ireturn, 1) := by decide +kernel
theorem dX5_count_45 : decode cX5_count 45 = .ok (.aload_n 0, 1) := by decide +kernel
theorem dX5_count_46 : decode cX5_count 46 = .ok (.getfield 91, 3) := by decide +kernel
theorem dX5_count_49 : decode cX5_count 49 = .ok (.bipush 6, 2) := by decide +kernel
theorem dX5_count_51 : decode cX5_count 51 = .ok (.if_icmp .ne 10, 3) := by decide +kernel
theorem dX5_count_54 : decode cX5_count 54 = .ok (.aload_n 0, 1) := by decide +kernel
theorem dX5_count_55 : decode cX5_count 55 = .ok (.bipush (-6), 2) := by decide +kernel
theorem dX5_count_57 : decode cX5_count 57 = .ok (.invokevirtual 104, 3) := by decide +kernel
theorem dX5_count_60 : decode cX5_count 60 = .ok (.ireturn, 1) := by decide +kernel
theorem dX5_count_61 : decode cX5_count 61 = .ok (.aload_n 0, 1) := by decide +kernel
theorem dX5_count_62 : decode cX5_count 62 = .ok (.iload_n 1, 1) := by decide +kernel
theorem dX5_count_63 : decode cX5_count 63 = .ok (.iload_n 2, 1) := by decide +kernel
theorem dX5_count_64 : decode cX5_count 64 = .ok (.iload_n 3, 1) := by decide +kernel
theorem dX5_count_65 : decode cX5_count 65 = .ok (.invokevirtual 137, 3) := by decide +kernel
theorem dX5_count_68 : decode cX5_count 68 = .ok (.aload_n 0, 1) := by decide +kernel
theorem dX5_count_69 : decode cX5_count 69 = .ok (.getfield 91, 3) := by decide +kernel
theorem dX5_count_72 : decode cX5_count 72 = .ok (.iconst 1, 1) := by decide +kernel
theorem dX5_count_73 : decode cX5_count 73 = .ok (.isub, 1) := by decide +kernel
theorem dX5_count_74 : decode cX5_count 74 = .ok (.ireturn, 1) := by decide +kernel
theorem dX5_addWish_0 : decode cX5_addWish 0 = .ok (.aload_n 0, 1) := by decide +kernel
theorem dX5_addWish_1 : decode cX5_addWish 1 = .ok (.getfield 55, 3) := by decide +kernel
theorem dX5_addWish_4 : decode cX5_addWish 4 = .ok (.aload_n 0, 1) := by decide +kernel
theorem dX5_addWish_5 : decode cX5_addWish 5 = .ok (.getfield 141, 3) := by decide +kernel
theorem dX5_addWish_8 : decode cX5_addWish 8 = .ok (.iload_n 1, 1) := by decide +kernel
theorem dX5_addWish_9 : decode cX5_addWish 9 = .ok (.iastore, 1) := by decide +kernel
theorem dX5_addWish_10 : decode cX5_addWish 10 = .ok (.aload_n 0, 1) := by decide +kernel
theorem dX5_addWish_11 : decode cX5_addWish 11 = .ok (.getfield 58, 3) := by decide +kernel
theorem dX5_addWish_14 : decode cX5_addWish 14 = .ok (.aload_n 0, 1) := by decide +kernel
theorem dX5_addWish_15 : decode cX5_addWish 15 = .ok (.getfield 141, 3) := by decide +kernel
theorem dX5_addWish_18 : decode cX5_addWish 18 = .ok (.iload_n 2, 1) := by decide +kernel
theorem dX5_addWish_19 : decode cX5_addWish 19 = .ok (.iastore, 1) := by decide +kernel
theorem dX5_addWish_20 : decode cX5_addWish 20 = .ok (.aload_n 0, 1) := by decide +kernel
theorem dX5_addWish_21 : decode cX5_addWish 21 = .ok (.getfield 61, 3) := by decide +kernel
theorem dX5_addWish_24 : decode cX5_addWish 24 = .ok (.aload_n 0, 1) := by decide +kernel
theorem dX5_addWish_25 : decode cX5_addWish 25 = .ok (.getfield 141, 3) := by decide +kernel
theorem dX5_addWish_28 : decode cX5_addWish 28 = .ok (.iload_n 3, 1) := by decide +kernel
theorem dX5_addWish_29 : decode cX5_addWish 29 = .ok (.iastore, 1) := by decide +kernel
theorem dX5_addWish_30 : decode cX5_addWish 30 = .ok (.aload_n 0, 1) := by decide +kernel
theorem dX5_addWish_31 : decode cX5_addWish 31 = .ok (.getfield 64, 3) := by decide +kernel
theorem dX5_addWish_34 : decode cX5_addWish 34 = .ok (.aload_n 0, 1) := by decide +kernel
theorem dX5_addWish_35 : decode cX5_addWish 35 = .ok (.getfield 141, 3) := by decide +kernel
theorem dX5_addWish_38 : decode cX5_addWish 38 = .ok (.iload 4, 2) := by decide +kernel
theorem dX5_addWish_40 : decode cX5_addWish 40 = .ok (.iastore, 1) := by decide +kernel
theorem dX5_addWish_41 : decode cX5_addWish 41 = .ok (.aload_n 0, 1) := by decide +kernel
theorem dX5_addWish_42 : decode cX5_addWish 42 = .ok (.dup, 1) := by decide +kernel
theorem dX5_addWish_43 : decode cX5_addWish 43 = .ok (.getfield 141, 3) := by decide +kernel
theorem dX5_addWish_46 : decode cX5_addWish 46 = .ok (.iconst 1, 1) := by decide +kernel
theorem dX5_addWish_47 : decode cX5_addWish 47 = .ok (.iadd, 1) := by decide +kernel
theorem dX5_addWish_48 : decode cX5_addWish 48 = .ok (.putfield 141, 3) := by decide +kernel
theorem dX5_addWish_51 : decode cX5_addWish 51 = .ok (.return_, 1) := by decide +kernel
theorem dX5_wish_0 : decode cX5_wish 0 = .ok (.aload_n 0, 1) := by decide +kernel
theorem dX5_wish_1 : decode cX5_wish 1 = .ok (.iload_n 1, 1) := by decide +kernel
theorem dX5_wish_2 : decode cX5_wish 2 = .ok (.i2l, 1) := by decide +kernel
theorem dX5_wish_3 : decode cX5_wish 3 = .ok (.iload_n 2, 1) := by decide +kernel
theorem dX5_wish_4 : decode cX5_wish 4 = .ok (.i2l, 1) := by decide +kernel
theorem dX5_wish_5 : decode cX5_wish 5 = .ok (.invokevirtual 144, 3) := by decide +kernel
theorem dX5_wish_8 : decode cX5_wish 8 = .ok (.ifCond .eq 16, 3) := by decide +kernel
theorem dX5_wish_11 : decode cX5_wish 11 = .ok (.iload 4, 2) := by decide +kernel
theorem dX5_wish_13 : decode cX5_wish 13 = .ok (.i2l, 1) := by decide +kernel
theorem dX5_wish_14 : decode cX5_wish 14 = .ok (.lconst 1, 1) := by decide +kernel
theorem dX5_wish_15 : decode cX5_wish 15 = .ok (.ldc2_w 125, 3) := by decide +kernel
theorem dX5_wish_18 : decode cX5_wish 18 = .ok (.invokestatic 83, 3) := by decide +kernel
theorem dX5_wish_21 : decode cX5_wish 21 = .ok (.ifCond .ne 10, 3) := by decide +kernel
theorem dX5_wish_24 : decode cX5_wish 24 = .ok (.aload_n 0, 1) := by decide +kernel
theorem dX5_wish_25 : decode cX5_wish 25 = .ok (.bipush (-2), 2) := by decide +kernel
theorem dX5_wish_27 : decode cX5_wish 27 = .ok (.invokevirtual 104, 3) := by decide +kernel
theorem dX5_wish_30 : decode cX5_wish 30 = .ok (.ireturn, 1) := by decide +kernel
theorem dX5_wish_31 : decode cX5_wish 31 = .ok (.aload_n 0, 1) := by decide +kernel
theorem dX5_wish_32 : decode cX5_wish 32 = .ok (.getfield 141, 3) := by decide +kernel
theorem dX5_wish_35 : decode cX5_wish 35 = .ok (.bipush 20, 2) := by decide +kernel
theorem dX5_wish_37 : decode cX5_wish 37 = .ok (.if_icmp .ne 10, 3) := by decide +kernel
theorem dX5_wish_40 : decode cX5_wish 40 = .ok (.aload_n 0, 1) := by decide +kernel
theorem dX5_wish_41 : decode cX5_wish 41 = .ok (.bipush (-6), 2) := by decide +kernel
theorem dX5_wish_43 : decode cX5_wish 43 = .ok (.invokevirtual 104, 3) := by decide +kernel
theorem dX5_wish_46 : decode cX5_wish 46 = .ok (.ireturn, 1) := by decide +kernel
theorem dX5_wish_47 : decode cX5_wish 47 = .ok (.aload_n 0, 1) := by decide +kernel
theorem dX5_wish_48 : decode cX5_wish 48 = .ok (.iload_n 1, 1) := by decide +kernel
theorem dX5_wish_49 : decode cX5_wish 49 = .ok (.iload_n 2, 1) := by decide +kernel
theorem dX5_wish_50 : decode cX5_wish 50 = .ok (.iload_n 3, 1) := by decide +kernel
theorem dX5_wish_51 : decode cX5_wish 51 = .ok (.ifCond .eq 7, 3) := by decide +kernel
theorem dX5_wish_54 : decode cX5_wish 54 = .ok (.iconst 1, 1) := by decide +kernel
theorem dX5_wish_55 : decode cX5_wish 55 = .ok (.goto 4, 3) := by decide +kernel
theorem dX5_wish_58 : decode cX5_wish 58 = .ok (.iconst 0, 1) := by decide +kernel
theorem dX5_wish_59 : decode cX5_wish 59 = .ok (.iload 4, 2) := by decide +kernel
theorem dX5_wish_61 : decode cX5_wish 61 = .ok (.invokevirtual 148, 3) := by decide +kernel
theorem dX5_wish_64 : decode cX5_wish 64 = .ok (.aload_n 0, 1) := by decide +kernel
theorem dX5_wish_65 : decode cX5_wish 65 = .ok (.getfield 141, 3) := by decide +kernel
theorem dX5_wish_68 : decode cX5_wish 68 = .ok (.ireturn, 1) := by decide +kernel
theorem dX5_content_0 : decode cX5_content 0 = .ok (.aload_n 0, 1) := by decide +kernel
theorem dX5_content_1 : decode cX5_content 1 = .ok (.getfield 141, 3) := by decide +kernel
theorem dX5_content_4 : decode cX5_content 4 = .ok (.istore_n 1, 1) := by decide +kernel
theorem dX5_content_5 : decode cX5_content 5 = .ok (.aload_n 0, 1) := by decide +kernel
theorem dX5_content_6 : decode cX5_content 6 = .ok (.iconst 0, 1) := by decide +kernel
theorem dX5_content_7 : decode cX5_content 7 = .ok (.putfield 141, 3) := by decide +kernel
theorem dX5_content_10 : decode cX5_content 10 = .ok (.iload_n 1, 1) := by decide +kernel
theorem dX5_content_11 : decode cX5_content 11 = .ok (.ireturn, 1) := by decide +kernel
theorem dX5_feed_0 : decode cX5_feed 0 = .ok (.iload_n 1, 1) := by decide +kernel
theorem dX5_feed_1 : decode cX5_feed 1 = .ok (.i2l, 1) := by decide +kernel
theorem dX5_feed_2 : decode cX5_feed 2 = .ok (.lconst 0, 1) := by decide +kernel
theorem dX5_feed_3 : decode cX5_feed 3 = .ok (.ldc2_w 152, 3) := by decide +kernel
theorem dX5_feed_6 : decode cX5_feed 6 = .ok (.invokestatic 83, 3) := by decide +kernel
theorem dX5_feed_9 : decode cX5_feed 9 = .ok (.ifCond .ne 10, 3) := by decide +kernel
theorem dX5_feed_12 : decode cX5_feed 12 = .ok (.aload_n 0, 1) := by decide +kernel
theorem dX5_feed_13 : decode cX5_feed 13 = .ok (.bipush (-2), 2) := by decide +kernel
theorem dX5_feed_15 : decode cX5_feed 15 = .ok (.invokevirtual 104, 3) := by decide +kernel
theorem dX5_feed_18 : decode cX5_feed 18 = .ok (.ireturn, 1) := by decide +kernel
theorem dX5_feed_19 : decode cX5_feed 19 = .ok (.aload_n 0, 1) := by decide +kernel
theorem dX5_feed_20 : decode cX5_feed 20 = .ok (.getfield 154, 3) := by decide +kernel
theorem dX5_feed_23 : decode cX5_feed 23 = .ok (.sipush 250, 3) := by decide +kernel
theorem dX5_feed_26 : decode cX5_feed 26 = .ok (.if_icmp .ne 10, 3) := by decide +kernel
theorem dX5_feed_29 : decode cX5_feed 29 = .ok (.aload_n 0, 1) := by decide +kernel
theorem dX5_feed_30 : decode cX5_feed 30 = .ok (.bipush (-6), 2) := by decide +kernel
theorem dX5_feed_32 : decode cX5_feed 32 = .ok (.invokevirtual 104, 3) := by decide +kernel
theorem dX5_feed_35 : decode cX5_feed 35 = .ok (.ireturn, 1) := by decide +kernel
theorem dX5_feed_36 : decode cX5_feed 36 = .ok (.aload_n 0, 1) := by decide +kernel
theorem dX5_feed_37 : decode cX5_feed 37 = .ok (.getfield 31, 3) := by decide +kernel
theorem dX5_feed_40 : decode cX5_feed 40 = .ok (.aload_n 0, 1) := by decide +kernel
theorem dX5_feed_41 : decode cX5_feed 41 = .ok (.dup, 1) := by decide +kernel
theorem dX5_feed_42 : decode cX5_feed 42 = .ok (.getfield 154, 3) := by decide +kernel
theorem dX5_feed_45 : decode cX5_feed 45 = .ok (.dup_x1, 1) := by decide +kernel
theorem dX5_feed_46 : decode cX5_feed 46 = .ok (.iconst 1, 1) := by decide +kernel
theorem dX5_feed_47 : decode cX5_feed 47 = .ok (.iadd, 1) := by decide +kernel
theorem dX5_feed_48 : decode cX5_feed 48 = .ok (.putfield 154, 3) := by decide +kernel
theorem dX5_feed_51 : decode cX5_feed 51 = .ok (.iload_n 1, 1) := by decide +kernel
theorem dX5_feed_52 : decode cX5_feed 52 = .ok (.iastore, 1) := by decide +kernel
theorem dX5_feed_53 : decode cX5_feed 53 = .ok (.aload_n 0, 1) := by decide +kernel
theorem dX5_feed_54 : decode cX5_feed 54 = .ok (.getfield 154, 3) := by decide +kernel
theorem dX5_feed_57 : decode cX5_feed 57 = .ok (.ireturn, 1) := by decide +kernel
theorem dX5_wipe_0 : decode cX5_wipe 0 = .ok (.aload_n 0, 1) := by decide +kernel
theorem dX5_wipe_1 : decode cX5_wipe 1 = .ok (.getfield 154, 3) := by decide +kernel
theorem dX5_wipe_4 : decode cX5_wipe 4 = .ok (.istore_n 1, 1) := by decide +kernel
theorem dX5_wipe_5 : decode cX5_wipe 5 = .ok (.aload_n 0, 1) := by decide +kernel
theorem dX5_wipe_6 : decode cX5_wipe 6 = .ok (.iconst 0, 1) := by decide +kernel
theorem dX5_wipe_7 : decode cX5_wipe 7 = .ok (.putfield 154, 3) := by decide +kernel
theorem dX5_wipe_10 : decode cX5_wipe 10 = .ok (.iload_n 1, 1) := by decide +kernel
theorem dX5_wipe_11 : decode cX5_wipe 11 = .ok (.ireturn, 1) := by decide +kernel
theorem dX5_isLetter_0 : decode cX5_isLetter 0 = .ok (.iload_n 0, 1) := by decide +kernel
theorem dX5_isLetter_1 : decode cX5_isLetter 1 = .ok (.bipush 97, 2) := by decide +kernel
theorem dX5_isLetter_3 : decode cX5_isLetter 3 = .ok (.if_icmp .lt 13, 3) := by decide +kernel
theorem dX5_isLetter_6 : decode cX5_isLetter 6 = .ok (.iload_n 0, 1) := by decide +kernel
theorem dX5_isLetter_7 : decode cX5_isLetter 7 = .ok (.bipush 122, 2) := by decide +kernel
theorem dX5_isLetter_9 : decode cX5_isLetter 9 = .ok (.if_icmp .gt 7, 3) := by decide +kernel
theorem dX5_isLetter_12 : decode cX5_isLetter 12 = .ok (.iconst 1, 1) := by decide +kernel
theorem dX5_isLetter_13 : decode cX5_isLetter 13 = .ok (.goto 4, 3) := by decide +kernel
theorem dX5_isLetter_16 : decode cX5_isLetter 16 = .ok (.iconst 0, 1) := by decide +kernel
theorem dX5_isLetter_17 : decode cX5_isLetter 17 = .ok (.ireturn, 1) := by decide +kernel
theorem dX5_isDigit_0 : decode cX5_isDigit 0 = .ok (.iload_n 0, 1) := by decide +kernel
theorem dX5_isDigit_1 : decode cX5_isDigit 1 = .ok (.bipush 48, 2) := by decide +kernel
theorem dX5_isDigit_3 : decode cX5_isDigit 3 = .ok (.if_icmp .lt 13, 3) := by decide +kernel
theorem dX5_isDigit_6 : decode cX5_isDigit 6 = .ok (.iload_n 0, 1) := by decide +kernel
theorem dX5_isDigit_7 : decode cX5_isDigit 7 = .ok (.bipush 57, 2) := by decide +kernel
theorem dX5_isDigit_9 : decode cX5_isDigit 9 = .ok (.if_icmp .gt 7, 3) := by decide +kernel
theorem dX5_isDigit_12 : decode cX5_isDigit 12 = .ok (.iconst 1, 1) := by decide +kernel
theorem dX5_isDigit_13 : decode cX5_isDigit 13 = .ok (.goto 4, 3) := by decide +kernel
theorem dX5_isDigit_16 : decode cX5_isDigit 16 = .ok (.iconst 0, 1) := by decide +kernel
theorem dX5_isDigit_17 : decode cX5_isDigit 17 = .ok (.ireturn, 1) := by decide +kernel
theorem dX5_look_0 : decode cX5_look 0 = .ok (.aload_n 0, 1) := by decide +kernel
theorem dX5_look_1 : decode cX5_look 1 = .ok (.getfield 157, 3) := by decide +kernel
theorem dX5_look_4 : decode cX5_look 4 = .ok (.aload_n 0, 1) := by decide +kernel
theorem dX5_look_5 : decode cX5_look 5 = .ok (.getfield 154, 3) := by decide +kernel
theorem dX5_look_8 : decode cX5_look 8 = .ok (.if_icmp .ge 30, 3) := by decide +kernel
theorem dX5_look_11 : decode cX5_look 11 = .ok (.aload_n 0, 1) := by decide +kernel
theorem dX5_look_12 : decode cX5_look 12 = .ok (.getfield 31, 3) := by decide +kernel
theorem dX5_look_15 : decode cX5_look 15 = .ok (.aload_n 0, 1) := by decide +kernel
theorem dX5_look_16 : decode cX5_look 16 = .ok (.getfield 157, 3) := by decide +kernel
theorem dX5_look_19 : decode cX5_look 19 = .ok (.iaload, 1) := by decide +kernel
theorem dX5_look_20 : decode cX5_look 20 = .ok (.bipush 32, 2) := by decide +kernel
theorem dX5_look_22 : decode cX5_look 22 = .ok (.if_icmp .ne 16, 3) := by decide +kernel
theorem dX5_look_25 : decode cX5_look 25 = .ok (.aload_n 0, 1) := by decide +kernel
theorem dX5_look_26 : decode cX5_look 26 = .ok (.dup, 1) := by decide +kernel
theorem dX5_look_27 : decode cX5_look 27 = .ok (.getfield 157, 3) := by decide +kernel
theorem dX5_look_30 : decode cX5_look 30 = .ok (.iconst 1, 1) := by decide +kernel
theorem dX5_look_31 : decode cX5_look 31 = .ok (.iadd, 1) := by decide +kernel
theorem dX5_look_32 : decode cX5_look 32 = .ok (.putfield 157, 3) := by decide +kernel
theorem dX5_look_35 : decode cX5_look 35 = .ok (.goto (-35), 3) := by decide +kernel
theorem dX5_look_38 : decode cX5_look 38 = .ok (.aload_n 0, 1) := by decide +kernel
theorem dX5_look_39 : decode cX5_look 39 = .ok (.aload_n 0, 1) := by decide +kernel
theorem dX5_look_40 : decode cX5_look 40 = .ok (.getfield 157, 3) := by decide +kernel
theorem dX5_look_43 : decode cX5_look 43 = .ok (.putfield 160, 3) := by decide +kernel
theorem dX5_look_46 : decode cX5_look 46 = .ok (.aload_n 0, 1) := by decide +kernel
theorem dX5_look_47 : decode cX5_look 47 = .ok (.iconst 0, 1) := by decide +kernel
theorem dX5_look_48 : decode cX5_look 48 = .ok (.putfield 163, 3) := by decide +kernel
theorem dX5_look_51 : decode cX5_look 51 = .ok (.aload_n 0, 1) := by decide +kernel
theorem dX5_look_52 : decode cX5_look 52 = .ok (.getfield 157, 3) := by decide +kernel
theorem dX5_look_55 : decode cX5_look 55 = .ok (.aload_n 0, 1) := by decide +kernel
theorem dX5_look_56 : decode cX5_look 56 = .ok (.getfield 154, 3) := by decide +kernel
theorem dX5_look_59 : decode cX5_look 59 = .ok (.if_icmp .ne 11, 3) := by decide +kernel
theorem dX5_look_62 : decode cX5_look 62 = .ok (.aload_n 0, 1) := by decide +kernel
theorem dX5_look_63 : decode cX5_look 63 = .ok (.iconst 0, 1) := by decide +kernel
theorem dX5_look_64 : decode cX5_look 64 = .ok (.putfield 166, 3) := by decide +kernel
theorem dX5_look_67 : decode cX5_look 67 = .ok (.goto 197, 3) := by decide +kernel
theorem dX5_look_70 : decode cX5_look 70 = .ok (.aload_n 0, 1) := by decide +kernel
theorem dX5_look_71 : decode cX5_look 71 = .ok (.getfield 31, 3) := by decide +kernel
theorem dX5_look_74 : decode cX5_look 74 = .ok (.aload_n 0, 1) := by decide +kernel
