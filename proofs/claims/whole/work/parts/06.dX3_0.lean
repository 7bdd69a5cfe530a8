theorem dX3_init_0 : decode cX3_init 0 = .ok (.aload_n 0, 1) := by decide +kernel
theorem dX3_init_1 : decode cX3_init 1 = .ok (.invokespecial 3, 3) := by decide +kernel
theorem dX3_init_4 : decode cX3_init 4 = .ok (.aload_n 0, 1) := by decide +kernel
theorem dX3_init_5 : decode cX3_init 5 = .ok (.iconst 0, 1) := by decide +kernel
theorem dX3_init_6 : decode cX3_init 6 = .ok (.putfield 9, 3) := by decide +kernel
theorem dX3_init_9 : decode cX3_init 9 = .ok (.aload_n 0, 1) := by decide +kernel
theorem dX3_init_10 : decode cX3_init 10 = .ok (.bipush 14, 2) := by decide +kernel
theorem dX3_init_12 : decode cX3_init 12 = .ok (.newarray .int, 2) := by decide +kernel
theorem dX3_init_14 : decode cX3_init 14 = .ok (.putfield 15, 3) := by decide +kernel
theorem dX3_init_17 : decode cX3_init 17 = .ok (.aload_n 0, 1) := by decide +kernel
theorem dX3_init_18 : decode cX3_init 18 = .ok (.bipush 14, 2) := by decide +kernel
theorem dX3_init_20 : decode cX3_init 20 = .ok (.newarray .int, 2) := by decide +kernel
theorem dX3_init_22 : decode cX3_init 22 = .ok (.putfield 19, 3) := by decide +kernel
theorem dX3_init_25 : decode cX3_init 25 = .ok (.aload_n 0, 1) := by decide +kernel
theorem dX3_init_26 : decode cX3_init 26 = .ok (.bipush 14, 2) := by decide +kernel
theorem dX3_init_28 : decode cX3_init 28 = .ok (.newarray .int, 2) := by decide +kernel
theorem dX3_init_30 : decode cX3_init 30 = .ok (.putfield 22, 3) := by decide +kernel
theorem dX3_init_33 : decode cX3_init 33 = .ok (.aload_n 0, 1) := by decide +kernel
theorem dX3_init_34 : decode cX3_init 34 = .ok (.bipush 14, 2) := by decide +kernel
theorem dX3_init_36 : decode cX3_init 36 = .ok (.newarray .int, 2) := by decide +kernel
theorem dX3_init_38 : decode cX3_init 38 = .ok (.putfield 25, 3) := by decide +kernel
theorem dX3_init_41 : decode cX3_init 41 = .ok (.aload_n 0, 1) := by decide +kernel
theorem dX3_init_42 : decode cX3_init 42 = .ok (.iconst 0, 1) := by decide +kernel
theorem dX3_init_43 : decode cX3_init 43 = .ok (.putfield 28, 3) := by decide +kernel
theorem dX3_init_46 : decode cX3_init 46 = .ok (.aload_n 0, 1) := by decide +kernel
theorem dX3_init_47 : decode cX3_init 47 = .ok (.bipush 6, 2) := by decide +kernel
theorem dX3_init_49 : decode cX3_init 49 = .ok (.newarray .int, 2) := by decide +kernel
theorem dX3_init_51 : decode cX3_init 51 = .ok (.putfield 31, 3) := by decide +kernel
theorem dX3_init_54 : decode cX3_init 54 = .ok (.aload_n 0, 1) := by decide +kernel
theorem dX3_init_55 : decode cX3_init 55 = .ok (.bipush 6, 2) := by decide +kernel
theorem dX3_init_57 : decode cX3_init 57 = .ok (.newarray .int, 2) := by decide +kernel
theorem dX3_init_59 : decode cX3_init 59 = .ok (.putfield 34, 3) := by decide +kernel
theorem dX3_init_62 : decode cX3_init 62 = .ok (.aload_n 0, 1) := by decide +kernel
theorem dX3_init_63 : decode cX3_init 63 = .ok (.bipush 6, 2) := by decide +kernel
theorem dX3_init_65 : decode cX3_init 65 = .ok (.newarray .int, 2) := by decide +kernel
theorem dX3_init_67 : decode cX3_init 67 = .ok (.putfield 37, 3) := by decide +kernel
theorem dX3_init_70 : decode cX3_init 70 = .ok (.aload_n 0, 1) := by decide +kernel
theorem dX3_init_71 : decode cX3_init 71 = .ok (.iconst 0, 1) := by decide +kernel
theorem dX3_init_72 : decode cX3_init 72 = .ok (.putfield 40, 3) := by decide +kernel
theorem dX3_init_75 : decode cX3_init 75 = .ok (.aload_n 0, 1) := by decide +kernel
theorem dX3_init_76 : decode cX3_init 76 = .ok (.bipush 20, 2) := by decide +kernel
theorem dX3_init_78 : decode cX3_init 78 = .ok (.newarray .int, 2) := by decide +kernel
theorem dX3_init_80 : decode cX3_init 80 = .ok (.putfield 43, 3) := by decide +kernel
theorem dX3_init_83 : decode cX3_init 83 = .ok (.aload_n 0, 1) := by decide +kernel
theorem dX3_init_84 : decode cX3_init 84 = .ok (.bipush 20, 2) := by decide +kernel
theorem dX3_init_86 : decode cX3_init 86 = .ok (.newarray .int, 2) := by decide +kernel
theorem dX3_init_88 : decode cX3_init 88 = .ok (.putfield 46, 3) := by decide +kernel
theorem dX3_init_91 : decode cX3_init 91 = .ok (.aload_n 0, 1) := by decide +kernel
theorem dX3_init_92 : decode cX3_init 92 = .ok (.bipush 20, 2) := by decide +kernel
theorem dX3_init_94 : decode cX3_init 94 = .ok (.newarray .int, 2) := by decide +kernel
theorem dX3_init_96 : decode cX3_init 96 = .ok (.putfield 49, 3) := by decide +kernel
theorem dX3_init_99 : decode cX3_init 99 = .ok (.aload_n 0, 1) := by decide +kernel
theorem dX3_init_100 : decode cX3_init 100 = .ok (.bipush 20, 2) := by decide +kernel
theorem dX3_init_102 : decode cX3_init 102 = .ok (.newarray .int, 2) := by decide +kernel
theorem dX3_init_104 : decode cX3_init 104 = .ok (.putfield 52, 3) := by decide +kernel
theorem dX3_init_107 : decode cX3_init 107 = .ok (.aload_n 0, 1) := by decide +kernel
theorem dX3_init_108 : decode cX3_init 108 = .ok (.iconst 1, 1) := by decide +kernel
theorem dX3_init_109 : decode cX3_init 109 = .ok (.putfield 55, 3) := by decide +kernel
theorem dX3_init_112 : decode cX3_init 112 = .ok (.return_, 1) := by decide +kernel
theorem dX3_takeOver_0 : decode cX3_takeOver 0 = .ok (.aload_n 0, 1) := by decide +kernel
theorem dX3_takeOver_1 : decode cX3_takeOver 1 = .ok (.aload_n 1, 1) := by decide +kernel
theorem dX3_takeOver_2 : decode cX3_takeOver 2 = .ok (.getfield 9, 3) := by decide +kernel
theorem dX3_takeOver_5 : decode cX3_takeOver 5 = .ok (.putfield 9, 3) := by decide +kernel
theorem dX3_takeOver_8 : decode cX3_takeOver 8 = .ok (.aload_n 1, 1) := by decide +kernel
theorem dX3_takeOver_9 : decode cX3_takeOver 9 = .ok (.getfield 15, 3) := by decide +kernel
theorem dX3_takeOver_12 : decode cX3_takeOver 12 = .ok (.iconst 0, 1) := by decide +kernel
theorem dX3_takeOver_13 : decode cX3_takeOver 13 = .ok (.aload_n 0, 1) := by decide +kernel
theorem dX3_takeOver_14 : decode cX3_takeOver 14 = .ok (.getfield 15, 3) := by decide +kernel
theorem dX3_takeOver_17 : decode cX3_takeOver 17 = .ok (.iconst 0, 1) := by decide +kernel
theorem dX3_takeOver_18 : decode cX3_takeOver 18 = .ok (.bipush 14, 2) := by decide +kernel
theorem dX3_takeOver_20 : decode cX3_takeOver 20 = .ok (.invokestatic 58, 3) := by decide +kernel
theorem dX3_takeOver_23 : decode cX3_takeOver 23 = .ok (.aload_n 1, 1) := by decide +kernel
theorem dX3_takeOver_24 : decode cX3_takeOver 24 = .ok (.getfield 19, 3) := by decide +kernel
theorem dX3_takeOver_27 : decode cX3_takeOver 27 = .ok (.iconst 0, 1) := by decide +kernel
theorem dX3_takeOver_28 : decode cX3_takeOver 28 = .ok (.aload_n 0, 1) := by decide +kernel
theorem dX3_takeOver_29 : decode cX3_takeOver 29 = .ok (.getfield 19, 3) := by decide +kernel
theorem dX3_takeOver_32 : decode cX3_takeOver 32 = .ok (.iconst 0, 1) := by decide +kernel
theorem dX3_takeOver_33 : decode cX3_takeOver 33 = .ok (.bipush 14, 2) := by decide +kernel
theorem dX3_takeOver_35 : decode cX3_takeOver 35 = .ok (.invokestatic 58, 3) := by decide +kernel
theorem dX3_takeOver_38 : decode cX3_takeOver 38 = .ok (.aload_n 1, 1) := by decide +kernel
theorem dX3_takeOver_39 : decode cX3_takeOver 39 = .ok (.getfield 22, 3) := by decide +kernel
theorem dX3_takeOver_42 : decode cX3_takeOver 42 = .ok (.iconst 0, 1) := by decide +kernel
theorem dX3_takeOver_43 : decode cX3_takeOver 43 = .ok (.aload_n 0, 1) := by decide +kernel
theorem dX3_takeOver_44 : decode cX3_takeOver 44 = .ok (.getfield 22, 3) := by decide +kernel
theorem dX3_takeOver_47 : decode cX3_takeOver 47 = .ok (.iconst 0, 1) := by decide +kernel
theorem dX3_takeOver_48 : decode cX3_takeOver 48 = .ok (.bipush 14, 2) := by decide +kernel
theorem dX3_takeOver_50 : decode cX3_takeOver 50 = .ok (.invokestatic 58, 3) := by decide +kernel
theorem dX3_takeOver_53 : decode cX3_takeOver 53 = .ok (.aload_n 1, 1) := by decide +kernel
theorem dX3_takeOver_54 : decode cX3_takeOver 54 = .ok (.getfield 25, 3) := by decide +kernel
theorem dX3_takeOver_57 : decode cX3_takeOver 57 = .ok (.iconst 0, 1) := by decide +kernel
theorem dX3_takeOver_58 : decode cX3_takeOver 58 = .ok (.aload_n 0, 1) := by decide +kernel
theorem dX3_takeOver_59 : decode cX3_takeOver 59 = .ok (.getfield 25, 3) := by decide +kernel
theorem dX3_takeOver_62 : decode cX3_takeOver 62 = .ok (.iconst 0, 1) := by decide +kernel
theorem dX3_takeOver_63 : decode cX3_takeOver 63 = .ok (.bipush 14, 2) := by decide +kernel
theorem dX3_takeOver_65 : decode cX3_takeOver 65 = .ok (.invokestatic 58, 3) := by decide +kernel
theorem dX3_takeOver_68 : decode cX3_takeOver 68 = .ok (.aload_n 0, 1) := by decide +kernel
theorem dX3_takeOver_69 : decode cX3_takeOver 69 = .ok (.aload_n 1, 1) := by decide +kernel
theorem dX3_takeOver_70 : decode cX3_takeOver 70 = .ok (.getfield 28, 3) := by decide +kernel
theorem dX3_takeOver_73 : decode cX3_takeOver 73 = .ok (.putfield 28, 3) := by decide +kernel
theorem dX3_takeOver_76 : decode cX3_takeOver 76 = .ok (.aload_n 1, 1) := by decide +kernel
theorem dX3_takeOver_77 : decode cX3_takeOver 77 = .ok (.getfield 31, 3) := by decide +kernel
theorem dX3_takeOver_80 : decode cX3_takeOver 80 = .ok (.iconst 0, 1) := by decide +kernel
theorem dX3_takeOver_81 : decode cX3_takeOver 81 = .ok (.aload_n 0, 1) := by decide +kernel
theorem dX3_takeOver_82 : decode cX3_takeOver 82 = .ok (.getfield 31, 3) := by decide +kernel
theorem dX3_takeOver_85 : decode cX3_takeOver 85 = .ok (.iconst 0, 1) := by decide +kernel
theorem dX3_takeOver_86 : decode cX3_takeOver 86 = .ok (.bipush 6, 2) := by decide +kernel
theorem dX3_takeOver_88 : decode cX3_takeOver 88 = .ok (.invokestatic 58, 3) := by decide +kernel
theorem dX3_takeOver_91 : decode cX3_takeOver 91 = .ok (.aload_n 1, 1) := by decide +kernel
theorem dX3_takeOver_92 : decode cX3_takeOver 92 = .ok (.getfield 34, 3) := by decide +kernel
theorem dX3_takeOver_95 : decode cX3_takeOver 95 = .ok (.iconst 0, 1) := by decide +kernel
theorem dX3_takeOver_96 : decode cX3_takeOver 96 = .ok (.aload_n 0, 1) := by decide +kernel
theorem dX3_takeOver_97 : decode cX3_takeOver 97 = .ok (.getfield 34, 3) := by decide +kernel
theorem dX3_takeOver_100 : decode cX3_takeOver 100 = .ok (.iconst 0, 1) := by decide +kernel
theorem dX3_takeOver_101 : decode cX3_takeOver 101 = .ok (.bipush 6, 2) := by decide +kernel
theorem dX3_takeOver_103 : decode cX3_takeOver 103 = .ok (.invokestatic 58, 3) := by decide +kernel
theorem dX3_takeOver_106 : decode cX3_takeOver 106 = .ok (.aload_n 1, 1) := by decide +kernel
theorem dX3_takeOver_107 : decode cX3_takeOver 107 = .ok (.getfield 37, 3) := by decide +kernel
theorem dX3_takeOver_110 : decode cX3_takeOver 110 = .ok (.iconst 0, 1) := by decide +kernel
theorem dX3_takeOver_111 : decode cX3_takeOver 111 = .ok (.aload_n 0, 1) := by decide +kernel
theorem dX3_takeOver_112 : decode cX3_takeOver 112 = .ok (.getfield 37, 3) := by decide +kernel
theorem dX3_takeOver_115 : decode cX3_takeOver 115 = .ok (.iconst 0, 1) := by decide +kernel
theorem dX3_takeOver_116 : decode cX3_takeOver 116 = .ok (.bipush 6, 2) := by decide +kernel
theorem dX3_takeOver_118 : decode cX3_takeOver 118 = .ok (.invokestatic 58, 3) := by decide +kernel
theorem dX3_takeOver_121 : decode cX3_takeOver 121 = .ok (.aload_n 0, 1) := by decide +kernel
theorem dX3_takeOver_122 : decode cX3_takeOver 122 = .ok (.aload_n 1, 1) := by decide +kernel
theorem dX3_takeOver_123 : decode cX3_takeOver 123 = .ok (.getfield 40, 3) := by decide +kernel
theorem dX3_takeOver_126 : decode cX3_takeOver 126 = .ok (.putfield 40, 3) := by decide +kernel
theorem dX3_takeOver_129 : decode cX3_takeOver 129 = .ok (.aload_n 1, 1) := by decide +kernel
theorem dX3_takeOver_130 : decode cX3_takeOver 130 = .ok (.getfield 43, 3) := by decide +kernel
theorem dX3_takeOver_133 : decode cX3_takeOver 133 = .ok (.iconst 0, 1) := by decide +kernel
theorem dX3_takeOver_134 : decode cX3_takeOver 134 = .ok (.aload_n 0, 1) := by decide +kernel
theorem dX3_takeOver_135 : decode cX3_takeOver 135 = .ok (.getfield 43, 3) := by decide +kernel
theorem dX3_takeOver_138 : decode cX3_takeOver 138 = .ok (.iconst 0, 1) := by decide +kernel
theorem dX3_takeOver_139 : decode cX3_takeOver 139 = .ok (.bipush 20, 2) := by decide +kernel
theorem dX3_takeOver_141 : decode cX3_takeOver 141 = .ok (.invokestatic 58, 3) := by decide +kernel
theorem dX3_takeOver_144 : decode cX3_takeOver 144 = .ok (.aload_n 1, 1) := by decide +kernel
theorem dX3_takeOver_145 : decode cX3_takeOver 145 = .ok (.getfield 46, 3) := by decide +kernel
theorem dX3_takeOver_148 : decode cX3_takeOver 148 = .ok (.iconst 0, 1) := by decide +kernel
theorem dX3_takeOver_149 : decode cX3_takeOver 149 = .ok (.aload_n 0, 1) := by decide +kernel
theorem dX3_takeOver_150 : decode cX3_takeOver 150 = .ok (.getfield 46, 3) := by decide +kernel
theorem dX3_takeOver_153 : decode cX3_takeOver 153 = .ok (.iconst 0, 1) := by decide +kernel
theorem dX3_takeOver_154 : decode cX3_takeOver 154 = .ok (.bipush 20, 2) := by decide +kernel
theorem dX3_takeOver_156 : decode cX3_takeOver 156 = .ok (.invokestatic 58, 3) := by decide +kernel
theorem dX3_takeOver_159 : decode cX3_takeOver 159 = .ok (.aload_n 1, 1) := by decide +kernel
theorem dX3_takeOver_160 : decode cX3_takeOver 160 = .ok (.getfield 49, 3) := by decide +kernel
theorem dX3_takeOver_163 : decode cX3_takeOver 163 = .ok (.iconst 0, 1) := by decide +kernel
theorem dX3_takeOver_164 : decode cX3_takeOver 164 = .ok (.aload_n 0, 1) := by decide +kernel
theorem dX3_takeOver_165 : decode cX3_takeOver 165 = .ok (.getfield 49, 3) := by decide +kernel
theorem dX3_takeOver_168 : decode cX3_takeOver 168 = .ok (.iconst 0, 1) := by decide +kernel
theorem dX3_takeOver_169 : decode cX3_takeOver 169 = .ok (.bipush 20, 2) := by decide +kernel
theorem dX3_takeOver_171 : decode cX3_takeOver 171 = .ok (.invokestatic 58, 3) := by decide +kernel
theorem dX3_takeOver_174 : decode cX3_takeOver 174 = .ok (.aload_n 1, 1) := by decide +kernel
theorem dX3_takeOver_175 : decode cX3_takeOver 175 = .ok (.getfield 52, 3) := by decide +kernel
theorem dX3_takeOver_178 : decode cX3_takeOver 178 = .ok (.iconst 0, 1) := by decide +kernel
theorem dX3_takeOver_179 : decode cX3_takeOver 179 = .ok (.aload_n 0, 1) := by decide +kernel
theorem dX3_takeOver_180 : decode cX3_takeOver 180 = .ok (.getfield 52, 3) := by decide +kernel
theorem dX3_takeOver_183 : decode cX3_takeOver 183 = .ok (.iconst 0, 1) := by decide +kernel
theorem dX3_takeOver_184 : decode cX3_takeOver 184 = .ok (.bipush 20, 2) := by decide +kernel
theorem dX3_takeOver_186 : decode cX3_takeOver 186 = .ok (.invokestatic 58, 3) := by decide +kernel
theorem dX3_takeOver_189 : decode cX3_takeOver 189 = .ok (.aload_n 0, 1) := by decide +kernel
theorem dX3_takeOver_190 : decode cX3_takeOver 190 = .ok (.aload_n 1, 1) := by decide +kernel
theorem dX3_takeOver_191 : decode cX3_takeOver 191 = .ok (.getfield 55, 3) := by decide +kernel
theorem dX3_takeOver_194 : decode cX3_takeOver 194 = .ok (.putfield 55, 3) := by decide +kernel
theorem dX3_takeOver_197 : decode cX3_takeOver 197 = .ok (.return_, 1) := by decide +kernel
theorem dX3_hasChild_0 : decode cX3_hasChild 0 = .ok (.iload_n 1, 1) := by decide +kernel
theorem dX3_hasChild_1 : decode cX3_hasChild 1 = .ok (.iconst 0, 1) := by decide +kernel
theorem dX3_hasChild_2 : decode cX3_hasChild 2 = .ok (.aload_n 0, 1) := by decide +kernel
theorem dX3_hasChild_3 : decode cX3_hasChild 3 = .ok (.getfield 9, 3) := by decide +kernel
theorem dX3_hasChild_6 : decode cX3_hasChild 6 = .ok (.iconst 1, 1) := by decide +kernel
theorem dX3_hasChild_7 : decode cX3_hasChild 7 = .ok (.isub, 1) := by decide +kernel
theorem dX3_hasChild_8 : decode cX3_hasChild 8 = .ok (.invokestatic 64, 3) := by decide +kernel
theorem dX3_hasChild_11 : decode cX3_hasChild 11 = .ok (.ireturn, 1) := by decide +kernel
theorem dX3_hasPlace_0 : decode cX3_hasPlace 0 = .ok (.iload_n 1, 1) := by decide +kernel
theorem dX3_hasPlace_1 : decode cX3_hasPlace 1 = .ok (.iconst 0, 1) := by decide +kernel
theorem dX3_hasPlace_2 : decode cX3_hasPlace 2 = .ok (.aload_n 0, 1) := by decide +kernel
theorem dX3_hasPlace_3 : decode cX3_hasPlace 3 = .ok (.getfield 9, 3) := by decide +kernel
theorem dX3_hasPlace_6 : decode cX3_hasPlace 6 = .ok (.iconst 1, 1) := by decide +kernel
theorem dX3_hasPlace_7 : decode cX3_hasPlace 7 = .ok (.isub, 1) := by decide +kernel
theorem dX3_hasPlace_8 : decode cX3_hasPlace 8 = .ok (.invokestatic 64, 3) := by decide +kernel
theorem dX3_hasPlace_11 : decode cX3_hasPlace 11 = .ok (.ireturn, 1) := by decide +kernel
theorem dX3_hasCount_0 : decode cX3_hasCount 0 = .ok (.iload_n 1, 1) := by decide +kernel
theorem dX3_hasCount_1 : decode cX3_hasCount 1 = .ok (.iconst 0, 1) := by decide +kernel
theorem dX3_hasCount_2 : decode cX3_hasCount 2 = .ok (.aload_n 0, 1) := by decide +kernel
theorem dX3_hasCount_3 : decode cX3_hasCount 3 = .ok (.getfield 28, 3) := by decide +kernel
theorem dX3_hasCount_6 : decode cX3_hasCount 6 = .ok (.iconst 1, 1) := by decide +kernel
theorem dX3_hasCount_7 : decode cX3_hasCount 7 = .ok (.isub, 1) := by decide +kernel
theorem dX3_hasCount_8 : decode cX3_hasCount 8 = .ok (.invokestatic 64, 3) := by decide +kernel
theorem dX3_hasCount_11 : decode cX3_hasCount 11 = .ok (.ireturn, 1) := by decide +kernel
theorem dX3_hasTeam_0 : decode cX3_hasTeam 0 = .ok (.aload_n 0, 1) := by decide +kernel
theorem dX3_hasTeam_1 : decode cX3_hasTeam 1 = .ok (.iload_n 1, 1) := by decide +kernel
theorem dX3_hasTeam_2 : decode cX3_hasTeam 2 = .ok (.invokevirtual 68, 3) := by decide +kernel
theorem dX3_hasTeam_5 : decode cX3_hasTeam 5 = .ok (.ifCond .eq 23, 3) := by decide +kernel
theorem dX3_hasTeam_8 : decode cX3_hasTeam 8 = .ok (.iload_n 2, 1) := by decide +kernel
theorem dX3_hasTeam_9 : decode cX3_hasTeam 9 = .ok (.iconst 0, 1) := by decide +kernel
theorem dX3_hasTeam_10 : decode cX3_hasTeam 10 = .ok (.aload_n 0, 1) := by decide +kernel
theorem dX3_hasTeam_11 : decode cX3_hasTeam 11 = .ok (.getfield 34, 3) := by decide +kernel
theorem dX3_hasTeam_14 : decode cX3_hasTeam 14 = .ok (.iload_n 1, 1) := by decide +kernel
theorem dX3_hasTeam_15 : decode cX3_hasTeam 15 = .ok (.iaload, 1) := by decide +kernel
theorem dX3_hasTeam_16 : decode cX3_hasTeam 16 = .ok (.iconst 1, 1) := by decide +kernel
theorem dX3_hasTeam_17 : decode cX3_hasTeam 17 = .ok (.isub, 1) := by decide +kernel
theorem dX3_hasTeam_18 : decode cX3_hasTeam 18 = .ok (.invokestatic 64, 3) := by decide +kernel
theorem dX3_hasTeam_21 : decode cX3_hasTeam 21 = .ok (.ifCond .eq 7, 3) := by decide +kernel
theorem dX3_hasTeam_24 : decode cX3_hasTeam 24 = .ok (.iconst 1, 1) := by decide +kernel
theorem dX3_hasTeam_25 : decode cX3_hasTeam 25 = .ok (.goto 4, 3) := by decide +kernel
theorem dX3_hasTeam_28 : decode cX3_hasTeam 28 = .ok (.iconst 0, 1) := by decide +kernel
theorem dX3_hasTeam_29 : decode cX3_hasTeam 29 = .ok (.ireturn, 1) := by decide +kernel
theorem dX3_hasWish_0 : decode cX3_hasWish 0 = .ok (.iload_n 1, 1) := by decide +kernel
theorem dX3_hasWish_1 : decode cX3_hasWish 1 = .ok (.iconst 0, 1) := by decide +kernel
theorem dX3_hasWish_2 : decode cX3_hasWish 2 = .ok (.aload_n 0, 1) := by decide +kernel
theorem dX3_hasWish_3 : decode cX3_hasWish 3 = .ok (.getfield 40, 3) := by decide +kernel
theorem dX3_hasWish_6 : decode cX3_hasWish 6 = .ok (.iconst 1, 1) := by decide +kernel
theorem dX3_hasWish_7 : decode cX3_hasWish 7 = .ok (.isub, 1) := by decide +kernel
theorem dX3_hasWish_8 : decode cX3_hasWish 8 = .ok (.invokestatic 64, 3) := by decide +kernel
theorem dX3_hasWish_11 : decode cX3_hasWish 11 = .ok (.ireturn, 1) := by decide +kernel
theorem dX3_addChild_0 : decode cX3_addChild 0 = .ok (.aload_n 0, 1) := by decide +kernel
theorem dX3_addChild_1 : decode cX3_addChild 1 = .ok (.getfield 9, 3) := by decide +kernel
theorem dX3_addChild_4 : decode cX3_addChild 4 = .ok (.istore_n 3, 1) := by decide +kernel
theorem dX3_addChild_5 : decode cX3_addChild 5 = .ok (.aload_n 0, 1) := by decide +kernel
theorem dX3_addChild_6 : decode cX3_addChild 6 = .ok (.getfield 15, 3) := by decide +kernel
theorem dX3_addChild_9 : decode cX3_addChild 9 = .ok (.iload_n 3, 1) := by decide +kernel
theorem dX3_addChild_10 : decode cX3_addChild 10 = .ok (.iload_n 1, 1) := by decide +kernel
theorem dX3_addChild_11 : decode cX3_addChild 11 = .ok (.iastore, 1) := by decide +kernel
theorem dX3_addChild_12 : decode cX3_addChild 12 = .ok (.aload_n 0, 1) := by decide +kernel
theorem dX3_addChild_13 : decode cX3_addChild 13 = .ok (.getfield 19, 3) := by decide +kernel
theorem dX3_addChild_16 : decode cX3_addChild 16 = .ok (.iload_n 3, 1) := by decide +kernel
theorem dX3_addChild_17 : decode cX3_addChild 17 = .ok (.iload_n 2, 1) := by decide +kernel
theorem dX3_addChild_18 : decode cX3_addChild 18 = .ok (.iastore, 1) := by decide +kernel
theorem dX3_addChild_19 : decode cX3_addChild 19 = .ok (.aload_n 0, 1) := by decide +kernel
theorem dX3_addChild_20 : decode cX3_addChild 20 = .ok (.getfield 22, 3) := by decide +kernel
theorem dX3_addChild_23 : decode cX3_addChild 23 = .ok (.iload_n 3, 1) := by decide +kernel
theorem dX3_addChild_24 : decode cX3_addChild 24 = .ok (.iload_n 3, 1) := by decide +kernel
theorem dX3_addChild_25 : decode cX3_addChild 25 = .ok (.iastore, 1) := by decide +kernel
theorem dX3_addChild_26 : decode cX3_addChild 26 = .ok (.aload_n 0, 1) := by decide +kernel
theorem dX3_addChild_27 : decode cX3_addChild 27 = .ok (.getfield 25, 3) := by decide +kernel
theorem dX3_addChild_30 : decode cX3_addChild 30 = .ok (.iload_n 3, 1) := by decide +kernel
theorem dX3_addChild_31 : decode cX3_addChild 31 = .ok (.iload_n 3, 1) := by decide +kernel
theorem dX3_addChild_32 : decode cX3_addChild 32 = .ok (.iastore, 1) := by decide +kernel
theorem dX3_addChild_33 : decode cX3_addChild 33 = .ok (.aload_n 0, 1) := by decide +kernel
theorem dX3_addChild_34 : decode cX3_addChild 34 = .ok (.dup, 1) := by decide +kernel
theorem dX3_addChild_35 : decode cX3_addChild 35 = .ok (.getfield 9, 3) := by decide +kernel
theorem dX3_addChild_38 : decode cX3_addChild 38 = .ok (.iconst 1, 1) := by decide +kernel
theorem dX3_addChild_39 : decode cX3_addChild 39 = .ok (.iadd, 1) := by decide +kernel
theorem dX3_addChild_40 : decode cX3_addChild 40 = .ok (.putfield 9, 3) := by decide +kernel
theorem dX3_addChild_43 : decode cX3_addChild 43 = .ok (.iload_n 3, 1) := by decide +kernel
theorem dX3_addChild_44 : decode cX3_addChild 44 = .ok (.ireturn, 1) := by decide +kernel
theorem dX3_addCount_0 : decode cX3_addCount 0 = .ok (.aload_n 0, 1) := by decide +kernel
theorem dX3_addCount_1 : decode cX3_addCount 1 = .ok (.getfield 28, 3) := by decide +kernel
theorem dX3_addCount_4 : decode cX3_addCount 4 = .ok (.istore 4, 2) := by decide +kernel
theorem dX3_addCount_6 : decode cX3_addCount 6 = .ok (.aload_n 0, 1) := by decide +kernel
theorem dX3_addCount_7 : decode cX3_addCount 7 = .ok (.getfield 31, 3) := by decide +kernel
theorem dX3_addCount_10 : decode cX3_addCount 10 = .ok (.iload 4, 2) := by decide +kernel
theorem dX3_addCount_12 : decode cX3_addCount 12 = .ok (.iload_n 1, 1) := by decide +kernel
theorem dX3_addCount_13 : decode cX3_addCount 13 = .ok (.iastore, 1) := by decide +kernel
theorem dX3_addCount_14 : decode cX3_addCount 14 = .ok (.aload_n 0, 1) := by decide +kernel
theorem dX3_addCount_15 : decode cX3_addCount 15 = .ok (.getfield 34, 3) := by decide +kernel
theorem dX3_addCount_18 : decode cX3_addCount 18 = .ok (.iload 4, 2) := by decide +kernel
theorem dX3_addCount_20 : decode cX3_addCount 20 = .ok (.iload_n 2, 1) := by decide +kernel
theorem dX3_addCount_21 : decode cX3_addCount 21 = .ok (.iastore, 1) := by decide +kernel
theorem dX3_addCount_22 : decode cX3_addCount 22 = .ok (.aload_n 0, 1) := by decide +kernel
theorem dX3_addCount_23 : decode cX3_addCount 23 = .ok (.getfield 37, 3) := by decide +kernel
theorem dX3_addCount_26 : decode cX3_addCount 26 = .ok (.iload 4, 2) := by decide +kernel
theorem dX3_addCount_28 : decode cX3_addCount 28 = .ok (.iload_n 3, 1) := by decide +kernel
theorem dX3_addCount_29 : decode cX3_addCount 29 = .ok (.iastore, 1) := by decide +kernel
theorem dX3_addCount_30 : decode cX3_addCount 30 = .ok (.aload_n 0, 1) := by decide +kernel
theorem dX3_addCount_31 : decode cX3_addCount 31 = .ok (.dup, 1) := by decide +kernel
theorem dX3_addCount_32 : decode cX3_addCount 32 = .ok (.getfield 28, 3) := by decide +kernel
theorem dX3_addCount_35 : decode cX3_addCount 35 = .ok (.iconst 1, 1) := by decide +kernel
theorem dX3_addCount_36 : decode cX3_addCount 36 = .ok (.iadd, 1) := by decide +kernel
theorem dX3_addCount_37 : decode cX3_addCount 37 = .ok (.putfield 28, 3) := by decide +kernel
theorem dX3_addCount_40 : decode cX3_addCount 40 = .ok (.iload 4, 2) := by decide +kernel
theorem dX3_addCount_42 : decode cX3_addCount 42 = .ok (.ireturn, 1) := by decide +kernel
theorem dX3_addWish_0 : decode cX3_addWish 0 = .ok (.aload_n 0, 1) := by decide +kernel
theorem dX3_addWish_1 : decode cX3_addWish 1 = .ok (.getfield 43, 3) := by decide +kernel
theorem dX3_addWish_4 : decode cX3_addWish 4 = .ok (.aload_n 0, 1) := by decide +kernel
theorem dX3_addWish_5 : decode cX3_addWish 5 = .ok (.getfield 40, 3) := by decide +kernel
theorem dX3_addWish_8 : decode cX3_addWish 8 = .ok (.iload_n 1, 1) := by decide +kernel
theorem dX3_addWish_9 : decode cX3_addWish 9 = .ok (.iastore, 1) := by decide +kernel
theorem dX3_addWish_10 : decode cX3_addWish 10 = .ok (.aload_n 0, 1) := by decide +kernel
theorem dX3_addWish_11 : decode cX3_addWish 11 = .ok (.getfield 46, 3) := by decide +kernel
theorem dX3_addWish_14 : decode cX3_addWish 14 = .ok (.aload_n 0, 1) := by decide +kernel
theorem dX3_addWish_15 : decode cX3_addWish 15 = .ok (.getfield 40, 3) := by decide +kernel
theorem dX3_addWish_18 : decode cX3_addWish 18 = .ok (.iload_n 2, 1) := by decide +kernel
theorem dX3_addWish_19 : decode cX3_addWish 19 = .ok (.iastore, 1) := by decide +kernel
theorem dX3_addWish_20 : decode cX3_addWish 20 = .ok (.aload_n 0, 1) := by decide +kernel
theorem dX3_addWish_21 : decode cX3_addWish 21 = .ok (.getfield 49, 3) := by decide +kernel
theorem dX3_addWish_24 : decode cX3_addWish 24 = .ok (.aload_n 0, 1) := by decide +kernel
theorem dX3_addWish_25 : decode cX3_addWish 25 = .ok (.getfield 40, 3) := by decide +kernel
theorem dX3_addWish_28 : decode cX3_addWish 28 = .ok (.iload_n 3, 1) := by decide +kernel
theorem dX3_addWish_29 : decode cX3_addWish 29 = .ok (.ifCond .eq 7, 3) := by decide +kernel
theorem dX3_addWish_32 : decode cX3_addWish 32 = .ok (.iconst 1, 1) := by decide +kernel
theorem dX3_addWish_33 : decode cX3_addWish 33 = .ok (.goto 4, 3) := by decide +kernel
theorem dX3_addWish_36 : decode cX3_addWish 36 = .ok (.iconst 0, 1) := by decide +kernel
theorem dX3_addWish_37 : decode cX3_addWish 37 = .ok (.iastore, 1) := by decide +kernel
theorem dX3_addWish_38 : decode cX3_addWish 38 = .ok (.aload_n 0, 1) := by decide +kernel
theorem dX3_addWish_39 : decode cX3_addWish 39 = .ok (.getfield 52, 3) := by decide +kernel
theorem dX3_addWish_42 : decode cX3_addWish 42 = .ok (.aload_n 0, 1) := by decide +kernel
theorem dX3_addWish_43 : decode cX3_addWish 43 = .ok (.getfield 40, 3) := by decide +kernel
theorem dX3_addWish_46 : decode cX3_addWish 46 = .ok (.iload 4, 2) := by decide +kernel
theorem dX3_addWish_48 : decode cX3_addWish 48 = .ok (.iastore, 1) := by decide +kernel
theorem dX3_addWish_49 : decode cX3_addWish 49 = .ok (.aload_n 0, 1) := by decide +kernel
theorem dX3_addWish_50 : decode cX3_addWish 50 = .ok (.dup, 1) := by decide +kernel
theorem dX3_addWish_51 : decode cX3_addWish 51 = .ok (.getfield 40, 3) := by decide +kernel
theorem dX3_addWish_54 : decode cX3_addWish 54 = .ok (.iconst 1, 1) := by decide +kernel
theorem dX3_addWish_55 : decode cX3_addWish 55 = .ok (.iadd, 1) := by decide +kernel
theorem dX3_addWish_56 : decode cX3_addWish 56 = .ok (.putfield 40, 3) := by decide +kernel
theorem dX3_addWish_59 : decode cX3_addWish 59 = .ok (.aload_n 0, 1) := by decide +kernel
theorem dX3_addWish_60 : decode cX3_addWish 60 = .ok (.getfield 40, 3) := by decide +kernel
theorem dX3_addWish_63 : decode cX3_addWish 63 = .ok (.ireturn, 1) := by decide +kernel
theorem dX3_wishesOf_0 : decode cX3_wishesOf 0 = .ok (.iconst 0, 1) := by decide +kernel
theorem dX3_wishesOf_1 : decode cX3_wishesOf 1 = .ok (.istore_n 2, 1) := by decide +kernel
theorem dX3_wishesOf_2 : decode cX3_wishesOf 2 = .ok (.iconst 0, 1) := by decide +kernel
theorem dX3_wishesOf_3 : decode cX3_wishesOf 3 = .ok (.istore_n 3, 1) := by decide +kernel
theorem dX3_wishesOf_4 : decode cX3_wishesOf 4 = .ok (.iload_n 3, 1) := by decide +kernel
theorem dX3_wishesOf_5 : decode cX3_wishesOf 5 = .ok (.aload_n 0, 1) := by decide +kernel
theorem dX3_wishesOf_6 : decode cX3_wishesOf 6 = .ok (.getfield 40, 3) := by decide +kernel
theorem dX3_wishesOf_9 : decode cX3_wishesOf 9 = .ok (.if_icmp .ge 32, 3) := by decide +kernel
theorem dX3_wishesOf_12 : decode cX3_wishesOf 12 = .ok (.aload_n 0, 1) := by decide +kernel
theorem dX3_wishesOf_13 : decode cX3_wishesOf 13 = .ok (.getfield 43, 3) := by decide +kernel
theorem dX3_wishesOf_16 : decode cX3_wishesOf 16 = .ok (.iload_n 3, 1) := by decide +kernel
theorem dX3_wishesOf_17 : decode cX3_wishesOf 17 = .ok (.iaload, 1) := by decide +kernel
theorem dX3_wishesOf_18 : decode cX3_wishesOf 18 = .ok (.iload_n 1, 1) := by decide +kernel
theorem dX3_wishesOf_19 : decode cX3_wishesOf 19 = .ok (.if_icmp .eq 13, 3) := by decide +kernel
theorem dX3_wishesOf_22 : decode cX3_wishesOf 22 = .ok (.aload_n 0, 1) := by decide +kernel
theorem dX3_wishesOf_23 : decode cX3_wishesOf 23 = .ok (.getfield 46, 3) := by decide +kernel
theorem dX3_wishesOf_26 : decode cX3_wishesOf 26 = .ok (.iload_n 3, 1) := by decide +kernel
theorem dX3_wishesOf_27 : decode cX3_wishesOf 27 = .ok (.iaload, 1) := by decide +kernel
theorem dX3_wishesOf_28 : decode cX3_wishesOf 28 = .ok (.iload_n 1, 1) := by decide +kernel
theorem dX3_wishesOf_29 : decode cX3_wishesOf 29 = .ok (.if_icmp .ne 6, 3) := by decide +kernel
theorem dX3_wishesOf_32 : decode cX3_wishesOf 32 = .ok (.iinc 2 1, 3) := by decide +kernel
theorem dX3_wishesOf_35 : decode cX3_wishesOf 35 = .ok (.iinc 3 1, 3) := by decide +kernel
theorem dX3_wishesOf_38 : decode cX3_wishesOf 38 = .ok (.goto (-34), 3) := by decide +kernel
theorem dX3_wishesOf_41 : decode cX3_wishesOf 41 = .ok (.iload_n 2, 1) := by decide +kernel
theorem dX3_wishesOf_42 : decode cX3_wishesOf 42 = .ok (.ireturn, 1) := by decide +kernel
theorem dX3_allWorths_0 : decode cX3_allWorths 0 = .ok (.iconst 0, 1) := by decide +kernel
theorem dX3_allWorths_1 : decode cX3_allWorths 1 = .ok (.istore_n 1, 1) := by decide +kernel
theorem dX3_allWorths_2 : decode cX3_allWorths 2 = .ok (.iconst 0, 1) := by decide +kernel
theorem dX3_allWorths_3 : decode cX3_allWorths 3 = .ok (.istore_n 2, 1) := by decide +kernel
theorem dX3_allWorths_4 : decode cX3_allWorths 4 = .ok (.iload_n 2, 1) := by decide +kernel
theorem dX3_allWorths_5 : decode cX3_allWorths 5 = .ok (.aload_n 0, 1) := by decide +kernel
theorem dX3_allWorths_6 : decode cX3_allWorths 6 = .ok (.getfield 40, 3) := by decide +kernel
theorem dX3_allWorths_9 : decode cX3_allWorths 9 = .ok (.if_icmp .ge 18, 3) := by decide +kernel
theorem dX3_allWorths_12 : decode cX3_allWorths 12 = .ok (.iload_n 1, 1) := by decide +kernel
theorem dX3_allWorths_13 : decode cX3_allWorths 13 = .ok (.aload_n 0, 1) := by decide +kernel
theorem dX3_allWorths_14 : decode cX3_allWorths 14 = .ok (.getfield 52, 3) := by decide +kernel
theorem dX3_allWorths_17 : decode cX3_allWorths 17 = .ok (.iload_n 2, 1) := by decide +kernel
theorem dX3_allWorths_18 : decode cX3_allWorths 18 = .ok (.iaload, 1) := by decide +kernel
theorem dX3_allWorths_19 : decode cX3_allWorths 19 = .ok (.iadd, 1) := by decide +kernel
theorem dX3_allWorths_20 : decode cX3_allWorths 20 = .ok (.istore_n 1, 1) := by decide +kernel
theorem dX3_allWorths_21 : decode cX3_allWorths 21 = .ok (.iinc 2 1, 3) := by decide +kernel
theorem dX3_allWorths_24 : decode cX3_allWorths 24 = .ok (.goto (-20), 3) := by decide +kernel
theorem dX3_allWorths_27 : decode cX3_allWorths 27 = .ok (.iload_n 1, 1) := by decide +kernel
theorem dX3_allWorths_28 : decode cX3_allWorths 28 = .ok (.ireturn, 1) := by decide +kernel
theorem dX3_allStrong_0 : decode cX3_allStrong 0 = .ok (.iconst 0, 1) := by decide +kernel
theorem dX3_allStrong_1 : decode cX3_allStrong 1 = .ok (.istore_n 1, 1) := by decide +kernel
theorem dX3_allStrong_2 : decode cX3_allStrong 2 = .ok (.iconst 0, 1) := by decide +kernel
theorem dX3_allStrong_3 : decode cX3_allStrong 3 = .ok (.istore_n 2, 1) := by decide +kernel
theorem dX3_allStrong_4 : decode cX3_allStrong 4 = .ok (.iload_n 2, 1) := by decide +kernel
theorem dX3_allStrong_5 : decode cX3_allStrong 5 = .ok (.aload_n 0, 1) := by decide +kernel
theorem dX3_allStrong_6 : decode cX3_allStrong 6 = .ok (.getfield 9, 3) := by decide +kernel
theorem dX3_allStrong_9 : decode cX3_allStrong 9 = .ok (.if_icmp .ge 18, 3) := by decide +kernel
theorem dX3_allStrong_12 : decode cX3_allStrong 12 = .ok (.iload_n 1, 1) := by decide +kernel
theorem dX3_allStrong_13 : decode cX3_allStrong 13 = .ok (.aload_n 0, 1) := by decide +kernel
theorem dX3_allStrong_14 : decode cX3_allStrong 14 = .ok (.getfield 15, 3) := by decide +kernel
theorem dX3_allStrong_17 : decode cX3_allStrong 17 = .ok (.iload_n 2, 1) := by decide +kernel
theorem dX3_allStrong_18 : decode cX3_allStrong 18 = .ok (.iaload, 1) := by decide +kernel
theorem dX3_allStrong_19 : decode cX3_allStrong 19 = .ok (.iadd, 1) := by decide +kernel
theorem dX3_allStrong_20 : decode cX3_allStrong 20 = .ok (.istore_n 1, 1) := by decide +kernel
theorem dX3_allStrong_21 : decode cX3_allStrong 21 = .ok (.iinc 2 1, 3) := by decide +kernel
theorem dX3_allStrong_24 : decode cX3_allStrong 24 = .ok (.goto (-20), 3) := by decide +kernel
theorem dX3_allStrong_27 : decode cX3_allStrong 27 = .ok (.iload_n 1, 1) := by decide +kernel
theorem dX3_allStrong_28 : decode cX3_allStrong 28 = .ok (.ireturn, 1) := by decide +kernel
theorem dX3_stand_0 : decode cX3_stand 0 = .ok (.aload_n 0, 1) := by decide +kernel
theorem dX3_stand_1 : decode cX3_stand 1 = .ok (.getfield 22, 3) := by decide +kernel
theorem dX3_stand_4 : decode cX3_stand 4 = .ok (.iload_n 1, 1) := by decide +kernel
theorem dX3_stand_5 : decode cX3_stand 5 = .ok (.iload_n 2, 1) := by decide +kernel
theorem dX3_stand_6 : decode cX3_stand 6 = .ok (.iastore, 1) := by decide +kernel
theorem dX3_stand_7 : decode cX3_stand 7 = .ok (.aload_n 0, 1) := by decide +kernel
theorem dX3_stand_8 : decode cX3_stand 8 = .ok (.getfield 25, 3) := by decide +kernel
theorem dX3_stand_11 : decode cX3_stand 11 = .ok (.iload_n 2, 1) := by decide +kernel
theorem dX3_stand_12 : decode cX3_stand 12 = .ok (.iload_n 1, 1) := by decide +kernel
theorem dX3_stand_13 : decode cX3_stand 13 = .ok (.iastore, 1) := by decide +kernel
theorem dX3_stand_14 : decode cX3_stand 14 = .ok (.return_, 1) := by decide +kernel
theorem dX3_exchange_0 : decode cX3_exchange 0 = .ok (.aload_n 0, 1) := by decide +kernel
theorem dX3_exchange_1 : decode cX3_exchange 1 = .ok (.getfield 22, 3) := by decide +kernel
theorem dX3_exchange_4 : decode cX3_exchange 4 = .ok (.iload_n 1, 1) := by decide +kernel
theorem dX3_exchange_5 : decode cX3_exchange 5 = .ok (.iaload, 1) := by decide +kernel
theorem dX3_exchange_6 : decode cX3_exchange 6 = .ok (.istore_n 3, 1) := by decide +kernel
theorem dX3_exchange_7 : decode cX3_exchange 7 = .ok (.aload_n 0, 1) := by decide +kernel
theorem dX3_exchange_8 : decode cX3_exchange 8 = .ok (.iload_n 1, 1) := by decide +kernel
theorem dX3_exchange_9 : decode cX3_exchange 9 = .ok (.aload_n 0, 1) := by decide +kernel
theorem dX3_exchange_10 : decode cX3_exchange 10 = .ok (.getfield 22, 3) := by decide +kernel
theorem dX3_exchange_13 : decode cX3_exchange 13 = .ok (.iload_n 2, 1) := by decide +kernel
theorem dX3_exchange_14 : decode cX3_exchange 14 = .ok (.iaload, 1) := by decide +kernel
theorem dX3_exchange_15 : decode cX3_exchange 15 = .ok (.invokevirtual 72, 3) := by decide +kernel
theorem dX3_exchange_18 : decode cX3_exchange 18 = .ok (.aload_n 0, 1) := by decide +kernel
theorem dX3_exchange_19 : decode cX3_exchange 19 = .ok (.iload_n 2, 1) := by decide +kernel
theorem dX3_exchange_20 : decode cX3_exchange 20 = .ok (.iload_n 3, 1) := by decide +kernel
theorem dX3_exchange_21 : decode cX3_exchange 21 = .ok (.invokevirtual 72, 3) := by decide +kernel
theorem dX3_exchange_24 : decode cX3_exchange 24 = .ok (.return_, 1) := by decide +kernel
theorem dX3_shift_0 : decode cX3_shift 0 = .ok (.aload_n 0, 1) := by decide +kernel
theorem dX3_shift_1 : decode cX3_shift 1 = .ok (.getfield 22, 3) := by decide +kernel
theorem dX3_shift_4 : decode cX3_shift 4 = .ok (.iload_n 1, 1) := by decide +kernel
theorem dX3_shift_5 : decode cX3_shift 5 = .ok (.iaload, 1) := by decide +kernel
theorem dX3_shift_6 : decode cX3_shift 6 = .ok (.istore_n 3, 1) := by decide +kernel
theorem dX3_shift_7 : decode cX3_shift 7 = .ok (.iload_n 3, 1) := by decide +kernel
theorem dX3_shift_8 : decode cX3_shift 8 = .ok (.istore 4, 2) := by decide +kernel
theorem dX3_shift_10 : decode cX3_shift 10 = .ok (.iload 4, 2) := by decide +kernel
theorem dX3_shift_12 : decode cX3_shift 12 = .ok (.iload_n 2, 1) := by decide +kernel
theorem dX3_shift_13 : decode cX3_shift 13 = .ok (.if_icmp .ge 24, 3) := by decide +kernel
theorem dX3_shift_16 : decode cX3_shift 16 = .ok (.aload_n 0, 1) := by decide +kernel
theorem dX3_shift_17 : decode cX3_shift 17 = .ok (.aload_n 0, 1) := by decide +kernel
theorem dX3_shift_18 : decode cX3_shift 18 = .ok (.getfield 25, 3) := by decide +kernel
theorem dX3_shift_21 : decode cX3_shift 21 = .ok (.iload 4, 2) := by decide +kernel
theorem dX3_shift_23 : decode cX3_shift 23 = .ok (.iconst 1, 1) := by decide +kernel
theorem dX3_shift_24 : decode cX3_shift 24 = .ok (.iadd, 1) := by decide +kernel
theorem dX3_shift_25 : decode cX3_shift 25 = .ok (.iaload, 1) := by decide +kernel
theorem dX3_shift_26 : decode cX3_shift 26 = .ok (.iload 4, 2) := by decide +kernel
theorem dX3_shift_28 : decode cX3_shift 28 = .ok (.invokevirtual 72, 3) := by decide +kernel
theorem dX3_shift_31 : decode cX3_shift 31 = .ok (.iinc 4 1, 3) := by decide +kernel
theorem dX3_shift_34 : decode cX3_shift 34 = .ok (.goto (-24), 3) := by decide +kernel
theorem dX3_shift_37 : decode cX3_shift 37 = .ok (.iload_n 3, 1) := by decide +kernel
theorem dX3_shift_38 : decode cX3_shift 38 = .ok (.istore 4, 2) := by decide +kernel
theorem dX3_shift_40 : decode cX3_shift 40 = .ok (.iload 4, 2) := by decide +kernel
theorem dX3_shift_42 : decode cX3_shift 42 = .ok (.iload_n 2, 1) := by decide +kernel
theorem dX3_shift_43 : decode cX3_shift 43 = .ok (.if_icmp .le 24, 3) := by decide +kernel
theorem dX3_shift_46 : decode cX3_shift 46 = .ok (.aload_n 0, 1) := by decide +kernel
theorem dX3_shift_47 : decode cX3_shift 47 = .ok (.aload_n 0, 1) := by decide +kernel
theorem dX3_shift_48 : decode cX3_shift 48 = .ok (.getfield 25, 3) := by decide +kernel
theorem dX3_shift_51 : decode cX3_shift 51 = .ok (.iload 4, 2) := by decide +kernel
theorem dX3_shift_53 : decode cX3_shift 53 = .ok (.iconst 1, 1) := by decide +kernel
theorem dX3_shift_54 : decode cX3_shift 54 = .ok (.isub, 1) := by decide +kernel
theorem dX3_shift_55 : decode cX3_shift 55 = .ok (.iaload, 1) := by decide +kernel
theorem dX3_shift_56 : decode cX3_shift 56 = .ok (.iload 4, 2) := by decide +kernel
theorem dX3_shift_58 : decode cX3_shift 58 = .ok (.invokevirtual 72, 3) := by decide +kernel
theorem dX3_shift_61 : decode cX3_shift 61 = .ok (.iinc 4 (-1), 3) := by decide +kernel
theorem dX3_shift_64 : decode cX3_shift 64 = .ok (.goto (-24), 3) := by decide +kernel
theorem dX3_shift_67 : decode cX3_shift 67 = .ok (.aload_n 0, 1) := by decide +kernel
theorem dX3_shift_68 : decode cX3_shift 68 = .ok (.iload_n 1, 1) := by decide +kernel
theorem dX3_shift_69 : decode cX3_shift 69 = .ok (.iload_n 2, 1) := by decide +kernel
theorem dX3_shift_70 : decode cX3_shift 70 = .ok (.invokevirtual 72, 3) := by decide +kernel
theorem dX3_shift_73 : decode cX3_shift 73 = .ok (.return_, 1) := by decide +kernel
theorem dX3_turnAbout_0 : decode cX3_turnAbout 0 = .ok (.iconst 0, 1) := by decide +kernel
theorem dX3_turnAbout_1 : decode cX3_turnAbout 1 = .ok (.istore_n 1, 1) := by decide +kernel
theorem dX3_turnAbout_2 : decode cX3_turnAbout 2 = .ok (.iload_n 1, 1) := by decide +kernel
theorem dX3_turnAbout_3 : decode cX3_turnAbout 3 = .ok (.aload_n 0, 1) := by decide +kernel
theorem dX3_turnAbout_4 : decode cX3_turnAbout 4 = .ok (.getfield 9, 3) := by decide +kernel
theorem dX3_turnAbout_7 : decode cX3_turnAbout 7 = .ok (.iconst 2, 1) := by decide +kernel
theorem dX3_turnAbout_8 : decode cX3_turnAbout 8 = .ok (.idiv, 1) := by decide +kernel
theorem dX3_turnAbout_9 : decode cX3_turnAbout 9 = .ok (.if_icmp .ge 32, 3) := by decide +kernel
theorem dX3_turnAbout_12 : decode cX3_turnAbout 12 = .ok (.aload_n 0, 1) := by decide +kernel
theorem dX3_turnAbout_13 : decode cX3_turnAbout 13 = .ok (.aload_n 0, 1) := by decide +kernel
theorem dX3_turnAbout_14 : decode cX3_turnAbout 14 = .ok (.getfield 25, 3) := by decide +kernel
theorem dX3_turnAbout_17 : decode cX3_turnAbout 17 = .ok (.iload_n 1, 1) := by decide +kernel
theorem dX3_turnAbout_18 : decode cX3_turnAbout 18 = .ok (.iaload, 1) := by decide +kernel
theorem dX3_turnAbout_19 : decode cX3_turnAbout 19 = .ok (.aload_n 0, 1) := by decide +kernel
theorem dX3_turnAbout_20 : decode cX3_turnAbout 20 = .ok (.getfield 25, 3) := by decide +kernel
theorem dX3_turnAbout_23 : decode cX3_turnAbout 23 = .ok (.aload_n 0, 1) := by decide +kernel
theorem dX3_turnAbout_24 : decode cX3_turnAbout 24 = .ok (.getfield 9, 3) := by decide +kernel
theorem dX3_turnAbout_27 : decode cX3_turnAbout 27 = .ok (.iconst 1, 1) := by decide +kernel
theorem dX3_turnAbout_28 : decode cX3_turnAbout 28 = .ok (.isub, 1) := by decide +kernel
theorem dX3_turnAbout_29 : decode cX3_turnAbout 29 = .ok (.iload_n 1, 1) := by decide +kernel
theorem dX3_turnAbout_30 : decode cX3_turnAbout 30 = .ok (.isub, 1) := by decide +kernel
theorem dX3_turnAbout_31 : decode cX3_turnAbout 31 = .ok (.iaload, 1) := by decide +kernel
theorem dX3_turnAbout_32 : decode cX3_turnAbout 32 = .ok (.invokevirtual 76, 3) := by decide +kernel
theorem dX3_turnAbout_35 : decode cX3_turnAbout 35 = .ok (.iinc 1 1, 3) := by decide +kernel
theorem dX3_turnAbout_38 : decode cX3_turnAbout 38 = .ok (.goto (-36), 3) := by decide +kernel
theorem dX3_turnAbout_41 : decode cX3_turnAbout 41 = .ok (.return_, 1) := by decide +kernel
theorem dX3_dropLast_0 : decode cX3_dropLast 0 = .ok (.aload_n 0, 1) := by decide +kernel
theorem dX3_dropLast_1 : decode cX3_dropLast 1 = .ok (.getfield 9, 3) := by decide +kernel
theorem dX3_dropLast_4 : decode cX3_dropLast 4 = .ok (.iconst 1, 1) := by decide +kernel
theorem dX3_dropLast_5 : decode cX3_dropLast 5 = .ok (.isub, 1) := by decide +kernel
theorem dX3_dropLast_6 : decode cX3_dropLast 6 = .ok (.istore_n 1, 1) := by decide +kernel
theorem dX3_dropLast_7 : decode cX3_dropLast 7 = .ok (.aload_n 0, 1) := by decide +kernel
theorem dX3_dropLast_8 : decode cX3_dropLast 8 = .ok (.iload_n 1, 1) := by decide +kernel
theorem dX3_dropLast_9 : decode cX3_dropLast 9 = .ok (.iload_n 1, 1) := by decide +kernel
theorem dX3_dropLast_10 : decode cX3_dropLast 10 = .ok (.invokevirtual 79, 3) := by decide +kernel
theorem dX3_dropLast_13 : decode cX3_dropLast 13 = .ok (.aload_n 0, 1) := by decide +kernel
theorem dX3_dropLast_14 : decode cX3_dropLast 14 = .ok (.iload_n 1, 1) := by decide +kernel
theorem dX3_dropLast_15 : decode cX3_dropLast 15 = .ok (.putfield 9, 3) := by decide +kernel
theorem dX3_dropLast_18 : decode cX3_dropLast 18 = .ok (.iconst 0, 1) := by decide +kernel
theorem dX3_dropLast_19 : decode cX3_dropLast 19 = .ok (.istore_n 2, 1) := by decide +kernel
theorem dX3_dropLast_20 : decode cX3_dropLast 20 = .ok (.iconst 0, 1) := by decide +kernel
theorem dX3_dropLast_21 : decode cX3_dropLast 21 = .ok (.istore_n 3, 1) := by decide +kernel
theorem dX3_dropLast_22 : decode cX3_dropLast 22 = .ok (.iload_n 3, 1) := by decide +kernel
theorem dX3_dropLast_23 : decode cX3_dropLast 23 = .ok (.aload_n 0, 1) := by decide +kernel
theorem dX3_dropLast_24 : decode cX3_dropLast 24 = .ok (.getfield 40, 3) := by decide +kernel
theorem dX3_dropLast_27 : decode cX3_dropLast 27 = .ok (.if_icmp .ge 80, 3) := by decide +kernel
theorem dX3_dropLast_30 : decode cX3_dropLast 30 = .ok (.aload_n 0, 1) := by decide +kernel
theorem dX3_dropLast_31 : decode cX3_dropLast 31 = .ok (.getfield 43, 3) := by decide +kernel
theorem dX3_dropLast_34 : decode cX3_dropLast 34 = .ok (.iload_n 3, 1) := by decide +kernel
theorem dX3_dropLast_35 : decode cX3_dropLast 35 = .ok (.iaload, 1) := by decide +kernel
theorem dX3_dropLast_36 : decode cX3_dropLast 36 = .ok (.iload_n 1, 1) := by decide +kernel
theorem dX3_dropLast_37 : decode cX3_dropLast 37 = .ok (.if_icmp .eq 64, 3) := by decide +kernel
theorem dX3_dropLast_40 : decode cX3_dropLast 40 = .ok (.aload_n 0, 1) := by decide +kernel
theorem dX3_dropLast_41 : decode cX3_dropLast 41 = .ok (.getfield 46, 3) := by decide +kernel
theorem dX3_dropLast_44 : decode cX3_dropLast 44 = .ok (.iload_n 3, 1) := by decide +kernel
theorem dX3_dropLast_45 : decode cX3_dropLast 45 = .ok (.iaload, 1) := by decide +kernel
theorem dX3_dropLast_46 : decode cX3_dropLast 46 = .ok (.iload_n 1, 1) := by decide +kernel
theorem dX3_dropLast_47 : decode cX3_dropLast 47 = .ok (.if_icmp .eq 54, 3) := by decide +kernel
theorem dX3_dropLast_50 : decode cX3_dropLast 50 = .ok (.aload_n 0, 1) := by decide +kernel
theorem dX3_dropLast_51 : decode cX3_dropLast 51 = .ok (.getfield 43, 3) := by decide +kernel
theorem dX3_dropLast_54 : decode cX3_dropLast 54 = .ok (.iload_n 2, 1) := by decide +kernel
theorem dX3_dropLast_55 : decode cX3_dropLast 55 = .ok (.aload_n 0, 1) := by decide +kernel
theorem dX3_dropLast_56 : decode cX3_dropLast 56 = .ok (.getfield 43, 3) := by decide +kernel
theorem dX3_dropLast_59 : decode cX3_dropLast 59 = .ok (.iload_n 3, 1) := by decide +kernel
theorem dX3_dropLast_60 : decode cX3_dropLast 60 = .ok (.iaload, 1) := by decide +kernel
theorem dX3_dropLast_61 : decode cX3_dropLast 61 = .ok (.iastore, 1) := by decide +kernel
theorem dX3_dropLast_62 : decode cX3_dropLast 62 = .ok (.aload_n 0, 1) := by decide +kernel
theorem dX3_dropLast_63 : decode cX3_dropLast 63 = .ok (.getfield 46, 3) := by decide +kernel
theorem dX3_dropLast_66 : decode cX3_dropLast 66 = .ok (.iload_n 2, 1) := by decide +kernel
theorem dX3_dropLast_67 : decode cX3_dropLast 67 = .ok (.aload_n 0, 1) := by decide +kernel
theorem dX3_dropLast_68 : decode cX3_dropLast 68 = .ok (.getfield 46, 3) := by decide +kernel
theorem dX3_dropLast_71 : decode cX3_dropLast 71 = .ok (.iload_n 3, 1) := by decide +kernel
theorem dX3_dropLast_72 : decode cX3_dropLast 72 = .ok (.iaload, 1) := by decide +kernel
theorem dX3_dropLast_73 : decode cX3_dropLast 73 = .ok (.iastore, 1) := by decide +kernel
theorem dX3_dropLast_74 : decode cX3_dropLast 74 = .ok (.aload_n 0, 1) := by decide +kernel
theorem dX3_dropLast_75 : decode cX3_dropLast 75 = .ok (.getfield 49, 3) := by decide +kernel
theorem dX3_dropLast_78 : decode cX3_dropLast 78 = .ok (.iload_n 2, 1) := by decide +kernel
theorem dX3_dropLast_79 : decode cX3_dropLast 79 = .ok (.aload_n 0, 1) := by decide +kernel
theorem dX3_dropLast_80 : decode cX3_dropLast 80 = .ok (.getfield 49, 3) := by decide +kernel
theorem dX3_dropLast_83 : decode cX3_dropLast 83 = .ok (.iload_n 3, 1) := by decide +kernel
theorem dX3_dropLast_84 : decode cX3_dropLast 84 = .ok (.iaload, 1) := by decide +kernel
theorem dX3_dropLast_85 : decode cX3_dropLast 85 = .ok (.iastore, 1) := by decide +kernel
theorem dX3_dropLast_86 : decode cX3_dropLast 86 = .ok (.aload_n 0, 1) := by decide +kernel
theorem dX3_dropLast_87 : decode cX3_dropLast 87 = .ok (.getfield 52, 3) := by decide +kernel
theorem dX3_dropLast_90 : decode cX3_dropLast 90 = .ok (.iload_n 2, 1) := by decide +kernel
theorem dX3_dropLast_91 : decode cX3_dropLast 91 = .ok (.aload_n 0, 1) := by decide +kernel
theorem dX3_dropLast_92 : decode cX3_dropLast 92 = .ok (.getfield 52, 3) := by decide +kernel
theorem dX3_dropLast_95 : decode cX3_dropLast 95 = .ok (.iload_n 3, 1) := by decide +kernel
theorem dX3_dropLast_96 : decode cX3_dropLast 96 = .ok (.iaload, 1) := by decide +kernel
theorem dX3_dropLast_97 : decode cX3_dropLast 97 = .ok (.iastore, 1) := by decide +kernel
theorem dX3_dropLast_98 : decode cX3_dropLast 98 = .ok (.iinc 2 1, 3) := by decide +kernel
theorem dX3_dropLast_101 : decode cX3_dropLast 101 = .ok (.iinc 3 1, 3) := by decide +kernel
theorem dX3_dropLast_104 : decode cX3_dropLast 104 = .ok (.goto (-82), 3) := by decide +kernel
theorem dX3_dropLast_107 : decode cX3_dropLast 107 = .ok (.aload_n 0, 1) := by decide +kernel
theorem dX3_dropLast_108 : decode cX3_dropLast 108 = .ok (.iload_n 2, 1) := by decide +kernel
theorem dX3_dropLast_109 : decode cX3_dropLast 109 = .ok (.putfield 40, 3) := by decide +kernel
theorem dX3_dropLast_112 : decode cX3_dropLast 112 = .ok (.return_, 1) := by decide +kernel
theorem dX3_inReach_0 : decode cX3_inReach 0 = .ok (.aload_n 0, 1) := by decide +kernel
theorem dX3_inReach_1 : decode cX3_inReach 1 = .ok (.getfield 22, 3) := by decide +kernel
theorem dX3_inReach_4 : decode cX3_inReach 4 = .ok (.iload_n 1, 1) := by decide +kernel
theorem dX3_inReach_5 : decode cX3_inReach 5 = .ok (.iaload, 1) := by decide +kernel
theorem dX3_inReach_6 : decode cX3_inReach 6 = .ok (.aload_n 0, 1) := by decide +kernel
theorem dX3_inReach_7 : decode cX3_inReach 7 = .ok (.getfield 22, 3) := by decide +kernel
theorem dX3_inReach_10 : decode cX3_inReach 10 = .ok (.iload_n 2, 1) := by decide +kernel
theorem dX3_inReach_11 : decode cX3_inReach 11 = .ok (.iaload, 1) := by decide +kernel
theorem dX3_inReach_12 : decode cX3_inReach 12 = .ok (.isub, 1) := by decide +kernel
theorem dX3_inReach_13 : decode cX3_inReach 13 = .ok (.invokestatic 82, 3) := by decide +kernel
theorem dX3_inReach_16 : decode cX3_inReach 16 = .ok (.istore_n 3, 1) := by decide +kernel
theorem dX3_inReach_17 : decode cX3_inReach 17 = .ok (.iload_n 3, 1) := by decide +kernel
theorem dX3_inReach_18 : decode cX3_inReach 18 = .ok (.aload_n 0, 1) := by decide +kernel
theorem dX3_inReach_19 : decode cX3_inReach 19 = .ok (.getfield 19, 3) := by decide +kernel
theorem dX3_inReach_22 : decode cX3_inReach 22 = .ok (.iload_n 1, 1) := by decide +kernel
theorem dX3_inReach_23 : decode cX3_inReach 23 = .ok (.iaload, 1) := by decide +kernel
theorem dX3_inReach_24 : decode cX3_inReach 24 = .ok (.if_icmp .gt 17, 3) := by decide +kernel
theorem dX3_inReach_27 : decode cX3_inReach 27 = .ok (.iload_n 3, 1) := by decide +kernel
theorem dX3_inReach_28 : decode cX3_inReach 28 = .ok (.aload_n 0, 1) := by decide +kernel
theorem dX3_inReach_29 : decode cX3_inReach 29 = .ok (.getfield 19, 3) := by decide +kernel
theorem dX3_inReach_32 : decode cX3_inReach 32 = .ok (.iload_n 2, 1) := by decide +kernel
theorem dX3_inReach_33 : decode cX3_inReach 33 = .ok (.iaload, 1) := by decide +kernel
theorem dX3_inReach_34 : decode cX3_inReach 34 = .ok (.if_icmp .gt 7, 3) := by decide +kernel
theorem dX3_inReach_37 : decode cX3_inReach 37 = .ok (.iconst 1, 1) := by decide +kernel
theorem dX3_inReach_38 : decode cX3_inReach 38 = .ok (.goto 4, 3) := by decide +kernel
theorem dX3_inReach_41 : decode cX3_inReach 41 = .ok (.iconst 0, 1) := by decide +kernel
theorem dX3_inReach_42 : decode cX3_inReach 42 = .ok (.ireturn, 1) := by decide +kernel
theorem dX3_changeAsTold_0 : decode cX3_changeAsTold 0 = .ok (.lload_n 1, 1) := by decide +kernel
theorem dX3_changeAsTold_1 : decode cX3_changeAsTold 1 = .ok (.lconst 0, 1) := by decide +kernel
theorem dX3_changeAsTold_2 : decode cX3_changeAsTold 2 = .ok (.lcmp, 1) := by decide +kernel
theorem dX3_changeAsTold_3 : decode cX3_changeAsTold 3 = .ok (.ifCond .lt 11, 3) := by decide +kernel
theorem dX3_changeAsTold_6 : decode cX3_changeAsTold 6 = .ok (.lload_n 1, 1) := by decide +kernel
theorem dX3_changeAsTold_7 : decode cX3_changeAsTold 7 = .ok (.ldc2_w 88, 3) := by decide +kernel
theorem dX3_changeAsTold_10 : decode cX3_changeAsTold 10 = .ok (.lcmp, 1) := by decide +kernel
theorem dX3_changeAsTold_11 : decode cX3_changeAsTold 11 = .ok (.ifCond .lt 5, 3) := by decide +kernel
theorem dX3_changeAsTold_14 : decode cX3_changeAsTold 14 = .ok (.iconst 0, 1) := by decide +kernel
theorem dX3_changeAsTold_15 : decode cX3_changeAsTold 15 = .ok (.ireturn, 1) := by decide +kernel
theorem dX3_changeAsTold_16 : decode cX3_changeAsTold 16 = .ok (.lload_n 1, 1) := by decide +kernel
theorem dX3_changeAsTold_17 : decode cX3_changeAsTold 17 = .ok (.l2i, 1) := by decide +kernel
theorem dX3_changeAsTold_18 : decode cX3_changeAsTold 18 = .ok (.bipush 100, 2) := by decide +kernel
theorem dX3_changeAsTold_20 : decode cX3_changeAsTold 20 = .ok (.idiv, 1) := by decide +kernel
theorem dX3_changeAsTold_21 : decode cX3_changeAsTold 21 = .ok (.istore_n 3, 1) := by decide +kernel
theorem dX3_changeAsTold_22 : decode cX3_changeAsTold 22 = .ok (.lload_n 1, 1) := by decide +kernel
theorem dX3_changeAsTold_23 : decode cX3_changeAsTold 23 = .ok (.l2i, 1) := by decide +kernel
theorem dX3_changeAsTold_24 : decode cX3_changeAsTold 24 = .ok (.bipush 100, 2) := by decide +kernel
theorem dX3_changeAsTold_26 : decode cX3_changeAsTold 26 = .ok (.irem, 1) := by decide +kernel
theorem dX3_changeAsTold_27 : decode cX3_changeAsTold 27 = .ok (.istore 4, 2) := by decide +kernel
theorem dX3_changeAsTold_29 : decode cX3_changeAsTold 29 = .ok (.aload_n 0, 1) := by decide +kernel
theorem dX3_changeAsTold_30 : decode cX3_changeAsTold 30 = .ok (.iload_n 3, 1) := by decide +kernel
theorem dX3_changeAsTold_31 : decode cX3_changeAsTold 31 = .ok (.invokevirtual 90, 3) := by decide +kernel
theorem dX3_changeAsTold_34 : decode cX3_changeAsTold 34 = .ok (.ifCond .eq 28, 3) := by decide +kernel
theorem dX3_changeAsTold_37 : decode cX3_changeAsTold 37 = .ok (.aload_n 0, 1) := by decide +kernel
theorem dX3_changeAsTold_38 : decode cX3_changeAsTold 38 = .ok (.iload 4, 2) := by decide +kernel
theorem dX3_changeAsTold_40 : decode cX3_changeAsTold 40 = .ok (.invokevirtual 90, 3) := by decide +kernel
theorem dX3_changeAsTold_43 : decode cX3_changeAsTold 43 = .ok (.ifCond .eq 19, 3) := by decide +kernel
theorem dX3_changeAsTold_46 : decode cX3_changeAsTold 46 = .ok (.iload_n 3, 1) := by decide +kernel
theorem dX3_changeAsTold_47 : decode cX3_changeAsTold 47 = .ok (.iload 4, 2) := by decide +kernel
theorem dX3_changeAsTold_49 : decode cX3_changeAsTold 49 = .ok (.if_icmp .eq 13, 3) := by decide +kernel
theorem dX3_changeAsTold_52 : decode cX3_changeAsTold 52 = .ok (.aload_n 0, 1) := by decide +kernel
theorem dX3_changeAsTold_53 : decode cX3_changeAsTold 53 = .ok (.iload_n 3, 1) := by decide +kernel
theorem dX3_changeAsTold_54 : decode cX3_changeAsTold 54 = .ok (.iload 4, 2) := by decide +kernel
theorem dX3_changeAsTold_56 : decode cX3_changeAsTold 56 = .ok (.invokevirtual 93, 3) := by decide +kernel
theorem dX3_changeAsTold_59 : decode cX3_changeAsTold 59 = .ok (.ifCond .ne 5, 3) := by decide +kernel
theorem dX3_changeAsTold_62 : decode cX3_changeAsTold 62 = .ok (.iconst 0, 1) := by decide +kernel
theorem dX3_changeAsTold_63 : decode cX3_changeAsTold 63 = .ok (.ireturn, 1) := by decide +kernel
theorem dX3_changeAsTold_64 : decode cX3_changeAsTold 64 = .ok (.aload_n 0, 1) := by decide +kernel
theorem dX3_changeAsTold_65 : decode cX3_changeAsTold 65 = .ok (.iload_n 3, 1) := by decide +kernel
theorem dX3_changeAsTold_66 : decode cX3_changeAsTold 66 = .ok (.iload 4, 2) := by decide +kernel
theorem dX3_changeAsTold_68 : decode cX3_changeAsTold 68 = .ok (.invokevirtual 76, 3) := by decide +kernel
theorem dX3_changeAsTold_71 : decode cX3_changeAsTold 71 = .ok (.iconst 1, 1) := by decide +kernel
theorem dX3_changeAsTold_72 : decode cX3_changeAsTold 72 = .ok (.ireturn, 1) := by decide +kernel
theorem dX3_draw_0 : decode cX3_draw 0 = .ok (.aload_n 0, 1) := by decide +kernel
theorem dX3_draw_1 : decode cX3_draw 1 = .ok (.aload_n 0, 1) := by decide +kernel
theorem dX3_draw_2 : decode cX3_draw 2 = .ok (.getfield 55, 3) := by decide +kernel
theorem dX3_draw_5 : decode cX3_draw 5 = .ok (.ldc 97, 2) := by decide +kernel
theorem dX3_draw_7 : decode cX3_draw 7 = .ok (.imul, 1) := by decide +kernel
theorem dX3_draw_8 : decode cX3_draw 8 = .ok (.sipush 12345, 3) := by decide +kernel
theorem dX3_draw_11 : decode cX3_draw 11 = .ok (.iadd, 1) := by decide +kernel
theorem dX3_draw_12 : decode cX3_draw 12 = .ok (.putfield 55, 3) := by decide +kernel
theorem dX3_draw_15 : decode cX3_draw 15 = .ok (.iload_n 1, 1) := by decide +kernel
theorem dX3_draw_16 : decode cX3_draw 16 = .ok (.ifCond .le 15, 3) := by decide +kernel
theorem dX3_draw_19 : decode cX3_draw 19 = .ok (.aload_n 0, 1) := by decide +kernel
theorem dX3_draw_20 : decode cX3_draw 20 = .ok (.getfield 55, 3) := by decide +kernel
theorem dX3_draw_23 : decode cX3_draw 23 = .ok (.bipush 16, 2) := by decide +kernel
theorem dX3_draw_25 : decode cX3_draw 25 = .ok (.iushr, 1) := by decide +kernel
theorem dX3_draw_26 : decode cX3_draw 26 = .ok (.iload_n 1, 1) := by decide +kernel
theorem dX3_draw_27 : decode cX3_draw 27 = .ok (.irem, 1) := by decide +kernel
theorem dX3_draw_28 : decode cX3_draw 28 = .ok (.goto 4, 3) := by decide +kernel
theorem dX3_draw_31 : decode cX3_draw 31 = .ok (.iconst 0, 1) := by decide +kernel
theorem dX3_draw_32 : decode cX3_draw 32 = .ok (.ireturn, 1) := by decide +kernel
theorem dX3_evenPlaces_0 : decode cX3_evenPlaces 0 = .ok (.aload_n 0, 1) := by decide +kernel
theorem dX3_evenPlaces_1 : decode cX3_evenPlaces 1 = .ok (.getfield 9, 3) := by decide +kernel
theorem dX3_evenPlaces_4 : decode cX3_evenPlaces 4 = .ok (.iconst 1, 1) := by decide +kernel
theorem dX3_evenPlaces_5 : decode cX3_evenPlaces 5 = .ok (.iadd, 1) := by decide +kernel
theorem dX3_evenPlaces_6 : decode cX3_evenPlaces 6 = .ok (.iconst 2, 1) := by decide +kernel
theorem dX3_evenPlaces_7 : decode cX3_evenPlaces 7 = .ok (.idiv, 1) := by decide +kernel
theorem dX3_evenPlaces_8 : decode cX3_evenPlaces 8 = .ok (.ireturn, 1) := by decide +kernel
theorem dX3_sideAt_0 : decode cX3_sideAt 0 = .ok (.aload_n 0, 1) := by decide +kernel
theorem dX3_sideAt_1 : decode cX3_sideAt 1 = .ok (.getfield 34, 3) := by decide +kernel
theorem dX3_sideAt_4 : decode cX3_sideAt 4 = .ok (.iload_n 1, 1) := by decide +kernel
theorem dX3_sideAt_5 : decode cX3_sideAt 5 = .ok (.iaload, 1) := by decide +kernel
theorem dX3_sideAt_6 : decode cX3_sideAt 6 = .ok (.istore_n 3, 1) := by decide +kernel
theorem dX3_sideAt_7 : decode cX3_sideAt 7 = .ok (.iload_n 3, 1) := by decide +kernel
theorem dX3_sideAt_8 : decode cX3_sideAt 8 = .ok (.iconst 2, 1) := by decide +kernel
theorem dX3_sideAt_9 : decode cX3_sideAt 9 = .ok (.if_icmp .ge 5, 3) := by decide +kernel
theorem dX3_sideAt_12 : decode cX3_sideAt 12 = .ok (.iconst 0, 1) := by decide +kernel
theorem dX3_sideAt_13 : decode cX3_sideAt 13 = .ok (.ireturn, 1) := by decide +kernel
theorem dX3_sideAt_14 : decode cX3_sideAt 14 = .ok (.aload_n 0, 1) := by decide +kernel
theorem dX3_sideAt_15 : decode cX3_sideAt 15 = .ok (.getfield 37, 3) := by decide +kernel
theorem dX3_sideAt_18 : decode cX3_sideAt 18 = .ok (.iload_n 1, 1) := by decide +kernel
theorem dX3_sideAt_19 : decode cX3_sideAt 19 = .ok (.iaload, 1) := by decide +kernel
theorem dX3_sideAt_20 : decode cX3_sideAt 20 = .ok (.ifCond .le 17, 3) := by decide +kernel
theorem dX3_sideAt_23 : decode cX3_sideAt 23 = .ok (.iload_n 2, 1) := by decide +kernel
theorem dX3_sideAt_24 : decode cX3_sideAt 24 = .ok (.aload_n 0, 1) := by decide +kernel
theorem dX3_sideAt_25 : decode cX3_sideAt 25 = .ok (.getfield 37, 3) := by decide +kernel
theorem dX3_sideAt_28 : decode cX3_sideAt 28 = .ok (.iload_n 1, 1) := by decide +kernel
theorem dX3_sideAt_29 : decode cX3_sideAt 29 = .ok (.iaload, 1) := by decide +kernel
theorem dX3_sideAt_30 : decode cX3_sideAt 30 = .ok (.if_icmp .lt 7, 3) := by decide +kernel
theorem dX3_sideAt_33 : decode cX3_sideAt 33 = .ok (.iconst 1, 1) := by decide +kernel
theorem dX3_sideAt_34 : decode cX3_sideAt 34 = .ok (.goto 4, 3) := by decide +kernel
theorem dX3_sideAt_37 : decode cX3_sideAt 37 = .ok (.iconst 0, 1) := by decide +kernel
theorem dX3_sideAt_38 : decode cX3_sideAt 38 = .ok (.istore 4, 2) := by decide +kernel
theorem dX3_sideAt_40 : decode cX3_sideAt 40 = .ok (.aload_n 0, 1) := by decide +kernel
theorem dX3_sideAt_41 : decode cX3_sideAt 41 = .ok (.getfield 31, 3) := by decide +kernel
theorem dX3_sideAt_44 : decode cX3_sideAt 44 = .ok (.iload_n 1, 1) := by decide +kernel
theorem dX3_sideAt_45 : decode cX3_sideAt 45 = .ok (.iaload, 1) := by decide +kernel
theorem dX3_sideAt_46 : decode cX3_sideAt 46 = .ok (.tableswitch 117 1 5 #[34, 45, 68, 85, 100], 34) := by decide +kernel
theorem dX3_sideAt_80 : decode cX3_sideAt 80 = .ok (.aload_n 0, 1) := by decide +kernel
theorem dX3_sideAt_81 : decode cX3_sideAt 81 = .ok (.getfield 9, 3) := by decide +kernel
theorem dX3_sideAt_84 : decode cX3_sideAt 84 = .ok (.iconst 1, 1) := by decide +kernel
theorem dX3_sideAt_85 : decode cX3_sideAt 85 = .ok (.isub, 1) := by decide +kernel
theorem dX3_sideAt_86 : decode cX3_sideAt 86 = .ok (.iload_n 2, 1) := by decide +kernel
theorem dX3_sideAt_87 : decode cX3_sideAt 87 = .ok (.isub, 1) := by decide +kernel
theorem dX3_sideAt_88 : decode cX3_sideAt 88 = .ok (.iload_n 3, 1) := by decide +kernel
theorem dX3_sideAt_89 : decode cX3_sideAt 89 = .ok (.irem, 1) := by decide +kernel
theorem dX3_sideAt_90 : decode cX3_sideAt 90 = .ok (.ireturn, 1) := by decide +kernel
theorem dX3_sideAt_91 : decode cX3_sideAt 91 = .ok (.iload_n 2, 1) := by decide +kernel
theorem dX3_sideAt_92 : decode cX3_sideAt 92 = .ok (.iconst 2, 1) := by decide +kernel
theorem dX3_sideAt_93 : decode cX3_sideAt 93 = .ok (.irem, 1) := by decide +kernel
theorem dX3_sideAt_94 : decode cX3_sideAt 94 = .ok (.ifCond .ne 9, 3) := by decide +kernel
theorem dX3_sideAt_97 : decode cX3_sideAt 97 = .ok (.iload_n 2, 1) := by decide +kernel
theorem dX3_sideAt_98 : decode cX3_sideAt 98 = .ok (.iconst 2, 1) := by decide +kernel
theorem dX3_sideAt_99 : decode cX3_sideAt 99 = .ok (.idiv, 1) := by decide +kernel
theorem dX3_sideAt_100 : decode cX3_sideAt 100 = .ok (.goto 11, 3) := by decide +kernel
theorem dX3_sideAt_103 : decode cX3_sideAt 103 = .ok (.aload_n 0, 1) := by decide +kernel
theorem dX3_sideAt_104 : decode cX3_sideAt 104 = .ok (.invokevirtual 98, 3) := by decide +kernel
theorem dX3_sideAt_107 : decode cX3_sideAt 107 = .ok (.iload_n 2, 1) := by decide +kernel
theorem dX3_sideAt_108 : decode cX3_sideAt 108 = .ok (.iconst 2, 1) := by decide +kernel
theorem dX3_sideAt_109 : decode cX3_sideAt 109 = .ok (.idiv, 1) := by decide +kernel
theorem dX3_sideAt_110 : decode cX3_sideAt 110 = .ok (.iadd, 1) := by decide +kernel
theorem dX3_sideAt_111 : decode cX3_sideAt 111 = .ok (.iload_n 3, 1) := by decide +kernel
theorem dX3_sideAt_112 : decode cX3_sideAt 112 = .ok (.irem, 1) := by decide +kernel
theorem dX3_sideAt_113 : decode cX3_sideAt 113 = .ok (.ireturn, 1) := by decide +kernel
theorem dX3_sideAt_114 : decode cX3_sideAt 114 = .ok (.iload 4, 2) := by decide +kernel
theorem dX3_sideAt_116 : decode cX3_sideAt 116 = .ok (.ifCond .eq 11, 3) := by decide +kernel
theorem dX3_sideAt_119 : decode cX3_sideAt 119 = .ok (.iload_n 2, 1) := by decide +kernel
theorem dX3_sideAt_120 : decode cX3_sideAt 120 = .ok (.iconst 1, 1) := by decide +kernel
theorem dX3_sideAt_121 : decode cX3_sideAt 121 = .ok (.isub, 1) := by decide +kernel
theorem dX3_sideAt_122 : decode cX3_sideAt 122 = .ok (.iload_n 3, 1) := by decide +kernel
theorem dX3_sideAt_123 : decode cX3_sideAt 123 = .ok (.irem, 1) := by decide +kernel
theorem dX3_sideAt_124 : decode cX3_sideAt 124 = .ok (.goto 6, 3) := by decide +kernel
theorem dX3_sideAt_127 : decode cX3_sideAt 127 = .ok (.iload_n 2, 1) := by decide +kernel
theorem dX3_sideAt_128 : decode cX3_sideAt 128 = .ok (.iload_n 3, 1) := by decide +kernel
theorem dX3_sideAt_129 : decode cX3_sideAt 129 = .ok (.irem, 1) := by decide +kernel
theorem dX3_sideAt_130 : decode cX3_sideAt 130 = .ok (.ireturn, 1) := by decide +kernel
theorem dX3_sideAt_131 : decode cX3_sideAt 131 = .ok (.iload_n 3, 1) := by decide +kernel
theorem dX3_sideAt_132 : decode cX3_sideAt 132 = .ok (.iconst 1, 1) := by decide +kernel
theorem dX3_sideAt_133 : decode cX3_sideAt 133 = .ok (.isub, 1) := by decide +kernel
theorem dX3_sideAt_134 : decode cX3_sideAt 134 = .ok (.aload_n 0, 1) := by decide +kernel
theorem dX3_sideAt_135 : decode cX3_sideAt 135 = .ok (.getfield 9, 3) := by decide +kernel
theorem dX3_sideAt_138 : decode cX3_sideAt 138 = .ok (.iconst 1, 1) := by decide +kernel
theorem dX3_sideAt_139 : decode cX3_sideAt 139 = .ok (.isub, 1) := by decide +kernel
theorem dX3_sideAt_140 : decode cX3_sideAt 140 = .ok (.iload_n 2, 1) := by decide +kernel
theorem dX3_sideAt_141 : decode cX3_sideAt 141 = .ok (.isub, 1) := by decide +kernel
theorem dX3_sideAt_142 : decode cX3_sideAt 142 = .ok (.iload_n 3, 1) := by decide +kernel
theorem dX3_sideAt_143 : decode cX3_sideAt 143 = .ok (.irem, 1) := by decide +kernel
theorem dX3_sideAt_144 : decode cX3_sideAt 144 = .ok (.isub, 1) := by decide +kernel
theorem dX3_sideAt_145 : decode cX3_sideAt 145 = .ok (.ireturn, 1) := by decide +kernel
theorem dX3_sideAt_146 : decode cX3_sideAt 146 = .ok (.iload 4, 2) := by decide +kernel
theorem dX3_sideAt_148 : decode cX3_sideAt 148 = .ok (.ifCond .eq 9, 3) := by decide +kernel
theorem dX3_sideAt_151 : decode cX3_sideAt 151 = .ok (.iload_n 2, 1) := by decide +kernel
theorem dX3_sideAt_152 : decode cX3_sideAt 152 = .ok (.iload_n 3, 1) := by decide +kernel
theorem dX3_sideAt_153 : decode cX3_sideAt 153 = .ok (.irem, 1) := by decide +kernel
theorem dX3_sideAt_154 : decode cX3_sideAt 154 = .ok (.goto 8, 3) := by decide +kernel
theorem dX3_sideAt_157 : decode cX3_sideAt 157 = .ok (.iload_n 2, 1) := by decide +kernel
theorem dX3_sideAt_158 : decode cX3_sideAt 158 = .ok (.iconst 1, 1) := by decide +kernel
theorem dX3_sideAt_159 : decode cX3_sideAt 159 = .ok (.iadd, 1) := by decide +kernel
theorem dX3_sideAt_160 : decode cX3_sideAt 160 = .ok (.iload_n 3, 1) := by decide +kernel
theorem dX3_sideAt_161 : decode cX3_sideAt 161 = .ok (.irem, 1) := by decide +kernel
theorem dX3_sideAt_162 : decode cX3_sideAt 162 = .ok (.ireturn, 1) := by decide +kernel
theorem dX3_sideAt_163 : decode cX3_sideAt 163 = .ok (.iload_n 2, 1) := by decide +kernel
theorem dX3_sideAt_164 : decode cX3_sideAt 164 = .ok (.iload_n 3, 1) := by decide +kernel
theorem dX3_sideAt_165 : decode cX3_sideAt 165 = .ok (.irem, 1) := by decide +kernel
theorem dX3_sideAt_166 : decode cX3_sideAt 166 = .ok (.ireturn, 1) := by decide +kernel
theorem dX3_sideOf_0 : decode cX3_sideOf 0 = .ok (.aload_n 0, 1) := by decide +kernel
theorem dX3_sideOf_1 : decode cX3_sideOf 1 = .ok (.iload_n 1, 1) := by decide +kernel
theorem dX3_sideOf_2 : decode cX3_sideOf 2 = .ok (.aload_n 0, 1) := by decide +kernel
theorem dX3_sideOf_3 : decode cX3_sideOf 3 = .ok (.getfield 22, 3) := by decide +kernel
theorem dX3_sideOf_6 : decode cX3_sideOf 6 = .ok (.iload_n 2, 1) := by decide +kernel
theorem dX3_sideOf_7 : decode cX3_sideOf 7 = .ok (.iaload, 1) := by decide +kernel
theorem dX3_sideOf_8 : decode cX3_sideOf 8 = .ok (.invokevirtual 102, 3) := by decide +kernel
theorem dX3_sideOf_11 : decode cX3_sideOf 11 = .ok (.ireturn, 1) := by decide +kernel
theorem dX3_sameSide_0 : decode cX3_sameSide 0 = .ok (.aload_n 0, 1) := by decide +kernel
theorem dX3_sameSide_1 : decode cX3_sameSide 1 = .ok (.iload_n 1, 1) := by decide +kernel
theorem dX3_sameSide_2 : decode cX3_sameSide 2 = .ok (.aload_n 0, 1) := by decide +kernel
theorem dX3_sameSide_3 : decode cX3_sameSide 3 = .ok (.getfield 22, 3) := by decide +kernel
theorem dX3_sameSide_6 : decode cX3_sameSide 6 = .ok (.iload_n 2, 1) := by decide +kernel
theorem dX3_sameSide_7 : decode cX3_sameSide 7 = .ok (.iaload, 1) := by decide +kernel
theorem dX3_sameSide_8 : decode cX3_sameSide 8 = .ok (.invokevirtual 102, 3) := by decide +kernel
theorem dX3_sameSide_11 : decode cX3_sameSide 11 = .ok (.aload_n 0, 1) := by decide +kernel
theorem dX3_sameSide_12 : decode cX3_sameSide 12 = .ok (.iload_n 1, 1) := by decide +kernel
theorem dX3_sameSide_13 : decode cX3_sameSide 13 = .ok (.aload_n 0, 1) := by decide +kernel
theorem dX3_sameSide_14 : decode cX3_sameSide 14 = .ok (.getfield 22, 3) := by decide +kernel
theorem dX3_sameSide_17 : decode cX3_sameSide 17 = .ok (.iload_n 3, 1) := by decide +kernel
theorem dX3_sameSide_18 : decode cX3_sameSide 18 = .ok (.iaload, 1) := by decide +kernel
theorem dX3_sameSide_19 : decode cX3_sameSide 19 = .ok (.invokevirtual 102, 3) := by decide +kernel
theorem dX3_sameSide_22 : decode cX3_sameSide 22 = .ok (.if_icmp .ne 7, 3) := by decide +kernel
theorem dX3_sameSide_25 : decode cX3_sameSide 25 = .ok (.iconst 1, 1) := by decide +kernel
theorem dX3_sameSide_26 : decode cX3_sameSide 26 = .ok (.goto 4, 3) := by decide +kernel
theorem dX3_sameSide_29 : decode cX3_sameSide 29 = .ok (.iconst 0, 1) := by decide +kernel
theorem dX3_sameSide_30 : decode cX3_sameSide 30 = .ok (.ireturn, 1) := by decide +kernel
theorem dX3_isMet_0 : decode cX3_isMet 0 = .ok (.aload_n 0, 1) := by decide +kernel
theorem dX3_isMet_1 : decode cX3_isMet 1 = .ok (.iload_n 1, 1) := by decide +kernel
theorem dX3_isMet_2 : decode cX3_isMet 2 = .ok (.aload_n 0, 1) := by decide +kernel
theorem dX3_isMet_3 : decode cX3_isMet 3 = .ok (.getfield 22, 3) := by decide +kernel
theorem dX3_isMet_6 : decode cX3_isMet 6 = .ok (.aload_n 0, 1) := by decide +kernel
theorem dX3_isMet_7 : decode cX3_isMet 7 = .ok (.getfield 43, 3) := by decide +kernel
theorem dX3_isMet_10 : decode cX3_isMet 10 = .ok (.iload_n 2, 1) := by decide +kernel
theorem dX3_isMet_11 : decode cX3_isMet 11 = .ok (.iaload, 1) := by decide +kernel
theorem dX3_isMet_12 : decode cX3_isMet 12 = .ok (.iaload, 1) := by decide +kernel
theorem dX3_isMet_13 : decode cX3_isMet 13 = .ok (.invokevirtual 102, 3) := by decide +kernel
theorem dX3_isMet_16 : decode cX3_isMet 16 = .ok (.istore_n 3, 1) := by decide +kernel
theorem dX3_isMet_17 : decode cX3_isMet 17 = .ok (.aload_n 0, 1) := by decide +kernel
theorem dX3_isMet_18 : decode cX3_isMet 18 = .ok (.iload_n 1, 1) := by decide +kernel
theorem dX3_isMet_19 : decode cX3_isMet 19 = .ok (.aload_n 0, 1) := by decide +kernel
theorem dX3_isMet_20 : decode cX3_isMet 20 = .ok (.getfield 22, 3) := by decide +kernel
theorem dX3_isMet_23 : decode cX3_isMet 23 = .ok (.aload_n 0, 1) := by decide +kernel
theorem dX3_isMet_24 : decode cX3_isMet 24 = .ok (.getfield 46, 3) := by decide +kernel
theorem dX3_isMet_27 : decode cX3_isMet 27 = .ok (.iload_n 2, 1) := by decide +kernel
theorem dX3_isMet_28 : decode cX3_isMet 28 = .ok (.iaload, 1) := by decide +kernel
theorem dX3_isMet_29 : decode cX3_isMet 29 = .ok (.iaload, 1) := by decide +kernel
theorem dX3_isMet_30 : decode cX3_isMet 30 = .ok (.invokevirtual 102, 3) := by decide +kernel
theorem dX3_isMet_33 : decode cX3_isMet 33 = .ok (.istore 4, 2) := by decide +kernel
theorem dX3_isMet_35 : decode cX3_isMet 35 = .ok (.iload_n 3, 1) := by decide +kernel
theorem dX3_isMet_36 : decode cX3_isMet 36 = .ok (.iload 4, 2) := by decide +kernel
theorem dX3_isMet_38 : decode cX3_isMet 38 = .ok (.if_icmp .ne 7, 3) := by decide +kernel
theorem dX3_isMet_41 : decode cX3_isMet 41 = .ok (.iconst 1, 1) := by decide +kernel
theorem dX3_isMet_42 : decode cX3_isMet 42 = .ok (.goto 4, 3) := by decide +kernel
theorem dX3_isMet_45 : decode cX3_isMet 45 = .ok (.iconst 0, 1) := by decide +kernel
theorem dX3_isMet_46 : decode cX3_isMet 46 = .ok (.aload_n 0, 1) := by decide +kernel
theorem dX3_isMet_47 : decode cX3_isMet 47 = .ok (.getfield 49, 3) := by decide +kernel
theorem dX3_isMet_50 : decode cX3_isMet 50 = .ok (.iload_n 2, 1) := by decide +kernel
theorem dX3_isMet_51 : decode cX3_isMet 51 = .ok (.iaload, 1) := by decide +kernel
theorem dX3_isMet_52 : decode cX3_isMet 52 = .ok (.iconst 1, 1) := by decide +kernel
theorem dX3_isMet_53 : decode cX3_isMet 53 = .ok (.if_icmp .ne 7, 3) := by decide +kernel
theorem dX3_isMet_56 : decode cX3_isMet 56 = .ok (.iconst 1, 1) := by decide +kernel
theorem dX3_isMet_57 : decode cX3_isMet 57 = .ok (.goto 4, 3) := by decide +kernel
theorem dX3_isMet_60 : decode cX3_isMet 60 = .ok (.iconst 0, 1) := by decide +kernel
theorem dX3_isMet_61 : decode cX3_isMet 61 = .ok (.if_icmp .ne 7, 3) := by decide +kernel
theorem dX3_isMet_64 : decode cX3_isMet 64 = .ok (.iconst 1, 1) := by decide +kernel
theorem dX3_isMet_65 : decode cX3_isMet 65 = .ok (.goto 4, 3) := by decide +kernel
theorem dX3_isMet_68 : decode cX3_isMet 68 = .ok (.iconst 0, 1) := by decide +kernel
theorem dX3_isMet_69 : decode cX3_isMet 69 = .ok (.ireturn, 1) := by decide +kernel
theorem dX3_valueBy_0 : decode cX3_valueBy 0 = .ok (.iconst 0, 1) := by decide +kernel
theorem dX3_valueBy_1 : decode cX3_valueBy 1 = .ok (.istore_n 2, 1) := by decide +kernel
theorem dX3_valueBy_2 : decode cX3_valueBy 2 = .ok (.iconst 0, 1) := by decide +kernel
theorem dX3_valueBy_3 : decode cX3_valueBy 3 = .ok (.istore_n 3, 1) := by decide +kernel
theorem dX3_valueBy_4 : decode cX3_valueBy 4 = .ok (.iload_n 3, 1) := by decide +kernel
theorem dX3_valueBy_5 : decode cX3_valueBy 5 = .ok (.aload_n 0, 1) := by decide +kernel
theorem dX3_valueBy_6 : decode cX3_valueBy 6 = .ok (.getfield 40, 3) := by decide +kernel
theorem dX3_valueBy_9 : decode cX3_valueBy 9 = .ok (.if_icmp .ge 27, 3) := by decide +kernel
theorem dX3_valueBy_12 : decode cX3_valueBy 12 = .ok (.aload_n 0, 1) := by decide +kernel
theorem dX3_valueBy_13 : decode cX3_valueBy 13 = .ok (.iload_n 1, 1) := by decide +kernel
theorem dX3_valueBy_14 : decode cX3_valueBy 14 = .ok (.iload_n 3, 1) := by decide +kernel
theorem dX3_valueBy_15 : decode cX3_valueBy 15 = .ok (.invokevirtual 106, 3) := by decide +kernel
theorem dX3_valueBy_18 : decode cX3_valueBy 18 = .ok (.ifCond .eq 12, 3) := by decide +kernel
theorem dX3_valueBy_21 : decode cX3_valueBy 21 = .ok (.iload_n 2, 1) := by decide +kernel
theorem dX3_valueBy_22 : decode cX3_valueBy 22 = .ok (.aload_n 0, 1) := by decide +kernel
theorem dX3_valueBy_23 : decode cX3_valueBy 23 = .ok (.getfield 52, 3) := by decide +kernel
theorem dX3_valueBy_26 : decode cX3_valueBy 26 = .ok (.iload_n 3, 1) := by decide +kernel
theorem dX3_valueBy_27 : decode cX3_valueBy 27 = .ok (.iaload, 1) := by decide +kernel
theorem dX3_valueBy_28 : decode cX3_valueBy 28 = .ok (.iadd, 1) := by decide +kernel
theorem dX3_valueBy_29 : decode cX3_valueBy 29 = .ok (.istore_n 2, 1) := by decide +kernel
theorem dX3_valueBy_30 : decode cX3_valueBy 30 = .ok (.iinc 3 1, 3) := by decide +kernel
theorem dX3_valueBy_33 : decode cX3_valueBy 33 = .ok (.goto (-29), 3) := by decide +kernel
theorem dX3_valueBy_36 : decode cX3_valueBy 36 = .ok (.iload_n 2, 1) := by decide +kernel
theorem dX3_valueBy_37 : decode cX3_valueBy 37 = .ok (.ireturn, 1) := by decide +kernel
theorem dX3_valueByAll_0 : decode cX3_valueByAll 0 = .ok (.iconst 0, 1) := by decide +kernel
theorem dX3_valueByAll_1 : decode cX3_valueByAll 1 = .ok (.istore_n 1, 1) := by decide +kernel
theorem dX3_valueByAll_2 : decode cX3_valueByAll 2 = .ok (.iconst 0, 1) := by decide +kernel
theorem dX3_valueByAll_3 : decode cX3_valueByAll 3 = .ok (.istore_n 2, 1) := by decide +kernel
theorem dX3_valueByAll_4 : decode cX3_valueByAll 4 = .ok (.iload_n 2, 1) := by decide +kernel
theorem dX3_valueByAll_5 : decode cX3_valueByAll 5 = .ok (.aload_n 0, 1) := by decide +kernel
theorem dX3_valueByAll_6 : decode cX3_valueByAll 6 = .ok (.getfield 28, 3) := by decide +kernel
theorem dX3_valueByAll_9 : decode cX3_valueByAll 9 = .ok (.if_icmp .ge 17, 3) := by decide +kernel
theorem dX3_valueByAll_12 : decode cX3_valueByAll 12 = .ok (.iload_n 1, 1) := by decide +kernel
theorem dX3_valueByAll_13 : decode cX3_valueByAll 13 = .ok (.aload_n 0, 1) := by decide +kernel
theorem dX3_valueByAll_14 : decode cX3_valueByAll 14 = .ok (.iload_n 2, 1) := by decide +kernel
theorem dX3_valueByAll_15 : decode cX3_valueByAll 15 = .ok (.invokevirtual 109, 3) := by decide +kernel
theorem dX3_valueByAll_18 : decode cX3_valueByAll 18 = .ok (.iadd, 1) := by decide +kernel
theorem dX3_valueByAll_19 : decode cX3_valueByAll 19 = .ok (.istore_n 1, 1) := by decide +kernel
theorem dX3_valueByAll_20 : decode cX3_valueByAll 20 = .ok (.iinc 2 1, 3) := by decide +kernel
theorem dX3_valueByAll_23 : decode cX3_valueByAll 23 = .ok (.goto (-19), 3) := by decide +kernel
theorem dX3_valueByAll_26 : decode cX3_valueByAll 26 = .ok (.iload_n 1, 1) := by decide +kernel
theorem dX3_valueByAll_27 : decode cX3_valueByAll 27 = .ok (.ireturn, 1) := by decide +kernel
theorem dX3_bitsOfSide_0 : decode cX3_bitsOfSide 0 = .ok (.iconst 0, 1) := by decide +kernel
theorem dX3_bitsOfSide_1 : decode cX3_bitsOfSide 1 = .ok (.istore_n 3, 1) := by decide +kernel
theorem dX3_bitsOfSide_2 : decode cX3_bitsOfSide 2 = .ok (.iconst 0, 1) := by decide +kernel
theorem dX3_bitsOfSide_3 : decode cX3_bitsOfSide 3 = .ok (.istore 4, 2) := by decide +kernel
theorem dX3_bitsOfSide_5 : decode cX3_bitsOfSide 5 = .ok (.iload 4, 2) := by decide +kernel
theorem dX3_bitsOfSide_7 : decode cX3_bitsOfSide 7 = .ok (.aload_n 0, 1) := by decide +kernel
theorem dX3_bitsOfSide_8 : decode cX3_bitsOfSide 8 = .ok (.getfield 9, 3) := by decide +kernel
theorem dX3_bitsOfSide_11 : decode cX3_bitsOfSide 11 = .ok (.if_icmp .ge 27, 3) := by decide +kernel
theorem dX3_bitsOfSide_14 : decode cX3_bitsOfSide 14 = .ok (.aload_n 0, 1) := by decide +kernel
theorem dX3_bitsOfSide_15 : decode cX3_bitsOfSide 15 = .ok (.iload_n 1, 1) := by decide +kernel
theorem dX3_bitsOfSide_16 : decode cX3_bitsOfSide 16 = .ok (.iload 4, 2) := by decide +kernel
theorem dX3_bitsOfSide_18 : decode cX3_bitsOfSide 18 = .ok (.invokevirtual 112, 3) := by decide +kernel
theorem dX3_bitsOfSide_21 : decode cX3_bitsOfSide 21 = .ok (.iload_n 2, 1) := by decide +kernel
theorem dX3_bitsOfSide_22 : decode cX3_bitsOfSide 22 = .ok (.if_icmp .ne 10, 3) := by decide +kernel
theorem dX3_bitsOfSide_25 : decode cX3_bitsOfSide 25 = .ok (.iload_n 3, 1) := by decide +kernel
theorem dX3_bitsOfSide_26 : decode cX3_bitsOfSide 26 = .ok (.iconst 1, 1) := by decide +kernel
theorem dX3_bitsOfSide_27 : decode cX3_bitsOfSide 27 = .ok (.iload 4, 2) := by decide +kernel
theorem dX3_bitsOfSide_29 : decode cX3_bitsOfSide 29 = .ok (.ishl, 1) := by decide +kernel
theorem dX3_bitsOfSide_30 : decode cX3_bitsOfSide 30 = .ok (.ior, 1) := by decide +kernel
theorem dX3_bitsOfSide_31 : decode cX3_bitsOfSide 31 = .ok (.istore_n 3, 1) := by decide +kernel
theorem dX3_bitsOfSide_32 : decode cX3_bitsOfSide 32 = .ok (.iinc 4 1, 3) := by decide +kernel
theorem dX3_bitsOfSide_35 : decode cX3_bitsOfSide 35 = .ok (.goto (-30), 3) := by decide +kernel
theorem dX3_bitsOfSide_38 : decode cX3_bitsOfSide 38 = .ok (.iload_n 3, 1) := by decide +kernel
theorem dX3_bitsOfSide_39 : decode cX3_bitsOfSide 39 = .ok (.ireturn, 1) := by decide +kernel
theorem dX3_strongOfSide_0 : decode cX3_strongOfSide 0 = .ok (.iconst 0, 1) := by decide +kernel
theorem dX3_strongOfSide_1 : decode cX3_strongOfSide 1 = .ok (.istore_n 3, 1) := by decide +kernel
theorem dX3_strongOfSide_2 : decode cX3_strongOfSide 2 = .ok (.iconst 0, 1) := by decide +kernel
theorem dX3_strongOfSide_3 : decode cX3_strongOfSide 3 = .ok (.istore 4, 2) := by decide +kernel
theorem dX3_strongOfSide_5 : decode cX3_strongOfSide 5 = .ok (.iload 4, 2) := by decide +kernel
theorem dX3_strongOfSide_7 : decode cX3_strongOfSide 7 = .ok (.aload_n 0, 1) := by decide +kernel
theorem dX3_strongOfSide_8 : decode cX3_strongOfSide 8 = .ok (.getfield 9, 3) := by decide +kernel
theorem dX3_strongOfSide_11 : decode cX3_strongOfSide 11 = .ok (.if_icmp .ge 30, 3) := by decide +kernel
theorem dX3_strongOfSide_14 : decode cX3_strongOfSide 14 = .ok (.aload_n 0, 1) := by decide +kernel
theorem dX3_strongOfSide_15 : decode cX3_strongOfSide 15 = .ok (.iload_n 1, 1) := by decide +kernel
theorem dX3_strongOfSide_16 : decode cX3_strongOfSide 16 = .ok (.iload 4, 2) := by decide +kernel
theorem dX3_strongOfSide_18 : decode cX3_strongOfSide 18 = .ok (.invokevirtual 112, 3) := by decide +kernel
theorem dX3_strongOfSide_21 : decode cX3_strongOfSide 21 = .ok (.iload_n 2, 1) := by decide +kernel
theorem dX3_strongOfSide_22 : decode cX3_strongOfSide 22 = .ok (.if_icmp .ne 13, 3) := by decide +kernel
theorem dX3_strongOfSide_25 : decode cX3_strongOfSide 25 = .ok (.iload_n 3, 1) := by decide +kernel
theorem dX3_strongOfSide_26 : decode cX3_strongOfSide 26 = .ok (.aload_n 0, 1) := by decide +kernel
theorem dX3_strongOfSide_27 : decode cX3_strongOfSide 27 = .ok (.getfield 15, 3) := by decide +kernel
theorem dX3_strongOfSide_30 : decode cX3_strongOfSide 30 = .ok (.iload 4, 2) := by decide +kernel
theorem dX3_strongOfSide_32 : decode cX3_strongOfSide 32 = .ok (.iaload, 1) := by decide +kernel
theorem dX3_strongOfSide_33 : decode cX3_strongOfSide 33 = .ok (.iadd, 1) := by decide +kernel
theorem dX3_strongOfSide_34 : decode cX3_strongOfSide 34 = .ok (.istore_n 3, 1) := by decide +kernel
theorem dX3_strongOfSide_35 : decode cX3_strongOfSide 35 = .ok (.iinc 4 1, 3) := by decide +kernel
theorem dX3_strongOfSide_38 : decode cX3_strongOfSide 38 = .ok (.goto (-33), 3) := by decide +kernel
theorem dX3_strongOfSide_41 : decode cX3_strongOfSide 41 = .ok (.iload_n 3, 1) := by decide +kernel
theorem dX3_strongOfSide_42 : decode cX3_strongOfSide 42 = .ok (.ireturn, 1) := by decide +kernel
theorem dX3_unevenness_0 : decode cX3_unevenness 0 = .ok (.aload_n 0, 1) := by decide +kernel
theorem dX3_unevenness_1 : decode cX3_unevenness 1 = .ok (.iload_n 1, 1) := by decide +kernel
theorem dX3_unevenness_2 : decode cX3_unevenness 2 = .ok (.iconst 0, 1) := by decide +kernel
theorem dX3_unevenness_3 : decode cX3_unevenness 3 = .ok (.invokevirtual 115, 3) := by decide +kernel
theorem dX3_unevenness_6 : decode cX3_unevenness 6 = .ok (.istore_n 2, 1) := by decide +kernel
theorem dX3_unevenness_7 : decode cX3_unevenness 7 = .ok (.iload_n 2, 1) := by decide +kernel
theorem dX3_unevenness_8 : decode cX3_unevenness 8 = .ok (.istore_n 3, 1) := by decide +kernel
theorem dX3_unevenness_9 : decode cX3_unevenness 9 = .ok (.iconst 1, 1) := by decide +kernel
theorem dX3_unevenness_10 : decode cX3_unevenness 10 = .ok (.istore 4, 2) := by decide +kernel
theorem dX3_unevenness_12 : decode cX3_unevenness 12 = .ok (.iload 4, 2) := by decide +kernel
theorem dX3_unevenness_14 : decode cX3_unevenness 14 = .ok (.aload_n 0, 1) := by decide +kernel
theorem dX3_unevenness_15 : decode cX3_unevenness 15 = .ok (.getfield 34, 3) := by decide +kernel
theorem dX3_unevenness_18 : decode cX3_unevenness 18 = .ok (.iload_n 1, 1) := by decide +kernel
theorem dX3_unevenness_19 : decode cX3_unevenness 19 = .ok (.iaload, 1) := by decide +kernel
theorem dX3_unevenness_20 : decode cX3_unevenness 20 = .ok (.if_icmp .ge 32, 3) := by decide +kernel
theorem dX3_unevenness_23 : decode cX3_unevenness 23 = .ok (.aload_n 0, 1) := by decide +kernel
theorem dX3_unevenness_24 : decode cX3_unevenness 24 = .ok (.iload_n 1, 1) := by decide +kernel
theorem dX3_unevenness_25 : decode cX3_unevenness 25 = .ok (.iload 4, 2) := by decide +kernel
theorem dX3_unevenness_27 : decode cX3_unevenness 27 = .ok (.invokevirtual 115, 3) := by decide +kernel
theorem dX3_unevenness_30 : decode cX3_unevenness 30 = .ok (.istore 5, 2) := by decide +kernel
theorem dX3_unevenness_32 : decode cX3_unevenness 32 = .ok (.iload_n 2, 1) := by decide +kernel
theorem dX3_unevenness_33 : decode cX3_unevenness 33 = .ok (.iload 5, 2) := by decide +kernel
theorem dX3_unevenness_35 : decode cX3_unevenness 35 = .ok (.invokestatic 118, 3) := by decide +kernel
theorem dX3_unevenness_38 : decode cX3_unevenness 38 = .ok (.istore_n 2, 1) := by decide +kernel
theorem dX3_unevenness_39 : decode cX3_unevenness 39 = .ok (.iload_n 3, 1) := by decide +kernel
theorem dX3_unevenness_40 : decode cX3_unevenness 40 = .ok (.iload 5, 2) := by decide +kernel
theorem dX3_unevenness_42 : decode cX3_unevenness 42 = .ok (.invokestatic 121, 3) := by decide +kernel
theorem dX3_unevenness_45 : decode cX3_unevenness 45 = .ok (.istore_n 3, 1) := by decide +kernel
theorem dX3_unevenness_46 : decode cX3_unevenness 46 = .ok (.iinc 4 1, 3) := by decide +kernel
theorem dX3_unevenness_49 : decode cX3_unevenness 49 = .ok (.goto (-37), 3) := by decide +kernel
theorem dX3_unevenness_52 : decode cX3_unevenness 52 = .ok (.iload_n 2, 1) := by decide +kernel
theorem dX3_unevenness_53 : decode cX3_unevenness 53 = .ok (.iload_n 3, 1) := by decide +kernel
theorem dX3_unevenness_54 : decode cX3_unevenness 54 = .ok (.isub, 1) := by decide +kernel
theorem dX3_unevenness_55 : decode cX3_unevenness 55 = .ok (.ireturn, 1) := by decide +kernel
theorem dX3_timesTogether_0 : decode cX3_timesTogether 0 = .ok (.iconst 0, 1) := by decide +kernel
theorem dX3_timesTogether_1 : decode cX3_timesTogether 1 = .ok (.istore_n 3, 1) := by decide +kernel
theorem dX3_timesTogether_2 : decode cX3_timesTogether 2 = .ok (.iconst 0, 1) := by decide +kernel
theorem dX3_timesTogether_3 : decode cX3_timesTogether 3 = .ok (.istore 4, 2) := by decide +kernel
theorem dX3_timesTogether_5 : decode cX3_timesTogether 5 = .ok (.iload 4, 2) := by decide +kernel
theorem dX3_timesTogether_7 : decode cX3_timesTogether 7 = .ok (.aload_n 0, 1) := by decide +kernel
theorem dX3_timesTogether_8 : decode cX3_timesTogether 8 = .ok (.getfield 28, 3) := by decide +kernel
theorem dX3_timesTogether_11 : decode cX3_timesTogether 11 = .ok (.if_icmp .ge 23, 3) := by decide +kernel
theorem dX3_timesTogether_14 : decode cX3_timesTogether 14 = .ok (.aload_n 0, 1) := by decide +kernel
theorem dX3_timesTogether_15 : decode cX3_timesTogether 15 = .ok (.iload 4, 2) := by decide +kernel
theorem dX3_timesTogether_17 : decode cX3_timesTogether 17 = .ok (.iload_n 1, 1) := by decide +kernel
theorem dX3_timesTogether_18 : decode cX3_timesTogether 18 = .ok (.iload_n 2, 1) := by decide +kernel
theorem dX3_timesTogether_19 : decode cX3_timesTogether 19 = .ok (.invokevirtual 124, 3) := by decide +kernel
theorem dX3_timesTogether_22 : decode cX3_timesTogether 22 = .ok (.ifCond .eq 6, 3) := by decide +kernel
theorem dX3_timesTogether_25 : decode cX3_timesTogether 25 = .ok (.iinc 3 1, 3) := by decide +kernel
theorem dX3_timesTogether_28 : decode cX3_timesTogether 28 = .ok (.iinc 4 1, 3) := by decide +kernel
theorem dX3_timesTogether_31 : decode cX3_timesTogether 31 = .ok (.goto (-26), 3) := by decide +kernel
theorem dX3_timesTogether_34 : decode cX3_timesTogether 34 = .ok (.iload_n 3, 1) := by decide +kernel
theorem dX3_timesTogether_35 : decode cX3_timesTogether 35 = .ok (.ireturn, 1) := by decide +kernel
theorem dX3_unlikeTold_0 : decode cX3_unlikeTold 0 = .ok (.iconst 0, 1) := by decide +kernel
theorem dX3_unlikeTold_1 : decode cX3_unlikeTold 1 = .ok (.istore_n 3, 1) := by decide +kernel
theorem dX3_unlikeTold_2 : decode cX3_unlikeTold 2 = .ok (.iconst 0, 1) := by decide +kernel
theorem dX3_unlikeTold_3 : decode cX3_unlikeTold 3 = .ok (.istore 4, 2) := by decide +kernel
theorem dX3_unlikeTold_5 : decode cX3_unlikeTold 5 = .ok (.iload 4, 2) := by decide +kernel
theorem dX3_unlikeTold_7 : decode cX3_unlikeTold 7 = .ok (.aload_n 0, 1) := by decide +kernel
theorem dX3_unlikeTold_8 : decode cX3_unlikeTold 8 = .ok (.getfield 9, 3) := by decide +kernel
theorem dX3_unlikeTold_11 : decode cX3_unlikeTold 11 = .ok (.if_icmp .ge 28, 3) := by decide +kernel
theorem dX3_unlikeTold_14 : decode cX3_unlikeTold 14 = .ok (.aload_n 2, 1) := by decide +kernel
theorem dX3_unlikeTold_15 : decode cX3_unlikeTold 15 = .ok (.iload 4, 2) := by decide +kernel
theorem dX3_unlikeTold_17 : decode cX3_unlikeTold 17 = .ok (.laload, 1) := by decide +kernel
theorem dX3_unlikeTold_18 : decode cX3_unlikeTold 18 = .ok (.aload_n 0, 1) := by decide +kernel
theorem dX3_unlikeTold_19 : decode cX3_unlikeTold 19 = .ok (.iload_n 1, 1) := by decide +kernel
theorem dX3_unlikeTold_20 : decode cX3_unlikeTold 20 = .ok (.iload 4, 2) := by decide +kernel
theorem dX3_unlikeTold_22 : decode cX3_unlikeTold 22 = .ok (.invokevirtual 112, 3) := by decide +kernel
theorem dX3_unlikeTold_25 : decode cX3_unlikeTold 25 = .ok (.i2l, 1) := by decide +kernel
theorem dX3_unlikeTold_26 : decode cX3_unlikeTold 26 = .ok (.lcmp, 1) := by decide +kernel
theorem dX3_unlikeTold_27 : decode cX3_unlikeTold 27 = .ok (.ifCond .eq 6, 3) := by decide +kernel
theorem dX3_unlikeTold_30 : decode cX3_unlikeTold 30 = .ok (.iinc 3 1, 3) := by decide +kernel
theorem dX3_unlikeTold_33 : decode cX3_unlikeTold 33 = .ok (.iinc 4 1, 3) := by decide +kernel
theorem dX3_unlikeTold_36 : decode cX3_unlikeTold 36 = .ok (.goto (-31), 3) := by decide +kernel
theorem dX3_unlikeTold_39 : decode cX3_unlikeTold 39 = .ok (.iload_n 3, 1) := by decide +kernel
theorem dX3_unlikeTold_40 : decode cX3_unlikeTold 40 = .ok (.ireturn, 1) := by decide +kernel
theorem dX3_hangingWith_0 : decode cX3_hangingWith 0 = .ok (.iconst 1, 1) := by decide +kernel
theorem dX3_hangingWith_1 : decode cX3_hangingWith 1 = .ok (.iload_n 1, 1) := by decide +kernel
theorem dX3_hangingWith_2 : decode cX3_hangingWith 2 = .ok (.ishl, 1) := by decide +kernel
theorem dX3_hangingWith_3 : decode cX3_hangingWith 3 = .ok (.istore_n 2, 1) := by decide +kernel
theorem dX3_hangingWith_4 : decode cX3_hangingWith 4 = .ok (.iconst 1, 1) := by decide +kernel
theorem dX3_hangingWith_5 : decode cX3_hangingWith 5 = .ok (.istore_n 3, 1) := by decide +kernel
theorem dX3_hangingWith_6 : decode cX3_hangingWith 6 = .ok (.iload_n 3, 1) := by decide +kernel
theorem dX3_hangingWith_7 : decode cX3_hangingWith 7 = .ok (.aload_n 0, 1) := by decide +kernel
theorem dX3_hangingWith_8 : decode cX3_hangingWith 8 = .ok (.getfield 9, 3) := by decide +kernel
theorem dX3_hangingWith_11 : decode cX3_hangingWith 11 = .ok (.if_icmp .ge 83, 3) := by decide +kernel
theorem dX3_hangingWith_14 : decode cX3_hangingWith 14 = .ok (.iload_n 2, 1) := by decide +kernel
theorem dX3_hangingWith_15 : decode cX3_hangingWith 15 = .ok (.istore 4, 2) := by decide +kernel
theorem dX3_hangingWith_17 : decode cX3_hangingWith 17 = .ok (.iconst 0, 1) := by decide +kernel
theorem dX3_hangingWith_18 : decode cX3_hangingWith 18 = .ok (.istore 5, 2) := by decide +kernel
theorem dX3_hangingWith_20 : decode cX3_hangingWith 20 = .ok (.iload 5, 2) := by decide +kernel
theorem dX3_hangingWith_22 : decode cX3_hangingWith 22 = .ok (.aload_n 0, 1) := by decide +kernel
theorem dX3_hangingWith_23 : decode cX3_hangingWith 23 = .ok (.getfield 40, 3) := by decide +kernel
theorem dX3_hangingWith_26 : decode cX3_hangingWith 26 = .ok (.if_icmp .ge 53, 3) := by decide +kernel
theorem dX3_hangingWith_29 : decode cX3_hangingWith 29 = .ok (.iconst 1, 1) := by decide +kernel
theorem dX3_hangingWith_30 : decode cX3_hangingWith 30 = .ok (.aload_n 0, 1) := by decide +kernel
theorem dX3_hangingWith_31 : decode cX3_hangingWith 31 = .ok (.getfield 43, 3) := by decide +kernel
theorem dX3_hangingWith_34 : decode cX3_hangingWith 34 = .ok (.iload 5, 2) := by decide +kernel
theorem dX3_hangingWith_36 : decode cX3_hangingWith 36 = .ok (.iaload, 1) := by decide +kernel
theorem dX3_hangingWith_37 : decode cX3_hangingWith 37 = .ok (.ishl, 1) := by decide +kernel
theorem dX3_hangingWith_38 : decode cX3_hangingWith 38 = .ok (.iconst 1, 1) := by decide +kernel
theorem dX3_hangingWith_39 : decode cX3_hangingWith 39 = .ok (.aload_n 0, 1) := by decide +kernel
theorem dX3_hangingWith_40 : decode cX3_hangingWith 40 = .ok (.getfield 46, 3) := by decide +kernel
theorem dX3_hangingWith_43 : decode cX3_hangingWith 43 = .ok (.iload 5, 2) := by decide +kernel
theorem dX3_hangingWith_45 : decode cX3_hangingWith 45 = .ok (.iaload, 1) := by decide +kernel
theorem dX3_hangingWith_46 : decode cX3_hangingWith 46 = .ok (.ishl, 1) := by decide +kernel
theorem dX3_hangingWith_47 : decode cX3_hangingWith 47 = .ok (.ior, 1) := by decide +kernel
theorem dX3_hangingWith_48 : decode cX3_hangingWith 48 = .ok (.istore 6, 2) := by decide +kernel
