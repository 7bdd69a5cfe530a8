theorem dX5_look_75 : decode cX5_look 75 = .ok (.getfield 157, 3) := by decide +kernel
theorem dX5_look_78 : decode cX5_look 78 = .ok (.iaload, 1) := by decide +kernel
theorem dX5_look_79 : decode cX5_look 79 = .ok (.invokestatic 169, 3) := by decide +kernel
theorem dX5_look_82 : decode cX5_look 82 = .ok (.ifCond .eq 47, 3) := by decide +kernel
theorem dX5_look_85 : decode cX5_look 85 = .ok (.aload_n 0, 1) := by decide +kernel
theorem dX5_look_86 : decode cX5_look 86 = .ok (.iconst 1, 1) := by decide +kernel
theorem dX5_look_87 : decode cX5_look 87 = .ok (.putfield 166, 3) := by decide +kernel
theorem dX5_look_90 : decode cX5_look 90 = .ok (.aload_n 0, 1) := by decide +kernel
theorem dX5_look_91 : decode cX5_look 91 = .ok (.getfield 157, 3) := by decide +kernel
theorem dX5_look_94 : decode cX5_look 94 = .ok (.aload_n 0, 1) := by decide +kernel
theorem dX5_look_95 : decode cX5_look 95 = .ok (.getfield 154, 3) := by decide +kernel
theorem dX5_look_98 : decode cX5_look 98 = .ok (.if_icmp .ge 166, 3) := by decide +kernel
theorem dX5_look_101 : decode cX5_look 101 = .ok (.aload_n 0, 1) := by decide +kernel
theorem dX5_look_102 : decode cX5_look 102 = .ok (.getfield 31, 3) := by decide +kernel
theorem dX5_look_105 : decode cX5_look 105 = .ok (.aload_n 0, 1) := by decide +kernel
theorem dX5_look_106 : decode cX5_look 106 = .ok (.getfield 157, 3) := by decide +kernel
theorem dX5_look_109 : decode cX5_look 109 = .ok (.iaload, 1) := by decide +kernel
theorem dX5_look_110 : decode cX5_look 110 = .ok (.invokestatic 169, 3) := by decide +kernel
theorem dX5_look_113 : decode cX5_look 113 = .ok (.ifCond .eq 151, 3) := by decide +kernel
theorem dX5_look_116 : decode cX5_look 116 = .ok (.aload_n 0, 1) := by decide +kernel
theorem dX5_look_117 : decode cX5_look 117 = .ok (.dup, 1) := by decide +kernel
theorem dX5_look_118 : decode cX5_look 118 = .ok (.getfield 157, 3) := by decide +kernel
theorem dX5_look_121 : decode cX5_look 121 = .ok (.iconst 1, 1) := by decide +kernel
theorem dX5_look_122 : decode cX5_look 122 = .ok (.iadd, 1) := by decide +kernel
theorem dX5_look_123 : decode cX5_look 123 = .ok (.putfield 157, 3) := by decide +kernel
theorem dX5_look_126 : decode cX5_look 126 = .ok (.goto (-36), 3) := by decide +kernel
theorem dX5_look_129 : decode cX5_look 129 = .ok (.aload_n 0, 1) := by decide +kernel
theorem dX5_look_130 : decode cX5_look 130 = .ok (.getfield 31, 3) := by decide +kernel
theorem dX5_look_133 : decode cX5_look 133 = .ok (.aload_n 0, 1) := by decide +kernel
theorem dX5_look_134 : decode cX5_look 134 = .ok (.getfield 157, 3) := by decide +kernel
theorem dX5_look_137 : decode cX5_look 137 = .ok (.iaload, 1) := by decide +kernel
theorem dX5_look_138 : decode cX5_look 138 = .ok (.invokestatic 172, 3) := by decide +kernel
theorem dX5_look_141 : decode cX5_look 141 = .ok (.ifCond .eq 90, 3) := by decide +kernel
theorem dX5_look_144 : decode cX5_look 144 = .ok (.aload_n 0, 1) := by decide +kernel
theorem dX5_look_145 : decode cX5_look 145 = .ok (.iconst 2, 1) := by decide +kernel
theorem dX5_look_146 : decode cX5_look 146 = .ok (.putfield 166, 3) := by decide +kernel
theorem dX5_look_149 : decode cX5_look 149 = .ok (.aload_n 0, 1) := by decide +kernel
theorem dX5_look_150 : decode cX5_look 150 = .ok (.getfield 157, 3) := by decide +kernel
theorem dX5_look_153 : decode cX5_look 153 = .ok (.aload_n 0, 1) := by decide +kernel
theorem dX5_look_154 : decode cX5_look 154 = .ok (.getfield 154, 3) := by decide +kernel
theorem dX5_look_157 : decode cX5_look 157 = .ok (.if_icmp .ge 107, 3) := by decide +kernel
theorem dX5_look_160 : decode cX5_look 160 = .ok (.aload_n 0, 1) := by decide +kernel
theorem dX5_look_161 : decode cX5_look 161 = .ok (.getfield 31, 3) := by decide +kernel
theorem dX5_look_164 : decode cX5_look 164 = .ok (.aload_n 0, 1) := by decide +kernel
theorem dX5_look_165 : decode cX5_look 165 = .ok (.getfield 157, 3) := by decide +kernel
theorem dX5_look_168 : decode cX5_look 168 = .ok (.iaload, 1) := by decide +kernel
theorem dX5_look_169 : decode cX5_look 169 = .ok (.invokestatic 172, 3) := by decide +kernel
theorem dX5_look_172 : decode cX5_look 172 = .ok (.ifCond .eq 92, 3) := by decide +kernel
theorem dX5_look_175 : decode cX5_look 175 = .ok (.aload_n 0, 1) := by decide +kernel
theorem dX5_look_176 : decode cX5_look 176 = .ok (.aload_n 0, 1) := by decide +kernel
theorem dX5_look_177 : decode cX5_look 177 = .ok (.getfield 157, 3) := by decide +kernel
theorem dX5_look_180 : decode cX5_look 180 = .ok (.aload_n 0, 1) := by decide +kernel
theorem dX5_look_181 : decode cX5_look 181 = .ok (.getfield 160, 3) := by decide +kernel
theorem dX5_look_184 : decode cX5_look 184 = .ok (.isub, 1) := by decide +kernel
theorem dX5_look_185 : decode cX5_look 185 = .ok (.iconst 2, 1) := by decide +kernel
theorem dX5_look_186 : decode cX5_look 186 = .ok (.if_icmp .ge 26, 3) := by decide +kernel
theorem dX5_look_189 : decode cX5_look 189 = .ok (.aload_n 0, 1) := by decide +kernel
theorem dX5_look_190 : decode cX5_look 190 = .ok (.getfield 163, 3) := by decide +kernel
theorem dX5_look_193 : decode cX5_look 193 = .ok (.bipush 10, 2) := by decide +kernel
theorem dX5_look_195 : decode cX5_look 195 = .ok (.imul, 1) := by decide +kernel
theorem dX5_look_196 : decode cX5_look 196 = .ok (.aload_n 0, 1) := by decide +kernel
theorem dX5_look_197 : decode cX5_look 197 = .ok (.getfield 31, 3) := by decide +kernel
theorem dX5_look_200 : decode cX5_look 200 = .ok (.aload_n 0, 1) := by decide +kernel
theorem dX5_look_201 : decode cX5_look 201 = .ok (.getfield 157, 3) := by decide +kernel
theorem dX5_look_204 : decode cX5_look 204 = .ok (.iaload, 1) := by decide +kernel
theorem dX5_look_205 : decode cX5_look 205 = .ok (.iadd, 1) := by decide +kernel
theorem dX5_look_206 : decode cX5_look 206 = .ok (.bipush 48, 2) := by decide +kernel
theorem dX5_look_208 : decode cX5_look 208 = .ok (.isub, 1) := by decide +kernel
theorem dX5_look_209 : decode cX5_look 209 = .ok (.goto 6, 3) := by decide +kernel
theorem dX5_look_212 : decode cX5_look 212 = .ok (.sipush 1000, 3) := by decide +kernel
theorem dX5_look_215 : decode cX5_look 215 = .ok (.putfield 163, 3) := by decide +kernel
theorem dX5_look_218 : decode cX5_look 218 = .ok (.aload_n 0, 1) := by decide +kernel
theorem dX5_look_219 : decode cX5_look 219 = .ok (.dup, 1) := by decide +kernel
theorem dX5_look_220 : decode cX5_look 220 = .ok (.getfield 157, 3) := by decide +kernel
theorem dX5_look_223 : decode cX5_look 223 = .ok (.iconst 1, 1) := by decide +kernel
theorem dX5_look_224 : decode cX5_look 224 = .ok (.iadd, 1) := by decide +kernel
theorem dX5_look_225 : decode cX5_look 225 = .ok (.putfield 157, 3) := by decide +kernel
theorem dX5_look_228 : decode cX5_look 228 = .ok (.goto (-79), 3) := by decide +kernel
theorem dX5_look_231 : decode cX5_look 231 = .ok (.aload_n 0, 1) := by decide +kernel
theorem dX5_look_232 : decode cX5_look 232 = .ok (.aload_n 0, 1) := by decide +kernel
theorem dX5_look_233 : decode cX5_look 233 = .ok (.getfield 31, 3) := by decide +kernel
theorem dX5_look_236 : decode cX5_look 236 = .ok (.aload_n 0, 1) := by decide +kernel
theorem dX5_look_237 : decode cX5_look 237 = .ok (.getfield 157, 3) := by decide +kernel
theorem dX5_look_240 : decode cX5_look 240 = .ok (.iaload, 1) := by decide +kernel
theorem dX5_look_241 : decode cX5_look 241 = .ok (.bipush 59, 2) := by decide +kernel
theorem dX5_look_243 : decode cX5_look 243 = .ok (.if_icmp .ne 7, 3) := by decide +kernel
theorem dX5_look_246 : decode cX5_look 246 = .ok (.iconst 3, 1) := by decide +kernel
theorem dX5_look_247 : decode cX5_look 247 = .ok (.goto 4, 3) := by decide +kernel
theorem dX5_look_250 : decode cX5_look 250 = .ok (.iconst 4, 1) := by decide +kernel
theorem dX5_look_251 : decode cX5_look 251 = .ok (.putfield 166, 3) := by decide +kernel
theorem dX5_look_254 : decode cX5_look 254 = .ok (.aload_n 0, 1) := by decide +kernel
theorem dX5_look_255 : decode cX5_look 255 = .ok (.dup, 1) := by decide +kernel
theorem dX5_look_256 : decode cX5_look 256 = .ok (.getfield 157, 3) := by decide +kernel
theorem dX5_look_259 : decode cX5_look 259 = .ok (.iconst 1, 1) := by decide +kernel
theorem dX5_look_260 : decode cX5_look 260 = .ok (.iadd, 1) := by decide +kernel
theorem dX5_look_261 : decode cX5_look 261 = .ok (.putfield 157, 3) := by decide +kernel
theorem dX5_look_264 : decode cX5_look 264 = .ok (.return_, 1) := by decide +kernel
theorem dX5_wrong_0 : decode cX5_wrong 0 = .ok (.aload_n 0, 1) := by decide +kernel
theorem dX5_wrong_1 : decode cX5_wrong 1 = .ok (.aload_n 0, 1) := by decide +kernel
theorem dX5_wrong_2 : decode cX5_wrong 2 = .ok (.getfield 160, 3) := by decide +kernel
theorem dX5_wrong_5 : decode cX5_wrong 5 = .ok (.putfield 175, 3) := by decide +kernel
theorem dX5_wrong_8 : decode cX5_wrong 8 = .ok (.iconst 0, 1) := by decide +kernel
theorem dX5_wrong_9 : decode cX5_wrong 9 = .ok (.ireturn, 1) := by decide +kernel
theorem dX5_isWord_0 : decode cX5_isWord 0 = .ok (.aload_n 0, 1) := by decide +kernel
theorem dX5_isWord_1 : decode cX5_isWord 1 = .ok (.getfield 166, 3) := by decide +kernel
theorem dX5_isWord_4 : decode cX5_isWord 4 = .ok (.iconst 1, 1) := by decide +kernel
theorem dX5_isWord_5 : decode cX5_isWord 5 = .ok (.if_icmp .ne 19, 3) := by decide +kernel
theorem dX5_isWord_8 : decode cX5_isWord 8 = .ok (.aload_n 0, 1) := by decide +kernel
theorem dX5_isWord_9 : decode cX5_isWord 9 = .ok (.getfield 157, 3) := by decide +kernel
theorem dX5_isWord_12 : decode cX5_isWord 12 = .ok (.aload_n 0, 1) := by decide +kernel
theorem dX5_isWord_13 : decode cX5_isWord 13 = .ok (.getfield 160, 3) := by decide +kernel
theorem dX5_isWord_16 : decode cX5_isWord 16 = .ok (.isub, 1) := by decide +kernel
theorem dX5_isWord_17 : decode cX5_isWord 17 = .ok (.aload_n 1, 1) := by decide +kernel
theorem dX5_isWord_18 : decode cX5_isWord 18 = .ok (.invokevirtual 178, 3) := by decide +kernel
theorem dX5_isWord_21 : decode cX5_isWord 21 = .ok (.if_icmp .eq 5, 3) := by decide +kernel
theorem dX5_isWord_24 : decode cX5_isWord 24 = .ok (.iconst 0, 1) := by decide +kernel
theorem dX5_isWord_25 : decode cX5_isWord 25 = .ok (.ireturn, 1) := by decide +kernel
theorem dX5_isWord_26 : decode cX5_isWord 26 = .ok (.iconst 0, 1) := by decide +kernel
theorem dX5_isWord_27 : decode cX5_isWord 27 = .ok (.istore_n 2, 1) := by decide +kernel
theorem dX5_isWord_28 : decode cX5_isWord 28 = .ok (.iload_n 2, 1) := by decide +kernel
theorem dX5_isWord_29 : decode cX5_isWord 29 = .ok (.aload_n 1, 1) := by decide +kernel
theorem dX5_isWord_30 : decode cX5_isWord 30 = .ok (.invokevirtual 178, 3) := by decide +kernel
theorem dX5_isWord_33 : decode cX5_isWord 33 = .ok (.if_icmp .ge 30, 3) := by decide +kernel
theorem dX5_isWord_36 : decode cX5_isWord 36 = .ok (.aload_n 0, 1) := by decide +kernel
theorem dX5_isWord_37 : decode cX5_isWord 37 = .ok (.getfield 31, 3) := by decide +kernel
theorem dX5_isWord_40 : decode cX5_isWord 40 = .ok (.aload_n 0, 1) := by decide +kernel
theorem dX5_isWord_41 : decode cX5_isWord 41 = .ok (.getfield 160, 3) := by decide +kernel
theorem dX5_isWord_44 : decode cX5_isWord 44 = .ok (.iload_n 2, 1) := by decide +kernel
theorem dX5_isWord_45 : decode cX5_isWord 45 = .ok (.iadd, 1) := by decide +kernel
theorem dX5_isWord_46 : decode cX5_isWord 46 = .ok (.iaload, 1) := by decide +kernel
theorem dX5_isWord_47 : decode cX5_isWord 47 = .ok (.aload_n 1, 1) := by decide +kernel
theorem dX5_isWord_48 : decode cX5_isWord 48 = .ok (.iload_n 2, 1) := by decide +kernel
theorem dX5_isWord_49 : decode cX5_isWord 49 = .ok (.invokevirtual 184, 3) := by decide +kernel
theorem dX5_isWord_52 : decode cX5_isWord 52 = .ok (.if_icmp .eq 5, 3) := by decide +kernel
theorem dX5_isWord_55 : decode cX5_isWord 55 = .ok (.iconst 0, 1) := by decide +kernel
theorem dX5_isWord_56 : decode cX5_isWord 56 = .ok (.ireturn, 1) := by decide +kernel
theorem dX5_isWord_57 : decode cX5_isWord 57 = .ok (.iinc 2 1, 3) := by decide +kernel
theorem dX5_isWord_60 : decode cX5_isWord 60 = .ok (.goto (-32), 3) := by decide +kernel
theorem dX5_isWord_63 : decode cX5_isWord 63 = .ok (.iconst 1, 1) := by decide +kernel
theorem dX5_isWord_64 : decode cX5_isWord 64 = .ok (.ireturn, 1) := by decide +kernel
theorem dX5_number_0 : decode cX5_number 0 = .ok (.aload_n 0, 1) := by decide +kernel
theorem dX5_number_1 : decode cX5_number 1 = .ok (.getfield 166, 3) := by decide +kernel
theorem dX5_number_4 : decode cX5_number 4 = .ok (.iconst 2, 1) := by decide +kernel
theorem dX5_number_5 : decode cX5_number 5 = .ok (.if_icmp .ne 18, 3) := by decide +kernel
theorem dX5_number_8 : decode cX5_number 8 = .ok (.aload_n 0, 1) := by decide +kernel
theorem dX5_number_9 : decode cX5_number 9 = .ok (.getfield 163, 3) := by decide +kernel
theorem dX5_number_12 : decode cX5_number 12 = .ok (.i2l, 1) := by decide +kernel
theorem dX5_number_13 : decode cX5_number 13 = .ok (.iload_n 2, 1) := by decide +kernel
theorem dX5_number_14 : decode cX5_number 14 = .ok (.i2l, 1) := by decide +kernel
theorem dX5_number_15 : decode cX5_number 15 = .ok (.iload_n 3, 1) := by decide +kernel
theorem dX5_number_16 : decode cX5_number 16 = .ok (.i2l, 1) := by decide +kernel
theorem dX5_number_17 : decode cX5_number 17 = .ok (.invokestatic 83, 3) := by decide +kernel
theorem dX5_number_20 : decode cX5_number 20 = .ok (.ifCond .ne 8, 3) := by decide +kernel
theorem dX5_number_23 : decode cX5_number 23 = .ok (.aload_n 0, 1) := by decide +kernel
theorem dX5_number_24 : decode cX5_number 24 = .ok (.invokevirtual 188, 3) := by decide +kernel
theorem dX5_number_27 : decode cX5_number 27 = .ok (.ireturn, 1) := by decide +kernel
theorem dX5_number_28 : decode cX5_number 28 = .ok (.aload_n 0, 1) := by decide +kernel
theorem dX5_number_29 : decode cX5_number 29 = .ok (.getfield 71, 3) := by decide +kernel
theorem dX5_number_32 : decode cX5_number 32 = .ok (.iload_n 1, 1) := by decide +kernel
theorem dX5_number_33 : decode cX5_number 33 = .ok (.aload_n 0, 1) := by decide +kernel
theorem dX5_number_34 : decode cX5_number 34 = .ok (.getfield 163, 3) := by decide +kernel
theorem dX5_number_37 : decode cX5_number 37 = .ok (.iastore, 1) := by decide +kernel
theorem dX5_number_38 : decode cX5_number 38 = .ok (.aload_n 0, 1) := by decide +kernel
theorem dX5_number_39 : decode cX5_number 39 = .ok (.invokevirtual 192, 3) := by decide +kernel
theorem dX5_number_42 : decode cX5_number 42 = .ok (.iconst 1, 1) := by decide +kernel
theorem dX5_number_43 : decode cX5_number 43 = .ok (.ireturn, 1) := by decide +kernel
theorem dX5_tells_0 : decode cX5_tells 0 = .ok (.aload_n 0, 1) := by decide +kernel
theorem dX5_tells_1 : decode cX5_tells 1 = .ok (.invokevirtual 192, 3) := by decide +kernel
theorem dX5_tells_4 : decode cX5_tells 4 = .ok (.aload_n 0, 1) := by decide +kernel
theorem dX5_tells_5 : decode cX5_tells 5 = .ok (.iconst 0, 1) := by decide +kernel
theorem dX5_tells_6 : decode cX5_tells 6 = .ok (.iload_n 1, 1) := by decide +kernel
theorem dX5_tells_7 : decode cX5_tells 7 = .ok (.iload_n 2, 1) := by decide +kernel
theorem dX5_tells_8 : decode cX5_tells 8 = .ok (.invokevirtual 195, 3) := by decide +kernel
theorem dX5_tells_11 : decode cX5_tells 11 = .ok (.ireturn, 1) := by decide +kernel
theorem dX5_twoTold_0 : decode cX5_twoTold 0 = .ok (.aload_n 0, 1) := by decide +kernel
theorem dX5_twoTold_1 : decode cX5_twoTold 1 = .ok (.iconst 0, 1) := by decide +kernel
theorem dX5_twoTold_2 : decode cX5_twoTold 2 = .ok (.aload_n 0, 1) := by decide +kernel
theorem dX5_twoTold_3 : decode cX5_twoTold 3 = .ok (.getfield 80, 3) := by decide +kernel
theorem dX5_twoTold_6 : decode cX5_twoTold 6 = .ok (.iconst 1, 1) := by decide +kernel
theorem dX5_twoTold_7 : decode cX5_twoTold 7 = .ok (.isub, 1) := by decide +kernel
theorem dX5_twoTold_8 : decode cX5_twoTold 8 = .ok (.invokevirtual 199, 3) := by decide +kernel
theorem dX5_twoTold_11 : decode cX5_twoTold 11 = .ok (.ifCond .ne 5, 3) := by decide +kernel
theorem dX5_twoTold_14 : decode cX5_twoTold 14 = .ok (.iconst 0, 1) := by decide +kernel
theorem dX5_twoTold_15 : decode cX5_twoTold 15 = .ok (.ireturn, 1) := by decide +kernel
theorem dX5_twoTold_16 : decode cX5_twoTold 16 = .ok (.aload_n 0, 1) := by decide +kernel
theorem dX5_twoTold_17 : decode cX5_twoTold 17 = .ok (.getfield 166, 3) := by decide +kernel
theorem dX5_twoTold_20 : decode cX5_twoTold 20 = .ok (.iconst 2, 1) := by decide +kernel
theorem dX5_twoTold_21 : decode cX5_twoTold 21 = .ok (.if_icmp .ne 21, 3) := by decide +kernel
theorem dX5_twoTold_24 : decode cX5_twoTold 24 = .ok (.aload_n 0, 1) := by decide +kernel
theorem dX5_twoTold_25 : decode cX5_twoTold 25 = .ok (.getfield 163, 3) := by decide +kernel
theorem dX5_twoTold_28 : decode cX5_twoTold 28 = .ok (.aload_n 0, 1) := by decide +kernel
theorem dX5_twoTold_29 : decode cX5_twoTold 29 = .ok (.getfield 71, 3) := by decide +kernel
theorem dX5_twoTold_32 : decode cX5_twoTold 32 = .ok (.iconst 0, 1) := by decide +kernel
theorem dX5_twoTold_33 : decode cX5_twoTold 33 = .ok (.iaload, 1) := by decide +kernel
theorem dX5_twoTold_34 : decode cX5_twoTold 34 = .ok (.if_icmp .ne 8, 3) := by decide +kernel
theorem dX5_twoTold_37 : decode cX5_twoTold 37 = .ok (.aload_n 0, 1) := by decide +kernel
theorem dX5_twoTold_38 : decode cX5_twoTold 38 = .ok (.invokevirtual 188, 3) := by decide +kernel
theorem dX5_twoTold_41 : decode cX5_twoTold 41 = .ok (.ireturn, 1) := by decide +kernel
theorem dX5_twoTold_42 : decode cX5_twoTold 42 = .ok (.aload_n 0, 1) := by decide +kernel
theorem dX5_twoTold_43 : decode cX5_twoTold 43 = .ok (.iconst 1, 1) := by decide +kernel
theorem dX5_twoTold_44 : decode cX5_twoTold 44 = .ok (.iconst 0, 1) := by decide +kernel
theorem dX5_twoTold_45 : decode cX5_twoTold 45 = .ok (.aload_n 0, 1) := by decide +kernel
theorem dX5_twoTold_46 : decode cX5_twoTold 46 = .ok (.getfield 80, 3) := by decide +kernel
theorem dX5_twoTold_49 : decode cX5_twoTold 49 = .ok (.iconst 1, 1) := by decide +kernel
theorem dX5_twoTold_50 : decode cX5_twoTold 50 = .ok (.isub, 1) := by decide +kernel
theorem dX5_twoTold_51 : decode cX5_twoTold 51 = .ok (.invokevirtual 195, 3) := by decide +kernel
theorem dX5_twoTold_54 : decode cX5_twoTold 54 = .ok (.ireturn, 1) := by decide +kernel
theorem dX5_wishTold_0 : decode cX5_wishTold 0 = .ok (.aload_n 0, 1) := by decide +kernel
theorem dX5_wishTold_1 : decode cX5_wishTold 1 = .ok (.invokevirtual 202, 3) := by decide +kernel
theorem dX5_wishTold_4 : decode cX5_wishTold 4 = .ok (.ifCond .eq 14, 3) := by decide +kernel
theorem dX5_wishTold_7 : decode cX5_wishTold 7 = .ok (.aload_n 0, 1) := by decide +kernel
theorem dX5_wishTold_8 : decode cX5_wishTold 8 = .ok (.iconst 2, 1) := by decide +kernel
theorem dX5_wishTold_9 : decode cX5_wishTold 9 = .ok (.iconst 1, 1) := by decide +kernel
theorem dX5_wishTold_10 : decode cX5_wishTold 10 = .ok (.bipush 99, 2) := by decide +kernel
theorem dX5_wishTold_12 : decode cX5_wishTold 12 = .ok (.invokevirtual 195, 3) := by decide +kernel
theorem dX5_wishTold_15 : decode cX5_wishTold 15 = .ok (.ifCond .ne 5, 3) := by decide +kernel
theorem dX5_wishTold_18 : decode cX5_wishTold 18 = .ok (.iconst 0, 1) := by decide +kernel
theorem dX5_wishTold_19 : decode cX5_wishTold 19 = .ok (.ireturn, 1) := by decide +kernel
theorem dX5_wishTold_20 : decode cX5_wishTold 20 = .ok (.aload_n 0, 1) := by decide +kernel
theorem dX5_wishTold_21 : decode cX5_wishTold 21 = .ok (.aload_n 0, 1) := by decide +kernel
theorem dX5_wishTold_22 : decode cX5_wishTold 22 = .ok (.getfield 71, 3) := by decide +kernel
theorem dX5_wishTold_25 : decode cX5_wishTold 25 = .ok (.iconst 0, 1) := by decide +kernel
theorem dX5_wishTold_26 : decode cX5_wishTold 26 = .ok (.iaload, 1) := by decide +kernel
theorem dX5_wishTold_27 : decode cX5_wishTold 27 = .ok (.aload_n 0, 1) := by decide +kernel
theorem dX5_wishTold_28 : decode cX5_wishTold 28 = .ok (.getfield 71, 3) := by decide +kernel
theorem dX5_wishTold_31 : decode cX5_wishTold 31 = .ok (.iconst 1, 1) := by decide +kernel
theorem dX5_wishTold_32 : decode cX5_wishTold 32 = .ok (.iaload, 1) := by decide +kernel
theorem dX5_wishTold_33 : decode cX5_wishTold 33 = .ok (.iload_n 1, 1) := by decide +kernel
theorem dX5_wishTold_34 : decode cX5_wishTold 34 = .ok (.aload_n 0, 1) := by decide +kernel
theorem dX5_wishTold_35 : decode cX5_wishTold 35 = .ok (.getfield 71, 3) := by decide +kernel
theorem dX5_wishTold_38 : decode cX5_wishTold 38 = .ok (.iconst 2, 1) := by decide +kernel
theorem dX5_wishTold_39 : decode cX5_wishTold 39 = .ok (.iaload, 1) := by decide +kernel
theorem dX5_wishTold_40 : decode cX5_wishTold 40 = .ok (.invokevirtual 148, 3) := by decide +kernel
theorem dX5_wishTold_43 : decode cX5_wishTold 43 = .ok (.iconst 1, 1) := by decide +kernel
theorem dX5_wishTold_44 : decode cX5_wishTold 44 = .ok (.ireturn, 1) := by decide +kernel
theorem dX5_statement_0 : decode cX5_statement 0 = .ok (.aload_n 0, 1) := by decide +kernel
theorem dX5_statement_1 : decode cX5_statement 1 = .ok (.ldc 205, 2) := by decide +kernel
theorem dX5_statement_3 : decode cX5_statement 3 = .ok (.invokevirtual 207, 3) := by decide +kernel
theorem dX5_statement_6 : decode cX5_statement 6 = .ok (.ifCond .eq 53, 3) := by decide +kernel
theorem dX5_statement_9 : decode cX5_statement 9 = .ok (.aload_n 0, 1) := by decide +kernel
theorem dX5_statement_10 : decode cX5_statement 10 = .ok (.getfield 80, 3) := by decide +kernel
theorem dX5_statement_13 : decode cX5_statement 13 = .ok (.bipush 14, 2) := by decide +kernel
theorem dX5_statement_15 : decode cX5_statement 15 = .ok (.if_icmp .ge 44, 3) := by decide +kernel
theorem dX5_statement_18 : decode cX5_statement 18 = .ok (.aload_n 0, 1) := by decide +kernel
theorem dX5_statement_19 : decode cX5_statement 19 = .ok (.iconst 1, 1) := by decide +kernel
theorem dX5_statement_20 : decode cX5_statement 20 = .ok (.bipush 99, 2) := by decide +kernel
theorem dX5_statement_22 : decode cX5_statement 22 = .ok (.invokevirtual 199, 3) := by decide +kernel
theorem dX5_statement_25 : decode cX5_statement 25 = .ok (.ifCond .eq 14, 3) := by decide +kernel
theorem dX5_statement_28 : decode cX5_statement 28 = .ok (.aload_n 0, 1) := by decide +kernel
theorem dX5_statement_29 : decode cX5_statement 29 = .ok (.iconst 1, 1) := by decide +kernel
theorem dX5_statement_30 : decode cX5_statement 30 = .ok (.iconst 0, 1) := by decide +kernel
theorem dX5_statement_31 : decode cX5_statement 31 = .ok (.bipush 9, 2) := by decide +kernel
theorem dX5_statement_33 : decode cX5_statement 33 = .ok (.invokevirtual 195, 3) := by decide +kernel
theorem dX5_statement_36 : decode cX5_statement 36 = .ok (.ifCond .ne 5, 3) := by decide +kernel
theorem dX5_statement_39 : decode cX5_statement 39 = .ok (.iconst 0, 1) := by decide +kernel
theorem dX5_statement_40 : decode cX5_statement 40 = .ok (.ireturn, 1) := by decide +kernel
theorem dX5_statement_41 : decode cX5_statement 41 = .ok (.aload_n 0, 1) := by decide +kernel
theorem dX5_statement_42 : decode cX5_statement 42 = .ok (.aload_n 0, 1) := by decide +kernel
theorem dX5_statement_43 : decode cX5_statement 43 = .ok (.getfield 71, 3) := by decide +kernel
theorem dX5_statement_46 : decode cX5_statement 46 = .ok (.iconst 0, 1) := by decide +kernel
theorem dX5_statement_47 : decode cX5_statement 47 = .ok (.iaload, 1) := by decide +kernel
theorem dX5_statement_48 : decode cX5_statement 48 = .ok (.aload_n 0, 1) := by decide +kernel
theorem dX5_statement_49 : decode cX5_statement 49 = .ok (.getfield 71, 3) := by decide +kernel
theorem dX5_statement_52 : decode cX5_statement 52 = .ok (.iconst 1, 1) := by decide +kernel
theorem dX5_statement_53 : decode cX5_statement 53 = .ok (.iaload, 1) := by decide +kernel
theorem dX5_statement_54 : decode cX5_statement 54 = .ok (.invokevirtual 129, 3) := by decide +kernel
theorem dX5_statement_57 : decode cX5_statement 57 = .ok (.iconst 1, 1) := by decide +kernel
theorem dX5_statement_58 : decode cX5_statement 58 = .ok (.ireturn, 1) := by decide +kernel
theorem dX5_statement_59 : decode cX5_statement 59 = .ok (.aload_n 0, 1) := by decide +kernel
theorem dX5_statement_60 : decode cX5_statement 60 = .ok (.ldc 211, 2) := by decide +kernel
theorem dX5_statement_62 : decode cX5_statement 62 = .ok (.invokevirtual 207, 3) := by decide +kernel
theorem dX5_statement_65 : decode cX5_statement 65 = .ok (.ifCond .eq 68, 3) := by decide +kernel
theorem dX5_statement_68 : decode cX5_statement 68 = .ok (.aload_n 0, 1) := by decide +kernel
theorem dX5_statement_69 : decode cX5_statement 69 = .ok (.getfield 91, 3) := by decide +kernel
theorem dX5_statement_72 : decode cX5_statement 72 = .ok (.bipush 6, 2) := by decide +kernel
theorem dX5_statement_74 : decode cX5_statement 74 = .ok (.if_icmp .ge 59, 3) := by decide +kernel
theorem dX5_statement_77 : decode cX5_statement 77 = .ok (.aload_n 0, 1) := by decide +kernel
theorem dX5_statement_78 : decode cX5_statement 78 = .ok (.iconst 0, 1) := by decide +kernel
theorem dX5_statement_79 : decode cX5_statement 79 = .ok (.iconst 5, 1) := by decide +kernel
theorem dX5_statement_80 : decode cX5_statement 80 = .ok (.invokevirtual 199, 3) := by decide +kernel
theorem dX5_statement_83 : decode cX5_statement 83 = .ok (.ifCond .eq 24, 3) := by decide +kernel
theorem dX5_statement_86 : decode cX5_statement 86 = .ok (.aload_n 0, 1) := by decide +kernel
theorem dX5_statement_87 : decode cX5_statement 87 = .ok (.iconst 1, 1) := by decide +kernel
theorem dX5_statement_88 : decode cX5_statement 88 = .ok (.iconst 2, 1) := by decide +kernel
theorem dX5_statement_89 : decode cX5_statement 89 = .ok (.iconst 5, 1) := by decide +kernel
theorem dX5_statement_90 : decode cX5_statement 90 = .ok (.invokevirtual 195, 3) := by decide +kernel
theorem dX5_statement_93 : decode cX5_statement 93 = .ok (.ifCond .eq 14, 3) := by decide +kernel
theorem dX5_statement_96 : decode cX5_statement 96 = .ok (.aload_n 0, 1) := by decide +kernel
theorem dX5_statement_97 : decode cX5_statement 97 = .ok (.iconst 2, 1) := by decide +kernel
theorem dX5_statement_98 : decode cX5_statement 98 = .ok (.iconst 0, 1) := by decide +kernel
theorem dX5_statement_99 : decode cX5_statement 99 = .ok (.bipush 13, 2) := by decide +kernel
theorem dX5_statement_101 : decode cX5_statement 101 = .ok (.invokevirtual 195, 3) := by decide +kernel
theorem dX5_statement_104 : decode cX5_statement 104 = .ok (.ifCond .ne 5, 3) := by decide +kernel
theorem dX5_statement_107 : decode cX5_statement 107 = .ok (.iconst 0, 1) := by decide +kernel
theorem dX5_statement_108 : decode cX5_statement 108 = .ok (.ireturn, 1) := by decide +kernel
theorem dX5_statement_109 : decode cX5_statement 109 = .ok (.aload_n 0, 1) := by decide +kernel
theorem dX5_statement_110 : decode cX5_statement 110 = .ok (.aload_n 0, 1) := by decide +kernel
theorem dX5_statement_111 : decode cX5_statement 111 = .ok (.getfield 71, 3) := by decide +kernel
theorem dX5_statement_114 : decode cX5_statement 114 = .ok (.iconst 0, 1) := by decide +kernel
theorem dX5_statement_115 : decode cX5_statement 115 = .ok (.iaload, 1) := by decide +kernel
theorem dX5_statement_116 : decode cX5_statement 116 = .ok (.aload_n 0, 1) := by decide +kernel
theorem dX5_statement_117 : decode cX5_statement 117 = .ok (.getfield 71, 3) := by decide +kernel
theorem dX5_statement_120 : decode cX5_statement 120 = .ok (.iconst 1, 1) := by decide +kernel
theorem dX5_statement_121 : decode cX5_statement 121 = .ok (.iaload, 1) := by decide +kernel
theorem dX5_statement_122 : decode cX5_statement 122 = .ok (.aload_n 0, 1) := by decide +kernel
theorem dX5_statement_123 : decode cX5_statement 123 = .ok (.getfield 71, 3) := by decide +kernel
theorem dX5_statement_126 : decode cX5_statement 126 = .ok (.iconst 2, 1) := by decide +kernel
theorem dX5_statement_127 : decode cX5_statement 127 = .ok (.iaload, 1) := by decide +kernel
theorem dX5_statement_128 : decode cX5_statement 128 = .ok (.invokevirtual 137, 3) := by decide +kernel
theorem dX5_statement_131 : decode cX5_statement 131 = .ok (.iconst 1, 1) := by decide +kernel
theorem dX5_statement_132 : decode cX5_statement 132 = .ok (.ireturn, 1) := by decide +kernel
theorem dX5_statement_133 : decode cX5_statement 133 = .ok (.aload_n 0, 1) := by decide +kernel
theorem dX5_statement_134 : decode cX5_statement 134 = .ok (.ldc 213, 2) := by decide +kernel
theorem dX5_statement_136 : decode cX5_statement 136 = .ok (.invokevirtual 207, 3) := by decide +kernel
theorem dX5_statement_139 : decode cX5_statement 139 = .ok (.ifCond .eq 18, 3) := by decide +kernel
theorem dX5_statement_142 : decode cX5_statement 142 = .ok (.aload_n 0, 1) := by decide +kernel
theorem dX5_statement_143 : decode cX5_statement 143 = .ok (.getfield 141, 3) := by decide +kernel
theorem dX5_statement_146 : decode cX5_statement 146 = .ok (.bipush 20, 2) := by decide +kernel
theorem dX5_statement_148 : decode cX5_statement 148 = .ok (.if_icmp .ge 9, 3) := by decide +kernel
theorem dX5_statement_151 : decode cX5_statement 151 = .ok (.aload_n 0, 1) := by decide +kernel
theorem dX5_statement_152 : decode cX5_statement 152 = .ok (.iconst 1, 1) := by decide +kernel
theorem dX5_statement_153 : decode cX5_statement 153 = .ok (.invokevirtual 215, 3) := by decide +kernel
theorem dX5_statement_156 : decode cX5_statement 156 = .ok (.ireturn, 1) := by decide +kernel
theorem dX5_statement_157 : decode cX5_statement 157 = .ok (.aload_n 0, 1) := by decide +kernel
theorem dX5_statement_158 : decode cX5_statement 158 = .ok (.ldc 218, 2) := by decide +kernel
theorem dX5_statement_160 : decode cX5_statement 160 = .ok (.invokevirtual 207, 3) := by decide +kernel
theorem dX5_statement_163 : decode cX5_statement 163 = .ok (.ifCond .eq 18, 3) := by decide +kernel
theorem dX5_statement_166 : decode cX5_statement 166 = .ok (.aload_n 0, 1) := by decide +kernel
theorem dX5_statement_167 : decode cX5_statement 167 = .ok (.getfield 141, 3) := by decide +kernel
theorem dX5_statement_170 : decode cX5_statement 170 = .ok (.bipush 20, 2) := by decide +kernel
theorem dX5_statement_172 : decode cX5_statement 172 = .ok (.if_icmp .ge 9, 3) := by decide +kernel
theorem dX5_statement_175 : decode cX5_statement 175 = .ok (.aload_n 0, 1) := by decide +kernel
theorem dX5_statement_176 : decode cX5_statement 176 = .ok (.iconst 0, 1) := by decide +kernel
theorem dX5_statement_177 : decode cX5_statement 177 = .ok (.invokevirtual 215, 3) := by decide +kernel
theorem dX5_statement_180 : decode cX5_statement 180 = .ok (.ireturn, 1) := by decide +kernel
theorem dX5_statement_181 : decode cX5_statement 181 = .ok (.aload_n 0, 1) := by decide +kernel
theorem dX5_statement_182 : decode cX5_statement 182 = .ok (.ldc 220, 2) := by decide +kernel
theorem dX5_statement_184 : decode cX5_statement 184 = .ok (.invokevirtual 207, 3) := by decide +kernel
theorem dX5_statement_187 : decode cX5_statement 187 = .ok (.ifCond .eq 30, 3) := by decide +kernel
theorem dX5_statement_190 : decode cX5_statement 190 = .ok (.aload_n 0, 1) := by decide +kernel
theorem dX5_statement_191 : decode cX5_statement 191 = .ok (.invokevirtual 202, 3) := by decide +kernel
theorem dX5_statement_194 : decode cX5_statement 194 = .ok (.ifCond .ne 5, 3) := by decide +kernel
theorem dX5_statement_197 : decode cX5_statement 197 = .ok (.iconst 0, 1) := by decide +kernel
theorem dX5_statement_198 : decode cX5_statement 198 = .ok (.ireturn, 1) := by decide +kernel
theorem dX5_statement_199 : decode cX5_statement 199 = .ok (.aload_n 0, 1) := by decide +kernel
theorem dX5_statement_200 : decode cX5_statement 200 = .ok (.aload_n 0, 1) := by decide +kernel
theorem dX5_statement_201 : decode cX5_statement 201 = .ok (.getfield 71, 3) := by decide +kernel
theorem dX5_statement_204 : decode cX5_statement 204 = .ok (.iconst 0, 1) := by decide +kernel
theorem dX5_statement_205 : decode cX5_statement 205 = .ok (.iaload, 1) := by decide +kernel
theorem dX5_statement_206 : decode cX5_statement 206 = .ok (.aload_n 0, 1) := by decide +kernel
theorem dX5_statement_207 : decode cX5_statement 207 = .ok (.getfield 71, 3) := by decide +kernel
theorem dX5_statement_210 : decode cX5_statement 210 = .ok (.iconst 1, 1) := by decide +kernel
theorem dX5_statement_211 : decode cX5_statement 211 = .ok (.iaload, 1) := by decide +kernel
theorem dX5_statement_212 : decode cX5_statement 212 = .ok (.invokevirtual 222, 3) := by decide +kernel
theorem dX5_statement_215 : decode cX5_statement 215 = .ok (.iconst 1, 1) := by decide +kernel
theorem dX5_statement_216 : decode cX5_statement 216 = .ok (.ireturn, 1) := by decide +kernel
theorem dX5_statement_217 : decode cX5_statement 217 = .ok (.aload_n 0, 1) := by decide +kernel
theorem dX5_statement_218 : decode cX5_statement 218 = .ok (.ldc 225, 2) := by decide +kernel
theorem dX5_statement_220 : decode cX5_statement 220 = .ok (.invokevirtual 207, 3) := by decide +kernel
theorem dX5_statement_223 : decode cX5_statement 223 = .ok (.ifCond .eq 52, 3) := by decide +kernel
theorem dX5_statement_226 : decode cX5_statement 226 = .ok (.aload_n 0, 1) := by decide +kernel
theorem dX5_statement_227 : decode cX5_statement 227 = .ok (.iconst 0, 1) := by decide +kernel
theorem dX5_statement_228 : decode cX5_statement 228 = .ok (.aload_n 0, 1) := by decide +kernel
theorem dX5_statement_229 : decode cX5_statement 229 = .ok (.getfield 80, 3) := by decide +kernel
theorem dX5_statement_232 : decode cX5_statement 232 = .ok (.iconst 1, 1) := by decide +kernel
theorem dX5_statement_233 : decode cX5_statement 233 = .ok (.isub, 1) := by decide +kernel
theorem dX5_statement_234 : decode cX5_statement 234 = .ok (.invokevirtual 199, 3) := by decide +kernel
theorem dX5_statement_237 : decode cX5_statement 237 = .ok (.ifCond .eq 18, 3) := by decide +kernel
theorem dX5_statement_240 : decode cX5_statement 240 = .ok (.aload_n 0, 1) := by decide +kernel
theorem dX5_statement_241 : decode cX5_statement 241 = .ok (.iconst 1, 1) := by decide +kernel
theorem dX5_statement_242 : decode cX5_statement 242 = .ok (.iconst 0, 1) := by decide +kernel
theorem dX5_statement_243 : decode cX5_statement 243 = .ok (.aload_n 0, 1) := by decide +kernel
theorem dX5_statement_244 : decode cX5_statement 244 = .ok (.getfield 80, 3) := by decide +kernel
theorem dX5_statement_247 : decode cX5_statement 247 = .ok (.iconst 1, 1) := by decide +kernel
theorem dX5_statement_248 : decode cX5_statement 248 = .ok (.isub, 1) := by decide +kernel
theorem dX5_statement_249 : decode cX5_statement 249 = .ok (.invokevirtual 195, 3) := by decide +kernel
theorem dX5_statement_252 : decode cX5_statement 252 = .ok (.ifCond .ne 5, 3) := by decide +kernel
theorem dX5_statement_255 : decode cX5_statement 255 = .ok (.iconst 0, 1) := by decide +kernel
theorem dX5_statement_256 : decode cX5_statement 256 = .ok (.ireturn, 1) := by decide +kernel
theorem dX5_statement_257 : decode cX5_statement 257 = .ok (.aload_n 0, 1) := by decide +kernel
theorem dX5_statement_258 : decode cX5_statement 258 = .ok (.aload_n 0, 1) := by decide +kernel
theorem dX5_statement_259 : decode cX5_statement 259 = .ok (.getfield 71, 3) := by decide +kernel
theorem dX5_statement_262 : decode cX5_statement 262 = .ok (.iconst 0, 1) := by decide +kernel
theorem dX5_statement_263 : decode cX5_statement 263 = .ok (.iaload, 1) := by decide +kernel
theorem dX5_statement_264 : decode cX5_statement 264 = .ok (.aload_n 0, 1) := by decide +kernel
theorem dX5_statement_265 : decode cX5_statement 265 = .ok (.getfield 71, 3) := by decide +kernel
theorem dX5_statement_268 : decode cX5_statement 268 = .ok (.iconst 1, 1) := by decide +kernel
theorem dX5_statement_269 : decode cX5_statement 269 = .ok (.iaload, 1) := by decide +kernel
theorem dX5_statement_270 : decode cX5_statement 270 = .ok (.invokevirtual 227, 3) := by decide +kernel
theorem dX5_statement_273 : decode cX5_statement 273 = .ok (.iconst 1, 1) := by decide +kernel
theorem dX5_statement_274 : decode cX5_statement 274 = .ok (.ireturn, 1) := by decide +kernel
theorem dX5_statement_275 : decode cX5_statement 275 = .ok (.aload_n 0, 1) := by decide +kernel
theorem dX5_statement_276 : decode cX5_statement 276 = .ok (.invokevirtual 188, 3) := by decide +kernel
theorem dX5_statement_279 : decode cX5_statement 279 = .ok (.ireturn, 1) := by decide +kernel
theorem dX5_readAll_0 : decode cX5_readAll 0 = .ok (.aload_n 0, 1) := by decide +kernel
theorem dX5_readAll_1 : decode cX5_readAll 1 = .ok (.iconst 1, 1) := by decide +kernel
theorem dX5_readAll_2 : decode cX5_readAll 2 = .ok (.putfield 230, 3) := by decide +kernel
theorem dX5_readAll_5 : decode cX5_readAll 5 = .ok (.aload_n 0, 1) := by decide +kernel
theorem dX5_readAll_6 : decode cX5_readAll 6 = .ok (.iconst 0, 1) := by decide +kernel
theorem dX5_readAll_7 : decode cX5_readAll 7 = .ok (.putfield 157, 3) := by decide +kernel
theorem dX5_readAll_10 : decode cX5_readAll 10 = .ok (.aload_n 0, 1) := by decide +kernel
theorem dX5_readAll_11 : decode cX5_readAll 11 = .ok (.invokevirtual 192, 3) := by decide +kernel
theorem dX5_readAll_14 : decode cX5_readAll 14 = .ok (.aload_n 0, 1) := by decide +kernel
theorem dX5_readAll_15 : decode cX5_readAll 15 = .ok (.invokevirtual 233, 3) := by decide +kernel
theorem dX5_readAll_18 : decode cX5_readAll 18 = .ok (.ifCond .ne 5, 3) := by decide +kernel
theorem dX5_readAll_21 : decode cX5_readAll 21 = .ok (.iconst 0, 1) := by decide +kernel
theorem dX5_readAll_22 : decode cX5_readAll 22 = .ok (.ireturn, 1) := by decide +kernel
theorem dX5_readAll_23 : decode cX5_readAll 23 = .ok (.aload_n 0, 1) := by decide +kernel
theorem dX5_readAll_24 : decode cX5_readAll 24 = .ok (.getfield 166, 3) := by decide +kernel
theorem dX5_readAll_27 : decode cX5_readAll 27 = .ok (.ifCond .eq 42, 3) := by decide +kernel
theorem dX5_readAll_30 : decode cX5_readAll 30 = .ok (.aload_n 0, 1) := by decide +kernel
theorem dX5_readAll_31 : decode cX5_readAll 31 = .ok (.getfield 166, 3) := by decide +kernel
theorem dX5_readAll_34 : decode cX5_readAll 34 = .ok (.iconst 3, 1) := by decide +kernel
theorem dX5_readAll_35 : decode cX5_readAll 35 = .ok (.if_icmp .eq 8, 3) := by decide +kernel
theorem dX5_readAll_38 : decode cX5_readAll 38 = .ok (.aload_n 0, 1) := by decide +kernel
theorem dX5_readAll_39 : decode cX5_readAll 39 = .ok (.invokevirtual 188, 3) := by decide +kernel
theorem dX5_readAll_42 : decode cX5_readAll 42 = .ok (.ireturn, 1) := by decide +kernel
theorem dX5_readAll_43 : decode cX5_readAll 43 = .ok (.aload_n 0, 1) := by decide +kernel
theorem dX5_readAll_44 : decode cX5_readAll 44 = .ok (.invokevirtual 192, 3) := by decide +kernel
theorem dX5_readAll_47 : decode cX5_readAll 47 = .ok (.aload_n 0, 1) := by decide +kernel
theorem dX5_readAll_48 : decode cX5_readAll 48 = .ok (.invokevirtual 233, 3) := by decide +kernel
theorem dX5_readAll_51 : decode cX5_readAll 51 = .ok (.ifCond .ne 5, 3) := by decide +kernel
theorem dX5_readAll_54 : decode cX5_readAll 54 = .ok (.iconst 0, 1) := by decide +kernel
theorem dX5_readAll_55 : decode cX5_readAll 55 = .ok (.ireturn, 1) := by decide +kernel
theorem dX5_readAll_56 : decode cX5_readAll 56 = .ok (.aload_n 0, 1) := by decide +kernel
theorem dX5_readAll_57 : decode cX5_readAll 57 = .ok (.dup, 1) := by decide +kernel
theorem dX5_readAll_58 : decode cX5_readAll 58 = .ok (.getfield 230, 3) := by decide +kernel
theorem dX5_readAll_61 : decode cX5_readAll 61 = .ok (.iconst 1, 1) := by decide +kernel
theorem dX5_readAll_62 : decode cX5_readAll 62 = .ok (.iadd, 1) := by decide +kernel
theorem dX5_readAll_63 : decode cX5_readAll 63 = .ok (.putfield 230, 3) := by decide +kernel
theorem dX5_readAll_66 : decode cX5_readAll 66 = .ok (.goto (-43), 3) := by decide +kernel
theorem dX5_readAll_69 : decode cX5_readAll 69 = .ok (.iconst 1, 1) := by decide +kernel
theorem dX5_readAll_70 : decode cX5_readAll 70 = .ok (.ireturn, 1) := by decide +kernel
theorem dX5_fresh_0 : decode cX5_fresh 0 = .ok (.aload_n 0, 1) := by decide +kernel
theorem dX5_fresh_1 : decode cX5_fresh 1 = .ok (.getfield 236, 3) := by decide +kernel
theorem dX5_fresh_4 : decode cX5_fresh 4 = .ok (.ifnonnull 14, 3) := by decide +kernel
theorem dX5_fresh_7 : decode cX5_fresh 7 = .ok (.aload_n 0, 1) := by decide +kernel
theorem dX5_fresh_8 : decode cX5_fresh 8 = .ok (.new 8, 3) := by decide +kernel
theorem dX5_fresh_11 : decode cX5_fresh 11 = .ok (.dup, 1) := by decide +kernel
theorem dX5_fresh_12 : decode cX5_fresh 12 = .ok (.invokespecial 240, 3) := by decide +kernel
theorem dX5_fresh_15 : decode cX5_fresh 15 = .ok (.putfield 236, 3) := by decide +kernel
theorem dX5_fresh_18 : decode cX5_fresh 18 = .ok (.aload_n 0, 1) := by decide +kernel
theorem dX5_fresh_19 : decode cX5_fresh 19 = .ok (.getfield 236, 3) := by decide +kernel
theorem dX5_fresh_22 : decode cX5_fresh 22 = .ok (.aload_n 0, 1) := by decide +kernel
theorem dX5_fresh_23 : decode cX5_fresh 23 = .ok (.invokevirtual 241, 3) := by decide +kernel
theorem dX5_fresh_26 : decode cX5_fresh 26 = .ok (.aload_n 0, 1) := by decide +kernel
theorem dX5_fresh_27 : decode cX5_fresh 27 = .ok (.getfield 236, 3) := by decide +kernel
theorem dX5_fresh_30 : decode cX5_fresh 30 = .ok (.areturn, 1) := by decide +kernel
theorem dX5_yard_0 : decode cX5_yard 0 = .ok (.aload_n 0, 1) := by decide +kernel
theorem dX5_yard_1 : decode cX5_yard 1 = .ok (.invokevirtual 245, 3) := by decide +kernel
theorem dX5_yard_4 : decode cX5_yard 4 = .ok (.astore_n 1, 1) := by decide +kernel
theorem dX5_yard_5 : decode cX5_yard 5 = .ok (.aload_n 0, 1) := by decide +kernel
theorem dX5_yard_6 : decode cX5_yard 6 = .ok (.invokevirtual 249, 3) := by decide +kernel
theorem dX5_yard_9 : decode cX5_yard 9 = .ok (.istore_n 2, 1) := by decide +kernel
theorem dX5_yard_10 : decode cX5_yard 10 = .ok (.aload_n 0, 1) := by decide +kernel
theorem dX5_yard_11 : decode cX5_yard 11 = .ok (.iconst 0, 1) := by decide +kernel
theorem dX5_yard_12 : decode cX5_yard 12 = .ok (.putfield 154, 3) := by decide +kernel
theorem dX5_yard_15 : decode cX5_yard 15 = .ok (.iload_n 2, 1) := by decide +kernel
theorem dX5_yard_16 : decode cX5_yard 16 = .ok (.ifCond .ne 23, 3) := by decide +kernel
theorem dX5_yard_19 : decode cX5_yard 19 = .ok (.aload_n 0, 1) := by decide +kernel
theorem dX5_yard_20 : decode cX5_yard 20 = .ok (.aload_n 1, 1) := by decide +kernel
theorem dX5_yard_21 : decode cX5_yard 21 = .ok (.invokevirtual 241, 3) := by decide +kernel
theorem dX5_yard_24 : decode cX5_yard 24 = .ok (.aload_n 0, 1) := by decide +kernel
theorem dX5_yard_25 : decode cX5_yard 25 = .ok (.bipush (-2), 2) := by decide +kernel
theorem dX5_yard_27 : decode cX5_yard 27 = .ok (.invokevirtual 104, 3) := by decide +kernel
theorem dX5_yard_30 : decode cX5_yard 30 = .ok (.pop, 1) := by decide +kernel
theorem dX5_yard_31 : decode cX5_yard 31 = .ok (.bipush (-20), 2) := by decide +kernel
theorem dX5_yard_33 : decode cX5_yard 33 = .ok (.aload_n 0, 1) := by decide +kernel
theorem dX5_yard_34 : decode cX5_yard 34 = .ok (.getfield 175, 3) := by decide +kernel
theorem dX5_yard_37 : decode cX5_yard 37 = .ok (.isub, 1) := by decide +kernel
theorem dX5_yard_38 : decode cX5_yard 38 = .ok (.ireturn, 1) := by decide +kernel
theorem dX5_yard_39 : decode cX5_yard 39 = .ok (.aload_n 0, 1) := by decide +kernel
theorem dX5_yard_40 : decode cX5_yard 40 = .ok (.getfield 230, 3) := by decide +kernel
theorem dX5_yard_43 : decode cX5_yard 43 = .ok (.ireturn, 1) := by decide +kernel
theorem dX5_childOf_0 : decode cX5_childOf 0 = .ok (.aload_n 0, 1) := by decide +kernel
theorem dX5_childOf_1 : decode cX5_childOf 1 = .ok (.iload_n 1, 1) := by decide +kernel
theorem dX5_childOf_2 : decode cX5_childOf 2 = .ok (.i2l, 1) := by decide +kernel
theorem dX5_childOf_3 : decode cX5_childOf 3 = .ok (.invokevirtual 87, 3) := by decide +kernel
theorem dX5_childOf_6 : decode cX5_childOf 6 = .ok (.ifCond .eq 15, 3) := by decide +kernel
theorem dX5_childOf_9 : decode cX5_childOf 9 = .ok (.iload_n 2, 1) := by decide +kernel
theorem dX5_childOf_10 : decode cX5_childOf 10 = .ok (.i2l, 1) := by decide +kernel
theorem dX5_childOf_11 : decode cX5_childOf 11 = .ok (.lconst 0, 1) := by decide +kernel
theorem dX5_childOf_12 : decode cX5_childOf 12 = .ok (.ldc2_w 252, 3) := by decide +kernel
theorem dX5_childOf_15 : decode cX5_childOf 15 = .ok (.invokestatic 83, 3) := by decide +kernel
theorem dX5_childOf_18 : decode cX5_childOf 18 = .ok (.ifCond .ne 10, 3) := by decide +kernel
theorem dX5_childOf_21 : decode cX5_childOf 21 = .ok (.aload_n 0, 1) := by decide +kernel
theorem dX5_childOf_22 : decode cX5_childOf 22 = .ok (.bipush (-2), 2) := by decide +kernel
theorem dX5_childOf_24 : decode cX5_childOf 24 = .ok (.invokevirtual 104, 3) := by decide +kernel
theorem dX5_childOf_27 : decode cX5_childOf 27 = .ok (.ireturn, 1) := by decide +kernel
theorem dX5_childOf_28 : decode cX5_childOf 28 = .ok (.iconst 0, 1) := by decide +kernel
theorem dX5_childOf_29 : decode cX5_childOf 29 = .ok (.istore_n 3, 1) := by decide +kernel
theorem dX5_childOf_30 : decode cX5_childOf 30 = .ok (.iload_n 2, 1) := by decide +kernel
theorem dX5_childOf_31 : decode cX5_childOf 31 = .ok (.tableswitch 46 0 2 #[25, 32, 39], 25) := by decide +kernel
theorem dX5_childOf_56 : decode cX5_childOf 56 = .ok (.aload_n 0, 1) := by decide +kernel
theorem dX5_childOf_57 : decode cX5_childOf 57 = .ok (.getfield 37, 3) := by decide +kernel
theorem dX5_childOf_60 : decode cX5_childOf 60 = .ok (.iload_n 1, 1) := by decide +kernel
theorem dX5_childOf_61 : decode cX5_childOf 61 = .ok (.iaload, 1) := by decide +kernel
theorem dX5_childOf_62 : decode cX5_childOf 62 = .ok (.ireturn, 1) := by decide +kernel
theorem dX5_childOf_63 : decode cX5_childOf 63 = .ok (.aload_n 0, 1) := by decide +kernel
theorem dX5_childOf_64 : decode cX5_childOf 64 = .ok (.getfield 40, 3) := by decide +kernel
theorem dX5_childOf_67 : decode cX5_childOf 67 = .ok (.iload_n 1, 1) := by decide +kernel
theorem dX5_childOf_68 : decode cX5_childOf 68 = .ok (.iaload, 1) := by decide +kernel
theorem dX5_childOf_69 : decode cX5_childOf 69 = .ok (.ireturn, 1) := by decide +kernel
theorem dX5_childOf_70 : decode cX5_childOf 70 = .ok (.aload_n 0, 1) := by decide +kernel
theorem dX5_childOf_71 : decode cX5_childOf 71 = .ok (.getfield 43, 3) := by decide +kernel
theorem dX5_childOf_74 : decode cX5_childOf 74 = .ok (.iload_n 1, 1) := by decide +kernel
theorem dX5_childOf_75 : decode cX5_childOf 75 = .ok (.iaload, 1) := by decide +kernel
theorem dX5_childOf_76 : decode cX5_childOf 76 = .ok (.ireturn, 1) := by decide +kernel
theorem dX5_childOf_77 : decode cX5_childOf 77 = .ok (.iconst 0, 1) := by decide +kernel
theorem dX5_childOf_78 : decode cX5_childOf 78 = .ok (.istore 4, 2) := by decide +kernel
theorem dX5_childOf_80 : decode cX5_childOf 80 = .ok (.iload 4, 2) := by decide +kernel
theorem dX5_childOf_82 : decode cX5_childOf 82 = .ok (.aload_n 0, 1) := by decide +kernel
theorem dX5_childOf_83 : decode cX5_childOf 83 = .ok (.getfield 141, 3) := by decide +kernel
theorem dX5_childOf_86 : decode cX5_childOf 86 = .ok (.if_icmp .ge 39, 3) := by decide +kernel
theorem dX5_childOf_89 : decode cX5_childOf 89 = .ok (.iload_n 3, 1) := by decide +kernel
theorem dX5_childOf_90 : decode cX5_childOf 90 = .ok (.aload_n 0, 1) := by decide +kernel
theorem dX5_childOf_91 : decode cX5_childOf 91 = .ok (.getfield 55, 3) := by decide +kernel
theorem dX5_childOf_94 : decode cX5_childOf 94 = .ok (.iload 4, 2) := by decide +kernel
theorem dX5_childOf_96 : decode cX5_childOf 96 = .ok (.iaload, 1) := by decide +kernel
theorem dX5_childOf_97 : decode cX5_childOf 97 = .ok (.iload_n 1, 1) := by decide +kernel
theorem dX5_childOf_98 : decode cX5_childOf 98 = .ok (.if_icmp .eq 14, 3) := by decide +kernel
theorem dX5_childOf_101 : decode cX5_childOf 101 = .ok (.aload_n 0, 1) := by decide +kernel
theorem dX5_childOf_102 : decode cX5_childOf 102 = .ok (.getfield 58, 3) := by decide +kernel
theorem dX5_childOf_105 : decode cX5_childOf 105 = .ok (.iload 4, 2) := by decide +kernel
theorem dX5_childOf_107 : decode cX5_childOf 107 = .ok (.iaload, 1) := by decide +kernel
theorem dX5_childOf_108 : decode cX5_childOf 108 = .ok (.iload_n 1, 1) := by decide +kernel
theorem dX5_childOf_109 : decode cX5_childOf 109 = .ok (.if_icmp .ne 7, 3) := by decide +kernel
theorem dX5_childOf_112 : decode cX5_childOf 112 = .ok (.iconst 1, 1) := by decide +kernel
theorem dX5_childOf_113 : decode cX5_childOf 113 = .ok (.goto 4, 3) := by decide +kernel
theorem dX5_childOf_116 : decode cX5_childOf 116 = .ok (.iconst 0, 1) := by decide +kernel
theorem dX5_childOf_117 : decode cX5_childOf 117 = .ok (.iadd, 1) := by decide +kernel
theorem dX5_childOf_118 : decode cX5_childOf 118 = .ok (.istore_n 3, 1) := by decide +kernel
theorem dX5_childOf_119 : decode cX5_childOf 119 = .ok (.iinc 4 1, 3) := by decide +kernel
theorem dX5_childOf_122 : decode cX5_childOf 122 = .ok (.goto (-42), 3) := by decide +kernel
theorem dX5_childOf_125 : decode cX5_childOf 125 = .ok (.iload_n 3, 1) := by decide +kernel
theorem dX5_childOf_126 : decode cX5_childOf 126 = .ok (.ireturn, 1) := by decide +kernel
theorem dX5_countOf_0 : decode cX5_countOf 0 = .ok (.aload_n 0, 1) := by decide +kernel
theorem dX5_countOf_1 : decode cX5_countOf 1 = .ok (.iload_n 1, 1) := by decide +kernel
theorem dX5_countOf_2 : decode cX5_countOf 2 = .ok (.invokevirtual 94, 3) := by decide +kernel
theorem dX5_countOf_5 : decode cX5_countOf 5 = .ok (.ifCond .eq 15, 3) := by decide +kernel
theorem dX5_countOf_8 : decode cX5_countOf 8 = .ok (.iload_n 2, 1) := by decide +kernel
theorem dX5_countOf_9 : decode cX5_countOf 9 = .ok (.i2l, 1) := by decide +kernel
theorem dX5_countOf_10 : decode cX5_countOf 10 = .ok (.lconst 0, 1) := by decide +kernel
theorem dX5_countOf_11 : decode cX5_countOf 11 = .ok (.ldc2_w 133, 3) := by decide +kernel
theorem dX5_countOf_14 : decode cX5_countOf 14 = .ok (.invokestatic 83, 3) := by decide +kernel
theorem dX5_countOf_17 : decode cX5_countOf 17 = .ok (.ifCond .ne 10, 3) := by decide +kernel
theorem dX5_countOf_20 : decode cX5_countOf 20 = .ok (.aload_n 0, 1) := by decide +kernel
theorem dX5_countOf_21 : decode cX5_countOf 21 = .ok (.bipush (-2), 2) := by decide +kernel
theorem dX5_countOf_23 : decode cX5_countOf 23 = .ok (.invokevirtual 104, 3) := by decide +kernel
theorem dX5_countOf_26 : decode cX5_countOf 26 = .ok (.ireturn, 1) := by decide +kernel
theorem dX5_countOf_27 : decode cX5_countOf 27 = .ok (.iload_n 2, 1) := by decide +kernel
theorem dX5_countOf_28 : decode cX5_countOf 28 = .ok (.ifCond .ne 12, 3) := by decide +kernel
theorem dX5_countOf_31 : decode cX5_countOf 31 = .ok (.aload_n 0, 1) := by decide +kernel
theorem dX5_countOf_32 : decode cX5_countOf 32 = .ok (.getfield 46, 3) := by decide +kernel
theorem dX5_countOf_35 : decode cX5_countOf 35 = .ok (.iload_n 1, 1) := by decide +kernel
theorem dX5_countOf_36 : decode cX5_countOf 36 = .ok (.iaload, 1) := by decide +kernel
theorem dX5_countOf_37 : decode cX5_countOf 37 = .ok (.goto 23, 3) := by decide +kernel
theorem dX5_countOf_40 : decode cX5_countOf 40 = .ok (.iload_n 2, 1) := by decide +kernel
theorem dX5_countOf_41 : decode cX5_countOf 41 = .ok (.iconst 1, 1) := by decide +kernel
theorem dX5_countOf_42 : decode cX5_countOf 42 = .ok (.if_icmp .ne 12, 3) := by decide +kernel
theorem dX5_countOf_45 : decode cX5_countOf 45 = .ok (.aload_n 0, 1) := by decide +kernel
theorem dX5_countOf_46 : decode cX5_countOf 46 = .ok (.getfield 49, 3) := by decide +kernel
theorem dX5_countOf_49 : decode cX5_countOf 49 = .ok (.iload_n 1, 1) := by decide +kernel
theorem dX5_countOf_50 : decode cX5_countOf 50 = .ok (.iaload, 1) := by decide +kernel
theorem dX5_countOf_51 : decode cX5_countOf 51 = .ok (.goto 9, 3) := by decide +kernel
theorem dX5_countOf_54 : decode cX5_countOf 54 = .ok (.aload_n 0, 1) := by decide +kernel
theorem dX5_countOf_55 : decode cX5_countOf 55 = .ok (.getfield 52, 3) := by decide +kernel
theorem dX5_countOf_58 : decode cX5_countOf 58 = .ok (.iload_n 1, 1) := by decide +kernel
theorem dX5_countOf_59 : decode cX5_countOf 59 = .ok (.iaload, 1) := by decide +kernel
theorem dX5_countOf_60 : decode cX5_countOf 60 = .ok (.ireturn, 1) := by decide +kernel
theorem dX5_wishOf_0 : decode cX5_wishOf 0 = .ok (.iload_n 1, 1) := by decide +kernel
theorem dX5_wishOf_1 : decode cX5_wishOf 1 = .ok (.i2l, 1) := by decide +kernel
theorem dX5_wishOf_2 : decode cX5_wishOf 2 = .ok (.lconst 0, 1) := by decide +kernel
theorem dX5_wishOf_3 : decode cX5_wishOf 3 = .ok (.aload_n 0, 1) := by decide +kernel
theorem dX5_wishOf_4 : decode cX5_wishOf 4 = .ok (.getfield 141, 3) := by decide +kernel
theorem dX5_wishOf_7 : decode cX5_wishOf 7 = .ok (.iconst 1, 1) := by decide +kernel
theorem dX5_wishOf_8 : decode cX5_wishOf 8 = .ok (.isub, 1) := by decide +kernel
theorem dX5_wishOf_9 : decode cX5_wishOf 9 = .ok (.i2l, 1) := by decide +kernel
theorem dX5_wishOf_10 : decode cX5_wishOf 10 = .ok (.invokestatic 83, 3) := by decide +kernel
theorem dX5_wishOf_13 : decode cX5_wishOf 13 = .ok (.ifCond .eq 15, 3) := by decide +kernel
theorem dX5_wishOf_16 : decode cX5_wishOf 16 = .ok (.iload_n 2, 1) := by decide +kernel
theorem dX5_wishOf_17 : decode cX5_wishOf 17 = .ok (.i2l, 1) := by decide +kernel
theorem dX5_wishOf_18 : decode cX5_wishOf 18 = .ok (.lconst 0, 1) := by decide +kernel
theorem dX5_wishOf_19 : decode cX5_wishOf 19 = .ok (.ldc2_w 252, 3) := by decide +kernel
theorem dX5_wishOf_22 : decode cX5_wishOf 22 = .ok (.invokestatic 83, 3) := by decide +kernel
theorem dX5_wishOf_25 : decode cX5_wishOf 25 = .ok (.ifCond .ne 10, 3) := by decide +kernel
theorem dX5_wishOf_28 : decode cX5_wishOf 28 = .ok (.aload_n 0, 1) := by decide +kernel
theorem dX5_wishOf_29 : decode cX5_wishOf 29 = .ok (.bipush (-2), 2) := by decide +kernel
theorem dX5_wishOf_31 : decode cX5_wishOf 31 = .ok (.invokevirtual 104, 3) := by decide +kernel
theorem dX5_wishOf_34 : decode cX5_wishOf 34 = .ok (.ireturn, 1) := by decide +kernel
theorem dX5_wishOf_35 : decode cX5_wishOf 35 = .ok (.iload_n 2, 1) := by decide +kernel
theorem dX5_wishOf_36 : decode cX5_wishOf 36 = .ok (.ifCond .ne 12, 3) := by decide +kernel
theorem dX5_wishOf_39 : decode cX5_wishOf 39 = .ok (.aload_n 0, 1) := by decide +kernel
theorem dX5_wishOf_40 : decode cX5_wishOf 40 = .ok (.getfield 55, 3) := by decide +kernel
theorem dX5_wishOf_43 : decode cX5_wishOf 43 = .ok (.iload_n 1, 1) := by decide +kernel
theorem dX5_wishOf_44 : decode cX5_wishOf 44 = .ok (.iaload, 1) := by decide +kernel
theorem dX5_wishOf_45 : decode cX5_wishOf 45 = .ok (.goto 37, 3) := by decide +kernel
theorem dX5_wishOf_48 : decode cX5_wishOf 48 = .ok (.iload_n 2, 1) := by decide +kernel
theorem dX5_wishOf_49 : decode cX5_wishOf 49 = .ok (.iconst 1, 1) := by decide +kernel
theorem dX5_wishOf_50 : decode cX5_wishOf 50 = .ok (.if_icmp .ne 12, 3) := by decide +kernel
theorem dX5_wishOf_53 : decode cX5_wishOf 53 = .ok (.aload_n 0, 1) := by decide +kernel
theorem dX5_wishOf_54 : decode cX5_wishOf 54 = .ok (.getfield 58, 3) := by decide +kernel
theorem dX5_wishOf_57 : decode cX5_wishOf 57 = .ok (.iload_n 1, 1) := by decide +kernel
theorem dX5_wishOf_58 : decode cX5_wishOf 58 = .ok (.iaload, 1) := by decide +kernel
theorem dX5_wishOf_59 : decode cX5_wishOf 59 = .ok (.goto 23, 3) := by decide +kernel
theorem dX5_wishOf_62 : decode cX5_wishOf 62 = .ok (.iload_n 2, 1) := by decide +kernel
theorem dX5_wishOf_63 : decode cX5_wishOf 63 = .ok (.iconst 2, 1) := by decide +kernel
theorem dX5_wishOf_64 : decode cX5_wishOf 64 = .ok (.if_icmp .ne 12, 3) := by decide +kernel
theorem dX5_wishOf_67 : decode cX5_wishOf 67 = .ok (.aload_n 0, 1) := by decide +kernel
theorem dX5_wishOf_68 : decode cX5_wishOf 68 = .ok (.getfield 61, 3) := by decide +kernel
theorem dX5_wishOf_71 : decode cX5_wishOf 71 = .ok (.iload_n 1, 1) := by decide +kernel
theorem dX5_wishOf_72 : decode cX5_wishOf 72 = .ok (.iaload, 1) := by decide +kernel
theorem dX5_wishOf_73 : decode cX5_wishOf 73 = .ok (.goto 9, 3) := by decide +kernel
theorem dX5_wishOf_76 : decode cX5_wishOf 76 = .ok (.aload_n 0, 1) := by decide +kernel
theorem dX5_wishOf_77 : decode cX5_wishOf 77 = .ok (.getfield 64, 3) := by decide +kernel
theorem dX5_wishOf_80 : decode cX5_wishOf 80 = .ok (.iload_n 1, 1) := by decide +kernel
theorem dX5_wishOf_81 : decode cX5_wishOf 81 = .ok (.iaload, 1) := by decide +kernel
theorem dX5_wishOf_82 : decode cX5_wishOf 82 = .ok (.ireturn, 1) := by decide +kernel
theorem dX5_standing_0 : decode cX5_standing 0 = .ok (.iconst 0, 1) := by decide +kernel
theorem dX5_standing_1 : decode cX5_standing 1 = .ok (.istore_n 2, 1) := by decide +kernel
theorem dX5_standing_2 : decode cX5_standing 2 = .ok (.aload_n 0, 1) := by decide +kernel
theorem dX5_standing_3 : decode cX5_standing 3 = .ok (.getfield 43, 3) := by decide +kernel
theorem dX5_standing_6 : decode cX5_standing 6 = .ok (.iload_n 2, 1) := by decide +kernel
theorem dX5_standing_7 : decode cX5_standing 7 = .ok (.iaload, 1) := by decide +kernel
theorem dX5_standing_8 : decode cX5_standing 8 = .ok (.iload_n 1, 1) := by decide +kernel
theorem dX5_standing_9 : decode cX5_standing 9 = .ok (.if_icmp .eq 9, 3) := by decide +kernel
theorem dX5_standing_12 : decode cX5_standing 12 = .ok (.iinc 2 1, 3) := by decide +kernel
theorem dX5_standing_15 : decode cX5_standing 15 = .ok (.goto (-13), 3) := by decide +kernel
theorem dX5_standing_18 : decode cX5_standing 18 = .ok (.iload_n 2, 1) := by decide +kernel
theorem dX5_standing_19 : decode cX5_standing 19 = .ok (.ireturn, 1) := by decide +kernel
theorem dX5_at_0 : decode cX5_at 0 = .ok (.aload_n 0, 1) := by decide +kernel
theorem dX5_at_1 : decode cX5_at 1 = .ok (.iload_n 1, 1) := by decide +kernel
theorem dX5_at_2 : decode cX5_at 2 = .ok (.i2l, 1) := by decide +kernel
theorem dX5_at_3 : decode cX5_at 3 = .ok (.invokevirtual 87, 3) := by decide +kernel
theorem dX5_at_6 : decode cX5_at 6 = .ok (.ifCond .eq 11, 3) := by decide +kernel
theorem dX5_at_9 : decode cX5_at 9 = .ok (.aload_n 0, 1) := by decide +kernel
theorem dX5_at_10 : decode cX5_at 10 = .ok (.iload_n 1, 1) := by decide +kernel
theorem dX5_at_11 : decode cX5_at 11 = .ok (.invokevirtual 254, 3) := by decide +kernel
theorem dX5_at_14 : decode cX5_at 14 = .ok (.goto 9, 3) := by decide +kernel
theorem dX5_at_17 : decode cX5_at 17 = .ok (.aload_n 0, 1) := by decide +kernel
theorem dX5_at_18 : decode cX5_at 18 = .ok (.bipush (-2), 2) := by decide +kernel
theorem dX5_at_20 : decode cX5_at 20 = .ok (.invokevirtual 104, 3) := by decide +kernel
theorem dX5_at_23 : decode cX5_at 23 = .ok (.ireturn, 1) := by decide +kernel
theorem dX5_slipped_0 : decode cX5_slipped 0 = .ok (.aload_n 0, 1) := by decide +kernel
theorem dX5_slipped_1 : decode cX5_slipped 1 = .ok (.getfield 52, 3) := by decide +kernel
theorem dX5_slipped_4 : decode cX5_slipped 4 = .ok (.iload_n 1, 1) := by decide +kernel
theorem dX5_slipped_5 : decode cX5_slipped 5 = .ok (.iaload, 1) := by decide +kernel
theorem dX5_slipped_6 : decode cX5_slipped 6 = .ok (.ifCond .le 19, 3) := by decide +kernel
theorem dX5_slipped_9 : decode cX5_slipped 9 = .ok (.iload_n 2, 1) := by decide +kernel
theorem dX5_slipped_10 : decode cX5_slipped 10 = .ok (.aload_n 0, 1) := by decide +kernel
theorem dX5_slipped_11 : decode cX5_slipped 11 = .ok (.getfield 52, 3) := by decide +kernel
theorem dX5_slipped_14 : decode cX5_slipped 14 = .ok (.iload_n 1, 1) := by decide +kernel
theorem dX5_slipped_15 : decode cX5_slipped 15 = .ok (.iaload, 1) := by decide +kernel
theorem dX5_slipped_16 : decode cX5_slipped 16 = .ok (.if_icmp .lt 9, 3) := by decide +kernel
theorem dX5_slipped_19 : decode cX5_slipped 19 = .ok (.iload_n 2, 1) := by decide +kernel
theorem dX5_slipped_20 : decode cX5_slipped 20 = .ok (.iconst 1, 1) := by decide +kernel
theorem dX5_slipped_21 : decode cX5_slipped 21 = .ok (.isub, 1) := by decide +kernel
theorem dX5_slipped_22 : decode cX5_slipped 22 = .ok (.goto 4, 3) := by decide +kernel
theorem dX5_slipped_25 : decode cX5_slipped 25 = .ok (.iload_n 2, 1) := by decide +kernel
theorem dX5_slipped_26 : decode cX5_slipped 26 = .ok (.ireturn, 1) := by decide +kernel
theorem dX5_teamAt_0 : decode cX5_teamAt 0 = .ok (.aload_n 0, 1) := by decide +kernel
theorem dX5_teamAt_1 : decode cX5_teamAt 1 = .ok (.getfield 49, 3) := by decide +kernel
theorem dX5_teamAt_4 : decode cX5_teamAt 4 = .ok (.iload_n 1, 1) := by decide +kernel
theorem dX5_teamAt_5 : decode cX5_teamAt 5 = .ok (.iaload, 1) := by decide +kernel
theorem dX5_teamAt_6 : decode cX5_teamAt 6 = .ok (.istore_n 3, 1) := by decide +kernel
theorem dX5_teamAt_7 : decode cX5_teamAt 7 = .ok (.aload_n 0, 1) := by decide +kernel
theorem dX5_teamAt_8 : decode cX5_teamAt 8 = .ok (.getfield 46, 3) := by decide +kernel
theorem dX5_teamAt_11 : decode cX5_teamAt 11 = .ok (.iload_n 1, 1) := by decide +kernel
theorem dX5_teamAt_12 : decode cX5_teamAt 12 = .ok (.iaload, 1) := by decide +kernel
theorem dX5_teamAt_13 : decode cX5_teamAt 13 = .ok (.tableswitch 108 1 5 #[35, 46, 73, 82, 97], 35) := by decide +kernel
theorem dX5_teamAt_48 : decode cX5_teamAt 48 = .ok (.aload_n 0, 1) := by decide +kernel
theorem dX5_teamAt_49 : decode cX5_teamAt 49 = .ok (.getfield 80, 3) := by decide +kernel
theorem dX5_teamAt_52 : decode cX5_teamAt 52 = .ok (.iconst 1, 1) := by decide +kernel
theorem dX5_teamAt_53 : decode cX5_teamAt 53 = .ok (.isub, 1) := by decide +kernel
theorem dX5_teamAt_54 : decode cX5_teamAt 54 = .ok (.iload_n 2, 1) := by decide +kernel
theorem dX5_teamAt_55 : decode cX5_teamAt 55 = .ok (.isub, 1) := by decide +kernel
theorem dX5_teamAt_56 : decode cX5_teamAt 56 = .ok (.iload_n 3, 1) := by decide +kernel
theorem dX5_teamAt_57 : decode cX5_teamAt 57 = .ok (.irem, 1) := by decide +kernel
theorem dX5_teamAt_58 : decode cX5_teamAt 58 = .ok (.ireturn, 1) := by decide +kernel
theorem dX5_teamAt_59 : decode cX5_teamAt 59 = .ok (.iload_n 2, 1) := by decide +kernel
theorem dX5_teamAt_60 : decode cX5_teamAt 60 = .ok (.iconst 2, 1) := by decide +kernel
theorem dX5_teamAt_61 : decode cX5_teamAt 61 = .ok (.irem, 1) := by decide +kernel
theorem dX5_teamAt_62 : decode cX5_teamAt 62 = .ok (.ifCond .ne 9, 3) := by decide +kernel
theorem dX5_teamAt_65 : decode cX5_teamAt 65 = .ok (.iload_n 2, 1) := by decide +kernel
theorem dX5_teamAt_66 : decode cX5_teamAt 66 = .ok (.iconst 2, 1) := by decide +kernel
theorem dX5_teamAt_67 : decode cX5_teamAt 67 = .ok (.idiv, 1) := by decide +kernel
theorem dX5_teamAt_68 : decode cX5_teamAt 68 = .ok (.goto 15, 3) := by decide +kernel
theorem dX5_teamAt_71 : decode cX5_teamAt 71 = .ok (.aload_n 0, 1) := by decide +kernel
theorem dX5_teamAt_72 : decode cX5_teamAt 72 = .ok (.getfield 80, 3) := by decide +kernel
theorem dX5_teamAt_75 : decode cX5_teamAt 75 = .ok (.iconst 1, 1) := by decide +kernel
theorem dX5_teamAt_76 : decode cX5_teamAt 76 = .ok (.iadd, 1) := by decide +kernel
theorem dX5_teamAt_77 : decode cX5_teamAt 77 = .ok (.iconst 2, 1) := by decide +kernel
theorem dX5_teamAt_78 : decode cX5_teamAt 78 = .ok (.idiv, 1) := by decide +kernel
theorem dX5_teamAt_79 : decode cX5_teamAt 79 = .ok (.iload_n 2, 1) := by decide +kernel
theorem dX5_teamAt_80 : decode cX5_teamAt 80 = .ok (.iconst 2, 1) := by decide +kernel
theorem dX5_teamAt_81 : decode cX5_teamAt 81 = .ok (.idiv, 1) := by decide +kernel
theorem dX5_teamAt_82 : decode cX5_teamAt 82 = .ok (.iadd, 1) := by decide +kernel
theorem dX5_teamAt_83 : decode cX5_teamAt 83 = .ok (.iload_n 3, 1) := by decide +kernel
theorem dX5_teamAt_84 : decode cX5_teamAt 84 = .ok (.irem, 1) := by decide +kernel
theorem dX5_teamAt_85 : decode cX5_teamAt 85 = .ok (.ireturn, 1) := by decide +kernel
theorem dX5_teamAt_86 : decode cX5_teamAt 86 = .ok (.aload_n 0, 1) := by decide +kernel
theorem dX5_teamAt_87 : decode cX5_teamAt 87 = .ok (.iload_n 1, 1) := by decide +kernel
theorem dX5_teamAt_88 : decode cX5_teamAt 88 = .ok (.iload_n 2, 1) := by decide +kernel
theorem dX5_teamAt_89 : decode cX5_teamAt 89 = .ok (.invokevirtual 257, 3) := by decide +kernel
theorem dX5_teamAt_92 : decode cX5_teamAt 92 = .ok (.iload_n 3, 1) := by decide +kernel
theorem dX5_teamAt_93 : decode cX5_teamAt 93 = .ok (.irem, 1) := by decide +kernel
theorem dX5_teamAt_94 : decode cX5_teamAt 94 = .ok (.ireturn, 1) := by decide +kernel
theorem dX5_teamAt_95 : decode cX5_teamAt 95 = .ok (.iload_n 3, 1) := by decide +kernel
theorem dX5_teamAt_96 : decode cX5_teamAt 96 = .ok (.iconst 1, 1) := by decide +kernel
theorem dX5_teamAt_97 : decode cX5_teamAt 97 = .ok (.isub, 1) := by decide +kernel
theorem dX5_teamAt_98 : decode cX5_teamAt 98 = .ok (.aload_n 0, 1) := by decide +kernel
theorem dX5_teamAt_99 : decode cX5_teamAt 99 = .ok (.getfield 80, 3) := by decide +kernel
theorem dX5_teamAt_102 : decode cX5_teamAt 102 = .ok (.iconst 1, 1) := by decide +kernel
theorem dX5_teamAt_103 : decode cX5_teamAt 103 = .ok (.isub, 1) := by decide +kernel
theorem dX5_teamAt_104 : decode cX5_teamAt 104 = .ok (.iload_n 2, 1) := by decide +kernel
theorem dX5_teamAt_105 : decode cX5_teamAt 105 = .ok (.isub, 1) := by decide +kernel
theorem dX5_teamAt_106 : decode cX5_teamAt 106 = .ok (.iload_n 3, 1) := by decide +kernel
theorem dX5_teamAt_107 : decode cX5_teamAt 107 = .ok (.irem, 1) := by decide +kernel
theorem dX5_teamAt_108 : decode cX5_teamAt 108 = .ok (.isub, 1) := by decide +kernel
theorem dX5_teamAt_109 : decode cX5_teamAt 109 = .ok (.ireturn, 1) := by decide +kernel
theorem dX5_teamAt_110 : decode cX5_teamAt 110 = .ok (.aload_n 0, 1) := by decide +kernel
theorem dX5_teamAt_111 : decode cX5_teamAt 111 = .ok (.iload_n 1, 1) := by decide +kernel
theorem dX5_teamAt_112 : decode cX5_teamAt 112 = .ok (.iload_n 2, 1) := by decide +kernel
theorem dX5_teamAt_113 : decode cX5_teamAt 113 = .ok (.invokevirtual 257, 3) := by decide +kernel
theorem dX5_teamAt_116 : decode cX5_teamAt 116 = .ok (.iconst 1, 1) := by decide +kernel
theorem dX5_teamAt_117 : decode cX5_teamAt 117 = .ok (.iadd, 1) := by decide +kernel
theorem dX5_teamAt_118 : decode cX5_teamAt 118 = .ok (.iload_n 3, 1) := by decide +kernel
theorem dX5_teamAt_119 : decode cX5_teamAt 119 = .ok (.irem, 1) := by decide +kernel
theorem dX5_teamAt_120 : decode cX5_teamAt 120 = .ok (.ireturn, 1) := by decide +kernel
theorem dX5_teamAt_121 : decode cX5_teamAt 121 = .ok (.iload_n 2, 1) := by decide +kernel
theorem dX5_teamAt_122 : decode cX5_teamAt 122 = .ok (.iload_n 3, 1) := by decide +kernel
theorem dX5_teamAt_123 : decode cX5_teamAt 123 = .ok (.irem, 1) := by decide +kernel
theorem dX5_teamAt_124 : decode cX5_teamAt 124 = .ok (.ireturn, 1) := by decide +kernel
theorem dX5_teamOf_0 : decode cX5_teamOf 0 = .ok (.aload_n 0, 1) := by decide +kernel
theorem dX5_teamOf_1 : decode cX5_teamOf 1 = .ok (.iload_n 1, 1) := by decide +kernel
theorem dX5_teamOf_2 : decode cX5_teamOf 2 = .ok (.aload_n 0, 1) := by decide +kernel
theorem dX5_teamOf_3 : decode cX5_teamOf 3 = .ok (.getfield 43, 3) := by decide +kernel
theorem dX5_teamOf_6 : decode cX5_teamOf 6 = .ok (.iload_n 2, 1) := by decide +kernel
theorem dX5_teamOf_7 : decode cX5_teamOf 7 = .ok (.iaload, 1) := by decide +kernel
theorem dX5_teamOf_8 : decode cX5_teamOf 8 = .ok (.invokevirtual 121, 3) := by decide +kernel
theorem dX5_teamOf_11 : decode cX5_teamOf 11 = .ok (.ireturn, 1) := by decide +kernel
theorem dX5_areIn_0 : decode cX5_areIn 0 = .ok (.aload_n 0, 1) := by decide +kernel
theorem dX5_areIn_1 : decode cX5_areIn 1 = .ok (.iload_n 1, 1) := by decide +kernel
theorem dX5_areIn_2 : decode cX5_areIn 2 = .ok (.iload_n 2, 1) := by decide +kernel
theorem dX5_areIn_3 : decode cX5_areIn 3 = .ok (.invokevirtual 260, 3) := by decide +kernel
theorem dX5_areIn_6 : decode cX5_areIn 6 = .ok (.aload_n 0, 1) := by decide +kernel
theorem dX5_areIn_7 : decode cX5_areIn 7 = .ok (.iload_n 1, 1) := by decide +kernel
theorem dX5_areIn_8 : decode cX5_areIn 8 = .ok (.iload_n 3, 1) := by decide +kernel
theorem dX5_areIn_9 : decode cX5_areIn 9 = .ok (.invokevirtual 260, 3) := by decide +kernel
theorem dX5_areIn_12 : decode cX5_areIn 12 = .ok (.if_icmp .ne 7, 3) := by decide +kernel
theorem dX5_areIn_15 : decode cX5_areIn 15 = .ok (.iconst 1, 1) := by decide +kernel
theorem dX5_areIn_16 : decode cX5_areIn 16 = .ok (.goto 4, 3) := by decide +kernel
theorem dX5_areIn_19 : decode cX5_areIn 19 = .ok (.iconst 0, 1) := by decide +kernel
theorem dX5_areIn_20 : decode cX5_areIn 20 = .ok (.ireturn, 1) := by decide +kernel
theorem dX5_isMet_0 : decode cX5_isMet 0 = .ok (.aload_n 0, 1) := by decide +kernel
theorem dX5_isMet_1 : decode cX5_isMet 1 = .ok (.iload_n 1, 1) := by decide +kernel
theorem dX5_isMet_2 : decode cX5_isMet 2 = .ok (.aload_n 0, 1) := by decide +kernel
theorem dX5_isMet_3 : decode cX5_isMet 3 = .ok (.getfield 55, 3) := by decide +kernel
theorem dX5_isMet_6 : decode cX5_isMet 6 = .ok (.iload_n 2, 1) := by decide +kernel
theorem dX5_isMet_7 : decode cX5_isMet 7 = .ok (.iaload, 1) := by decide +kernel
theorem dX5_isMet_8 : decode cX5_isMet 8 = .ok (.aload_n 0, 1) := by decide +kernel
theorem dX5_isMet_9 : decode cX5_isMet 9 = .ok (.getfield 58, 3) := by decide +kernel
theorem dX5_isMet_12 : decode cX5_isMet 12 = .ok (.iload_n 2, 1) := by decide +kernel
theorem dX5_isMet_13 : decode cX5_isMet 13 = .ok (.iaload, 1) := by decide +kernel
theorem dX5_isMet_14 : decode cX5_isMet 14 = .ok (.invokevirtual 263, 3) := by decide +kernel
theorem dX5_isMet_17 : decode cX5_isMet 17 = .ok (.aload_n 0, 1) := by decide +kernel
theorem dX5_isMet_18 : decode cX5_isMet 18 = .ok (.getfield 61, 3) := by decide +kernel
theorem dX5_isMet_21 : decode cX5_isMet 21 = .ok (.iload_n 2, 1) := by decide +kernel
theorem dX5_isMet_22 : decode cX5_isMet 22 = .ok (.iaload, 1) := by decide +kernel
theorem dX5_isMet_23 : decode cX5_isMet 23 = .ok (.iconst 1, 1) := by decide +kernel
theorem dX5_isMet_24 : decode cX5_isMet 24 = .ok (.if_icmp .ne 7, 3) := by decide +kernel
theorem dX5_isMet_27 : decode cX5_isMet 27 = .ok (.iconst 1, 1) := by decide +kernel
theorem dX5_isMet_28 : decode cX5_isMet 28 = .ok (.goto 4, 3) := by decide +kernel
theorem dX5_isMet_31 : decode cX5_isMet 31 = .ok (.iconst 0, 1) := by decide +kernel
theorem dX5_isMet_32 : decode cX5_isMet 32 = .ok (.if_icmp .ne 7, 3) := by decide +kernel
theorem dX5_isMet_35 : decode cX5_isMet 35 = .ok (.iconst 1, 1) := by decide +kernel
theorem dX5_isMet_36 : decode cX5_isMet 36 = .ok (.goto 4, 3) := by decide +kernel
theorem dX5_isMet_39 : decode cX5_isMet 39 = .ok (.iconst 0, 1) := by decide +kernel
theorem dX5_isMet_40 : decode cX5_isMet 40 = .ok (.ireturn, 1) := by decide +kernel
theorem dX5_valueOf_0 : decode cX5_valueOf 0 = .ok (.iconst 0, 1) := by decide +kernel
theorem dX5_valueOf_1 : decode cX5_valueOf 1 = .ok (.istore_n 2, 1) := by decide +kernel
theorem dX5_valueOf_2 : decode cX5_valueOf 2 = .ok (.iconst 0, 1) := by decide +kernel
theorem dX5_valueOf_3 : decode cX5_valueOf 3 = .ok (.istore_n 3, 1) := by decide +kernel
theorem dX5_valueOf_4 : decode cX5_valueOf 4 = .ok (.iload_n 3, 1) := by decide +kernel
theorem dX5_valueOf_5 : decode cX5_valueOf 5 = .ok (.aload_n 0, 1) := by decide +kernel
theorem dX5_valueOf_6 : decode cX5_valueOf 6 = .ok (.getfield 141, 3) := by decide +kernel
theorem dX5_valueOf_9 : decode cX5_valueOf 9 = .ok (.if_icmp .ge 31, 3) := by decide +kernel
theorem dX5_valueOf_12 : decode cX5_valueOf 12 = .ok (.iload_n 2, 1) := by decide +kernel
theorem dX5_valueOf_13 : decode cX5_valueOf 13 = .ok (.aload_n 0, 1) := by decide +kernel
theorem dX5_valueOf_14 : decode cX5_valueOf 14 = .ok (.iload_n 1, 1) := by decide +kernel
theorem dX5_valueOf_15 : decode cX5_valueOf 15 = .ok (.iload_n 3, 1) := by decide +kernel
theorem dX5_valueOf_16 : decode cX5_valueOf 16 = .ok (.invokevirtual 266, 3) := by decide +kernel
theorem dX5_valueOf_19 : decode cX5_valueOf 19 = .ok (.ifCond .eq 12, 3) := by decide +kernel
theorem dX5_valueOf_22 : decode cX5_valueOf 22 = .ok (.aload_n 0, 1) := by decide +kernel
theorem dX5_valueOf_23 : decode cX5_valueOf 23 = .ok (.getfield 64, 3) := by decide +kernel
theorem dX5_valueOf_26 : decode cX5_valueOf 26 = .ok (.iload_n 3, 1) := by decide +kernel
theorem dX5_valueOf_27 : decode cX5_valueOf 27 = .ok (.iaload, 1) := by decide +kernel
theorem dX5_valueOf_28 : decode cX5_valueOf 28 = .ok (.goto 4, 3) := by decide +kernel
theorem dX5_valueOf_31 : decode cX5_valueOf 31 = .ok (.iconst 0, 1) := by decide +kernel
theorem dX5_valueOf_32 : decode cX5_valueOf 32 = .ok (.iadd, 1) := by decide +kernel
theorem dX5_valueOf_33 : decode cX5_valueOf 33 = .ok (.istore_n 2, 1) := by decide +kernel
theorem dX5_valueOf_34 : decode cX5_valueOf 34 = .ok (.iinc 3 1, 3) := by decide +kernel
theorem dX5_valueOf_37 : decode cX5_valueOf 37 = .ok (.goto (-33), 3) := by decide +kernel
theorem dX5_valueOf_40 : decode cX5_valueOf 40 = .ok (.iload_n 2, 1) := by decide +kernel
theorem dX5_valueOf_41 : decode cX5_valueOf 41 = .ok (.ireturn, 1) := by decide +kernel
theorem dX5_swaps_0 : decode cX5_swaps 0 = .ok (.aload_n 0, 1) := by decide +kernel
theorem dX5_swaps_1 : decode cX5_swaps 1 = .ok (.getfield 43, 3) := by decide +kernel
theorem dX5_swaps_4 : decode cX5_swaps 4 = .ok (.iload_n 1, 1) := by decide +kernel
theorem dX5_swaps_5 : decode cX5_swaps 5 = .ok (.iaload, 1) := by decide +kernel
theorem dX5_swaps_6 : decode cX5_swaps 6 = .ok (.istore_n 3, 1) := by decide +kernel
theorem dX5_swaps_7 : decode cX5_swaps 7 = .ok (.aload_n 0, 1) := by decide +kernel
theorem dX5_swaps_8 : decode cX5_swaps 8 = .ok (.getfield 43, 3) := by decide +kernel
theorem dX5_swaps_11 : decode cX5_swaps 11 = .ok (.iload_n 1, 1) := by decide +kernel
theorem dX5_swaps_12 : decode cX5_swaps 12 = .ok (.aload_n 0, 1) := by decide +kernel
theorem dX5_swaps_13 : decode cX5_swaps 13 = .ok (.getfield 43, 3) := by decide +kernel
theorem dX5_swaps_16 : decode cX5_swaps 16 = .ok (.iload_n 2, 1) := by decide +kernel
theorem dX5_swaps_17 : decode cX5_swaps 17 = .ok (.iaload, 1) := by decide +kernel
theorem dX5_swaps_18 : decode cX5_swaps 18 = .ok (.iastore, 1) := by decide +kernel
theorem dX5_swaps_19 : decode cX5_swaps 19 = .ok (.aload_n 0, 1) := by decide +kernel
theorem dX5_swaps_20 : decode cX5_swaps 20 = .ok (.getfield 43, 3) := by decide +kernel
theorem dX5_swaps_23 : decode cX5_swaps 23 = .ok (.iload_n 2, 1) := by decide +kernel
theorem dX5_swaps_24 : decode cX5_swaps 24 = .ok (.iload_n 3, 1) := by decide +kernel
theorem dX5_swaps_25 : decode cX5_swaps 25 = .ok (.iastore, 1) := by decide +kernel
theorem dX5_swaps_26 : decode cX5_swaps 26 = .ok (.return_, 1) := by decide +kernel
theorem dX5_moves_0 : decode cX5_moves 0 = .ok (.aload_n 0, 1) := by decide +kernel
theorem dX5_moves_1 : decode cX5_moves 1 = .ok (.getfield 43, 3) := by decide +kernel
theorem dX5_moves_4 : decode cX5_moves 4 = .ok (.iload_n 1, 1) := by decide +kernel
theorem dX5_moves_5 : decode cX5_moves 5 = .ok (.iaload, 1) := by decide +kernel
theorem dX5_moves_6 : decode cX5_moves 6 = .ok (.istore_n 3, 1) := by decide +kernel
theorem dX5_moves_7 : decode cX5_moves 7 = .ok (.iconst 0, 1) := by decide +kernel
theorem dX5_moves_8 : decode cX5_moves 8 = .ok (.istore 4, 2) := by decide +kernel
theorem dX5_moves_10 : decode cX5_moves 10 = .ok (.iload 4, 2) := by decide +kernel
theorem dX5_moves_12 : decode cX5_moves 12 = .ok (.aload_n 0, 1) := by decide +kernel
theorem dX5_moves_13 : decode cX5_moves 13 = .ok (.getfield 80, 3) := by decide +kernel
theorem dX5_moves_16 : decode cX5_moves 16 = .ok (.if_icmp .ge 78, 3) := by decide +kernel
theorem dX5_moves_19 : decode cX5_moves 19 = .ok (.aload_n 0, 1) := by decide +kernel
theorem dX5_moves_20 : decode cX5_moves 20 = .ok (.getfield 43, 3) := by decide +kernel
theorem dX5_moves_23 : decode cX5_moves 23 = .ok (.iload 4, 2) := by decide +kernel
theorem dX5_moves_25 : decode cX5_moves 25 = .ok (.iaload, 1) := by decide +kernel
theorem dX5_moves_26 : decode cX5_moves 26 = .ok (.iload_n 3, 1) := by decide +kernel
theorem dX5_moves_27 : decode cX5_moves 27 = .ok (.if_icmp .le 28, 3) := by decide +kernel
theorem dX5_moves_30 : decode cX5_moves 30 = .ok (.aload_n 0, 1) := by decide +kernel
theorem dX5_moves_31 : decode cX5_moves 31 = .ok (.getfield 43, 3) := by decide +kernel
theorem dX5_moves_34 : decode cX5_moves 34 = .ok (.iload 4, 2) := by decide +kernel
theorem dX5_moves_36 : decode cX5_moves 36 = .ok (.iaload, 1) := by decide +kernel
theorem dX5_moves_37 : decode cX5_moves 37 = .ok (.iload_n 2, 1) := by decide +kernel
theorem dX5_moves_38 : decode cX5_moves 38 = .ok (.if_icmp .gt 17, 3) := by decide +kernel
theorem dX5_moves_41 : decode cX5_moves 41 = .ok (.aload_n 0, 1) := by decide +kernel
theorem dX5_moves_42 : decode cX5_moves 42 = .ok (.getfield 43, 3) := by decide +kernel
theorem dX5_moves_45 : decode cX5_moves 45 = .ok (.iload 4, 2) := by decide +kernel
theorem dX5_moves_47 : decode cX5_moves 47 = .ok (.dup2, 1) := by decide +kernel
theorem dX5_moves_48 : decode cX5_moves 48 = .ok (.iaload, 1) := by decide +kernel
theorem dX5_moves_49 : decode cX5_moves 49 = .ok (.iconst 1, 1) := by decide +kernel
theorem dX5_moves_50 : decode cX5_moves 50 = .ok (.isub, 1) := by decide +kernel
theorem dX5_moves_51 : decode cX5_moves 51 = .ok (.iastore, 1) := by decide +kernel
theorem dX5_moves_52 : decode cX5_moves 52 = .ok (.goto 36, 3) := by decide +kernel
theorem dX5_moves_55 : decode cX5_moves 55 = .ok (.aload_n 0, 1) := by decide +kernel
theorem dX5_moves_56 : decode cX5_moves 56 = .ok (.getfield 43, 3) := by decide +kernel
theorem dX5_moves_59 : decode cX5_moves 59 = .ok (.iload 4, 2) := by decide +kernel
theorem dX5_moves_61 : decode cX5_moves 61 = .ok (.iaload, 1) := by decide +kernel
theorem dX5_moves_62 : decode cX5_moves 62 = .ok (.iload_n 3, 1) := by decide +kernel
theorem dX5_moves_63 : decode cX5_moves 63 = .ok (.if_icmp .ge 25, 3) := by decide +kernel
theorem dX5_moves_66 : decode cX5_moves 66 = .ok (.aload_n 0, 1) := by decide +kernel
theorem dX5_moves_67 : decode cX5_moves 67 = .ok (.getfield 43, 3) := by decide +kernel
theorem dX5_moves_70 : decode cX5_moves 70 = .ok (.iload 4, 2) := by decide +kernel
theorem dX5_moves_72 : decode cX5_moves 72 = .ok (.iaload, 1) := by decide +kernel
theorem dX5_moves_73 : decode cX5_moves 73 = .ok (.iload_n 2, 1) := by decide +kernel
theorem dX5_moves_74 : decode cX5_moves 74 = .ok (.if_icmp .lt 14, 3) := by decide +kernel
theorem dX5_moves_77 : decode cX5_moves 77 = .ok (.aload_n 0, 1) := by decide +kernel
theorem dX5_moves_78 : decode cX5_moves 78 = .ok (.getfield 43, 3) := by decide +kernel
theorem dX5_moves_81 : decode cX5_moves 81 = .ok (.iload 4, 2) := by decide +kernel
theorem dX5_moves_83 : decode cX5_moves 83 = .ok (.dup2, 1) := by decide +kernel
theorem dX5_moves_84 : decode cX5_moves 84 = .ok (.iaload, 1) := by decide +kernel
theorem dX5_moves_85 : decode cX5_moves 85 = .ok (.iconst 1, 1) := by decide +kernel
theorem dX5_moves_86 : decode cX5_moves 86 = .ok (.iadd, 1) := by decide +kernel
theorem dX5_moves_87 : decode cX5_moves 87 = .ok (.iastore, 1) := by decide +kernel
theorem dX5_moves_88 : decode cX5_moves 88 = .ok (.iinc 4 1, 3) := by decide +kernel
theorem dX5_moves_91 : decode cX5_moves 91 = .ok (.goto (-81), 3) := by decide +kernel
theorem dX5_moves_94 : decode cX5_moves 94 = .ok (.aload_n 0, 1) := by decide +kernel
theorem dX5_moves_95 : decode cX5_moves 95 = .ok (.getfield 43, 3) := by decide +kernel
theorem dX5_moves_98 : decode cX5_moves 98 = .ok (.iload_n 1, 1) := by decide +kernel
theorem dX5_moves_99 : decode cX5_moves 99 = .ok (.iload_n 2, 1) := by decide +kernel
theorem dX5_moves_100 : decode cX5_moves 100 = .ok (.iastore, 1) := by decide +kernel
theorem dX5_moves_101 : decode cX5_moves 101 = .ok (.return_, 1) := by decide +kernel
theorem dX5_turns_0 : decode cX5_turns 0 = .ok (.iconst 0, 1) := by decide +kernel
theorem dX5_turns_1 : decode cX5_turns 1 = .ok (.istore_n 1, 1) := by decide +kernel
theorem dX5_turns_2 : decode cX5_turns 2 = .ok (.iload_n 1, 1) := by decide +kernel
theorem dX5_turns_3 : decode cX5_turns 3 = .ok (.aload_n 0, 1) := by decide +kernel
theorem dX5_turns_4 : decode cX5_turns 4 = .ok (.getfield 80, 3) := by decide +kernel
theorem dX5_turns_7 : decode cX5_turns 7 = .ok (.if_icmp .ge 28, 3) := by decide +kernel
theorem dX5_turns_10 : decode cX5_turns 10 = .ok (.aload_n 0, 1) := by decide +kernel
theorem dX5_turns_11 : decode cX5_turns 11 = .ok (.getfield 43, 3) := by decide +kernel
theorem dX5_turns_14 : decode cX5_turns 14 = .ok (.iload_n 1, 1) := by decide +kernel
theorem dX5_turns_15 : decode cX5_turns 15 = .ok (.aload_n 0, 1) := by decide +kernel
theorem dX5_turns_16 : decode cX5_turns 16 = .ok (.getfield 80, 3) := by decide +kernel
theorem dX5_turns_19 : decode cX5_turns 19 = .ok (.iconst 1, 1) := by decide +kernel
theorem dX5_turns_20 : decode cX5_turns 20 = .ok (.isub, 1) := by decide +kernel
theorem dX5_turns_21 : decode cX5_turns 21 = .ok (.aload_n 0, 1) := by decide +kernel
theorem dX5_turns_22 : decode cX5_turns 22 = .ok (.getfield 43, 3) := by decide +kernel
theorem dX5_turns_25 : decode cX5_turns 25 = .ok (.iload_n 1, 1) := by decide +kernel
theorem dX5_turns_26 : decode cX5_turns 26 = .ok (.iaload, 1) := by decide +kernel
theorem dX5_turns_27 : decode cX5_turns 27 = .ok (.isub, 1) := by decide +kernel
theorem dX5_turns_28 : decode cX5_turns 28 = .ok (.iastore, 1) := by decide +kernel
theorem dX5_turns_29 : decode cX5_turns 29 = .ok (.iinc 1 1, 3) := by decide +kernel
theorem dX5_turns_32 : decode cX5_turns 32 = .ok (.goto (-30), 3) := by decide +kernel
theorem dX5_turns_35 : decode cX5_turns 35 = .ok (.return_, 1) := by decide +kernel
theorem dX5_team_0 : decode cX5_team 0 = .ok (.aload_n 0, 1) := by decide +kernel
theorem dX5_team_1 : decode cX5_team 1 = .ok (.iload_n 1, 1) := by decide +kernel
theorem dX5_team_2 : decode cX5_team 2 = .ok (.invokevirtual 94, 3) := by decide +kernel
theorem dX5_team_5 : decode cX5_team 5 = .ok (.ifCond .eq 21, 3) := by decide +kernel
theorem dX5_team_8 : decode cX5_team 8 = .ok (.aload_n 0, 1) := by decide +kernel
theorem dX5_team_9 : decode cX5_team 9 = .ok (.iload_n 2, 1) := by decide +kernel
theorem dX5_team_10 : decode cX5_team 10 = .ok (.i2l, 1) := by decide +kernel
theorem dX5_team_11 : decode cX5_team 11 = .ok (.invokevirtual 87, 3) := by decide +kernel
theorem dX5_team_14 : decode cX5_team 14 = .ok (.ifCond .eq 12, 3) := by decide +kernel
theorem dX5_team_17 : decode cX5_team 17 = .ok (.aload_n 0, 1) := by decide +kernel
theorem dX5_team_18 : decode cX5_team 18 = .ok (.iload_n 1, 1) := by decide +kernel
theorem dX5_team_19 : decode cX5_team 19 = .ok (.iload_n 2, 1) := by decide +kernel
theorem dX5_team_20 : decode cX5_team 20 = .ok (.invokevirtual 260, 3) := by decide +kernel
theorem dX5_team_23 : decode cX5_team 23 = .ok (.goto 9, 3) := by decide +kernel
theorem dX5_team_26 : decode cX5_team 26 = .ok (.aload_n 0, 1) := by decide +kernel
theorem dX5_team_27 : decode cX5_team 27 = .ok (.bipush (-2), 2) := by decide +kernel
theorem dX5_team_29 : decode cX5_team 29 = .ok (.invokevirtual 104, 3) := by decide +kernel
theorem dX5_team_32 : decode cX5_team 32 = .ok (.ireturn, 1) := by decide +kernel
theorem dX5_members_0 : decode cX5_members 0 = .ok (.aload_n 0, 1) := by decide +kernel
theorem dX5_members_1 : decode cX5_members 1 = .ok (.iload_n 1, 1) := by decide +kernel
theorem dX5_members_2 : decode cX5_members 2 = .ok (.iload_n 2, 1) := by decide +kernel
theorem dX5_members_3 : decode cX5_members 3 = .ok (.invokevirtual 269, 3) := by decide +kernel
theorem dX5_members_6 : decode cX5_members 6 = .ok (.ifCond .ne 10, 3) := by decide +kernel
theorem dX5_members_9 : decode cX5_members 9 = .ok (.aload_n 0, 1) := by decide +kernel
theorem dX5_members_10 : decode cX5_members 10 = .ok (.bipush (-2), 2) := by decide +kernel
theorem dX5_members_12 : decode cX5_members 12 = .ok (.invokevirtual 104, 3) := by decide +kernel
theorem dX5_members_15 : decode cX5_members 15 = .ok (.ireturn, 1) := by decide +kernel
theorem dX5_members_16 : decode cX5_members 16 = .ok (.iconst 0, 1) := by decide +kernel
theorem dX5_members_17 : decode cX5_members 17 = .ok (.istore_n 3, 1) := by decide +kernel
theorem dX5_members_18 : decode cX5_members 18 = .ok (.iconst 0, 1) := by decide +kernel
theorem dX5_members_19 : decode cX5_members 19 = .ok (.istore 4, 2) := by decide +kernel
theorem dX5_members_21 : decode cX5_members 21 = .ok (.iload 4, 2) := by decide +kernel
theorem dX5_members_23 : decode cX5_members 23 = .ok (.aload_n 0, 1) := by decide +kernel
theorem dX5_members_24 : decode cX5_members 24 = .ok (.getfield 80, 3) := by decide +kernel
theorem dX5_members_27 : decode cX5_members 27 = .ok (.if_icmp .ge 31, 3) := by decide +kernel
theorem dX5_members_30 : decode cX5_members 30 = .ok (.iload_n 3, 1) := by decide +kernel
theorem dX5_members_31 : decode cX5_members 31 = .ok (.aload_n 0, 1) := by decide +kernel
theorem dX5_members_32 : decode cX5_members 32 = .ok (.iload_n 1, 1) := by decide +kernel
theorem dX5_members_33 : decode cX5_members 33 = .ok (.iload 4, 2) := by decide +kernel
theorem dX5_members_35 : decode cX5_members 35 = .ok (.invokevirtual 260, 3) := by decide +kernel
theorem dX5_members_38 : decode cX5_members 38 = .ok (.iload_n 2, 1) := by decide +kernel
theorem dX5_members_39 : decode cX5_members 39 = .ok (.if_icmp .ne 10, 3) := by decide +kernel
theorem dX5_members_42 : decode cX5_members 42 = .ok (.iconst 1, 1) := by decide +kernel
theorem dX5_members_43 : decode cX5_members 43 = .ok (.iload 4, 2) := by decide +kernel
theorem dX5_members_45 : decode cX5_members 45 = .ok (.ishl, 1) := by decide +kernel
theorem dX5_members_46 : decode cX5_members 46 = .ok (.goto 4, 3) := by decide +kernel
theorem dX5_members_49 : decode cX5_members 49 = .ok (.iconst 0, 1) := by decide +kernel
theorem dX5_members_50 : decode cX5_members 50 = .ok (.ior, 1) := by decide +kernel
theorem dX5_members_51 : decode cX5_members 51 = .ok (.istore_n 3, 1) := by decide +kernel
theorem dX5_members_52 : decode cX5_members 52 = .ok (.iinc 4 1, 3) := by decide +kernel
theorem dX5_members_55 : decode cX5_members 55 = .ok (.goto (-34), 3) := by decide +kernel
theorem dX5_members_58 : decode cX5_members 58 = .ok (.iload_n 3, 1) := by decide +kernel
theorem dX5_members_59 : decode cX5_members 59 = .ok (.ireturn, 1) := by decide +kernel
theorem dX5_strengthOf_0 : decode cX5_strengthOf 0 = .ok (.iconst 0, 1) := by decide +kernel
theorem dX5_strengthOf_1 : decode cX5_strengthOf 1 = .ok (.istore_n 3, 1) := by decide +kernel
theorem dX5_strengthOf_2 : decode cX5_strengthOf 2 = .ok (.iconst 0, 1) := by decide +kernel
theorem dX5_strengthOf_3 : decode cX5_strengthOf 3 = .ok (.istore 4, 2) := by decide +kernel
theorem dX5_strengthOf_5 : decode cX5_strengthOf 5 = .ok (.iload 4, 2) := by decide +kernel
theorem dX5_strengthOf_7 : decode cX5_strengthOf 7 = .ok (.aload_n 0, 1) := by decide +kernel
theorem dX5_strengthOf_8 : decode cX5_strengthOf 8 = .ok (.getfield 80, 3) := by decide +kernel
theorem dX5_strengthOf_11 : decode cX5_strengthOf 11 = .ok (.if_icmp .ge 34, 3) := by decide +kernel
theorem dX5_strengthOf_14 : decode cX5_strengthOf 14 = .ok (.iload_n 3, 1) := by decide +kernel
theorem dX5_strengthOf_15 : decode cX5_strengthOf 15 = .ok (.aload_n 0, 1) := by decide +kernel
theorem dX5_strengthOf_16 : decode cX5_strengthOf 16 = .ok (.iload_n 1, 1) := by decide +kernel
theorem dX5_strengthOf_17 : decode cX5_strengthOf 17 = .ok (.iload 4, 2) := by decide +kernel
theorem dX5_strengthOf_19 : decode cX5_strengthOf 19 = .ok (.invokevirtual 260, 3) := by decide +kernel
theorem dX5_strengthOf_22 : decode cX5_strengthOf 22 = .ok (.iload_n 2, 1) := by decide +kernel
theorem dX5_strengthOf_23 : decode cX5_strengthOf 23 = .ok (.if_icmp .ne 13, 3) := by decide +kernel
theorem dX5_strengthOf_26 : decode cX5_strengthOf 26 = .ok (.aload_n 0, 1) := by decide +kernel
theorem dX5_strengthOf_27 : decode cX5_strengthOf 27 = .ok (.getfield 37, 3) := by decide +kernel
theorem dX5_strengthOf_30 : decode cX5_strengthOf 30 = .ok (.iload 4, 2) := by decide +kernel
theorem dX5_strengthOf_32 : decode cX5_strengthOf 32 = .ok (.iaload, 1) := by decide +kernel
theorem dX5_strengthOf_33 : decode cX5_strengthOf 33 = .ok (.goto 4, 3) := by decide +kernel
theorem dX5_strengthOf_36 : decode cX5_strengthOf 36 = .ok (.iconst 0, 1) := by decide +kernel
theorem dX5_strengthOf_37 : decode cX5_strengthOf 37 = .ok (.iadd, 1) := by decide +kernel
theorem dX5_strengthOf_38 : decode cX5_strengthOf 38 = .ok (.istore_n 3, 1) := by decide +kernel
theorem dX5_strengthOf_39 : decode cX5_strengthOf 39 = .ok (.iinc 4 1, 3) := by decide +kernel
theorem dX5_strengthOf_42 : decode cX5_strengthOf 42 = .ok (.goto (-37), 3) := by decide +kernel
theorem dX5_strengthOf_45 : decode cX5_strengthOf 45 = .ok (.iload_n 3, 1) := by decide +kernel
theorem dX5_strengthOf_46 : decode cX5_strengthOf 46 = .ok (.ireturn, 1) := by decide +kernel
theorem dX5_strength_0 : decode cX5_strength 0 = .ok (.aload_n 0, 1) := by decide +kernel
theorem dX5_strength_1 : decode cX5_strength 1 = .ok (.iload_n 1, 1) := by decide +kernel
theorem dX5_strength_2 : decode cX5_strength 2 = .ok (.iload_n 2, 1) := by decide +kernel
theorem dX5_strength_3 : decode cX5_strength 3 = .ok (.invokevirtual 269, 3) := by decide +kernel
theorem dX5_strength_6 : decode cX5_strength 6 = .ok (.ifCond .eq 12, 3) := by decide +kernel
theorem dX5_strength_9 : decode cX5_strength 9 = .ok (.aload_n 0, 1) := by decide +kernel
theorem dX5_strength_10 : decode cX5_strength 10 = .ok (.iload_n 1, 1) := by decide +kernel
theorem dX5_strength_11 : decode cX5_strength 11 = .ok (.iload_n 2, 1) := by decide +kernel
theorem dX5_strength_12 : decode cX5_strength 12 = .ok (.invokevirtual 272, 3) := by decide +kernel
theorem dX5_strength_15 : decode cX5_strength 15 = .ok (.goto 9, 3) := by decide +kernel
theorem dX5_strength_18 : decode cX5_strength 18 = .ok (.aload_n 0, 1) := by decide +kernel
theorem dX5_strength_19 : decode cX5_strength 19 = .ok (.bipush (-2), 2) := by decide +kernel
theorem dX5_strength_21 : decode cX5_strength 21 = .ok (.invokevirtual 104, 3) := by decide +kernel
theorem dX5_strength_24 : decode cX5_strength 24 = .ok (.ireturn, 1) := by decide +kernel
