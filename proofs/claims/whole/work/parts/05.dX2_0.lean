theorem dX2_init_0 : decode cX2_init 0 = .ok (.aload_n 0, 1) := by decide +kernel
theorem dX2_init_1 : decode cX2_init 1 = .ok (.invokespecial 3, 3) := by decide +kernel
theorem dX2_init_4 : decode cX2_init 4 = .ok (.aload_n 0, 1) := by decide +kernel
theorem dX2_init_5 : decode cX2_init 5 = .ok (.sipush 250, 3) := by decide +kernel
theorem dX2_init_8 : decode cX2_init 8 = .ok (.newarray .int, 2) := by decide +kernel
theorem dX2_init_10 : decode cX2_init 10 = .ok (.putfield 9, 3) := by decide +kernel
theorem dX2_init_13 : decode cX2_init 13 = .ok (.aload_n 0, 1) := by decide +kernel
theorem dX2_init_14 : decode cX2_init 14 = .ok (.iconst 0, 1) := by decide +kernel
theorem dX2_init_15 : decode cX2_init 15 = .ok (.putfield 15, 3) := by decide +kernel
theorem dX2_init_18 : decode cX2_init 18 = .ok (.aload_n 0, 1) := by decide +kernel
theorem dX2_init_19 : decode cX2_init 19 = .ok (.iconst 0, 1) := by decide +kernel
theorem dX2_init_20 : decode cX2_init 20 = .ok (.putfield 19, 3) := by decide +kernel
theorem dX2_init_23 : decode cX2_init 23 = .ok (.aload_n 0, 1) := by decide +kernel
theorem dX2_init_24 : decode cX2_init 24 = .ok (.iconst 0, 1) := by decide +kernel
theorem dX2_init_25 : decode cX2_init 25 = .ok (.putfield 22, 3) := by decide +kernel
theorem dX2_init_28 : decode cX2_init 28 = .ok (.aload_n 0, 1) := by decide +kernel
theorem dX2_init_29 : decode cX2_init 29 = .ok (.iconst 0, 1) := by decide +kernel
theorem dX2_init_30 : decode cX2_init 30 = .ok (.putfield 25, 3) := by decide +kernel
theorem dX2_init_33 : decode cX2_init 33 = .ok (.return_, 1) := by decide +kernel
theorem dX2_put_0 : decode cX2_put 0 = .ok (.aload_n 0, 1) := by decide +kernel
theorem dX2_put_1 : decode cX2_put 1 = .ok (.getfield 9, 3) := by decide +kernel
theorem dX2_put_4 : decode cX2_put 4 = .ok (.aload_n 0, 1) := by decide +kernel
theorem dX2_put_5 : decode cX2_put 5 = .ok (.getfield 15, 3) := by decide +kernel
theorem dX2_put_8 : decode cX2_put 8 = .ok (.iload_n 1, 1) := by decide +kernel
theorem dX2_put_9 : decode cX2_put 9 = .ok (.iastore, 1) := by decide +kernel
theorem dX2_put_10 : decode cX2_put 10 = .ok (.aload_n 0, 1) := by decide +kernel
theorem dX2_put_11 : decode cX2_put 11 = .ok (.dup, 1) := by decide +kernel
theorem dX2_put_12 : decode cX2_put 12 = .ok (.getfield 15, 3) := by decide +kernel
theorem dX2_put_15 : decode cX2_put 15 = .ok (.iconst 1, 1) := by decide +kernel
theorem dX2_put_16 : decode cX2_put 16 = .ok (.iadd, 1) := by decide +kernel
theorem dX2_put_17 : decode cX2_put 17 = .ok (.putfield 15, 3) := by decide +kernel
theorem dX2_put_20 : decode cX2_put 20 = .ok (.aload_n 0, 1) := by decide +kernel
theorem dX2_put_21 : decode cX2_put 21 = .ok (.getfield 15, 3) := by decide +kernel
theorem dX2_put_24 : decode cX2_put 24 = .ok (.ireturn, 1) := by decide +kernel
theorem dX2_clear_0 : decode cX2_clear 0 = .ok (.aload_n 0, 1) := by decide +kernel
theorem dX2_clear_1 : decode cX2_clear 1 = .ok (.getfield 15, 3) := by decide +kernel
theorem dX2_clear_4 : decode cX2_clear 4 = .ok (.istore_n 1, 1) := by decide +kernel
theorem dX2_clear_5 : decode cX2_clear 5 = .ok (.aload_n 0, 1) := by decide +kernel
theorem dX2_clear_6 : decode cX2_clear 6 = .ok (.iconst 0, 1) := by decide +kernel
theorem dX2_clear_7 : decode cX2_clear 7 = .ok (.putfield 15, 3) := by decide +kernel
theorem dX2_clear_10 : decode cX2_clear 10 = .ok (.iload_n 1, 1) := by decide +kernel
theorem dX2_clear_11 : decode cX2_clear 11 = .ok (.ireturn, 1) := by decide +kernel
theorem dX2_readOnto_0 : decode cX2_readOnto 0 = .ok (.aload_n 0, 1) := by decide +kernel
theorem dX2_readOnto_1 : decode cX2_readOnto 1 = .ok (.iconst 0, 1) := by decide +kernel
theorem dX2_readOnto_2 : decode cX2_readOnto 2 = .ok (.putfield 25, 3) := by decide +kernel
theorem dX2_readOnto_5 : decode cX2_readOnto 5 = .ok (.iconst 1, 1) := by decide +kernel
theorem dX2_readOnto_6 : decode cX2_readOnto 6 = .ok (.istore_n 2, 1) := by decide +kernel
theorem dX2_readOnto_7 : decode cX2_readOnto 7 = .ok (.iload_n 2, 1) := by decide +kernel
theorem dX2_readOnto_8 : decode cX2_readOnto 8 = .ok (.sipush 250, 3) := by decide +kernel
theorem dX2_readOnto_11 : decode cX2_readOnto 11 = .ok (.if_icmp .gt 54, 3) := by decide +kernel
theorem dX2_readOnto_14 : decode cX2_readOnto 14 = .ok (.aload_n 0, 1) := by decide +kernel
theorem dX2_readOnto_15 : decode cX2_readOnto 15 = .ok (.aload_n 1, 1) := by decide +kernel
theorem dX2_readOnto_16 : decode cX2_readOnto 16 = .ok (.invokevirtual 28, 3) := by decide +kernel
theorem dX2_readOnto_19 : decode cX2_readOnto 19 = .ok (.ifCond .ne 11, 3) := by decide +kernel
theorem dX2_readOnto_22 : decode cX2_readOnto 22 = .ok (.bipush (-20), 2) := by decide +kernel
theorem dX2_readOnto_24 : decode cX2_readOnto 24 = .ok (.aload_n 0, 1) := by decide +kernel
theorem dX2_readOnto_25 : decode cX2_readOnto 25 = .ok (.getfield 22, 3) := by decide +kernel
theorem dX2_readOnto_28 : decode cX2_readOnto 28 = .ok (.isub, 1) := by decide +kernel
theorem dX2_readOnto_29 : decode cX2_readOnto 29 = .ok (.ireturn, 1) := by decide +kernel
theorem dX2_readOnto_30 : decode cX2_readOnto 30 = .ok (.aload_n 0, 1) := by decide +kernel
theorem dX2_readOnto_31 : decode cX2_readOnto 31 = .ok (.invokevirtual 32, 3) := by decide +kernel
theorem dX2_readOnto_34 : decode cX2_readOnto 34 = .ok (.aload_n 0, 1) := by decide +kernel
theorem dX2_readOnto_35 : decode cX2_readOnto 35 = .ok (.getfield 19, 3) := by decide +kernel
theorem dX2_readOnto_38 : decode cX2_readOnto 38 = .ok (.ifCond .ne 5, 3) := by decide +kernel
theorem dX2_readOnto_41 : decode cX2_readOnto 41 = .ok (.iload_n 2, 1) := by decide +kernel
theorem dX2_readOnto_42 : decode cX2_readOnto 42 = .ok (.ireturn, 1) := by decide +kernel
theorem dX2_readOnto_43 : decode cX2_readOnto 43 = .ok (.aload_n 0, 1) := by decide +kernel
theorem dX2_readOnto_44 : decode cX2_readOnto 44 = .ok (.getfield 19, 3) := by decide +kernel
theorem dX2_readOnto_47 : decode cX2_readOnto 47 = .ok (.iconst 3, 1) := by decide +kernel
theorem dX2_readOnto_48 : decode cX2_readOnto 48 = .ok (.if_icmp .eq 11, 3) := by decide +kernel
theorem dX2_readOnto_51 : decode cX2_readOnto 51 = .ok (.bipush (-20), 2) := by decide +kernel
theorem dX2_readOnto_53 : decode cX2_readOnto 53 = .ok (.aload_n 0, 1) := by decide +kernel
theorem dX2_readOnto_54 : decode cX2_readOnto 54 = .ok (.getfield 22, 3) := by decide +kernel
theorem dX2_readOnto_57 : decode cX2_readOnto 57 = .ok (.isub, 1) := by decide +kernel
theorem dX2_readOnto_58 : decode cX2_readOnto 58 = .ok (.ireturn, 1) := by decide +kernel
theorem dX2_readOnto_59 : decode cX2_readOnto 59 = .ok (.iinc 2 1, 3) := by decide +kernel
theorem dX2_readOnto_62 : decode cX2_readOnto 62 = .ok (.goto (-55), 3) := by decide +kernel
theorem dX2_readOnto_65 : decode cX2_readOnto 65 = .ok (.bipush (-20), 2) := by decide +kernel
theorem dX2_readOnto_67 : decode cX2_readOnto 67 = .ok (.aload_n 0, 1) := by decide +kernel
theorem dX2_readOnto_68 : decode cX2_readOnto 68 = .ok (.getfield 15, 3) := by decide +kernel
theorem dX2_readOnto_71 : decode cX2_readOnto 71 = .ok (.isub, 1) := by decide +kernel
theorem dX2_readOnto_72 : decode cX2_readOnto 72 = .ok (.ireturn, 1) := by decide +kernel
theorem dX2_nextToken_0 : decode cX2_nextToken 0 = .ok (.aload_n 0, 1) := by decide +kernel
theorem dX2_nextToken_1 : decode cX2_nextToken 1 = .ok (.aload_n 0, 1) := by decide +kernel
theorem dX2_nextToken_2 : decode cX2_nextToken 2 = .ok (.getfield 25, 3) := by decide +kernel
theorem dX2_nextToken_5 : decode cX2_nextToken 5 = .ok (.putfield 22, 3) := by decide +kernel
theorem dX2_nextToken_8 : decode cX2_nextToken 8 = .ok (.aload_n 0, 1) := by decide +kernel
theorem dX2_nextToken_9 : decode cX2_nextToken 9 = .ok (.getfield 22, 3) := by decide +kernel
theorem dX2_nextToken_12 : decode cX2_nextToken 12 = .ok (.aload_n 0, 1) := by decide +kernel
theorem dX2_nextToken_13 : decode cX2_nextToken 13 = .ok (.getfield 15, 3) := by decide +kernel
theorem dX2_nextToken_16 : decode cX2_nextToken 16 = .ok (.if_icmp .ge 30, 3) := by decide +kernel
theorem dX2_nextToken_19 : decode cX2_nextToken 19 = .ok (.aload_n 0, 1) := by decide +kernel
theorem dX2_nextToken_20 : decode cX2_nextToken 20 = .ok (.getfield 9, 3) := by decide +kernel
theorem dX2_nextToken_23 : decode cX2_nextToken 23 = .ok (.aload_n 0, 1) := by decide +kernel
theorem dX2_nextToken_24 : decode cX2_nextToken 24 = .ok (.getfield 22, 3) := by decide +kernel
theorem dX2_nextToken_27 : decode cX2_nextToken 27 = .ok (.iaload, 1) := by decide +kernel
theorem dX2_nextToken_28 : decode cX2_nextToken 28 = .ok (.bipush 32, 2) := by decide +kernel
theorem dX2_nextToken_30 : decode cX2_nextToken 30 = .ok (.if_icmp .ne 16, 3) := by decide +kernel
theorem dX2_nextToken_33 : decode cX2_nextToken 33 = .ok (.aload_n 0, 1) := by decide +kernel
theorem dX2_nextToken_34 : decode cX2_nextToken 34 = .ok (.dup, 1) := by decide +kernel
theorem dX2_nextToken_35 : decode cX2_nextToken 35 = .ok (.getfield 22, 3) := by decide +kernel
theorem dX2_nextToken_38 : decode cX2_nextToken 38 = .ok (.iconst 1, 1) := by decide +kernel
theorem dX2_nextToken_39 : decode cX2_nextToken 39 = .ok (.iadd, 1) := by decide +kernel
theorem dX2_nextToken_40 : decode cX2_nextToken 40 = .ok (.putfield 22, 3) := by decide +kernel
theorem dX2_nextToken_43 : decode cX2_nextToken 43 = .ok (.goto (-35), 3) := by decide +kernel
theorem dX2_nextToken_46 : decode cX2_nextToken 46 = .ok (.aload_n 0, 1) := by decide +kernel
theorem dX2_nextToken_47 : decode cX2_nextToken 47 = .ok (.aload_n 0, 1) := by decide +kernel
theorem dX2_nextToken_48 : decode cX2_nextToken 48 = .ok (.getfield 22, 3) := by decide +kernel
theorem dX2_nextToken_51 : decode cX2_nextToken 51 = .ok (.putfield 25, 3) := by decide +kernel
theorem dX2_nextToken_54 : decode cX2_nextToken 54 = .ok (.aload_n 0, 1) := by decide +kernel
theorem dX2_nextToken_55 : decode cX2_nextToken 55 = .ok (.aload_n 0, 1) := by decide +kernel
theorem dX2_nextToken_56 : decode cX2_nextToken 56 = .ok (.getfield 22, 3) := by decide +kernel
theorem dX2_nextToken_59 : decode cX2_nextToken 59 = .ok (.aload_n 0, 1) := by decide +kernel
theorem dX2_nextToken_60 : decode cX2_nextToken 60 = .ok (.getfield 15, 3) := by decide +kernel
theorem dX2_nextToken_63 : decode cX2_nextToken 63 = .ok (.if_icmp .ge 18, 3) := by decide +kernel
theorem dX2_nextToken_66 : decode cX2_nextToken 66 = .ok (.aload_n 0, 1) := by decide +kernel
theorem dX2_nextToken_67 : decode cX2_nextToken 67 = .ok (.getfield 9, 3) := by decide +kernel
theorem dX2_nextToken_70 : decode cX2_nextToken 70 = .ok (.aload_n 0, 1) := by decide +kernel
theorem dX2_nextToken_71 : decode cX2_nextToken 71 = .ok (.getfield 22, 3) := by decide +kernel
theorem dX2_nextToken_74 : decode cX2_nextToken 74 = .ok (.iaload, 1) := by decide +kernel
theorem dX2_nextToken_75 : decode cX2_nextToken 75 = .ok (.invokestatic 35, 3) := by decide +kernel
theorem dX2_nextToken_78 : decode cX2_nextToken 78 = .ok (.goto 4, 3) := by decide +kernel
theorem dX2_nextToken_81 : decode cX2_nextToken 81 = .ok (.iconst 0, 1) := by decide +kernel
theorem dX2_nextToken_82 : decode cX2_nextToken 82 = .ok (.putfield 19, 3) := by decide +kernel
theorem dX2_nextToken_85 : decode cX2_nextToken 85 = .ok (.aload_n 0, 1) := by decide +kernel
theorem dX2_nextToken_86 : decode cX2_nextToken 86 = .ok (.getfield 19, 3) := by decide +kernel
theorem dX2_nextToken_89 : decode cX2_nextToken 89 = .ok (.iconst 1, 1) := by decide +kernel
theorem dX2_nextToken_90 : decode cX2_nextToken 90 = .ok (.if_icmp .eq 11, 3) := by decide +kernel
theorem dX2_nextToken_93 : decode cX2_nextToken 93 = .ok (.aload_n 0, 1) := by decide +kernel
theorem dX2_nextToken_94 : decode cX2_nextToken 94 = .ok (.getfield 19, 3) := by decide +kernel
theorem dX2_nextToken_97 : decode cX2_nextToken 97 = .ok (.iconst 2, 1) := by decide +kernel
theorem dX2_nextToken_98 : decode cX2_nextToken 98 = .ok (.if_icmp .ne 46, 3) := by decide +kernel
theorem dX2_nextToken_101 : decode cX2_nextToken 101 = .ok (.aload_n 0, 1) := by decide +kernel
theorem dX2_nextToken_102 : decode cX2_nextToken 102 = .ok (.getfield 25, 3) := by decide +kernel
theorem dX2_nextToken_105 : decode cX2_nextToken 105 = .ok (.aload_n 0, 1) := by decide +kernel
theorem dX2_nextToken_106 : decode cX2_nextToken 106 = .ok (.getfield 15, 3) := by decide +kernel
theorem dX2_nextToken_109 : decode cX2_nextToken 109 = .ok (.if_icmp .ge 52, 3) := by decide +kernel
theorem dX2_nextToken_112 : decode cX2_nextToken 112 = .ok (.aload_n 0, 1) := by decide +kernel
theorem dX2_nextToken_113 : decode cX2_nextToken 113 = .ok (.getfield 9, 3) := by decide +kernel
theorem dX2_nextToken_116 : decode cX2_nextToken 116 = .ok (.aload_n 0, 1) := by decide +kernel
theorem dX2_nextToken_117 : decode cX2_nextToken 117 = .ok (.getfield 25, 3) := by decide +kernel
theorem dX2_nextToken_120 : decode cX2_nextToken 120 = .ok (.iaload, 1) := by decide +kernel
theorem dX2_nextToken_121 : decode cX2_nextToken 121 = .ok (.invokestatic 35, 3) := by decide +kernel
theorem dX2_nextToken_124 : decode cX2_nextToken 124 = .ok (.aload_n 0, 1) := by decide +kernel
theorem dX2_nextToken_125 : decode cX2_nextToken 125 = .ok (.getfield 19, 3) := by decide +kernel
theorem dX2_nextToken_128 : decode cX2_nextToken 128 = .ok (.if_icmp .ne 33, 3) := by decide +kernel
theorem dX2_nextToken_131 : decode cX2_nextToken 131 = .ok (.aload_n 0, 1) := by decide +kernel
theorem dX2_nextToken_132 : decode cX2_nextToken 132 = .ok (.dup, 1) := by decide +kernel
theorem dX2_nextToken_133 : decode cX2_nextToken 133 = .ok (.getfield 25, 3) := by decide +kernel
theorem dX2_nextToken_136 : decode cX2_nextToken 136 = .ok (.iconst 1, 1) := by decide +kernel
theorem dX2_nextToken_137 : decode cX2_nextToken 137 = .ok (.iadd, 1) := by decide +kernel
theorem dX2_nextToken_138 : decode cX2_nextToken 138 = .ok (.putfield 25, 3) := by decide +kernel
theorem dX2_nextToken_141 : decode cX2_nextToken 141 = .ok (.goto (-40), 3) := by decide +kernel
theorem dX2_nextToken_144 : decode cX2_nextToken 144 = .ok (.aload_n 0, 1) := by decide +kernel
theorem dX2_nextToken_145 : decode cX2_nextToken 145 = .ok (.getfield 19, 3) := by decide +kernel
theorem dX2_nextToken_148 : decode cX2_nextToken 148 = .ok (.ifCond .eq 13, 3) := by decide +kernel
theorem dX2_nextToken_151 : decode cX2_nextToken 151 = .ok (.aload_n 0, 1) := by decide +kernel
theorem dX2_nextToken_152 : decode cX2_nextToken 152 = .ok (.dup, 1) := by decide +kernel
theorem dX2_nextToken_153 : decode cX2_nextToken 153 = .ok (.getfield 25, 3) := by decide +kernel
theorem dX2_nextToken_156 : decode cX2_nextToken 156 = .ok (.iconst 1, 1) := by decide +kernel
theorem dX2_nextToken_157 : decode cX2_nextToken 157 = .ok (.iadd, 1) := by decide +kernel
theorem dX2_nextToken_158 : decode cX2_nextToken 158 = .ok (.putfield 25, 3) := by decide +kernel
theorem dX2_nextToken_161 : decode cX2_nextToken 161 = .ok (.return_, 1) := by decide +kernel
theorem dX2_tokenOf_0 : decode cX2_tokenOf 0 = .ok (.iload_n 0, 1) := by decide +kernel
theorem dX2_tokenOf_1 : decode cX2_tokenOf 1 = .ok (.bipush 97, 2) := by decide +kernel
theorem dX2_tokenOf_3 : decode cX2_tokenOf 3 = .ok (.if_icmp .lt 11, 3) := by decide +kernel
theorem dX2_tokenOf_6 : decode cX2_tokenOf 6 = .ok (.iload_n 0, 1) := by decide +kernel
theorem dX2_tokenOf_7 : decode cX2_tokenOf 7 = .ok (.bipush 122, 2) := by decide +kernel
theorem dX2_tokenOf_9 : decode cX2_tokenOf 9 = .ok (.if_icmp .gt 5, 3) := by decide +kernel
theorem dX2_tokenOf_12 : decode cX2_tokenOf 12 = .ok (.iconst 1, 1) := by decide +kernel
theorem dX2_tokenOf_13 : decode cX2_tokenOf 13 = .ok (.ireturn, 1) := by decide +kernel
theorem dX2_tokenOf_14 : decode cX2_tokenOf 14 = .ok (.iload_n 0, 1) := by decide +kernel
theorem dX2_tokenOf_15 : decode cX2_tokenOf 15 = .ok (.bipush 48, 2) := by decide +kernel
theorem dX2_tokenOf_17 : decode cX2_tokenOf 17 = .ok (.if_icmp .lt 11, 3) := by decide +kernel
theorem dX2_tokenOf_20 : decode cX2_tokenOf 20 = .ok (.iload_n 0, 1) := by decide +kernel
theorem dX2_tokenOf_21 : decode cX2_tokenOf 21 = .ok (.bipush 57, 2) := by decide +kernel
theorem dX2_tokenOf_23 : decode cX2_tokenOf 23 = .ok (.if_icmp .gt 5, 3) := by decide +kernel
theorem dX2_tokenOf_26 : decode cX2_tokenOf 26 = .ok (.iconst 2, 1) := by decide +kernel
theorem dX2_tokenOf_27 : decode cX2_tokenOf 27 = .ok (.ireturn, 1) := by decide +kernel
theorem dX2_tokenOf_28 : decode cX2_tokenOf 28 = .ok (.iload_n 0, 1) := by decide +kernel
theorem dX2_tokenOf_29 : decode cX2_tokenOf 29 = .ok (.bipush 59, 2) := by decide +kernel
theorem dX2_tokenOf_31 : decode cX2_tokenOf 31 = .ok (.if_icmp .ne 7, 3) := by decide +kernel
theorem dX2_tokenOf_34 : decode cX2_tokenOf 34 = .ok (.iconst 3, 1) := by decide +kernel
theorem dX2_tokenOf_35 : decode cX2_tokenOf 35 = .ok (.goto 4, 3) := by decide +kernel
theorem dX2_tokenOf_38 : decode cX2_tokenOf 38 = .ok (.iconst 4, 1) := by decide +kernel
theorem dX2_tokenOf_39 : decode cX2_tokenOf 39 = .ok (.ireturn, 1) := by decide +kernel
theorem dX2_isWord_0 : decode cX2_isWord 0 = .ok (.aload_n 0, 1) := by decide +kernel
theorem dX2_isWord_1 : decode cX2_isWord 1 = .ok (.getfield 19, 3) := by decide +kernel
theorem dX2_isWord_4 : decode cX2_isWord 4 = .ok (.iconst 1, 1) := by decide +kernel
theorem dX2_isWord_5 : decode cX2_isWord 5 = .ok (.if_icmp .ne 19, 3) := by decide +kernel
theorem dX2_isWord_8 : decode cX2_isWord 8 = .ok (.aload_n 0, 1) := by decide +kernel
theorem dX2_isWord_9 : decode cX2_isWord 9 = .ok (.getfield 25, 3) := by decide +kernel
theorem dX2_isWord_12 : decode cX2_isWord 12 = .ok (.aload_n 0, 1) := by decide +kernel
theorem dX2_isWord_13 : decode cX2_isWord 13 = .ok (.getfield 22, 3) := by decide +kernel
theorem dX2_isWord_16 : decode cX2_isWord 16 = .ok (.isub, 1) := by decide +kernel
theorem dX2_isWord_17 : decode cX2_isWord 17 = .ok (.aload_n 1, 1) := by decide +kernel
theorem dX2_isWord_18 : decode cX2_isWord 18 = .ok (.invokevirtual 39, 3) := by decide +kernel
theorem dX2_isWord_21 : decode cX2_isWord 21 = .ok (.if_icmp .eq 5, 3) := by decide +kernel
theorem dX2_isWord_24 : decode cX2_isWord 24 = .ok (.iconst 0, 1) := by decide +kernel
theorem dX2_isWord_25 : decode cX2_isWord 25 = .ok (.ireturn, 1) := by decide +kernel
theorem dX2_isWord_26 : decode cX2_isWord 26 = .ok (.iconst 0, 1) := by decide +kernel
theorem dX2_isWord_27 : decode cX2_isWord 27 = .ok (.istore_n 2, 1) := by decide +kernel
theorem dX2_isWord_28 : decode cX2_isWord 28 = .ok (.iload_n 2, 1) := by decide +kernel
theorem dX2_isWord_29 : decode cX2_isWord 29 = .ok (.aload_n 1, 1) := by decide +kernel
theorem dX2_isWord_30 : decode cX2_isWord 30 = .ok (.invokevirtual 39, 3) := by decide +kernel
theorem dX2_isWord_33 : decode cX2_isWord 33 = .ok (.if_icmp .ge 30, 3) := by decide +kernel
theorem dX2_isWord_36 : decode cX2_isWord 36 = .ok (.aload_n 0, 1) := by decide +kernel
theorem dX2_isWord_37 : decode cX2_isWord 37 = .ok (.getfield 9, 3) := by decide +kernel
theorem dX2_isWord_40 : decode cX2_isWord 40 = .ok (.aload_n 0, 1) := by decide +kernel
theorem dX2_isWord_41 : decode cX2_isWord 41 = .ok (.getfield 22, 3) := by decide +kernel
theorem dX2_isWord_44 : decode cX2_isWord 44 = .ok (.iload_n 2, 1) := by decide +kernel
theorem dX2_isWord_45 : decode cX2_isWord 45 = .ok (.iadd, 1) := by decide +kernel
theorem dX2_isWord_46 : decode cX2_isWord 46 = .ok (.iaload, 1) := by decide +kernel
theorem dX2_isWord_47 : decode cX2_isWord 47 = .ok (.aload_n 1, 1) := by decide +kernel
theorem dX2_isWord_48 : decode cX2_isWord 48 = .ok (.iload_n 2, 1) := by decide +kernel
theorem dX2_isWord_49 : decode cX2_isWord 49 = .ok (.invokevirtual 45, 3) := by decide +kernel
theorem dX2_isWord_52 : decode cX2_isWord 52 = .ok (.if_icmp .eq 5, 3) := by decide +kernel
theorem dX2_isWord_55 : decode cX2_isWord 55 = .ok (.iconst 0, 1) := by decide +kernel
theorem dX2_isWord_56 : decode cX2_isWord 56 = .ok (.ireturn, 1) := by decide +kernel
theorem dX2_isWord_57 : decode cX2_isWord 57 = .ok (.iinc 2 1, 3) := by decide +kernel
theorem dX2_isWord_60 : decode cX2_isWord 60 = .ok (.goto (-32), 3) := by decide +kernel
theorem dX2_isWord_63 : decode cX2_isWord 63 = .ok (.iconst 1, 1) := by decide +kernel
theorem dX2_isWord_64 : decode cX2_isWord 64 = .ok (.ireturn, 1) := by decide +kernel
theorem dX2_nextNumber_0 : decode cX2_nextNumber 0 = .ok (.aload_n 0, 1) := by decide +kernel
theorem dX2_nextNumber_1 : decode cX2_nextNumber 1 = .ok (.invokevirtual 32, 3) := by decide +kernel
theorem dX2_nextNumber_4 : decode cX2_nextNumber 4 = .ok (.aload_n 0, 1) := by decide +kernel
theorem dX2_nextNumber_5 : decode cX2_nextNumber 5 = .ok (.getfield 19, 3) := by decide +kernel
theorem dX2_nextNumber_8 : decode cX2_nextNumber 8 = .ok (.iconst 2, 1) := by decide +kernel
theorem dX2_nextNumber_9 : decode cX2_nextNumber 9 = .ok (.if_icmp .ne 16, 3) := by decide +kernel
theorem dX2_nextNumber_12 : decode cX2_nextNumber 12 = .ok (.aload_n 0, 1) := by decide +kernel
theorem dX2_nextNumber_13 : decode cX2_nextNumber 13 = .ok (.getfield 25, 3) := by decide +kernel
theorem dX2_nextNumber_16 : decode cX2_nextNumber 16 = .ok (.aload_n 0, 1) := by decide +kernel
theorem dX2_nextNumber_17 : decode cX2_nextNumber 17 = .ok (.getfield 22, 3) := by decide +kernel
theorem dX2_nextNumber_20 : decode cX2_nextNumber 20 = .ok (.isub, 1) := by decide +kernel
theorem dX2_nextNumber_21 : decode cX2_nextNumber 21 = .ok (.iconst 2, 1) := by decide +kernel
theorem dX2_nextNumber_22 : decode cX2_nextNumber 22 = .ok (.if_icmp .le 5, 3) := by decide +kernel
theorem dX2_nextNumber_25 : decode cX2_nextNumber 25 = .ok (.iconst (-1), 1) := by decide +kernel
theorem dX2_nextNumber_26 : decode cX2_nextNumber 26 = .ok (.ireturn, 1) := by decide +kernel
theorem dX2_nextNumber_27 : decode cX2_nextNumber 27 = .ok (.iconst 0, 1) := by decide +kernel
theorem dX2_nextNumber_28 : decode cX2_nextNumber 28 = .ok (.istore_n 3, 1) := by decide +kernel
theorem dX2_nextNumber_29 : decode cX2_nextNumber 29 = .ok (.aload_n 0, 1) := by decide +kernel
theorem dX2_nextNumber_30 : decode cX2_nextNumber 30 = .ok (.getfield 22, 3) := by decide +kernel
theorem dX2_nextNumber_33 : decode cX2_nextNumber 33 = .ok (.istore 4, 2) := by decide +kernel
theorem dX2_nextNumber_35 : decode cX2_nextNumber 35 = .ok (.iload 4, 2) := by decide +kernel
theorem dX2_nextNumber_37 : decode cX2_nextNumber 37 = .ok (.aload_n 0, 1) := by decide +kernel
theorem dX2_nextNumber_38 : decode cX2_nextNumber 38 = .ok (.getfield 25, 3) := by decide +kernel
theorem dX2_nextNumber_41 : decode cX2_nextNumber 41 = .ok (.if_icmp .ge 25, 3) := by decide +kernel
theorem dX2_nextNumber_44 : decode cX2_nextNumber 44 = .ok (.bipush 10, 2) := by decide +kernel
theorem dX2_nextNumber_46 : decode cX2_nextNumber 46 = .ok (.iload_n 3, 1) := by decide +kernel
theorem dX2_nextNumber_47 : decode cX2_nextNumber 47 = .ok (.imul, 1) := by decide +kernel
theorem dX2_nextNumber_48 : decode cX2_nextNumber 48 = .ok (.aload_n 0, 1) := by decide +kernel
theorem dX2_nextNumber_49 : decode cX2_nextNumber 49 = .ok (.getfield 9, 3) := by decide +kernel
theorem dX2_nextNumber_52 : decode cX2_nextNumber 52 = .ok (.iload 4, 2) := by decide +kernel
theorem dX2_nextNumber_54 : decode cX2_nextNumber 54 = .ok (.iaload, 1) := by decide +kernel
theorem dX2_nextNumber_55 : decode cX2_nextNumber 55 = .ok (.iadd, 1) := by decide +kernel
theorem dX2_nextNumber_56 : decode cX2_nextNumber 56 = .ok (.bipush 48, 2) := by decide +kernel
theorem dX2_nextNumber_58 : decode cX2_nextNumber 58 = .ok (.isub, 1) := by decide +kernel
theorem dX2_nextNumber_59 : decode cX2_nextNumber 59 = .ok (.istore_n 3, 1) := by decide +kernel
theorem dX2_nextNumber_60 : decode cX2_nextNumber 60 = .ok (.iinc 4 1, 3) := by decide +kernel
theorem dX2_nextNumber_63 : decode cX2_nextNumber 63 = .ok (.goto (-28), 3) := by decide +kernel
theorem dX2_nextNumber_66 : decode cX2_nextNumber 66 = .ok (.iload_n 3, 1) := by decide +kernel
theorem dX2_nextNumber_67 : decode cX2_nextNumber 67 = .ok (.iload_n 1, 1) := by decide +kernel
theorem dX2_nextNumber_68 : decode cX2_nextNumber 68 = .ok (.iload_n 2, 1) := by decide +kernel
theorem dX2_nextNumber_69 : decode cX2_nextNumber 69 = .ok (.invokestatic 49, 3) := by decide +kernel
theorem dX2_nextNumber_72 : decode cX2_nextNumber 72 = .ok (.ifCond .eq 7, 3) := by decide +kernel
theorem dX2_nextNumber_75 : decode cX2_nextNumber 75 = .ok (.iload_n 3, 1) := by decide +kernel
theorem dX2_nextNumber_76 : decode cX2_nextNumber 76 = .ok (.goto 4, 3) := by decide +kernel
theorem dX2_nextNumber_79 : decode cX2_nextNumber 79 = .ok (.iconst (-1), 1) := by decide +kernel
theorem dX2_nextNumber_80 : decode cX2_nextNumber 80 = .ok (.ireturn, 1) := by decide +kernel
theorem dX2_readStatement_0 : decode cX2_readStatement 0 = .ok (.aload_n 0, 1) := by decide +kernel
theorem dX2_readStatement_1 : decode cX2_readStatement 1 = .ok (.invokevirtual 32, 3) := by decide +kernel
theorem dX2_readStatement_4 : decode cX2_readStatement 4 = .ok (.aload_n 0, 1) := by decide +kernel
theorem dX2_readStatement_5 : decode cX2_readStatement 5 = .ok (.ldc 53, 2) := by decide +kernel
theorem dX2_readStatement_7 : decode cX2_readStatement 7 = .ok (.invokevirtual 55, 3) := by decide +kernel
theorem dX2_readStatement_10 : decode cX2_readStatement 10 = .ok (.ifCond .eq 26, 3) := by decide +kernel
theorem dX2_readStatement_13 : decode cX2_readStatement 13 = .ok (.aload_n 1, 1) := by decide +kernel
theorem dX2_readStatement_14 : decode cX2_readStatement 14 = .ok (.getfield 59, 3) := by decide +kernel
theorem dX2_readStatement_17 : decode cX2_readStatement 17 = .ok (.bipush 14, 2) := by decide +kernel
theorem dX2_readStatement_19 : decode cX2_readStatement 19 = .ok (.if_icmp .ge 15, 3) := by decide +kernel
theorem dX2_readStatement_22 : decode cX2_readStatement 22 = .ok (.aload_n 0, 1) := by decide +kernel
theorem dX2_readStatement_23 : decode cX2_readStatement 23 = .ok (.aload_n 1, 1) := by decide +kernel
theorem dX2_readStatement_24 : decode cX2_readStatement 24 = .ok (.invokevirtual 64, 3) := by decide +kernel
theorem dX2_readStatement_27 : decode cX2_readStatement 27 = .ok (.ifCond .eq 7, 3) := by decide +kernel
theorem dX2_readStatement_30 : decode cX2_readStatement 30 = .ok (.iconst 1, 1) := by decide +kernel
theorem dX2_readStatement_31 : decode cX2_readStatement 31 = .ok (.goto 4, 3) := by decide +kernel
theorem dX2_readStatement_34 : decode cX2_readStatement 34 = .ok (.iconst 0, 1) := by decide +kernel
theorem dX2_readStatement_35 : decode cX2_readStatement 35 = .ok (.ireturn, 1) := by decide +kernel
theorem dX2_readStatement_36 : decode cX2_readStatement 36 = .ok (.aload_n 0, 1) := by decide +kernel
theorem dX2_readStatement_37 : decode cX2_readStatement 37 = .ok (.ldc 67, 2) := by decide +kernel
theorem dX2_readStatement_39 : decode cX2_readStatement 39 = .ok (.invokevirtual 55, 3) := by decide +kernel
theorem dX2_readStatement_42 : decode cX2_readStatement 42 = .ok (.ifCond .eq 26, 3) := by decide +kernel
theorem dX2_readStatement_45 : decode cX2_readStatement 45 = .ok (.aload_n 1, 1) := by decide +kernel
theorem dX2_readStatement_46 : decode cX2_readStatement 46 = .ok (.getfield 69, 3) := by decide +kernel
theorem dX2_readStatement_49 : decode cX2_readStatement 49 = .ok (.bipush 6, 2) := by decide +kernel
theorem dX2_readStatement_51 : decode cX2_readStatement 51 = .ok (.if_icmp .ge 15, 3) := by decide +kernel
theorem dX2_readStatement_54 : decode cX2_readStatement 54 = .ok (.aload_n 0, 1) := by decide +kernel
theorem dX2_readStatement_55 : decode cX2_readStatement 55 = .ok (.aload_n 1, 1) := by decide +kernel
theorem dX2_readStatement_56 : decode cX2_readStatement 56 = .ok (.invokevirtual 72, 3) := by decide +kernel
theorem dX2_readStatement_59 : decode cX2_readStatement 59 = .ok (.ifCond .eq 7, 3) := by decide +kernel
theorem dX2_readStatement_62 : decode cX2_readStatement 62 = .ok (.iconst 1, 1) := by decide +kernel
theorem dX2_readStatement_63 : decode cX2_readStatement 63 = .ok (.goto 4, 3) := by decide +kernel
theorem dX2_readStatement_66 : decode cX2_readStatement 66 = .ok (.iconst 0, 1) := by decide +kernel
theorem dX2_readStatement_67 : decode cX2_readStatement 67 = .ok (.ireturn, 1) := by decide +kernel
theorem dX2_readStatement_68 : decode cX2_readStatement 68 = .ok (.aload_n 0, 1) := by decide +kernel
theorem dX2_readStatement_69 : decode cX2_readStatement 69 = .ok (.ldc 75, 2) := by decide +kernel
theorem dX2_readStatement_71 : decode cX2_readStatement 71 = .ok (.invokevirtual 55, 3) := by decide +kernel
theorem dX2_readStatement_74 : decode cX2_readStatement 74 = .ok (.ifCond .eq 27, 3) := by decide +kernel
theorem dX2_readStatement_77 : decode cX2_readStatement 77 = .ok (.aload_n 1, 1) := by decide +kernel
theorem dX2_readStatement_78 : decode cX2_readStatement 78 = .ok (.getfield 77, 3) := by decide +kernel
theorem dX2_readStatement_81 : decode cX2_readStatement 81 = .ok (.bipush 20, 2) := by decide +kernel
theorem dX2_readStatement_83 : decode cX2_readStatement 83 = .ok (.if_icmp .ge 16, 3) := by decide +kernel
theorem dX2_readStatement_86 : decode cX2_readStatement 86 = .ok (.aload_n 0, 1) := by decide +kernel
theorem dX2_readStatement_87 : decode cX2_readStatement 87 = .ok (.aload_n 1, 1) := by decide +kernel
theorem dX2_readStatement_88 : decode cX2_readStatement 88 = .ok (.iconst 1, 1) := by decide +kernel
theorem dX2_readStatement_89 : decode cX2_readStatement 89 = .ok (.invokevirtual 80, 3) := by decide +kernel
theorem dX2_readStatement_92 : decode cX2_readStatement 92 = .ok (.ifCond .eq 7, 3) := by decide +kernel
theorem dX2_readStatement_95 : decode cX2_readStatement 95 = .ok (.iconst 1, 1) := by decide +kernel
theorem dX2_readStatement_96 : decode cX2_readStatement 96 = .ok (.goto 4, 3) := by decide +kernel
theorem dX2_readStatement_99 : decode cX2_readStatement 99 = .ok (.iconst 0, 1) := by decide +kernel
theorem dX2_readStatement_100 : decode cX2_readStatement 100 = .ok (.ireturn, 1) := by decide +kernel
theorem dX2_readStatement_101 : decode cX2_readStatement 101 = .ok (.aload_n 0, 1) := by decide +kernel
theorem dX2_readStatement_102 : decode cX2_readStatement 102 = .ok (.ldc 84, 2) := by decide +kernel
theorem dX2_readStatement_104 : decode cX2_readStatement 104 = .ok (.invokevirtual 55, 3) := by decide +kernel
theorem dX2_readStatement_107 : decode cX2_readStatement 107 = .ok (.ifCond .eq 27, 3) := by decide +kernel
theorem dX2_readStatement_110 : decode cX2_readStatement 110 = .ok (.aload_n 1, 1) := by decide +kernel
theorem dX2_readStatement_111 : decode cX2_readStatement 111 = .ok (.getfield 77, 3) := by decide +kernel
theorem dX2_readStatement_114 : decode cX2_readStatement 114 = .ok (.bipush 20, 2) := by decide +kernel
theorem dX2_readStatement_116 : decode cX2_readStatement 116 = .ok (.if_icmp .ge 16, 3) := by decide +kernel
theorem dX2_readStatement_119 : decode cX2_readStatement 119 = .ok (.aload_n 0, 1) := by decide +kernel
theorem dX2_readStatement_120 : decode cX2_readStatement 120 = .ok (.aload_n 1, 1) := by decide +kernel
theorem dX2_readStatement_121 : decode cX2_readStatement 121 = .ok (.iconst 0, 1) := by decide +kernel
theorem dX2_readStatement_122 : decode cX2_readStatement 122 = .ok (.invokevirtual 80, 3) := by decide +kernel
theorem dX2_readStatement_125 : decode cX2_readStatement 125 = .ok (.ifCond .eq 7, 3) := by decide +kernel
theorem dX2_readStatement_128 : decode cX2_readStatement 128 = .ok (.iconst 1, 1) := by decide +kernel
theorem dX2_readStatement_129 : decode cX2_readStatement 129 = .ok (.goto 4, 3) := by decide +kernel
theorem dX2_readStatement_132 : decode cX2_readStatement 132 = .ok (.iconst 0, 1) := by decide +kernel
theorem dX2_readStatement_133 : decode cX2_readStatement 133 = .ok (.ireturn, 1) := by decide +kernel
theorem dX2_readStatement_134 : decode cX2_readStatement 134 = .ok (.aload_n 0, 1) := by decide +kernel
theorem dX2_readStatement_135 : decode cX2_readStatement 135 = .ok (.ldc 86, 2) := by decide +kernel
theorem dX2_readStatement_137 : decode cX2_readStatement 137 = .ok (.invokevirtual 55, 3) := by decide +kernel
theorem dX2_readStatement_140 : decode cX2_readStatement 140 = .ok (.ifCond .eq 9, 3) := by decide +kernel
theorem dX2_readStatement_143 : decode cX2_readStatement 143 = .ok (.aload_n 0, 1) := by decide +kernel
theorem dX2_readStatement_144 : decode cX2_readStatement 144 = .ok (.aload_n 1, 1) := by decide +kernel
theorem dX2_readStatement_145 : decode cX2_readStatement 145 = .ok (.invokevirtual 88, 3) := by decide +kernel
theorem dX2_readStatement_148 : decode cX2_readStatement 148 = .ok (.ireturn, 1) := by decide +kernel
theorem dX2_readStatement_149 : decode cX2_readStatement 149 = .ok (.aload_n 0, 1) := by decide +kernel
theorem dX2_readStatement_150 : decode cX2_readStatement 150 = .ok (.ldc 91, 2) := by decide +kernel
theorem dX2_readStatement_152 : decode cX2_readStatement 152 = .ok (.invokevirtual 55, 3) := by decide +kernel
theorem dX2_readStatement_155 : decode cX2_readStatement 155 = .ok (.ifCond .eq 15, 3) := by decide +kernel
theorem dX2_readStatement_158 : decode cX2_readStatement 158 = .ok (.aload_n 0, 1) := by decide +kernel
theorem dX2_readStatement_159 : decode cX2_readStatement 159 = .ok (.aload_n 1, 1) := by decide +kernel
theorem dX2_readStatement_160 : decode cX2_readStatement 160 = .ok (.invokevirtual 93, 3) := by decide +kernel
theorem dX2_readStatement_163 : decode cX2_readStatement 163 = .ok (.ifCond .eq 7, 3) := by decide +kernel
theorem dX2_readStatement_166 : decode cX2_readStatement 166 = .ok (.iconst 1, 1) := by decide +kernel
theorem dX2_readStatement_167 : decode cX2_readStatement 167 = .ok (.goto 4, 3) := by decide +kernel
theorem dX2_readStatement_170 : decode cX2_readStatement 170 = .ok (.iconst 0, 1) := by decide +kernel
theorem dX2_readStatement_171 : decode cX2_readStatement 171 = .ok (.ireturn, 1) := by decide +kernel
theorem dX2_readChild_0 : decode cX2_readChild 0 = .ok (.aload_n 0, 1) := by decide +kernel
theorem dX2_readChild_1 : decode cX2_readChild 1 = .ok (.iconst 1, 1) := by decide +kernel
theorem dX2_readChild_2 : decode cX2_readChild 2 = .ok (.bipush 99, 2) := by decide +kernel
theorem dX2_readChild_4 : decode cX2_readChild 4 = .ok (.invokevirtual 96, 3) := by decide +kernel
theorem dX2_readChild_7 : decode cX2_readChild 7 = .ok (.istore_n 2, 1) := by decide +kernel
theorem dX2_readChild_8 : decode cX2_readChild 8 = .ok (.iload_n 2, 1) := by decide +kernel
theorem dX2_readChild_9 : decode cX2_readChild 9 = .ok (.iconst (-1), 1) := by decide +kernel
theorem dX2_readChild_10 : decode cX2_readChild 10 = .ok (.if_icmp .ne 5, 3) := by decide +kernel
theorem dX2_readChild_13 : decode cX2_readChild 13 = .ok (.iconst 0, 1) := by decide +kernel
theorem dX2_readChild_14 : decode cX2_readChild 14 = .ok (.ireturn, 1) := by decide +kernel
theorem dX2_readChild_15 : decode cX2_readChild 15 = .ok (.aload_n 0, 1) := by decide +kernel
theorem dX2_readChild_16 : decode cX2_readChild 16 = .ok (.iconst 0, 1) := by decide +kernel
theorem dX2_readChild_17 : decode cX2_readChild 17 = .ok (.bipush 9, 2) := by decide +kernel
theorem dX2_readChild_19 : decode cX2_readChild 19 = .ok (.invokevirtual 96, 3) := by decide +kernel
theorem dX2_readChild_22 : decode cX2_readChild 22 = .ok (.istore_n 3, 1) := by decide +kernel
theorem dX2_readChild_23 : decode cX2_readChild 23 = .ok (.iload_n 3, 1) := by decide +kernel
theorem dX2_readChild_24 : decode cX2_readChild 24 = .ok (.iconst (-1), 1) := by decide +kernel
theorem dX2_readChild_25 : decode cX2_readChild 25 = .ok (.if_icmp .ne 5, 3) := by decide +kernel
theorem dX2_readChild_28 : decode cX2_readChild 28 = .ok (.iconst 0, 1) := by decide +kernel
theorem dX2_readChild_29 : decode cX2_readChild 29 = .ok (.ireturn, 1) := by decide +kernel
theorem dX2_readChild_30 : decode cX2_readChild 30 = .ok (.aload_n 1, 1) := by decide +kernel
theorem dX2_readChild_31 : decode cX2_readChild 31 = .ok (.iload_n 2, 1) := by decide +kernel
theorem dX2_readChild_32 : decode cX2_readChild 32 = .ok (.iload_n 3, 1) := by decide +kernel
theorem dX2_readChild_33 : decode cX2_readChild 33 = .ok (.invokevirtual 100, 3) := by decide +kernel
theorem dX2_readChild_36 : decode cX2_readChild 36 = .ok (.pop, 1) := by decide +kernel
theorem dX2_readChild_37 : decode cX2_readChild 37 = .ok (.iconst 1, 1) := by decide +kernel
theorem dX2_readChild_38 : decode cX2_readChild 38 = .ok (.ireturn, 1) := by decide +kernel
theorem dX2_readCount_0 : decode cX2_readCount 0 = .ok (.aload_n 0, 1) := by decide +kernel
theorem dX2_readCount_1 : decode cX2_readCount 1 = .ok (.iconst 0, 1) := by decide +kernel
theorem dX2_readCount_2 : decode cX2_readCount 2 = .ok (.iconst 5, 1) := by decide +kernel
theorem dX2_readCount_3 : decode cX2_readCount 3 = .ok (.invokevirtual 96, 3) := by decide +kernel
theorem dX2_readCount_6 : decode cX2_readCount 6 = .ok (.istore_n 2, 1) := by decide +kernel
theorem dX2_readCount_7 : decode cX2_readCount 7 = .ok (.iload_n 2, 1) := by decide +kernel
theorem dX2_readCount_8 : decode cX2_readCount 8 = .ok (.iconst (-1), 1) := by decide +kernel
theorem dX2_readCount_9 : decode cX2_readCount 9 = .ok (.if_icmp .ne 5, 3) := by decide +kernel
theorem dX2_readCount_12 : decode cX2_readCount 12 = .ok (.iconst 0, 1) := by decide +kernel
theorem dX2_readCount_13 : decode cX2_readCount 13 = .ok (.ireturn, 1) := by decide +kernel
theorem dX2_readCount_14 : decode cX2_readCount 14 = .ok (.aload_n 0, 1) := by decide +kernel
theorem dX2_readCount_15 : decode cX2_readCount 15 = .ok (.iconst 2, 1) := by decide +kernel
theorem dX2_readCount_16 : decode cX2_readCount 16 = .ok (.iconst 5, 1) := by decide +kernel
theorem dX2_readCount_17 : decode cX2_readCount 17 = .ok (.invokevirtual 96, 3) := by decide +kernel
theorem dX2_readCount_20 : decode cX2_readCount 20 = .ok (.istore_n 3, 1) := by decide +kernel
theorem dX2_readCount_21 : decode cX2_readCount 21 = .ok (.iload_n 3, 1) := by decide +kernel
theorem dX2_readCount_22 : decode cX2_readCount 22 = .ok (.iconst (-1), 1) := by decide +kernel
theorem dX2_readCount_23 : decode cX2_readCount 23 = .ok (.if_icmp .ne 5, 3) := by decide +kernel
theorem dX2_readCount_26 : decode cX2_readCount 26 = .ok (.iconst 0, 1) := by decide +kernel
theorem dX2_readCount_27 : decode cX2_readCount 27 = .ok (.ireturn, 1) := by decide +kernel
theorem dX2_readCount_28 : decode cX2_readCount 28 = .ok (.aload_n 0, 1) := by decide +kernel
theorem dX2_readCount_29 : decode cX2_readCount 29 = .ok (.iconst 0, 1) := by decide +kernel
theorem dX2_readCount_30 : decode cX2_readCount 30 = .ok (.bipush 13, 2) := by decide +kernel
theorem dX2_readCount_32 : decode cX2_readCount 32 = .ok (.invokevirtual 96, 3) := by decide +kernel
theorem dX2_readCount_35 : decode cX2_readCount 35 = .ok (.istore 4, 2) := by decide +kernel
theorem dX2_readCount_37 : decode cX2_readCount 37 = .ok (.iload 4, 2) := by decide +kernel
theorem dX2_readCount_39 : decode cX2_readCount 39 = .ok (.iconst (-1), 1) := by decide +kernel
theorem dX2_readCount_40 : decode cX2_readCount 40 = .ok (.if_icmp .ne 5, 3) := by decide +kernel
theorem dX2_readCount_43 : decode cX2_readCount 43 = .ok (.iconst 0, 1) := by decide +kernel
theorem dX2_readCount_44 : decode cX2_readCount 44 = .ok (.ireturn, 1) := by decide +kernel
theorem dX2_readCount_45 : decode cX2_readCount 45 = .ok (.aload_n 1, 1) := by decide +kernel
theorem dX2_readCount_46 : decode cX2_readCount 46 = .ok (.iload_n 2, 1) := by decide +kernel
theorem dX2_readCount_47 : decode cX2_readCount 47 = .ok (.iload_n 3, 1) := by decide +kernel
theorem dX2_readCount_48 : decode cX2_readCount 48 = .ok (.iload 4, 2) := by decide +kernel
theorem dX2_readCount_50 : decode cX2_readCount 50 = .ok (.invokevirtual 103, 3) := by decide +kernel
theorem dX2_readCount_53 : decode cX2_readCount 53 = .ok (.pop, 1) := by decide +kernel
theorem dX2_readCount_54 : decode cX2_readCount 54 = .ok (.iconst 1, 1) := by decide +kernel
theorem dX2_readCount_55 : decode cX2_readCount 55 = .ok (.ireturn, 1) := by decide +kernel
theorem dX2_readWish_0 : decode cX2_readWish 0 = .ok (.aload_n 0, 1) := by decide +kernel
theorem dX2_readWish_1 : decode cX2_readWish 1 = .ok (.iconst 0, 1) := by decide +kernel
theorem dX2_readWish_2 : decode cX2_readWish 2 = .ok (.aload_n 1, 1) := by decide +kernel
theorem dX2_readWish_3 : decode cX2_readWish 3 = .ok (.getfield 59, 3) := by decide +kernel
theorem dX2_readWish_6 : decode cX2_readWish 6 = .ok (.iconst 1, 1) := by decide +kernel
theorem dX2_readWish_7 : decode cX2_readWish 7 = .ok (.isub, 1) := by decide +kernel
theorem dX2_readWish_8 : decode cX2_readWish 8 = .ok (.invokevirtual 96, 3) := by decide +kernel
theorem dX2_readWish_11 : decode cX2_readWish 11 = .ok (.istore_n 3, 1) := by decide +kernel
theorem dX2_readWish_12 : decode cX2_readWish 12 = .ok (.iload_n 3, 1) := by decide +kernel
theorem dX2_readWish_13 : decode cX2_readWish 13 = .ok (.iconst (-1), 1) := by decide +kernel
theorem dX2_readWish_14 : decode cX2_readWish 14 = .ok (.if_icmp .ne 5, 3) := by decide +kernel
theorem dX2_readWish_17 : decode cX2_readWish 17 = .ok (.iconst 0, 1) := by decide +kernel
theorem dX2_readWish_18 : decode cX2_readWish 18 = .ok (.ireturn, 1) := by decide +kernel
theorem dX2_readWish_19 : decode cX2_readWish 19 = .ok (.aload_n 0, 1) := by decide +kernel
theorem dX2_readWish_20 : decode cX2_readWish 20 = .ok (.iconst 0, 1) := by decide +kernel
theorem dX2_readWish_21 : decode cX2_readWish 21 = .ok (.aload_n 1, 1) := by decide +kernel
theorem dX2_readWish_22 : decode cX2_readWish 22 = .ok (.getfield 59, 3) := by decide +kernel
theorem dX2_readWish_25 : decode cX2_readWish 25 = .ok (.iconst 1, 1) := by decide +kernel
theorem dX2_readWish_26 : decode cX2_readWish 26 = .ok (.isub, 1) := by decide +kernel
theorem dX2_readWish_27 : decode cX2_readWish 27 = .ok (.invokevirtual 96, 3) := by decide +kernel
theorem dX2_readWish_30 : decode cX2_readWish 30 = .ok (.istore 4, 2) := by decide +kernel
theorem dX2_readWish_32 : decode cX2_readWish 32 = .ok (.iload 4, 2) := by decide +kernel
theorem dX2_readWish_34 : decode cX2_readWish 34 = .ok (.iconst (-1), 1) := by decide +kernel
theorem dX2_readWish_35 : decode cX2_readWish 35 = .ok (.if_icmp .eq 9, 3) := by decide +kernel
theorem dX2_readWish_38 : decode cX2_readWish 38 = .ok (.iload 4, 2) := by decide +kernel
theorem dX2_readWish_40 : decode cX2_readWish 40 = .ok (.iload_n 3, 1) := by decide +kernel
theorem dX2_readWish_41 : decode cX2_readWish 41 = .ok (.if_icmp .ne 5, 3) := by decide +kernel
theorem dX2_readWish_44 : decode cX2_readWish 44 = .ok (.iconst 0, 1) := by decide +kernel
theorem dX2_readWish_45 : decode cX2_readWish 45 = .ok (.ireturn, 1) := by decide +kernel
theorem dX2_readWish_46 : decode cX2_readWish 46 = .ok (.aload_n 0, 1) := by decide +kernel
theorem dX2_readWish_47 : decode cX2_readWish 47 = .ok (.iconst 1, 1) := by decide +kernel
theorem dX2_readWish_48 : decode cX2_readWish 48 = .ok (.bipush 99, 2) := by decide +kernel
theorem dX2_readWish_50 : decode cX2_readWish 50 = .ok (.invokevirtual 96, 3) := by decide +kernel
theorem dX2_readWish_53 : decode cX2_readWish 53 = .ok (.istore 5, 2) := by decide +kernel
theorem dX2_readWish_55 : decode cX2_readWish 55 = .ok (.iload 5, 2) := by decide +kernel
theorem dX2_readWish_57 : decode cX2_readWish 57 = .ok (.iconst (-1), 1) := by decide +kernel
theorem dX2_readWish_58 : decode cX2_readWish 58 = .ok (.if_icmp .ne 5, 3) := by decide +kernel
theorem dX2_readWish_61 : decode cX2_readWish 61 = .ok (.iconst 0, 1) := by decide +kernel
theorem dX2_readWish_62 : decode cX2_readWish 62 = .ok (.ireturn, 1) := by decide +kernel
theorem dX2_readWish_63 : decode cX2_readWish 63 = .ok (.aload_n 1, 1) := by decide +kernel
theorem dX2_readWish_64 : decode cX2_readWish 64 = .ok (.iload_n 3, 1) := by decide +kernel
theorem dX2_readWish_65 : decode cX2_readWish 65 = .ok (.iload 4, 2) := by decide +kernel
theorem dX2_readWish_67 : decode cX2_readWish 67 = .ok (.iload_n 2, 1) := by decide +kernel
theorem dX2_readWish_68 : decode cX2_readWish 68 = .ok (.iload 5, 2) := by decide +kernel
theorem dX2_readWish_70 : decode cX2_readWish 70 = .ok (.invokevirtual 107, 3) := by decide +kernel
theorem dX2_readWish_73 : decode cX2_readWish 73 = .ok (.pop, 1) := by decide +kernel
theorem dX2_readWish_74 : decode cX2_readWish 74 = .ok (.iconst 1, 1) := by decide +kernel
theorem dX2_readWish_75 : decode cX2_readWish 75 = .ok (.ireturn, 1) := by decide +kernel
theorem dX2_readSwap_0 : decode cX2_readSwap 0 = .ok (.aload_n 0, 1) := by decide +kernel
theorem dX2_readSwap_1 : decode cX2_readSwap 1 = .ok (.iconst 0, 1) := by decide +kernel
theorem dX2_readSwap_2 : decode cX2_readSwap 2 = .ok (.aload_n 1, 1) := by decide +kernel
theorem dX2_readSwap_3 : decode cX2_readSwap 3 = .ok (.getfield 59, 3) := by decide +kernel
theorem dX2_readSwap_6 : decode cX2_readSwap 6 = .ok (.iconst 1, 1) := by decide +kernel
theorem dX2_readSwap_7 : decode cX2_readSwap 7 = .ok (.isub, 1) := by decide +kernel
theorem dX2_readSwap_8 : decode cX2_readSwap 8 = .ok (.invokevirtual 96, 3) := by decide +kernel
theorem dX2_readSwap_11 : decode cX2_readSwap 11 = .ok (.istore_n 2, 1) := by decide +kernel
theorem dX2_readSwap_12 : decode cX2_readSwap 12 = .ok (.iload_n 2, 1) := by decide +kernel
theorem dX2_readSwap_13 : decode cX2_readSwap 13 = .ok (.iconst (-1), 1) := by decide +kernel
theorem dX2_readSwap_14 : decode cX2_readSwap 14 = .ok (.if_icmp .ne 5, 3) := by decide +kernel
theorem dX2_readSwap_17 : decode cX2_readSwap 17 = .ok (.iconst 0, 1) := by decide +kernel
theorem dX2_readSwap_18 : decode cX2_readSwap 18 = .ok (.ireturn, 1) := by decide +kernel
theorem dX2_readSwap_19 : decode cX2_readSwap 19 = .ok (.aload_n 0, 1) := by decide +kernel
theorem dX2_readSwap_20 : decode cX2_readSwap 20 = .ok (.iconst 0, 1) := by decide +kernel
theorem dX2_readSwap_21 : decode cX2_readSwap 21 = .ok (.aload_n 1, 1) := by decide +kernel
theorem dX2_readSwap_22 : decode cX2_readSwap 22 = .ok (.getfield 59, 3) := by decide +kernel
theorem dX2_readSwap_25 : decode cX2_readSwap 25 = .ok (.iconst 1, 1) := by decide +kernel
theorem dX2_readSwap_26 : decode cX2_readSwap 26 = .ok (.isub, 1) := by decide +kernel
theorem dX2_readSwap_27 : decode cX2_readSwap 27 = .ok (.invokevirtual 96, 3) := by decide +kernel
theorem dX2_readSwap_30 : decode cX2_readSwap 30 = .ok (.istore_n 3, 1) := by decide +kernel
theorem dX2_readSwap_31 : decode cX2_readSwap 31 = .ok (.iload_n 3, 1) := by decide +kernel
theorem dX2_readSwap_32 : decode cX2_readSwap 32 = .ok (.iconst (-1), 1) := by decide +kernel
theorem dX2_readSwap_33 : decode cX2_readSwap 33 = .ok (.if_icmp .eq 8, 3) := by decide +kernel
theorem dX2_readSwap_36 : decode cX2_readSwap 36 = .ok (.iload_n 3, 1) := by decide +kernel
theorem dX2_readSwap_37 : decode cX2_readSwap 37 = .ok (.iload_n 2, 1) := by decide +kernel
theorem dX2_readSwap_38 : decode cX2_readSwap 38 = .ok (.if_icmp .ne 5, 3) := by decide +kernel
theorem dX2_readSwap_41 : decode cX2_readSwap 41 = .ok (.iconst 0, 1) := by decide +kernel
theorem dX2_readSwap_42 : decode cX2_readSwap 42 = .ok (.ireturn, 1) := by decide +kernel
theorem dX2_readSwap_43 : decode cX2_readSwap 43 = .ok (.aload_n 1, 1) := by decide +kernel
theorem dX2_readSwap_44 : decode cX2_readSwap 44 = .ok (.iload_n 2, 1) := by decide +kernel
theorem dX2_readSwap_45 : decode cX2_readSwap 45 = .ok (.iload_n 3, 1) := by decide +kernel
theorem dX2_readSwap_46 : decode cX2_readSwap 46 = .ok (.invokevirtual 111, 3) := by decide +kernel
theorem dX2_readSwap_49 : decode cX2_readSwap 49 = .ok (.iconst 1, 1) := by decide +kernel
theorem dX2_readSwap_50 : decode cX2_readSwap 50 = .ok (.ireturn, 1) := by decide +kernel
theorem dX2_readMove_0 : decode cX2_readMove 0 = .ok (.aload_n 0, 1) := by decide +kernel
theorem dX2_readMove_1 : decode cX2_readMove 1 = .ok (.iconst 0, 1) := by decide +kernel
theorem dX2_readMove_2 : decode cX2_readMove 2 = .ok (.aload_n 1, 1) := by decide +kernel
theorem dX2_readMove_3 : decode cX2_readMove 3 = .ok (.getfield 59, 3) := by decide +kernel
theorem dX2_readMove_6 : decode cX2_readMove 6 = .ok (.iconst 1, 1) := by decide +kernel
theorem dX2_readMove_7 : decode cX2_readMove 7 = .ok (.isub, 1) := by decide +kernel
theorem dX2_readMove_8 : decode cX2_readMove 8 = .ok (.invokevirtual 96, 3) := by decide +kernel
theorem dX2_readMove_11 : decode cX2_readMove 11 = .ok (.istore_n 2, 1) := by decide +kernel
theorem dX2_readMove_12 : decode cX2_readMove 12 = .ok (.iload_n 2, 1) := by decide +kernel
theorem dX2_readMove_13 : decode cX2_readMove 13 = .ok (.iconst (-1), 1) := by decide +kernel
theorem dX2_readMove_14 : decode cX2_readMove 14 = .ok (.if_icmp .ne 5, 3) := by decide +kernel
theorem dX2_readMove_17 : decode cX2_readMove 17 = .ok (.iconst 0, 1) := by decide +kernel
theorem dX2_readMove_18 : decode cX2_readMove 18 = .ok (.ireturn, 1) := by decide +kernel
theorem dX2_readMove_19 : decode cX2_readMove 19 = .ok (.aload_n 0, 1) := by decide +kernel
theorem dX2_readMove_20 : decode cX2_readMove 20 = .ok (.iconst 0, 1) := by decide +kernel
theorem dX2_readMove_21 : decode cX2_readMove 21 = .ok (.aload_n 1, 1) := by decide +kernel
theorem dX2_readMove_22 : decode cX2_readMove 22 = .ok (.getfield 59, 3) := by decide +kernel
theorem dX2_readMove_25 : decode cX2_readMove 25 = .ok (.iconst 1, 1) := by decide +kernel
theorem dX2_readMove_26 : decode cX2_readMove 26 = .ok (.isub, 1) := by decide +kernel
theorem dX2_readMove_27 : decode cX2_readMove 27 = .ok (.invokevirtual 96, 3) := by decide +kernel
theorem dX2_readMove_30 : decode cX2_readMove 30 = .ok (.istore_n 3, 1) := by decide +kernel
theorem dX2_readMove_31 : decode cX2_readMove 31 = .ok (.iload_n 3, 1) := by decide +kernel
theorem dX2_readMove_32 : decode cX2_readMove 32 = .ok (.iconst (-1), 1) := by decide +kernel
theorem dX2_readMove_33 : decode cX2_readMove 33 = .ok (.if_icmp .ne 5, 3) := by decide +kernel
theorem dX2_readMove_36 : decode cX2_readMove 36 = .ok (.iconst 0, 1) := by decide +kernel
theorem dX2_readMove_37 : decode cX2_readMove 37 = .ok (.ireturn, 1) := by decide +kernel
theorem dX2_readMove_38 : decode cX2_readMove 38 = .ok (.aload_n 1, 1) := by decide +kernel
theorem dX2_readMove_39 : decode cX2_readMove 39 = .ok (.iload_n 2, 1) := by decide +kernel
theorem dX2_readMove_40 : decode cX2_readMove 40 = .ok (.iload_n 3, 1) := by decide +kernel
theorem dX2_readMove_41 : decode cX2_readMove 41 = .ok (.invokevirtual 115, 3) := by decide +kernel
theorem dX2_readMove_44 : decode cX2_readMove 44 = .ok (.iconst 1, 1) := by decide +kernel
theorem dX2_readMove_45 : decode cX2_readMove 45 = .ok (.ireturn, 1) := by decide +kernel
