theorem dX3_hangingWith_50 : decode cX3_hangingWith 50 = .ok (.aload_n 0, 1) := by decide +kernel
theorem dX3_hangingWith_51 : decode cX3_hangingWith 51 = .ok (.getfield 49, 3) := by decide +kernel
theorem dX3_hangingWith_54 : decode cX3_hangingWith 54 = .ok (.iload 5, 2) := by decide +kernel
theorem dX3_hangingWith_56 : decode cX3_hangingWith 56 = .ok (.iaload, 1) := by decide +kernel
theorem dX3_hangingWith_57 : decode cX3_hangingWith 57 = .ok (.iconst 1, 1) := by decide +kernel
theorem dX3_hangingWith_58 : decode cX3_hangingWith 58 = .ok (.if_icmp .ne 15, 3) := by decide +kernel
theorem dX3_hangingWith_61 : decode cX3_hangingWith 61 = .ok (.iload_n 2, 1) := by decide +kernel
theorem dX3_hangingWith_62 : decode cX3_hangingWith 62 = .ok (.iload 6, 2) := by decide +kernel
theorem dX3_hangingWith_64 : decode cX3_hangingWith 64 = .ok (.iand, 1) := by decide +kernel
theorem dX3_hangingWith_65 : decode cX3_hangingWith 65 = .ok (.ifCond .eq 8, 3) := by decide +kernel
theorem dX3_hangingWith_68 : decode cX3_hangingWith 68 = .ok (.iload_n 2, 1) := by decide +kernel
theorem dX3_hangingWith_69 : decode cX3_hangingWith 69 = .ok (.iload 6, 2) := by decide +kernel
theorem dX3_hangingWith_71 : decode cX3_hangingWith 71 = .ok (.ior, 1) := by decide +kernel
theorem dX3_hangingWith_72 : decode cX3_hangingWith 72 = .ok (.istore_n 2, 1) := by decide +kernel
theorem dX3_hangingWith_73 : decode cX3_hangingWith 73 = .ok (.iinc 5 1, 3) := by decide +kernel
theorem dX3_hangingWith_76 : decode cX3_hangingWith 76 = .ok (.goto (-56), 3) := by decide +kernel
theorem dX3_hangingWith_79 : decode cX3_hangingWith 79 = .ok (.iload_n 2, 1) := by decide +kernel
theorem dX3_hangingWith_80 : decode cX3_hangingWith 80 = .ok (.iload 4, 2) := by decide +kernel
theorem dX3_hangingWith_82 : decode cX3_hangingWith 82 = .ok (.if_icmp .ne 6, 3) := by decide +kernel
theorem dX3_hangingWith_85 : decode cX3_hangingWith 85 = .ok (.goto 9, 3) := by decide +kernel
theorem dX3_hangingWith_88 : decode cX3_hangingWith 88 = .ok (.iinc 3 1, 3) := by decide +kernel
theorem dX3_hangingWith_91 : decode cX3_hangingWith 91 = .ok (.goto (-85), 3) := by decide +kernel
theorem dX3_hangingWith_94 : decode cX3_hangingWith 94 = .ok (.iload_n 2, 1) := by decide +kernel
theorem dX3_hangingWith_95 : decode cX3_hangingWith 95 = .ok (.ireturn, 1) := by decide +kernel
