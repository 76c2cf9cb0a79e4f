theorem dX10_compared_0 : decode cX10_compared 0 = .ok (.aload_n 0, 1) := by decide +kernel
theorem dX10_compared_1 : decode cX10_compared 1 = .ok (.invokevirtual 331, 3) := by decide +kernel
theorem dX10_compared_4 : decode cX10_compared 4 = .ok (.aload_n 0, 1) := by decide +kernel
theorem dX10_compared_5 : decode cX10_compared 5 = .ok (.invokevirtual 270, 3) := by decide +kernel
theorem dX10_compared_8 : decode cX10_compared 8 = .ok (.istore_n 1, 1) := by decide +kernel
theorem dX10_compared_9 : decode cX10_compared 9 = .ok (.iload_n 1, 1) := by decide +kernel
theorem dX10_compared_10 : decode cX10_compared 10 = .ok (.bipush 60, 2) := by decide +kernel
theorem dX10_compared_12 : decode cX10_compared 12 = .ok (.if_icmp .eq 25, 3) := by decide +kernel
theorem dX10_compared_15 : decode cX10_compared 15 = .ok (.iload_n 1, 1) := by decide +kernel
theorem dX10_compared_16 : decode cX10_compared 16 = .ok (.bipush 61, 2) := by decide +kernel
theorem dX10_compared_18 : decode cX10_compared 18 = .ok (.if_icmp .eq 19, 3) := by decide +kernel
theorem dX10_compared_21 : decode cX10_compared 21 = .ok (.iload_n 1, 1) := by decide +kernel
theorem dX10_compared_22 : decode cX10_compared 22 = .ok (.bipush 62, 2) := by decide +kernel
theorem dX10_compared_24 : decode cX10_compared 24 = .ok (.if_icmp .eq 13, 3) := by decide +kernel
theorem dX10_compared_27 : decode cX10_compared 27 = .ok (.aload_n 0, 1) := by decide +kernel
theorem dX10_compared_28 : decode cX10_compared 28 = .ok (.iconst 0, 1) := by decide +kernel
theorem dX10_compared_29 : decode cX10_compared 29 = .ok (.aload_n 0, 1) := by decide +kernel
theorem dX10_compared_30 : decode cX10_compared 30 = .ok (.getfield 267, 3) := by decide +kernel
theorem dX10_compared_33 : decode cX10_compared 33 = .ok (.invokevirtual 303, 3) := by decide +kernel
theorem dX10_compared_36 : decode cX10_compared 36 = .ok (.return_, 1) := by decide +kernel
theorem dX10_compared_37 : decode cX10_compared 37 = .ok (.aload_n 0, 1) := by decide +kernel
theorem dX10_compared_38 : decode cX10_compared 38 = .ok (.aload_n 0, 1) := by decide +kernel
theorem dX10_compared_39 : decode cX10_compared 39 = .ok (.getfield 267, 3) := by decide +kernel
theorem dX10_compared_42 : decode cX10_compared 42 = .ok (.invokevirtual 315, 3) := by decide +kernel
theorem dX10_compared_45 : decode cX10_compared 45 = .ok (.aload_n 0, 1) := by decide +kernel
theorem dX10_compared_46 : decode cX10_compared 46 = .ok (.dup, 1) := by decide +kernel
theorem dX10_compared_47 : decode cX10_compared 47 = .ok (.getfield 267, 3) := by decide +kernel
theorem dX10_compared_50 : decode cX10_compared 50 = .ok (.iconst 1, 1) := by decide +kernel
theorem dX10_compared_51 : decode cX10_compared 51 = .ok (.iadd, 1) := by decide +kernel
theorem dX10_compared_52 : decode cX10_compared 52 = .ok (.putfield 267, 3) := by decide +kernel
theorem dX10_compared_55 : decode cX10_compared 55 = .ok (.iload_n 1, 1) := by decide +kernel
theorem dX10_compared_56 : decode cX10_compared 56 = .ok (.bipush 61, 2) := by decide +kernel
theorem dX10_compared_58 : decode cX10_compared 58 = .ok (.if_icmp .eq 16, 3) := by decide +kernel
theorem dX10_compared_61 : decode cX10_compared 61 = .ok (.aload_n 0, 1) := by decide +kernel
theorem dX10_compared_62 : decode cX10_compared 62 = .ok (.invokevirtual 270, 3) := by decide +kernel
theorem dX10_compared_65 : decode cX10_compared 65 = .ok (.bipush 61, 2) := by decide +kernel
theorem dX10_compared_67 : decode cX10_compared 67 = .ok (.if_icmp .ne 7, 3) := by decide +kernel
theorem dX10_compared_70 : decode cX10_compared 70 = .ok (.iconst 1, 1) := by decide +kernel
theorem dX10_compared_71 : decode cX10_compared 71 = .ok (.goto 4, 3) := by decide +kernel
theorem dX10_compared_74 : decode cX10_compared 74 = .ok (.iconst 0, 1) := by decide +kernel
theorem dX10_compared_75 : decode cX10_compared 75 = .ok (.istore_n 2, 1) := by decide +kernel
theorem dX10_compared_76 : decode cX10_compared 76 = .ok (.aload_n 0, 1) := by decide +kernel
theorem dX10_compared_77 : decode cX10_compared 77 = .ok (.dup, 1) := by decide +kernel
theorem dX10_compared_78 : decode cX10_compared 78 = .ok (.getfield 267, 3) := by decide +kernel
theorem dX10_compared_81 : decode cX10_compared 81 = .ok (.iload_n 2, 1) := by decide +kernel
theorem dX10_compared_82 : decode cX10_compared 82 = .ok (.ifCond .eq 7, 3) := by decide +kernel
theorem dX10_compared_85 : decode cX10_compared 85 = .ok (.iconst 1, 1) := by decide +kernel
theorem dX10_compared_86 : decode cX10_compared 86 = .ok (.goto 4, 3) := by decide +kernel
theorem dX10_compared_89 : decode cX10_compared 89 = .ok (.iconst 0, 1) := by decide +kernel
theorem dX10_compared_90 : decode cX10_compared 90 = .ok (.iadd, 1) := by decide +kernel
theorem dX10_compared_91 : decode cX10_compared 91 = .ok (.putfield 267, 3) := by decide +kernel
theorem dX10_compared_94 : decode cX10_compared 94 = .ok (.aload_n 0, 1) := by decide +kernel
theorem dX10_compared_95 : decode cX10_compared 95 = .ok (.invokevirtual 331, 3) := by decide +kernel
theorem dX10_compared_98 : decode cX10_compared 98 = .ok (.aload_n 0, 1) := by decide +kernel
theorem dX10_compared_99 : decode cX10_compared 99 = .ok (.iload_n 1, 1) := by decide +kernel
theorem dX10_compared_100 : decode cX10_compared 100 = .ok (.bipush 61, 2) := by decide +kernel
theorem dX10_compared_102 : decode cX10_compared 102 = .ok (.if_icmp .ne 8, 3) := by decide +kernel
theorem dX10_compared_105 : decode cX10_compared 105 = .ok (.bipush 6, 2) := by decide +kernel
theorem dX10_compared_107 : decode cX10_compared 107 = .ok (.goto 32, 3) := by decide +kernel
theorem dX10_compared_110 : decode cX10_compared 110 = .ok (.iload_n 1, 1) := by decide +kernel
theorem dX10_compared_111 : decode cX10_compared 111 = .ok (.bipush 60, 2) := by decide +kernel
theorem dX10_compared_113 : decode cX10_compared 113 = .ok (.if_icmp .ne 15, 3) := by decide +kernel
theorem dX10_compared_116 : decode cX10_compared 116 = .ok (.iload_n 2, 1) := by decide +kernel
theorem dX10_compared_117 : decode cX10_compared 117 = .ok (.ifCond .eq 7, 3) := by decide +kernel
theorem dX10_compared_120 : decode cX10_compared 120 = .ok (.iconst 5, 1) := by decide +kernel
theorem dX10_compared_121 : decode cX10_compared 121 = .ok (.goto 18, 3) := by decide +kernel
theorem dX10_compared_124 : decode cX10_compared 124 = .ok (.iconst 4, 1) := by decide +kernel
theorem dX10_compared_125 : decode cX10_compared 125 = .ok (.goto 14, 3) := by decide +kernel
theorem dX10_compared_128 : decode cX10_compared 128 = .ok (.iload_n 2, 1) := by decide +kernel
theorem dX10_compared_129 : decode cX10_compared 129 = .ok (.ifCond .eq 8, 3) := by decide +kernel
theorem dX10_compared_132 : decode cX10_compared 132 = .ok (.bipush 7, 2) := by decide +kernel
theorem dX10_compared_134 : decode cX10_compared 134 = .ok (.goto 5, 3) := by decide +kernel
theorem dX10_compared_137 : decode cX10_compared 137 = .ok (.bipush 8, 2) := by decide +kernel
theorem dX10_compared_139 : decode cX10_compared 139 = .ok (.iconst 0, 1) := by decide +kernel
theorem dX10_compared_140 : decode cX10_compared 140 = .ok (.invokevirtual 318, 3) := by decide +kernel
theorem dX10_compared_143 : decode cX10_compared 143 = .ok (.return_, 1) := by decide +kernel
theorem ce_X10_compared : CeV RX10 yX10_compared cX10_compared 3 none 0 := ⟨tb_1592, tp_77, tb_11, tb_1593, rfl, by decide, by decide, by decide +kernel⟩
