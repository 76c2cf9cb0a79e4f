theorem dX10_fact_0 : decode cX10_fact 0 = .ok (.aload_n 0, 1) := by decide +kernel
theorem dX10_fact_1 : decode cX10_fact 1 = .ok (.invokevirtual 287, 3) := by decide +kernel
theorem dX10_fact_4 : decode cX10_fact 4 = .ok (.aload_n 0, 1) := by decide +kernel
theorem dX10_fact_5 : decode cX10_fact 5 = .ok (.ldc_w 343, 3) := by decide +kernel
theorem dX10_fact_8 : decode cX10_fact 8 = .ok (.invokevirtual 290, 3) := by decide +kernel
theorem dX10_fact_11 : decode cX10_fact 11 = .ok (.ifCond .eq 21, 3) := by decide +kernel
theorem dX10_fact_14 : decode cX10_fact 14 = .ok (.aload_n 0, 1) := by decide +kernel
theorem dX10_fact_15 : decode cX10_fact 15 = .ok (.bipush 9, 2) := by decide +kernel
theorem dX10_fact_17 : decode cX10_fact 17 = .ok (.invokevirtual 345, 3) := by decide +kernel
theorem dX10_fact_20 : decode cX10_fact 20 = .ok (.aload_n 0, 1) := by decide +kernel
theorem dX10_fact_21 : decode cX10_fact 21 = .ok (.dup, 1) := by decide +kernel
theorem dX10_fact_22 : decode cX10_fact 22 = .ok (.getfield 267, 3) := by decide +kernel
theorem dX10_fact_25 : decode cX10_fact 25 = .ok (.iconst 3, 1) := by decide +kernel
theorem dX10_fact_26 : decode cX10_fact 26 = .ok (.iadd, 1) := by decide +kernel
theorem dX10_fact_27 : decode cX10_fact 27 = .ok (.putfield 267, 3) := by decide +kernel
theorem dX10_fact_30 : decode cX10_fact 30 = .ok (.iconst 0, 1) := by decide +kernel
theorem dX10_fact_31 : decode cX10_fact 31 = .ok (.ireturn, 1) := by decide +kernel
theorem dX10_fact_32 : decode cX10_fact 32 = .ok (.aload_n 0, 1) := by decide +kernel
theorem dX10_fact_33 : decode cX10_fact 33 = .ok (.invokevirtual 270, 3) := by decide +kernel
theorem dX10_fact_36 : decode cX10_fact 36 = .ok (.bipush 91, 2) := by decide +kernel
theorem dX10_fact_38 : decode cX10_fact 38 = .ok (.if_icmp .ne 21, 3) := by decide +kernel
theorem dX10_fact_41 : decode cX10_fact 41 = .ok (.aload_n 0, 1) := by decide +kernel
theorem dX10_fact_42 : decode cX10_fact 42 = .ok (.bipush 12, 2) := by decide +kernel
theorem dX10_fact_44 : decode cX10_fact 44 = .ok (.invokevirtual 345, 3) := by decide +kernel
theorem dX10_fact_47 : decode cX10_fact 47 = .ok (.aload_n 0, 1) := by decide +kernel
theorem dX10_fact_48 : decode cX10_fact 48 = .ok (.dup, 1) := by decide +kernel
theorem dX10_fact_49 : decode cX10_fact 49 = .ok (.getfield 267, 3) := by decide +kernel
theorem dX10_fact_52 : decode cX10_fact 52 = .ok (.iconst 1, 1) := by decide +kernel
theorem dX10_fact_53 : decode cX10_fact 53 = .ok (.iadd, 1) := by decide +kernel
theorem dX10_fact_54 : decode cX10_fact 54 = .ok (.putfield 267, 3) := by decide +kernel
theorem dX10_fact_57 : decode cX10_fact 57 = .ok (.iconst 0, 1) := by decide +kernel
theorem dX10_fact_58 : decode cX10_fact 58 = .ok (.ireturn, 1) := by decide +kernel
theorem dX10_fact_59 : decode cX10_fact 59 = .ok (.aload_n 0, 1) := by decide +kernel
theorem dX10_fact_60 : decode cX10_fact 60 = .ok (.invokevirtual 348, 3) := by decide +kernel
theorem dX10_fact_63 : decode cX10_fact 63 = .ok (.iconst 1, 1) := by decide +kernel
theorem dX10_fact_64 : decode cX10_fact 64 = .ok (.ireturn, 1) := by decide +kernel
theorem ce_X10_fact : CeV RX10 yX10_fact cX10_fact 1 (some .boolean) 0 := ⟨tb_1583, tp_75, tb_11, tb_1584, rfl, by decide, by decide, by decide +kernel⟩
theorem dX10_test_0 : decode cX10_test 0 = .ok (.aload_n 0, 1) := by decide +kernel
theorem dX10_test_1 : decode cX10_test 1 = .ok (.iconst 0, 1) := by decide +kernel
theorem dX10_test_2 : decode cX10_test 2 = .ok (.putfield 334, 3) := by decide +kernel
theorem dX10_test_5 : decode cX10_test 5 = .ok (.iconst 1, 1) := by decide +kernel
theorem dX10_test_6 : decode cX10_test 6 = .ok (.istore_n 1, 1) := by decide +kernel
theorem dX10_test_7 : decode cX10_test 7 = .ok (.iconst 1, 1) := by decide +kernel
theorem dX10_test_8 : decode cX10_test 8 = .ok (.istore_n 2, 1) := by decide +kernel
theorem dX10_test_9 : decode cX10_test 9 = .ok (.iload_n 2, 1) := by decide +kernel
theorem dX10_test_10 : decode cX10_test 10 = .ok (.ifCond .eq 192, 3) := by decide +kernel
theorem dX10_test_13 : decode cX10_test 13 = .ok (.aload_n 0, 1) := by decide +kernel
theorem dX10_test_14 : decode cX10_test 14 = .ok (.getfield 264, 3) := by decide +kernel
theorem dX10_test_17 : decode cX10_test 17 = .ok (.ifCond .ne 185, 3) := by decide +kernel
theorem dX10_test_20 : decode cX10_test 20 = .ok (.iload_n 1, 1) := by decide +kernel
theorem dX10_test_21 : decode cX10_test 21 = .ok (.ifCond .eq 19, 3) := by decide +kernel
theorem dX10_test_24 : decode cX10_test 24 = .ok (.aload_n 0, 1) := by decide +kernel
theorem dX10_test_25 : decode cX10_test 25 = .ok (.invokevirtual 351, 3) := by decide +kernel
theorem dX10_test_28 : decode cX10_test 28 = .ok (.ifCond .ne 7, 3) := by decide +kernel
theorem dX10_test_31 : decode cX10_test 31 = .ok (.iconst 1, 1) := by decide +kernel
theorem dX10_test_32 : decode cX10_test 32 = .ok (.goto 4, 3) := by decide +kernel
theorem dX10_test_35 : decode cX10_test 35 = .ok (.iconst 0, 1) := by decide +kernel
theorem dX10_test_36 : decode cX10_test 36 = .ok (.istore_n 1, 1) := by decide +kernel
theorem dX10_test_37 : decode cX10_test 37 = .ok (.goto (-28), 3) := by decide +kernel
theorem dX10_test_40 : decode cX10_test 40 = .ok (.aload_n 0, 1) := by decide +kernel
theorem dX10_test_41 : decode cX10_test 41 = .ok (.bipush 9, 2) := by decide +kernel
theorem dX10_test_43 : decode cX10_test 43 = .ok (.invokevirtual 354, 3) := by decide +kernel
theorem dX10_test_46 : decode cX10_test 46 = .ok (.aload_n 0, 1) := by decide +kernel
theorem dX10_test_47 : decode cX10_test 47 = .ok (.invokevirtual 287, 3) := by decide +kernel
theorem dX10_test_50 : decode cX10_test 50 = .ok (.aload_n 0, 1) := by decide +kernel
theorem dX10_test_51 : decode cX10_test 51 = .ok (.ldc_w 357, 3) := by decide +kernel
theorem dX10_test_54 : decode cX10_test 54 = .ok (.invokevirtual 290, 3) := by decide +kernel
theorem dX10_test_57 : decode cX10_test 57 = .ok (.istore_n 3, 1) := by decide +kernel
theorem dX10_test_58 : decode cX10_test 58 = .ok (.aload_n 0, 1) := by decide +kernel
theorem dX10_test_59 : decode cX10_test 59 = .ok (.ldc_w 359, 3) := by decide +kernel
theorem dX10_test_62 : decode cX10_test 62 = .ok (.invokevirtual 290, 3) := by decide +kernel
theorem dX10_test_65 : decode cX10_test 65 = .ok (.istore 4, 2) := by decide +kernel
theorem dX10_test_67 : decode cX10_test 67 = .ok (.aload_n 0, 1) := by decide +kernel
theorem dX10_test_68 : decode cX10_test 68 = .ok (.bipush 10, 2) := by decide +kernel
theorem dX10_test_70 : decode cX10_test 70 = .ok (.invokevirtual 354, 3) := by decide +kernel
theorem dX10_test_73 : decode cX10_test 73 = .ok (.iload_n 3, 1) := by decide +kernel
theorem dX10_test_74 : decode cX10_test 74 = .ok (.ifCond .ne 8, 3) := by decide +kernel
theorem dX10_test_77 : decode cX10_test 77 = .ok (.iload 4, 2) := by decide +kernel
theorem dX10_test_79 : decode cX10_test 79 = .ok (.ifCond .eq 52, 3) := by decide +kernel
theorem dX10_test_82 : decode cX10_test 82 = .ok (.iload 4, 2) := by decide +kernel
theorem dX10_test_84 : decode cX10_test 84 = .ok (.ifCond .eq 9, 3) := by decide +kernel
theorem dX10_test_87 : decode cX10_test 87 = .ok (.aload_n 0, 1) := by decide +kernel
theorem dX10_test_88 : decode cX10_test 88 = .ok (.bipush 11, 2) := by decide +kernel
theorem dX10_test_90 : decode cX10_test 90 = .ok (.invokevirtual 354, 3) := by decide +kernel
theorem dX10_test_93 : decode cX10_test 93 = .ok (.aload_n 0, 1) := by decide +kernel
theorem dX10_test_94 : decode cX10_test 94 = .ok (.iload_n 3, 1) := by decide +kernel
theorem dX10_test_95 : decode cX10_test 95 = .ok (.ifCond .eq 8, 3) := by decide +kernel
theorem dX10_test_98 : decode cX10_test 98 = .ok (.bipush 10, 2) := by decide +kernel
theorem dX10_test_100 : decode cX10_test 100 = .ok (.goto 5, 3) := by decide +kernel
theorem dX10_test_103 : decode cX10_test 103 = .ok (.bipush 11, 2) := by decide +kernel
theorem dX10_test_105 : decode cX10_test 105 = .ok (.invokevirtual 345, 3) := by decide +kernel
theorem dX10_test_108 : decode cX10_test 108 = .ok (.aload_n 0, 1) := by decide +kernel
theorem dX10_test_109 : decode cX10_test 109 = .ok (.dup, 1) := by decide +kernel
theorem dX10_test_110 : decode cX10_test 110 = .ok (.getfield 267, 3) := by decide +kernel
theorem dX10_test_113 : decode cX10_test 113 = .ok (.iload_n 3, 1) := by decide +kernel
theorem dX10_test_114 : decode cX10_test 114 = .ok (.ifCond .eq 7, 3) := by decide +kernel
theorem dX10_test_117 : decode cX10_test 117 = .ok (.iconst 3, 1) := by decide +kernel
theorem dX10_test_118 : decode cX10_test 118 = .ok (.goto 4, 3) := by decide +kernel
theorem dX10_test_121 : decode cX10_test 121 = .ok (.iconst 2, 1) := by decide +kernel
theorem dX10_test_122 : decode cX10_test 122 = .ok (.iadd, 1) := by decide +kernel
theorem dX10_test_123 : decode cX10_test 123 = .ok (.putfield 267, 3) := by decide +kernel
theorem dX10_test_126 : decode cX10_test 126 = .ok (.iconst 1, 1) := by decide +kernel
theorem dX10_test_127 : decode cX10_test 127 = .ok (.istore_n 1, 1) := by decide +kernel
theorem dX10_test_128 : decode cX10_test 128 = .ok (.goto 71, 3) := by decide +kernel
theorem dX10_test_131 : decode cX10_test 131 = .ok (.aload_n 0, 1) := by decide +kernel
theorem dX10_test_132 : decode cX10_test 132 = .ok (.bipush 11, 2) := by decide +kernel
theorem dX10_test_134 : decode cX10_test 134 = .ok (.invokevirtual 354, 3) := by decide +kernel
theorem dX10_test_137 : decode cX10_test 137 = .ok (.aload_n 0, 1) := by decide +kernel
theorem dX10_test_138 : decode cX10_test 138 = .ok (.invokevirtual 340, 3) := by decide +kernel
theorem dX10_test_141 : decode cX10_test 141 = .ok (.bipush 12, 2) := by decide +kernel
theorem dX10_test_143 : decode cX10_test 143 = .ok (.if_icmp .ne 54, 3) := by decide +kernel
theorem dX10_test_146 : decode cX10_test 146 = .ok (.aload_n 0, 1) := by decide +kernel
theorem dX10_test_147 : decode cX10_test 147 = .ok (.invokevirtual 270, 3) := by decide +kernel
theorem dX10_test_150 : decode cX10_test 150 = .ok (.bipush 93, 2) := by decide +kernel
theorem dX10_test_152 : decode cX10_test 152 = .ok (.if_icmp .eq 12, 3) := by decide +kernel
theorem dX10_test_155 : decode cX10_test 155 = .ok (.aload_n 0, 1) := by decide +kernel
theorem dX10_test_156 : decode cX10_test 156 = .ok (.iconst 0, 1) := by decide +kernel
theorem dX10_test_157 : decode cX10_test 157 = .ok (.aload_n 0, 1) := by decide +kernel
theorem dX10_test_158 : decode cX10_test 158 = .ok (.getfield 267, 3) := by decide +kernel
theorem dX10_test_161 : decode cX10_test 161 = .ok (.invokevirtual 303, 3) := by decide +kernel
theorem dX10_test_164 : decode cX10_test 164 = .ok (.aload_n 0, 1) := by decide +kernel
theorem dX10_test_165 : decode cX10_test 165 = .ok (.dup, 1) := by decide +kernel
theorem dX10_test_166 : decode cX10_test 166 = .ok (.getfield 267, 3) := by decide +kernel
theorem dX10_test_169 : decode cX10_test 169 = .ok (.iconst 1, 1) := by decide +kernel
theorem dX10_test_170 : decode cX10_test 170 = .ok (.iadd, 1) := by decide +kernel
theorem dX10_test_171 : decode cX10_test 171 = .ok (.putfield 267, 3) := by decide +kernel
theorem dX10_test_174 : decode cX10_test 174 = .ok (.aload_n 0, 1) := by decide +kernel
theorem dX10_test_175 : decode cX10_test 175 = .ok (.dup, 1) := by decide +kernel
theorem dX10_test_176 : decode cX10_test 176 = .ok (.getfield 334, 3) := by decide +kernel
theorem dX10_test_179 : decode cX10_test 179 = .ok (.iconst 1, 1) := by decide +kernel
theorem dX10_test_180 : decode cX10_test 180 = .ok (.isub, 1) := by decide +kernel
theorem dX10_test_181 : decode cX10_test 181 = .ok (.putfield 334, 3) := by decide +kernel
theorem dX10_test_184 : decode cX10_test 184 = .ok (.aload_n 0, 1) := by decide +kernel
theorem dX10_test_185 : decode cX10_test 185 = .ok (.dup, 1) := by decide +kernel
theorem dX10_test_186 : decode cX10_test 186 = .ok (.getfield 337, 3) := by decide +kernel
theorem dX10_test_189 : decode cX10_test 189 = .ok (.iconst 1, 1) := by decide +kernel
theorem dX10_test_190 : decode cX10_test 190 = .ok (.isub, 1) := by decide +kernel
theorem dX10_test_191 : decode cX10_test 191 = .ok (.putfield 337, 3) := by decide +kernel
theorem dX10_test_194 : decode cX10_test 194 = .ok (.goto 5, 3) := by decide +kernel
theorem dX10_test_197 : decode cX10_test 197 = .ok (.iconst 0, 1) := by decide +kernel
theorem dX10_test_198 : decode cX10_test 198 = .ok (.istore_n 2, 1) := by decide +kernel
theorem dX10_test_199 : decode cX10_test 199 = .ok (.goto (-190), 3) := by decide +kernel
theorem dX10_test_202 : decode cX10_test 202 = .ok (.return_, 1) := by decide +kernel
theorem ce_X10_test : CeV RX10 yX10_test cX10_test 5 none 0 := ⟨tb_1579, tp_74, tb_11, tb_1580, rfl, by decide, by decide, by decide +kernel⟩
