theorem dX10_law_0 : decode cX10_law 0 = .ok (.aload_n 0, 1) := by decide +kernel
theorem dX10_law_1 : decode cX10_law 1 = .ok (.getfield 371, 3) := by decide +kernel
theorem dX10_law_4 : decode cX10_law 4 = .ok (.bipush 6, 2) := by decide +kernel
theorem dX10_law_6 : decode cX10_law 6 = .ok (.if_icmp .ne 5, 3) := by decide +kernel
theorem dX10_law_9 : decode cX10_law 9 = .ok (.iconst (-1), 1) := by decide +kernel
theorem dX10_law_10 : decode cX10_law 10 = .ok (.ireturn, 1) := by decide +kernel
theorem dX10_law_11 : decode cX10_law 11 = .ok (.aload_n 0, 1) := by decide +kernel
theorem dX10_law_12 : decode cX10_law 12 = .ok (.aload_n 0, 1) := by decide +kernel
theorem dX10_law_13 : decode cX10_law 13 = .ok (.getfield 371, 3) := by decide +kernel
theorem dX10_law_16 : decode cX10_law 16 = .ok (.putfield 294, 3) := by decide +kernel
theorem dX10_law_19 : decode cX10_law 19 = .ok (.aload_n 0, 1) := by decide +kernel
theorem dX10_law_20 : decode cX10_law 20 = .ok (.iconst 0, 1) := by decide +kernel
theorem dX10_law_21 : decode cX10_law 21 = .ok (.putfield 267, 3) := by decide +kernel
theorem dX10_law_24 : decode cX10_law 24 = .ok (.aload_n 0, 1) := by decide +kernel
theorem dX10_law_25 : decode cX10_law 25 = .ok (.iconst 0, 1) := by decide +kernel
theorem dX10_law_26 : decode cX10_law 26 = .ok (.putfield 264, 3) := by decide +kernel
theorem dX10_law_29 : decode cX10_law 29 = .ok (.aload_n 0, 1) := by decide +kernel
theorem dX10_law_30 : decode cX10_law 30 = .ok (.iconst 0, 1) := by decide +kernel
theorem dX10_law_31 : decode cX10_law 31 = .ok (.putfield 297, 3) := by decide +kernel
theorem dX10_law_34 : decode cX10_law 34 = .ok (.aload_n 0, 1) := by decide +kernel
theorem dX10_law_35 : decode cX10_law 35 = .ok (.iconst 0, 1) := by decide +kernel
theorem dX10_law_36 : decode cX10_law 36 = .ok (.putfield 337, 3) := by decide +kernel
theorem dX10_law_39 : decode cX10_law 39 = .ok (.aload_n 0, 1) := by decide +kernel
theorem dX10_law_40 : decode cX10_law 40 = .ok (.iconst 0, 1) := by decide +kernel
theorem dX10_law_41 : decode cX10_law 41 = .ok (.putfield 300, 3) := by decide +kernel
theorem dX10_law_44 : decode cX10_law 44 = .ok (.iconst 0, 1) := by decide +kernel
theorem dX10_law_45 : decode cX10_law 45 = .ok (.istore_n 1, 1) := by decide +kernel
theorem dX10_law_46 : decode cX10_law 46 = .ok (.iconst 1, 1) := by decide +kernel
theorem dX10_law_47 : decode cX10_law 47 = .ok (.istore_n 2, 1) := by decide +kernel
theorem dX10_law_48 : decode cX10_law 48 = .ok (.iload_n 2, 1) := by decide +kernel
theorem dX10_law_49 : decode cX10_law 49 = .ok (.ifCond .eq 88, 3) := by decide +kernel
theorem dX10_law_52 : decode cX10_law 52 = .ok (.aload_n 0, 1) := by decide +kernel
theorem dX10_law_53 : decode cX10_law 53 = .ok (.iload_n 1, 1) := by decide +kernel
theorem dX10_law_54 : decode cX10_law 54 = .ok (.invokevirtual 374, 3) := by decide +kernel
theorem dX10_law_57 : decode cX10_law 57 = .ok (.iinc 1 1, 3) := by decide +kernel
theorem dX10_law_60 : decode cX10_law 60 = .ok (.aload_n 0, 1) := by decide +kernel
theorem dX10_law_61 : decode cX10_law 61 = .ok (.invokevirtual 287, 3) := by decide +kernel
theorem dX10_law_64 : decode cX10_law 64 = .ok (.aload_n 0, 1) := by decide +kernel
theorem dX10_law_65 : decode cX10_law 65 = .ok (.getfield 264, 3) := by decide +kernel
theorem dX10_law_68 : decode cX10_law 68 = .ok (.ifCond .ne 32, 3) := by decide +kernel
theorem dX10_law_71 : decode cX10_law 71 = .ok (.aload_n 0, 1) := by decide +kernel
theorem dX10_law_72 : decode cX10_law 72 = .ok (.getfield 267, 3) := by decide +kernel
theorem dX10_law_75 : decode cX10_law 75 = .ok (.aload_n 0, 1) := by decide +kernel
theorem dX10_law_76 : decode cX10_law 76 = .ok (.getfield 232, 3) := by decide +kernel
theorem dX10_law_79 : decode cX10_law 79 = .ok (.if_icmp .ge 21, 3) := by decide +kernel
theorem dX10_law_82 : decode cX10_law 82 = .ok (.aload_n 0, 1) := by decide +kernel
theorem dX10_law_83 : decode cX10_law 83 = .ok (.invokevirtual 270, 3) := by decide +kernel
theorem dX10_law_86 : decode cX10_law 86 = .ok (.bipush 59, 2) := by decide +kernel
theorem dX10_law_88 : decode cX10_law 88 = .ok (.if_icmp .eq 12, 3) := by decide +kernel
theorem dX10_law_91 : decode cX10_law 91 = .ok (.aload_n 0, 1) := by decide +kernel
theorem dX10_law_92 : decode cX10_law 92 = .ok (.iconst 0, 1) := by decide +kernel
theorem dX10_law_93 : decode cX10_law 93 = .ok (.aload_n 0, 1) := by decide +kernel
theorem dX10_law_94 : decode cX10_law 94 = .ok (.getfield 267, 3) := by decide +kernel
theorem dX10_law_97 : decode cX10_law 97 = .ok (.invokevirtual 303, 3) := by decide +kernel
theorem dX10_law_100 : decode cX10_law 100 = .ok (.aload_n 0, 1) := by decide +kernel
theorem dX10_law_101 : decode cX10_law 101 = .ok (.getfield 264, 3) := by decide +kernel
theorem dX10_law_104 : decode cX10_law 104 = .ok (.ifCond .ne 18, 3) := by decide +kernel
theorem dX10_law_107 : decode cX10_law 107 = .ok (.aload_n 0, 1) := by decide +kernel
theorem dX10_law_108 : decode cX10_law 108 = .ok (.getfield 267, 3) := by decide +kernel
theorem dX10_law_111 : decode cX10_law 111 = .ok (.aload_n 0, 1) := by decide +kernel
theorem dX10_law_112 : decode cX10_law 112 = .ok (.getfield 232, 3) := by decide +kernel
theorem dX10_law_115 : decode cX10_law 115 = .ok (.if_icmp .ge 7, 3) := by decide +kernel
theorem dX10_law_118 : decode cX10_law 118 = .ok (.iconst 1, 1) := by decide +kernel
theorem dX10_law_119 : decode cX10_law 119 = .ok (.goto 4, 3) := by decide +kernel
theorem dX10_law_122 : decode cX10_law 122 = .ok (.iconst 0, 1) := by decide +kernel
theorem dX10_law_123 : decode cX10_law 123 = .ok (.istore_n 2, 1) := by decide +kernel
theorem dX10_law_124 : decode cX10_law 124 = .ok (.aload_n 0, 1) := by decide +kernel
theorem dX10_law_125 : decode cX10_law 125 = .ok (.dup, 1) := by decide +kernel
theorem dX10_law_126 : decode cX10_law 126 = .ok (.getfield 267, 3) := by decide +kernel
theorem dX10_law_129 : decode cX10_law 129 = .ok (.iconst 1, 1) := by decide +kernel
theorem dX10_law_130 : decode cX10_law 130 = .ok (.iadd, 1) := by decide +kernel
theorem dX10_law_131 : decode cX10_law 131 = .ok (.putfield 267, 3) := by decide +kernel
theorem dX10_law_134 : decode cX10_law 134 = .ok (.goto (-86), 3) := by decide +kernel
theorem dX10_law_137 : decode cX10_law 137 = .ok (.aload_n 0, 1) := by decide +kernel
theorem dX10_law_138 : decode cX10_law 138 = .ok (.iconst 0, 1) := by decide +kernel
theorem dX10_law_139 : decode cX10_law 139 = .ok (.putfield 232, 3) := by decide +kernel
theorem dX10_law_142 : decode cX10_law 142 = .ok (.aload_n 0, 1) := by decide +kernel
theorem dX10_law_143 : decode cX10_law 143 = .ok (.getfield 93, 3) := by decide +kernel
theorem dX10_law_146 : decode cX10_law 146 = .ok (.aload_n 0, 1) := by decide +kernel
theorem dX10_law_147 : decode cX10_law 147 = .ok (.getfield 294, 3) := by decide +kernel
theorem dX10_law_150 : decode cX10_law 150 = .ok (.iload_n 1, 1) := by decide +kernel
theorem dX10_law_151 : decode cX10_law 151 = .ok (.iastore, 1) := by decide +kernel
theorem dX10_law_152 : decode cX10_law 152 = .ok (.aload_n 0, 1) := by decide +kernel
theorem dX10_law_153 : decode cX10_law 153 = .ok (.dup, 1) := by decide +kernel
theorem dX10_law_154 : decode cX10_law 154 = .ok (.getfield 371, 3) := by decide +kernel
theorem dX10_law_157 : decode cX10_law 157 = .ok (.aload_n 0, 1) := by decide +kernel
theorem dX10_law_158 : decode cX10_law 158 = .ok (.getfield 264, 3) := by decide +kernel
theorem dX10_law_161 : decode cX10_law 161 = .ok (.ifCond .ne 7, 3) := by decide +kernel
theorem dX10_law_164 : decode cX10_law 164 = .ok (.iconst 1, 1) := by decide +kernel
theorem dX10_law_165 : decode cX10_law 165 = .ok (.goto 4, 3) := by decide +kernel
theorem dX10_law_168 : decode cX10_law 168 = .ok (.iconst 0, 1) := by decide +kernel
theorem dX10_law_169 : decode cX10_law 169 = .ok (.iadd, 1) := by decide +kernel
theorem dX10_law_170 : decode cX10_law 170 = .ok (.putfield 371, 3) := by decide +kernel
theorem dX10_law_173 : decode cX10_law 173 = .ok (.aload_n 0, 1) := by decide +kernel
theorem dX10_law_174 : decode cX10_law 174 = .ok (.getfield 264, 3) := by decide +kernel
theorem dX10_law_177 : decode cX10_law 177 = .ok (.ifCond .le 13, 3) := by decide +kernel
theorem dX10_law_180 : decode cX10_law 180 = .ok (.bipush (-2), 2) := by decide +kernel
theorem dX10_law_182 : decode cX10_law 182 = .ok (.aload_n 0, 1) := by decide +kernel
theorem dX10_law_183 : decode cX10_law 183 = .ok (.getfield 264, 3) := by decide +kernel
theorem dX10_law_186 : decode cX10_law 186 = .ok (.isub, 1) := by decide +kernel
theorem dX10_law_187 : decode cX10_law 187 = .ok (.goto 9, 3) := by decide +kernel
theorem dX10_law_190 : decode cX10_law 190 = .ok (.aload_n 0, 1) := by decide +kernel
theorem dX10_law_191 : decode cX10_law 191 = .ok (.getfield 371, 3) := by decide +kernel
theorem dX10_law_194 : decode cX10_law 194 = .ok (.iconst 1, 1) := by decide +kernel
theorem dX10_law_195 : decode cX10_law 195 = .ok (.isub, 1) := by decide +kernel
theorem dX10_law_196 : decode cX10_law 196 = .ok (.ireturn, 1) := by decide +kernel
theorem ce_X10_law : CeV RX10 yX10_law cX10_law 3 (some .int) 0 := ⟨tb_1499, tb_1500, tb_11, tb_1501, rfl, by decide, by decide, by decide +kernel⟩
