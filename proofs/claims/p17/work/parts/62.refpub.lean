theorem dX10_rock_0 : decode cX10_rock 0 = .ok (.aload_n 0, 1) := by decide +kernel
theorem dX10_rock_1 : decode cX10_rock 1 = .ok (.iload_n 1, 1) := by decide +kernel
theorem dX10_rock_2 : decode cX10_rock 2 = .ok (.iload_n 2, 1) := by decide +kernel
theorem dX10_rock_3 : decode cX10_rock 3 = .ok (.iload_n 3, 1) := by decide +kernel
theorem dX10_rock_4 : decode cX10_rock 4 = .ok (.iload 4, 2) := by decide +kernel
theorem dX10_rock_6 : decode cX10_rock 6 = .ok (.invokevirtual 206, 3) := by decide +kernel
theorem dX10_rock_9 : decode cX10_rock 9 = .ok (.ifCond .ne 5, 3) := by decide +kernel
theorem dX10_rock_12 : decode cX10_rock 12 = .ok (.iconst (-1), 1) := by decide +kernel
theorem dX10_rock_13 : decode cX10_rock 13 = .ok (.ireturn, 1) := by decide +kernel
theorem dX10_rock_14 : decode cX10_rock 14 = .ok (.iconst 0, 1) := by decide +kernel
theorem dX10_rock_15 : decode cX10_rock 15 = .ok (.istore 6, 2) := by decide +kernel
theorem dX10_rock_17 : decode cX10_rock 17 = .ok (.iload_n 2, 1) := by decide +kernel
theorem dX10_rock_18 : decode cX10_rock 18 = .ok (.istore 7, 2) := by decide +kernel
theorem dX10_rock_20 : decode cX10_rock 20 = .ok (.iload 7, 2) := by decide +kernel
theorem dX10_rock_22 : decode cX10_rock 22 = .ok (.iload 4, 2) := by decide +kernel
theorem dX10_rock_24 : decode cX10_rock 24 = .ok (.if_icmp .gt 83, 3) := by decide +kernel
theorem dX10_rock_27 : decode cX10_rock 27 = .ok (.iload_n 1, 1) := by decide +kernel
theorem dX10_rock_28 : decode cX10_rock 28 = .ok (.istore 8, 2) := by decide +kernel
theorem dX10_rock_30 : decode cX10_rock 30 = .ok (.iload 8, 2) := by decide +kernel
theorem dX10_rock_32 : decode cX10_rock 32 = .ok (.iload_n 3, 1) := by decide +kernel
theorem dX10_rock_33 : decode cX10_rock 33 = .ok (.if_icmp .gt 68, 3) := by decide +kernel
theorem dX10_rock_36 : decode cX10_rock 36 = .ok (.iload 6, 2) := by decide +kernel
theorem dX10_rock_38 : decode cX10_rock 38 = .ok (.aload_n 0, 1) := by decide +kernel
theorem dX10_rock_39 : decode cX10_rock 39 = .ok (.getfield 13, 3) := by decide +kernel
theorem dX10_rock_42 : decode cX10_rock 42 = .ok (.bipush 24, 2) := by decide +kernel
theorem dX10_rock_44 : decode cX10_rock 44 = .ok (.iload 7, 2) := by decide +kernel
theorem dX10_rock_46 : decode cX10_rock 46 = .ok (.imul, 1) := by decide +kernel
theorem dX10_rock_47 : decode cX10_rock 47 = .ok (.iload 8, 2) := by decide +kernel
theorem dX10_rock_49 : decode cX10_rock 49 = .ok (.iadd, 1) := by decide +kernel
theorem dX10_rock_50 : decode cX10_rock 50 = .ok (.iaload, 1) := by decide +kernel
theorem dX10_rock_51 : decode cX10_rock 51 = .ok (.iload 5, 2) := by decide +kernel
theorem dX10_rock_53 : decode cX10_rock 53 = .ok (.ifCond .eq 7, 3) := by decide +kernel
theorem dX10_rock_56 : decode cX10_rock 56 = .ok (.iconst 1, 1) := by decide +kernel
theorem dX10_rock_57 : decode cX10_rock 57 = .ok (.goto 4, 3) := by decide +kernel
theorem dX10_rock_60 : decode cX10_rock 60 = .ok (.iconst 0, 1) := by decide +kernel
theorem dX10_rock_61 : decode cX10_rock 61 = .ok (.if_icmp .ne 7, 3) := by decide +kernel
theorem dX10_rock_64 : decode cX10_rock 64 = .ok (.iconst 0, 1) := by decide +kernel
theorem dX10_rock_65 : decode cX10_rock 65 = .ok (.goto 4, 3) := by decide +kernel
theorem dX10_rock_68 : decode cX10_rock 68 = .ok (.iconst 1, 1) := by decide +kernel
theorem dX10_rock_69 : decode cX10_rock 69 = .ok (.iadd, 1) := by decide +kernel
theorem dX10_rock_70 : decode cX10_rock 70 = .ok (.istore 6, 2) := by decide +kernel
theorem dX10_rock_72 : decode cX10_rock 72 = .ok (.aload_n 0, 1) := by decide +kernel
theorem dX10_rock_73 : decode cX10_rock 73 = .ok (.getfield 13, 3) := by decide +kernel
theorem dX10_rock_76 : decode cX10_rock 76 = .ok (.bipush 24, 2) := by decide +kernel
theorem dX10_rock_78 : decode cX10_rock 78 = .ok (.iload 7, 2) := by decide +kernel
theorem dX10_rock_80 : decode cX10_rock 80 = .ok (.imul, 1) := by decide +kernel
theorem dX10_rock_81 : decode cX10_rock 81 = .ok (.iload 8, 2) := by decide +kernel
theorem dX10_rock_83 : decode cX10_rock 83 = .ok (.iadd, 1) := by decide +kernel
theorem dX10_rock_84 : decode cX10_rock 84 = .ok (.iload 5, 2) := by decide +kernel
theorem dX10_rock_86 : decode cX10_rock 86 = .ok (.ifCond .eq 7, 3) := by decide +kernel
theorem dX10_rock_89 : decode cX10_rock 89 = .ok (.iconst 1, 1) := by decide +kernel
theorem dX10_rock_90 : decode cX10_rock 90 = .ok (.goto 4, 3) := by decide +kernel
theorem dX10_rock_93 : decode cX10_rock 93 = .ok (.iconst 0, 1) := by decide +kernel
theorem dX10_rock_94 : decode cX10_rock 94 = .ok (.iastore, 1) := by decide +kernel
theorem dX10_rock_95 : decode cX10_rock 95 = .ok (.iinc 8 1, 3) := by decide +kernel
theorem dX10_rock_98 : decode cX10_rock 98 = .ok (.goto (-68), 3) := by decide +kernel
theorem dX10_rock_101 : decode cX10_rock 101 = .ok (.iinc 7 1, 3) := by decide +kernel
theorem dX10_rock_104 : decode cX10_rock 104 = .ok (.goto (-84), 3) := by decide +kernel
theorem dX10_rock_107 : decode cX10_rock 107 = .ok (.iload 6, 2) := by decide +kernel
theorem dX10_rock_109 : decode cX10_rock 109 = .ok (.ireturn, 1) := by decide +kernel
theorem ce_X10_rock : CeV RX10 yX10_rock cX10_rock 9 (some .int) 5 := ⟨tb_1430, tb_1431, tb_11, tb_1432, rfl, by decide, by decide, by decide +kernel⟩
theorem dX10_sun_0 : decode cX10_sun 0 = .ok (.iload_n 3, 1) := by decide +kernel
theorem dX10_sun_1 : decode cX10_sun 1 = .ok (.iconst (-1), 1) := by decide +kernel
theorem dX10_sun_2 : decode cX10_sun 2 = .ok (.if_icmp .ne 12, 3) := by decide +kernel
theorem dX10_sun_5 : decode cX10_sun 5 = .ok (.iload 4, 2) := by decide +kernel
theorem dX10_sun_7 : decode cX10_sun 7 = .ok (.ifCond .ne 7, 3) := by decide +kernel
theorem dX10_sun_10 : decode cX10_sun 10 = .ok (.iconst 1, 1) := by decide +kernel
theorem dX10_sun_11 : decode cX10_sun 11 = .ok (.goto 4, 3) := by decide +kernel
theorem dX10_sun_14 : decode cX10_sun 14 = .ok (.iconst 0, 1) := by decide +kernel
theorem dX10_sun_15 : decode cX10_sun 15 = .ok (.istore 5, 2) := by decide +kernel
theorem dX10_sun_17 : decode cX10_sun 17 = .ok (.aload_n 0, 1) := by decide +kernel
theorem dX10_sun_18 : decode cX10_sun 18 = .ok (.invokevirtual 188, 3) := by decide +kernel
theorem dX10_sun_21 : decode cX10_sun 21 = .ok (.ifCond .eq 57, 3) := by decide +kernel
theorem dX10_sun_24 : decode cX10_sun 24 = .ok (.iload_n 1, 1) := by decide +kernel
theorem dX10_sun_25 : decode cX10_sun 25 = .ok (.i2l, 1) := by decide +kernel
theorem dX10_sun_26 : decode cX10_sun 26 = .ok (.lconst 0, 1) := by decide +kernel
theorem dX10_sun_27 : decode cX10_sun 27 = .ok (.ldc2_w 210, 3) := by decide +kernel
theorem dX10_sun_30 : decode cX10_sun 30 = .ok (.invokestatic 192, 3) := by decide +kernel
theorem dX10_sun_33 : decode cX10_sun 33 = .ok (.ifCond .eq 45, 3) := by decide +kernel
theorem dX10_sun_36 : decode cX10_sun 36 = .ok (.iload_n 2, 1) := by decide +kernel
theorem dX10_sun_37 : decode cX10_sun 37 = .ok (.i2l, 1) := by decide +kernel
theorem dX10_sun_38 : decode cX10_sun 38 = .ok (.lconst 0, 1) := by decide +kernel
theorem dX10_sun_39 : decode cX10_sun 39 = .ok (.ldc2_w 212, 3) := by decide +kernel
theorem dX10_sun_42 : decode cX10_sun 42 = .ok (.invokestatic 192, 3) := by decide +kernel
theorem dX10_sun_45 : decode cX10_sun 45 = .ok (.ifCond .eq 33, 3) := by decide +kernel
theorem dX10_sun_48 : decode cX10_sun 48 = .ok (.iload 5, 2) := by decide +kernel
theorem dX10_sun_50 : decode cX10_sun 50 = .ok (.ifCond .ne 30, 3) := by decide +kernel
theorem dX10_sun_53 : decode cX10_sun 53 = .ok (.iload_n 3, 1) := by decide +kernel
theorem dX10_sun_54 : decode cX10_sun 54 = .ok (.i2l, 1) := by decide +kernel
theorem dX10_sun_55 : decode cX10_sun 55 = .ok (.lconst 0, 1) := by decide +kernel
theorem dX10_sun_56 : decode cX10_sun 56 = .ok (.ldc2_w 214, 3) := by decide +kernel
theorem dX10_sun_59 : decode cX10_sun 59 = .ok (.invokestatic 192, 3) := by decide +kernel
theorem dX10_sun_62 : decode cX10_sun 62 = .ok (.ifCond .eq 16, 3) := by decide +kernel
theorem dX10_sun_65 : decode cX10_sun 65 = .ok (.iload 4, 2) := by decide +kernel
theorem dX10_sun_67 : decode cX10_sun 67 = .ok (.i2l, 1) := by decide +kernel
theorem dX10_sun_68 : decode cX10_sun 68 = .ok (.lconst 0, 1) := by decide +kernel
theorem dX10_sun_69 : decode cX10_sun 69 = .ok (.ldc2_w 216, 3) := by decide +kernel
theorem dX10_sun_72 : decode cX10_sun 72 = .ok (.invokestatic 192, 3) := by decide +kernel
theorem dX10_sun_75 : decode cX10_sun 75 = .ok (.ifCond .ne 5, 3) := by decide +kernel
theorem dX10_sun_78 : decode cX10_sun 78 = .ok (.iconst 0, 1) := by decide +kernel
theorem dX10_sun_79 : decode cX10_sun 79 = .ok (.ireturn, 1) := by decide +kernel
theorem dX10_sun_80 : decode cX10_sun 80 = .ok (.aload_n 0, 1) := by decide +kernel
theorem dX10_sun_81 : decode cX10_sun 81 = .ok (.getfield 19, 3) := by decide +kernel
theorem dX10_sun_84 : decode cX10_sun 84 = .ok (.bipush 24, 2) := by decide +kernel
theorem dX10_sun_86 : decode cX10_sun 86 = .ok (.iload_n 1, 1) := by decide +kernel
theorem dX10_sun_87 : decode cX10_sun 87 = .ok (.imul, 1) := by decide +kernel
theorem dX10_sun_88 : decode cX10_sun 88 = .ok (.iload_n 2, 1) := by decide +kernel
theorem dX10_sun_89 : decode cX10_sun 89 = .ok (.iadd, 1) := by decide +kernel
theorem dX10_sun_90 : decode cX10_sun 90 = .ok (.iload_n 3, 1) := by decide +kernel
theorem dX10_sun_91 : decode cX10_sun 91 = .ok (.iastore, 1) := by decide +kernel
theorem dX10_sun_92 : decode cX10_sun 92 = .ok (.aload_n 0, 1) := by decide +kernel
theorem dX10_sun_93 : decode cX10_sun 93 = .ok (.getfield 22, 3) := by decide +kernel
theorem dX10_sun_96 : decode cX10_sun 96 = .ok (.bipush 24, 2) := by decide +kernel
theorem dX10_sun_98 : decode cX10_sun 98 = .ok (.iload_n 1, 1) := by decide +kernel
theorem dX10_sun_99 : decode cX10_sun 99 = .ok (.imul, 1) := by decide +kernel
theorem dX10_sun_100 : decode cX10_sun 100 = .ok (.iload_n 2, 1) := by decide +kernel
theorem dX10_sun_101 : decode cX10_sun 101 = .ok (.iadd, 1) := by decide +kernel
theorem dX10_sun_102 : decode cX10_sun 102 = .ok (.iload 4, 2) := by decide +kernel
theorem dX10_sun_104 : decode cX10_sun 104 = .ok (.iastore, 1) := by decide +kernel
theorem dX10_sun_105 : decode cX10_sun 105 = .ok (.iconst 1, 1) := by decide +kernel
theorem dX10_sun_106 : decode cX10_sun 106 = .ok (.ireturn, 1) := by decide +kernel
theorem ce_X10_sun : CeV RX10 yX10_sun cX10_sun 6 (some .boolean) 4 := ⟨tb_1446, tb_1447, tb_11, tb_1448, rfl, by decide, by decide, by decide +kernel⟩
theorem dX10_mirror_0 : decode cX10_mirror 0 = .ok (.aload_n 0, 1) := by decide +kernel
theorem dX10_mirror_1 : decode cX10_mirror 1 = .ok (.getfield 7, 3) := by decide +kernel
theorem dX10_mirror_4 : decode cX10_mirror 4 = .ok (.bipush 8, 2) := by decide +kernel
theorem dX10_mirror_6 : decode cX10_mirror 6 = .ok (.iaload, 1) := by decide +kernel
theorem dX10_mirror_7 : decode cX10_mirror 7 = .ok (.istore 8, 2) := by decide +kernel
theorem dX10_mirror_9 : decode cX10_mirror 9 = .ok (.aload_n 0, 1) := by decide +kernel
theorem dX10_mirror_10 : decode cX10_mirror 10 = .ok (.iload_n 1, 1) := by decide +kernel
theorem dX10_mirror_11 : decode cX10_mirror 11 = .ok (.iload_n 2, 1) := by decide +kernel
theorem dX10_mirror_12 : decode cX10_mirror 12 = .ok (.invokevirtual 196, 3) := by decide +kernel
theorem dX10_mirror_15 : decode cX10_mirror 15 = .ok (.ifCond .eq 89, 3) := by decide +kernel
theorem dX10_mirror_18 : decode cX10_mirror 18 = .ok (.iload 8, 2) := by decide +kernel
theorem dX10_mirror_20 : decode cX10_mirror 20 = .ok (.bipush 24, 2) := by decide +kernel
theorem dX10_mirror_22 : decode cX10_mirror 22 = .ok (.if_icmp .eq 82, 3) := by decide +kernel
theorem dX10_mirror_25 : decode cX10_mirror 25 = .ok (.aload_n 0, 1) := by decide +kernel
theorem dX10_mirror_26 : decode cX10_mirror 26 = .ok (.getfield 25, 3) := by decide +kernel
theorem dX10_mirror_29 : decode cX10_mirror 29 = .ok (.bipush 24, 2) := by decide +kernel
theorem dX10_mirror_31 : decode cX10_mirror 31 = .ok (.iload_n 2, 1) := by decide +kernel
theorem dX10_mirror_32 : decode cX10_mirror 32 = .ok (.imul, 1) := by decide +kernel
theorem dX10_mirror_33 : decode cX10_mirror 33 = .ok (.iload_n 1, 1) := by decide +kernel
theorem dX10_mirror_34 : decode cX10_mirror 34 = .ok (.iadd, 1) := by decide +kernel
theorem dX10_mirror_35 : decode cX10_mirror 35 = .ok (.iaload, 1) := by decide +kernel
theorem dX10_mirror_36 : decode cX10_mirror 36 = .ok (.iconst (-1), 1) := by decide +kernel
theorem dX10_mirror_37 : decode cX10_mirror 37 = .ok (.if_icmp .ne 67, 3) := by decide +kernel
theorem dX10_mirror_40 : decode cX10_mirror 40 = .ok (.iload_n 3, 1) := by decide +kernel
theorem dX10_mirror_41 : decode cX10_mirror 41 = .ok (.i2l, 1) := by decide +kernel
theorem dX10_mirror_42 : decode cX10_mirror 42 = .ok (.lconst 0, 1) := by decide +kernel
theorem dX10_mirror_43 : decode cX10_mirror 43 = .ok (.ldc2_w 214, 3) := by decide +kernel
theorem dX10_mirror_46 : decode cX10_mirror 46 = .ok (.invokestatic 192, 3) := by decide +kernel
theorem dX10_mirror_49 : decode cX10_mirror 49 = .ok (.ifCond .eq 55, 3) := by decide +kernel
theorem dX10_mirror_52 : decode cX10_mirror 52 = .ok (.iload 4, 2) := by decide +kernel
theorem dX10_mirror_54 : decode cX10_mirror 54 = .ok (.i2l, 1) := by decide +kernel
theorem dX10_mirror_55 : decode cX10_mirror 55 = .ok (.lconst 0, 1) := by decide +kernel
theorem dX10_mirror_56 : decode cX10_mirror 56 = .ok (.ldc2_w 204, 3) := by decide +kernel
theorem dX10_mirror_59 : decode cX10_mirror 59 = .ok (.invokestatic 192, 3) := by decide +kernel
theorem dX10_mirror_62 : decode cX10_mirror 62 = .ok (.ifCond .eq 42, 3) := by decide +kernel
theorem dX10_mirror_65 : decode cX10_mirror 65 = .ok (.iload 5, 2) := by decide +kernel
theorem dX10_mirror_67 : decode cX10_mirror 67 = .ok (.i2l, 1) := by decide +kernel
theorem dX10_mirror_68 : decode cX10_mirror 68 = .ok (.lconst 0, 1) := by decide +kernel
theorem dX10_mirror_69 : decode cX10_mirror 69 = .ok (.ldc2_w 204, 3) := by decide +kernel
theorem dX10_mirror_72 : decode cX10_mirror 72 = .ok (.invokestatic 192, 3) := by decide +kernel
theorem dX10_mirror_75 : decode cX10_mirror 75 = .ok (.ifCond .eq 29, 3) := by decide +kernel
theorem dX10_mirror_78 : decode cX10_mirror 78 = .ok (.iload 6, 2) := by decide +kernel
theorem dX10_mirror_80 : decode cX10_mirror 80 = .ok (.i2l, 1) := by decide +kernel
theorem dX10_mirror_81 : decode cX10_mirror 81 = .ok (.lconst 0, 1) := by decide +kernel
theorem dX10_mirror_82 : decode cX10_mirror 82 = .ok (.ldc2_w 200, 3) := by decide +kernel
theorem dX10_mirror_85 : decode cX10_mirror 85 = .ok (.invokestatic 192, 3) := by decide +kernel
theorem dX10_mirror_88 : decode cX10_mirror 88 = .ok (.ifCond .eq 16, 3) := by decide +kernel
theorem dX10_mirror_91 : decode cX10_mirror 91 = .ok (.iload 7, 2) := by decide +kernel
theorem dX10_mirror_93 : decode cX10_mirror 93 = .ok (.i2l, 1) := by decide +kernel
theorem dX10_mirror_94 : decode cX10_mirror 94 = .ok (.lconst 0, 1) := by decide +kernel
theorem dX10_mirror_95 : decode cX10_mirror 95 = .ok (.ldc2_w 218, 3) := by decide +kernel
theorem dX10_mirror_98 : decode cX10_mirror 98 = .ok (.invokestatic 192, 3) := by decide +kernel
theorem dX10_mirror_101 : decode cX10_mirror 101 = .ok (.ifCond .ne 5, 3) := by decide +kernel
theorem dX10_mirror_104 : decode cX10_mirror 104 = .ok (.iconst (-1), 1) := by decide +kernel
theorem dX10_mirror_105 : decode cX10_mirror 105 = .ok (.ireturn, 1) := by decide +kernel
theorem dX10_mirror_106 : decode cX10_mirror 106 = .ok (.aload_n 0, 1) := by decide +kernel
theorem dX10_mirror_107 : decode cX10_mirror 107 = .ok (.getfield 28, 3) := by decide +kernel
theorem dX10_mirror_110 : decode cX10_mirror 110 = .ok (.iload 8, 2) := by decide +kernel
theorem dX10_mirror_112 : decode cX10_mirror 112 = .ok (.iload_n 1, 1) := by decide +kernel
theorem dX10_mirror_113 : decode cX10_mirror 113 = .ok (.iastore, 1) := by decide +kernel
theorem dX10_mirror_114 : decode cX10_mirror 114 = .ok (.aload_n 0, 1) := by decide +kernel
theorem dX10_mirror_115 : decode cX10_mirror 115 = .ok (.getfield 31, 3) := by decide +kernel
theorem dX10_mirror_118 : decode cX10_mirror 118 = .ok (.iload 8, 2) := by decide +kernel
theorem dX10_mirror_120 : decode cX10_mirror 120 = .ok (.iload_n 2, 1) := by decide +kernel
theorem dX10_mirror_121 : decode cX10_mirror 121 = .ok (.iastore, 1) := by decide +kernel
theorem dX10_mirror_122 : decode cX10_mirror 122 = .ok (.aload_n 0, 1) := by decide +kernel
theorem dX10_mirror_123 : decode cX10_mirror 123 = .ok (.getfield 34, 3) := by decide +kernel
theorem dX10_mirror_126 : decode cX10_mirror 126 = .ok (.iload 8, 2) := by decide +kernel
theorem dX10_mirror_128 : decode cX10_mirror 128 = .ok (.iload_n 3, 1) := by decide +kernel
theorem dX10_mirror_129 : decode cX10_mirror 129 = .ok (.iastore, 1) := by decide +kernel
theorem dX10_mirror_130 : decode cX10_mirror 130 = .ok (.aload_n 0, 1) := by decide +kernel
theorem dX10_mirror_131 : decode cX10_mirror 131 = .ok (.getfield 37, 3) := by decide +kernel
theorem dX10_mirror_134 : decode cX10_mirror 134 = .ok (.iload 8, 2) := by decide +kernel
theorem dX10_mirror_136 : decode cX10_mirror 136 = .ok (.iload 4, 2) := by decide +kernel
theorem dX10_mirror_138 : decode cX10_mirror 138 = .ok (.iastore, 1) := by decide +kernel
theorem dX10_mirror_139 : decode cX10_mirror 139 = .ok (.aload_n 0, 1) := by decide +kernel
theorem dX10_mirror_140 : decode cX10_mirror 140 = .ok (.getfield 40, 3) := by decide +kernel
theorem dX10_mirror_143 : decode cX10_mirror 143 = .ok (.iload 8, 2) := by decide +kernel
theorem dX10_mirror_145 : decode cX10_mirror 145 = .ok (.iload 5, 2) := by decide +kernel
theorem dX10_mirror_147 : decode cX10_mirror 147 = .ok (.iastore, 1) := by decide +kernel
theorem dX10_mirror_148 : decode cX10_mirror 148 = .ok (.aload_n 0, 1) := by decide +kernel
theorem dX10_mirror_149 : decode cX10_mirror 149 = .ok (.getfield 43, 3) := by decide +kernel
theorem dX10_mirror_152 : decode cX10_mirror 152 = .ok (.iload 8, 2) := by decide +kernel
theorem dX10_mirror_154 : decode cX10_mirror 154 = .ok (.iload 6, 2) := by decide +kernel
theorem dX10_mirror_156 : decode cX10_mirror 156 = .ok (.iastore, 1) := by decide +kernel
theorem dX10_mirror_157 : decode cX10_mirror 157 = .ok (.aload_n 0, 1) := by decide +kernel
theorem dX10_mirror_158 : decode cX10_mirror 158 = .ok (.getfield 46, 3) := by decide +kernel
theorem dX10_mirror_161 : decode cX10_mirror 161 = .ok (.iload 8, 2) := by decide +kernel
theorem dX10_mirror_163 : decode cX10_mirror 163 = .ok (.iload 7, 2) := by decide +kernel
theorem dX10_mirror_165 : decode cX10_mirror 165 = .ok (.iastore, 1) := by decide +kernel
theorem dX10_mirror_166 : decode cX10_mirror 166 = .ok (.aload_n 0, 1) := by decide +kernel
theorem dX10_mirror_167 : decode cX10_mirror 167 = .ok (.getfield 49, 3) := by decide +kernel
theorem dX10_mirror_170 : decode cX10_mirror 170 = .ok (.iload 8, 2) := by decide +kernel
theorem dX10_mirror_172 : decode cX10_mirror 172 = .ok (.iconst 0, 1) := by decide +kernel
theorem dX10_mirror_173 : decode cX10_mirror 173 = .ok (.iastore, 1) := by decide +kernel
theorem dX10_mirror_174 : decode cX10_mirror 174 = .ok (.aload_n 0, 1) := by decide +kernel
theorem dX10_mirror_175 : decode cX10_mirror 175 = .ok (.getfield 52, 3) := by decide +kernel
theorem dX10_mirror_178 : decode cX10_mirror 178 = .ok (.iload 8, 2) := by decide +kernel
theorem dX10_mirror_180 : decode cX10_mirror 180 = .ok (.iconst 0, 1) := by decide +kernel
theorem dX10_mirror_181 : decode cX10_mirror 181 = .ok (.iastore, 1) := by decide +kernel
theorem dX10_mirror_182 : decode cX10_mirror 182 = .ok (.aload_n 0, 1) := by decide +kernel
theorem dX10_mirror_183 : decode cX10_mirror 183 = .ok (.getfield 55, 3) := by decide +kernel
theorem dX10_mirror_186 : decode cX10_mirror 186 = .ok (.iload 8, 2) := by decide +kernel
theorem dX10_mirror_188 : decode cX10_mirror 188 = .ok (.iconst (-1), 1) := by decide +kernel
theorem dX10_mirror_189 : decode cX10_mirror 189 = .ok (.iastore, 1) := by decide +kernel
theorem dX10_mirror_190 : decode cX10_mirror 190 = .ok (.aload_n 0, 1) := by decide +kernel
theorem dX10_mirror_191 : decode cX10_mirror 191 = .ok (.getfield 25, 3) := by decide +kernel
theorem dX10_mirror_194 : decode cX10_mirror 194 = .ok (.bipush 24, 2) := by decide +kernel
theorem dX10_mirror_196 : decode cX10_mirror 196 = .ok (.iload_n 2, 1) := by decide +kernel
theorem dX10_mirror_197 : decode cX10_mirror 197 = .ok (.imul, 1) := by decide +kernel
theorem dX10_mirror_198 : decode cX10_mirror 198 = .ok (.iload_n 1, 1) := by decide +kernel
theorem dX10_mirror_199 : decode cX10_mirror 199 = .ok (.iadd, 1) := by decide +kernel
theorem dX10_mirror_200 : decode cX10_mirror 200 = .ok (.iload 8, 2) := by decide +kernel
theorem dX10_mirror_202 : decode cX10_mirror 202 = .ok (.iastore, 1) := by decide +kernel
theorem dX10_mirror_203 : decode cX10_mirror 203 = .ok (.aload_n 0, 1) := by decide +kernel
theorem dX10_mirror_204 : decode cX10_mirror 204 = .ok (.getfield 7, 3) := by decide +kernel
theorem dX10_mirror_207 : decode cX10_mirror 207 = .ok (.bipush 8, 2) := by decide +kernel
theorem dX10_mirror_209 : decode cX10_mirror 209 = .ok (.dup2, 1) := by decide +kernel
theorem dX10_mirror_210 : decode cX10_mirror 210 = .ok (.iaload, 1) := by decide +kernel
theorem dX10_mirror_211 : decode cX10_mirror 211 = .ok (.iconst 1, 1) := by decide +kernel
theorem dX10_mirror_212 : decode cX10_mirror 212 = .ok (.iadd, 1) := by decide +kernel
theorem dX10_mirror_213 : decode cX10_mirror 213 = .ok (.iastore, 1) := by decide +kernel
theorem dX10_mirror_214 : decode cX10_mirror 214 = .ok (.iload 8, 2) := by decide +kernel
theorem dX10_mirror_216 : decode cX10_mirror 216 = .ok (.ireturn, 1) := by decide +kernel
theorem ce_X10_mirror : CeV RX10 yX10_mirror cX10_mirror 9 (some .int) 7 := ⟨tb_1454, tb_1455, tb_11, tb_1456, rfl, by decide, by decide, by decide +kernel⟩
theorem dX10_sets_0 : decode cX10_sets 0 = .ok (.aload_n 0, 1) := by decide +kernel
theorem dX10_sets_1 : decode cX10_sets 1 = .ok (.iload_n 1, 1) := by decide +kernel
theorem dX10_sets_2 : decode cX10_sets 2 = .ok (.invokevirtual 220, 3) := by decide +kernel
theorem dX10_sets_5 : decode cX10_sets 5 = .ok (.ifCond .eq 68, 3) := by decide +kernel
theorem dX10_sets_8 : decode cX10_sets 8 = .ok (.iload_n 2, 1) := by decide +kernel
theorem dX10_sets_9 : decode cX10_sets 9 = .ok (.i2l, 1) := by decide +kernel
theorem dX10_sets_10 : decode cX10_sets 10 = .ok (.lconst 0, 1) := by decide +kernel
theorem dX10_sets_11 : decode cX10_sets 11 = .ok (.ldc2_w 224, 3) := by decide +kernel
theorem dX10_sets_14 : decode cX10_sets 14 = .ok (.invokestatic 192, 3) := by decide +kernel
theorem dX10_sets_17 : decode cX10_sets 17 = .ok (.ifCond .eq 56, 3) := by decide +kernel
theorem dX10_sets_20 : decode cX10_sets 20 = .ok (.iload_n 3, 1) := by decide +kernel
theorem dX10_sets_21 : decode cX10_sets 21 = .ok (.i2l, 1) := by decide +kernel
theorem dX10_sets_22 : decode cX10_sets 22 = .ok (.iload_n 2, 1) := by decide +kernel
theorem dX10_sets_23 : decode cX10_sets 23 = .ok (.iconst 3, 1) := by decide +kernel
theorem dX10_sets_24 : decode cX10_sets 24 = .ok (.if_icmp .ne 9, 3) := by decide +kernel
theorem dX10_sets_27 : decode cX10_sets 27 = .ok (.ldc2_w 226, 3) := by decide +kernel
theorem dX10_sets_30 : decode cX10_sets 30 = .ok (.goto 4, 3) := by decide +kernel
theorem dX10_sets_33 : decode cX10_sets 33 = .ok (.lconst 0, 1) := by decide +kernel
theorem dX10_sets_34 : decode cX10_sets 34 = .ok (.iload_n 2, 1) := by decide +kernel
theorem dX10_sets_35 : decode cX10_sets 35 = .ok (.ifCond .ne 9, 3) := by decide +kernel
theorem dX10_sets_38 : decode cX10_sets 38 = .ok (.ldc2_w 214, 3) := by decide +kernel
theorem dX10_sets_41 : decode cX10_sets 41 = .ok (.goto 26, 3) := by decide +kernel
theorem dX10_sets_44 : decode cX10_sets 44 = .ok (.iload_n 2, 1) := by decide +kernel
theorem dX10_sets_45 : decode cX10_sets 45 = .ok (.iconst 1, 1) := by decide +kernel
theorem dX10_sets_46 : decode cX10_sets 46 = .ok (.if_icmp .ne 9, 3) := by decide +kernel
theorem dX10_sets_49 : decode cX10_sets 49 = .ok (.ldc2_w 204, 3) := by decide +kernel
theorem dX10_sets_52 : decode cX10_sets 52 = .ok (.goto 15, 3) := by decide +kernel
theorem dX10_sets_55 : decode cX10_sets 55 = .ok (.iload_n 2, 1) := by decide +kernel
theorem dX10_sets_56 : decode cX10_sets 56 = .ok (.iconst 2, 1) := by decide +kernel
theorem dX10_sets_57 : decode cX10_sets 57 = .ok (.if_icmp .ne 7, 3) := by decide +kernel
theorem dX10_sets_60 : decode cX10_sets 60 = .ok (.lconst 1, 1) := by decide +kernel
theorem dX10_sets_61 : decode cX10_sets 61 = .ok (.goto 6, 3) := by decide +kernel
theorem dX10_sets_64 : decode cX10_sets 64 = .ok (.ldc2_w 216, 3) := by decide +kernel
theorem dX10_sets_67 : decode cX10_sets 67 = .ok (.invokestatic 192, 3) := by decide +kernel
theorem dX10_sets_70 : decode cX10_sets 70 = .ok (.ifCond .ne 6, 3) := by decide +kernel
theorem dX10_sets_73 : decode cX10_sets 73 = .ok (.bipush (-2), 2) := by decide +kernel
theorem dX10_sets_75 : decode cX10_sets 75 = .ok (.ireturn, 1) := by decide +kernel
theorem dX10_sets_76 : decode cX10_sets 76 = .ok (.iload_n 2, 1) := by decide +kernel
theorem dX10_sets_77 : decode cX10_sets 77 = .ok (.ifCond .ne 12, 3) := by decide +kernel
theorem dX10_sets_80 : decode cX10_sets 80 = .ok (.aload_n 0, 1) := by decide +kernel
theorem dX10_sets_81 : decode cX10_sets 81 = .ok (.getfield 34, 3) := by decide +kernel
theorem dX10_sets_84 : decode cX10_sets 84 = .ok (.iload_n 1, 1) := by decide +kernel
theorem dX10_sets_85 : decode cX10_sets 85 = .ok (.iaload, 1) := by decide +kernel
theorem dX10_sets_86 : decode cX10_sets 86 = .ok (.goto 37, 3) := by decide +kernel
theorem dX10_sets_89 : decode cX10_sets 89 = .ok (.iload_n 2, 1) := by decide +kernel
theorem dX10_sets_90 : decode cX10_sets 90 = .ok (.iconst 1, 1) := by decide +kernel
theorem dX10_sets_91 : decode cX10_sets 91 = .ok (.if_icmp .ne 12, 3) := by decide +kernel
theorem dX10_sets_94 : decode cX10_sets 94 = .ok (.aload_n 0, 1) := by decide +kernel
theorem dX10_sets_95 : decode cX10_sets 95 = .ok (.getfield 49, 3) := by decide +kernel
theorem dX10_sets_98 : decode cX10_sets 98 = .ok (.iload_n 1, 1) := by decide +kernel
theorem dX10_sets_99 : decode cX10_sets 99 = .ok (.iaload, 1) := by decide +kernel
theorem dX10_sets_100 : decode cX10_sets 100 = .ok (.goto 23, 3) := by decide +kernel
theorem dX10_sets_103 : decode cX10_sets 103 = .ok (.iload_n 2, 1) := by decide +kernel
theorem dX10_sets_104 : decode cX10_sets 104 = .ok (.iconst 2, 1) := by decide +kernel
theorem dX10_sets_105 : decode cX10_sets 105 = .ok (.if_icmp .ne 12, 3) := by decide +kernel
theorem dX10_sets_108 : decode cX10_sets 108 = .ok (.aload_n 0, 1) := by decide +kernel
theorem dX10_sets_109 : decode cX10_sets 109 = .ok (.getfield 52, 3) := by decide +kernel
theorem dX10_sets_112 : decode cX10_sets 112 = .ok (.iload_n 1, 1) := by decide +kernel
theorem dX10_sets_113 : decode cX10_sets 113 = .ok (.iaload, 1) := by decide +kernel
theorem dX10_sets_114 : decode cX10_sets 114 = .ok (.goto 9, 3) := by decide +kernel
theorem dX10_sets_117 : decode cX10_sets 117 = .ok (.aload_n 0, 1) := by decide +kernel
theorem dX10_sets_118 : decode cX10_sets 118 = .ok (.getfield 55, 3) := by decide +kernel
theorem dX10_sets_121 : decode cX10_sets 121 = .ok (.iload_n 1, 1) := by decide +kernel
theorem dX10_sets_122 : decode cX10_sets 122 = .ok (.iaload, 1) := by decide +kernel
theorem dX10_sets_123 : decode cX10_sets 123 = .ok (.istore 4, 2) := by decide +kernel
theorem dX10_sets_125 : decode cX10_sets 125 = .ok (.iload_n 2, 1) := by decide +kernel
theorem dX10_sets_126 : decode cX10_sets 126 = .ok (.ifCond .ne 13, 3) := by decide +kernel
theorem dX10_sets_129 : decode cX10_sets 129 = .ok (.aload_n 0, 1) := by decide +kernel
theorem dX10_sets_130 : decode cX10_sets 130 = .ok (.getfield 34, 3) := by decide +kernel
theorem dX10_sets_133 : decode cX10_sets 133 = .ok (.iload_n 1, 1) := by decide +kernel
theorem dX10_sets_134 : decode cX10_sets 134 = .ok (.iload_n 3, 1) := by decide +kernel
theorem dX10_sets_135 : decode cX10_sets 135 = .ok (.iastore, 1) := by decide +kernel
theorem dX10_sets_136 : decode cX10_sets 136 = .ok (.goto 40, 3) := by decide +kernel
theorem dX10_sets_139 : decode cX10_sets 139 = .ok (.iload_n 2, 1) := by decide +kernel
theorem dX10_sets_140 : decode cX10_sets 140 = .ok (.iconst 1, 1) := by decide +kernel
theorem dX10_sets_141 : decode cX10_sets 141 = .ok (.if_icmp .ne 13, 3) := by decide +kernel
theorem dX10_sets_144 : decode cX10_sets 144 = .ok (.aload_n 0, 1) := by decide +kernel
theorem dX10_sets_145 : decode cX10_sets 145 = .ok (.getfield 49, 3) := by decide +kernel
theorem dX10_sets_148 : decode cX10_sets 148 = .ok (.iload_n 1, 1) := by decide +kernel
theorem dX10_sets_149 : decode cX10_sets 149 = .ok (.iload_n 3, 1) := by decide +kernel
theorem dX10_sets_150 : decode cX10_sets 150 = .ok (.iastore, 1) := by decide +kernel
theorem dX10_sets_151 : decode cX10_sets 151 = .ok (.goto 25, 3) := by decide +kernel
theorem dX10_sets_154 : decode cX10_sets 154 = .ok (.iload_n 2, 1) := by decide +kernel
theorem dX10_sets_155 : decode cX10_sets 155 = .ok (.iconst 2, 1) := by decide +kernel
theorem dX10_sets_156 : decode cX10_sets 156 = .ok (.if_icmp .ne 13, 3) := by decide +kernel
theorem dX10_sets_159 : decode cX10_sets 159 = .ok (.aload_n 0, 1) := by decide +kernel
theorem dX10_sets_160 : decode cX10_sets 160 = .ok (.getfield 52, 3) := by decide +kernel
theorem dX10_sets_163 : decode cX10_sets 163 = .ok (.iload_n 1, 1) := by decide +kernel
theorem dX10_sets_164 : decode cX10_sets 164 = .ok (.iload_n 3, 1) := by decide +kernel
theorem dX10_sets_165 : decode cX10_sets 165 = .ok (.iastore, 1) := by decide +kernel
theorem dX10_sets_166 : decode cX10_sets 166 = .ok (.goto 10, 3) := by decide +kernel
theorem dX10_sets_169 : decode cX10_sets 169 = .ok (.aload_n 0, 1) := by decide +kernel
theorem dX10_sets_170 : decode cX10_sets 170 = .ok (.getfield 55, 3) := by decide +kernel
theorem dX10_sets_173 : decode cX10_sets 173 = .ok (.iload_n 1, 1) := by decide +kernel
theorem dX10_sets_174 : decode cX10_sets 174 = .ok (.iload_n 3, 1) := by decide +kernel
theorem dX10_sets_175 : decode cX10_sets 175 = .ok (.iastore, 1) := by decide +kernel
theorem dX10_sets_176 : decode cX10_sets 176 = .ok (.iload 4, 2) := by decide +kernel
theorem dX10_sets_178 : decode cX10_sets 178 = .ok (.ireturn, 1) := by decide +kernel
theorem ce_X10_sets : CeV RX10 yX10_sets cX10_sets 5 (some .int) 3 := ⟨tb_1459, tb_1460, tb_11, tb_1461, rfl, by decide, by decide, by decide +kernel⟩
set_option maxHeartbeats 4000000 in
set_option maxRecDepth 20000 in
theorem V_X10_sets (l : Launch) (D : va_G) (A : Nat → Prop) (ad : Nat → Nat) (ns : List Nat) (I : MI) (L : ML) (G : MG) (a0 : Int32) (a1 : Int32) (a2 : Int32) (hJ : SGM ns G) (hI : INV I) : Met l yX10_sets (wd yX10_sets cX10_sets 5 (some .int)) ({ frames := 2, cells := 0, slots := 0, locals := 46 }) (va_Pc [.ref (ad (1000)), .int a0, .int a1, .int a2] (PM D A ad ns I L G)) (va_Qi (fun r u => ∃ I2 L2, u = (ad, ns, I2, L2, G) ∧ INV I2 ∧ Kp [(1009, 1010), (1014, 1017)] [] I I2) (BM D A) A) 0 0 A := by
  refine m_ofW (by decide) (Nat.le_of_ble_eq_true rfl) ?_
  intro p e s m below meth c ls args hC hE hM hA hS hl
  obtain ⟨hx, hb, hml, hown, hts, hr, hlocks, hin⟩ := hC
  have km2 : (-2 : Int32).toInt = -2 := by decide
  have k0 : (0 : Int32).toInt = 0 := by decide
  have k1 : (1 : Int32).toInt = 1 := by decide
  have k2 : (2 : Int32).toInt = 2 := by decide
  have k3 : (3 : Int32).toInt = 3 := by decide
  have klm1 : (-1 : Int64).toInt = -1 := by decide
  have kl0 : (0 : Int64).toInt = 0 := by decide
  have kl1 : (1 : Int64).toInt = 1 := by decide
  have kl3 : (3 : Int64).toInt = 3 := by decide
  have kl7 : (7 : Int64).toInt = 7 := by decide
  have kl1000 : (1000 : Int64).toInt = 1000 := by decide
  have kl99999 : (99999 : Int64).toInt = 99999 := by decide
  have hK : Kp [(1009, 1010), (1014, 1017)] [] I I := Kp.rf
  have hl : lv_has ls 5 [(0, .ref (ad (1000))), (1, .int (a0)), (2, .int (a1)), (3, .int (a2))] := hl
  refine lv_aload_n hx hb dX10_sets_0 rfl (lv_at hl 0 rfl) ?_
  refine lv_iload_n hx hb dX10_sets_1 rfl (lv_at hl 1 rfl) ?_
  refine m_calli (m_runV (1000) (As := [.int (a0)]) (rest := []) hx hb hml hown hts hE hM hS hA ce_X10_isMirror tb_1462 (V_X10_isMirror l D A ad ns I L G (a0) hJ hI) rfl rfl ⟨Nat.le_of_ble_eq_true rfl, Nat.le_of_ble_eq_true rfl⟩ hJ.1 rfl rfl (by decide) rfl hl.1 rfl (Nat.le_of_ble_eq_true rfl) dX10_sets_2 ⟨Nat.le_of_ble_eq_true rfl, Nat.le_of_ble_eq_true rfl⟩) hS (fun r1 u H locs hw hM hS => ?_)
  obtain ⟨rfl, xr1⟩ := hw
  have hM : Mem D A ad ns I L G H := hM
  have yr1 := bo01 xr1
  have g2 := hI.get 1001 8 (lo := 0) (hi := 24) rfl
  refine lv_if_eq (tgt := 73) hx hb dX10_sets_5 (by decide) (fun c3 => ?_) (fun c3 => ?_)
  · have hc3 := c3
    have q3 := xr1.f hc3
    refine lv_bipush (v := (-2)) hx hb dX10_sets_73 (by decide) ?_
    exact m_iret hx hb hr hlocks hM hS (Nat.le_of_ble_eq_true rfl) (Nat.le_of_ble_eq_true rfl) ⟨_, _, rfl, hI, hK⟩ dX10_sets_75
  · have hc3 := c3
    have q3 := xr1.t hc3
    refine lv_iload_n hx hb dX10_sets_8 rfl (lv_at hl 2 rfl) ?_
    refine lv_i2l hx hb dX10_sets_9 rfl ?_
    refine lv_topl (fun v4 ev4 => ?_)
    have tv4 := q_i2l ev4
    refine lv_lconst (v := 0) hx hb dX10_sets_10 (by decide) ?_
    refine lv_ldc2 (v := (3)) hx hb hown (hts _ tb_1466) dX10_sets_11 ?_
    refine m_calli (m_runS (As := [.long (v4), .long (0), .long ((3 : Int64))]) (rest := []) hx hb hml hown hts hE hM hS hA ce_X10_in tb_1425 (V_X10_in l D A ad ns I L G (v4) (0) ((3 : Int64)) hI) rfl rfl ⟨Nat.le_of_ble_eq_true rfl, Nat.le_of_ble_eq_true rfl⟩  rfl hl.1 rfl (Nat.le_of_ble_eq_true rfl) dX10_sets_14 ⟨Nat.le_of_ble_eq_true rfl, Nat.le_of_ble_eq_true rfl⟩) hS (fun r5 u H locs hw hM hS => ?_)
    obtain ⟨rfl, xr5⟩ := hw
    have hM : Mem D A ad ns I L G H := hM
    have yr5 := bo01 xr5
    refine lv_if_eq (tgt := 73) hx hb dX10_sets_17 (by decide) (fun c6 => ?_) (fun c6 => ?_)
    · have hc6 := c6
      have q6 := xr5.f hc6
      refine lv_bipush (v := (-2)) hx hb dX10_sets_73 (by decide) ?_
      exact m_iret hx hb hr hlocks hM hS (Nat.le_of_ble_eq_true rfl) (Nat.le_of_ble_eq_true rfl) ⟨_, _, rfl, hI, hK⟩ dX10_sets_75
    · have hc6 := c6
      have q6 := xr5.t hc6
      refine lv_iload_n hx hb dX10_sets_20 rfl (lv_at hl 3 rfl) ?_
      refine lv_i2l hx hb dX10_sets_21 rfl ?_
      refine lv_topl (fun v7 ev7 => ?_)
      have tv7 := q_i2l ev7
      refine lv_iload_n hx hb dX10_sets_22 rfl (lv_at hl 2 rfl) ?_
      refine lv_iconst (v := (3)) hx hb dX10_sets_23 (by decide) ?_
      refine lv_icmp_ne (tgt := 33) hx hb dX10_sets_24 (by decide) (fun c8 => ?_) (fun c8 => ?_)
      · have hc8 := c8
        have q8 := q_ne hc8
        refine lv_lconst (v := 0) hx hb dX10_sets_33 (by decide) ?_
        refine lv_iload_n hx hb dX10_sets_34 rfl (lv_at hl 2 rfl) ?_
        refine lv_if_ne (tgt := 44) hx hb dX10_sets_35 (by decide) (fun c9 => ?_) (fun c9 => ?_)
        · have hc9 := c9
          have q9 := q_ne hc9
          refine lv_iload_n hx hb dX10_sets_44 rfl (lv_at hl 2 rfl) ?_
          refine lv_iconst (v := (1)) hx hb dX10_sets_45 (by decide) ?_
          refine lv_icmp_ne (tgt := 55) hx hb dX10_sets_46 (by decide) (fun c10 => ?_) (fun c10 => ?_)
          · have hc10 := c10
            have q10 := q_ne hc10
            refine lv_iload_n hx hb dX10_sets_55 rfl (lv_at hl 2 rfl) ?_
            refine lv_iconst (v := (2)) hx hb dX10_sets_56 (by decide) ?_
            refine lv_icmp_ne (tgt := 64) hx hb dX10_sets_57 (by decide) (fun c11 => ?_) (fun c11 => ?_)
            · have hc11 := c11
              have q11 := q_ne hc11
              refine lv_ldc2 (v := (99999)) hx hb hown (hts _ tb_1452) dX10_sets_64 ?_
              refine m_calli (m_runS (As := [.long (v7), .long (0), .long ((99999 : Int64))]) (rest := []) hx hb hml hown hts hE hM hS hA ce_X10_in tb_1425 (V_X10_in l D A ad ns I L G (v7) (0) ((99999 : Int64)) hI) rfl rfl ⟨Nat.le_of_ble_eq_true rfl, Nat.le_of_ble_eq_true rfl⟩  rfl hl.1 rfl (Nat.le_of_ble_eq_true rfl) dX10_sets_67 ⟨Nat.le_of_ble_eq_true rfl, Nat.le_of_ble_eq_true rfl⟩) hS (fun r12 u H locs hw hM hS => ?_)
              obtain ⟨rfl, xr12⟩ := hw
              have hM : Mem D A ad ns I L G H := hM
              have yr12 := bo01 xr12
              refine lv_if_ne (tgt := 76) hx hb dX10_sets_70 (by decide) (fun c13 => ?_) (fun c13 => ?_)
              · have hc13 := c13
                have q13 := xr12.t hc13
                refine lv_iload_n hx hb dX10_sets_76 rfl (lv_at hl 2 rfl) ?_
                refine lv_if_ne (tgt := 89) hx hb dX10_sets_77 (by decide) (fun c14 => ?_) (fun c14 => ?_)
                · have hc14 := c14
                  have q14 := q_ne hc14
                  refine lv_iload_n hx hb dX10_sets_89 rfl (lv_at hl 2 rfl) ?_
                  refine lv_iconst (v := (1)) hx hb dX10_sets_90 (by decide) ?_
                  refine lv_icmp_ne (tgt := 103) hx hb dX10_sets_91 (by decide) (fun c15 => ?_) (fun c15 => ?_)
                  · have hc15 := c15
                    have q15 := q_ne hc15
                    refine lv_iload_n hx hb dX10_sets_103 rfl (lv_at hl 2 rfl) ?_
                    refine lv_iconst (v := (2)) hx hb dX10_sets_104 (by decide) ?_
                    refine lv_icmp_ne (tgt := 117) hx hb dX10_sets_105 (by decide) (fun c16 => ?_) (fun c16 => ?_)
                    · have hc16 := c16
                      have q16 := q_ne hc16
                      refine lv_aload_n hx hb dX10_sets_117 rfl (lv_at hl 0 rfl) ?_
                      refine m_getr (1000) 16 (1016) hx hb hts hown hE oc10 hM hJ.1 rfl (by decide) rfl (hJ.2 16 (by decide)).2 (by decide) tb_1193 dX10_sets_118 ?_
                      refine lv_iload_n hx hb dX10_sets_121 rfl (lv_at hl 1 rfl) ?_
                      refine m_iald (1016) hx hb hE hM (hJ.2 16 (by decide)).1 rfl (vp_in_iff.mpr (by omega)) dX10_sets_122 ?_
                      refine lv_istore (lv' := [(4, .int (I (1016) (a0).toNatClampNeg)), (0, .ref (ad (1000))), (1, .int (a0)), (2, .int (a1)), (3, .int (a2))]) hx hb dX10_sets_123 hl (by decide) rfl (fun ls hl => ?_)
                      refine lv_iload_n hx hb dX10_sets_125 rfl (lv_at hl 3 rfl) ?_
                      refine lv_if_ne (tgt := 139) hx hb dX10_sets_126 (by decide) (fun c17 => ?_) (fun c17 => ?_)
                      · have hc17 := c17
                        have q17 := q_ne hc17
                        refine lv_iload_n hx hb dX10_sets_139 rfl (lv_at hl 3 rfl) ?_
                        refine lv_iconst (v := (1)) hx hb dX10_sets_140 (by decide) ?_
                        refine lv_icmp_ne (tgt := 154) hx hb dX10_sets_141 (by decide) (fun c18 => ?_) (fun c18 => ?_)
                        · have hc18 := c18
                          have q18 := q_ne hc18
                          refine lv_iload_n hx hb dX10_sets_154 rfl (lv_at hl 3 rfl) ?_
                          refine lv_iconst (v := (2)) hx hb dX10_sets_155 (by decide) ?_
                          refine lv_icmp_ne (tgt := 169) hx hb dX10_sets_156 (by decide) (fun c19 => ?_) (fun c19 => ?_)
                          · have hc19 := c19
                            have q19 := q_ne hc19
                            refine lv_aload_n hx hb dX10_sets_169 rfl (lv_at hl 1 rfl) ?_
                            refine m_getr (1000) 16 (1016) hx hb hts hown hE oc10 hM hJ.1 rfl (by decide) rfl (hJ.2 16 (by decide)).2 (by decide) tb_1193 dX10_sets_170 ?_
                            refine lv_iload_n hx hb dX10_sets_173 rfl (lv_at hl 2 rfl) ?_
                            refine lv_iload_n hx hb dX10_sets_174 rfl (lv_at hl 4 rfl) ?_
                            refine m_iast (1016) hx hb hE hM hS (hJ.2 16 (by decide)).1 rfl (vp_in_iff.mpr (by omega)) dX10_sets_175 (fun H locs I20 eI20 hM hS => ?_)
                            subst eI20
                            have hI := hI.putF (n := 1016) (k := ((a0).toNatClampNeg)) (v := a2) rfl
                            have hK := hK.put (n := 1016) (k := ((a0).toNatClampNeg)) (v := a2) (by first | rfl | simp [inR])
                            refine lv_iload hx hb dX10_sets_176 (lv_at hl 0 rfl) ?_
                            exact m_iret hx hb hr hlocks hM hS (Nat.le_of_ble_eq_true rfl) (Nat.le_of_ble_eq_true rfl) ⟨_, _, rfl, hI, hK⟩ dX10_sets_178
                          · have hc19 := c19
                            have q19 := q_eq hc19
                            refine lv_aload_n hx hb dX10_sets_159 rfl (lv_at hl 1 rfl) ?_
                            refine m_getr (1000) 15 (1015) hx hb hts hown hE oc10 hM hJ.1 rfl (by decide) rfl (hJ.2 15 (by decide)).2 (by decide) tb_1192 dX10_sets_160 ?_
                            refine lv_iload_n hx hb dX10_sets_163 rfl (lv_at hl 2 rfl) ?_
                            refine lv_iload_n hx hb dX10_sets_164 rfl (lv_at hl 4 rfl) ?_
                            refine m_iast (1015) hx hb hE hM hS (hJ.2 15 (by decide)).1 rfl (vp_in_iff.mpr (by omega)) dX10_sets_165 (fun H locs I21 eI21 hM hS => ?_)
                            subst eI21
                            have hI := hI.putF (n := 1015) (k := ((a0).toNatClampNeg)) (v := a2) rfl
                            have hK := hK.put (n := 1015) (k := ((a0).toNatClampNeg)) (v := a2) (by first | rfl | simp [inR])
                            refine lv_goto (tgt := 176) hx hb dX10_sets_166 (by decide) ?_
                            refine lv_iload hx hb dX10_sets_176 (lv_at hl 0 rfl) ?_
                            exact m_iret hx hb hr hlocks hM hS (Nat.le_of_ble_eq_true rfl) (Nat.le_of_ble_eq_true rfl) ⟨_, _, rfl, hI, hK⟩ dX10_sets_178
                        · have hc18 := c18
                          have q18 := q_eq hc18
                          refine lv_aload_n hx hb dX10_sets_144 rfl (lv_at hl 1 rfl) ?_
                          refine m_getr (1000) 14 (1014) hx hb hts hown hE oc10 hM hJ.1 rfl (by decide) rfl (hJ.2 14 (by decide)).2 (by decide) tb_1191 dX10_sets_145 ?_
                          refine lv_iload_n hx hb dX10_sets_148 rfl (lv_at hl 2 rfl) ?_
                          refine lv_iload_n hx hb dX10_sets_149 rfl (lv_at hl 4 rfl) ?_
                          refine m_iast (1014) hx hb hE hM hS (hJ.2 14 (by decide)).1 rfl (vp_in_iff.mpr (by omega)) dX10_sets_150 (fun H locs I22 eI22 hM hS => ?_)
                          subst eI22
                          have hI := hI.putF (n := 1014) (k := ((a0).toNatClampNeg)) (v := a2) rfl
                          have hK := hK.put (n := 1014) (k := ((a0).toNatClampNeg)) (v := a2) (by first | rfl | simp [inR])
                          refine lv_goto (tgt := 176) hx hb dX10_sets_151 (by decide) ?_
                          refine lv_iload hx hb dX10_sets_176 (lv_at hl 0 rfl) ?_
                          exact m_iret hx hb hr hlocks hM hS (Nat.le_of_ble_eq_true rfl) (Nat.le_of_ble_eq_true rfl) ⟨_, _, rfl, hI, hK⟩ dX10_sets_178
                      · have hc17 := c17
                        have q17 := q_eq hc17
                        refine lv_aload_n hx hb dX10_sets_129 rfl (lv_at hl 1 rfl) ?_
                        refine m_getr (1000) 9 (1009) hx hb hts hown hE oc10 hM hJ.1 rfl (by decide) rfl (hJ.2 9 (by decide)).2 (by decide) tb_1186 dX10_sets_130 ?_
                        refine lv_iload_n hx hb dX10_sets_133 rfl (lv_at hl 2 rfl) ?_
                        refine lv_iload_n hx hb dX10_sets_134 rfl (lv_at hl 4 rfl) ?_
                        refine m_iast (1009) hx hb hE hM hS (hJ.2 9 (by decide)).1 rfl (vp_in_iff.mpr (by omega)) dX10_sets_135 (fun H locs I23 eI23 hM hS => ?_)
                        subst eI23
                        have hI := hI.putF (n := 1009) (k := ((a0).toNatClampNeg)) (v := a2) rfl
                        have hK := hK.put (n := 1009) (k := ((a0).toNatClampNeg)) (v := a2) (by first | rfl | simp [inR])
                        refine lv_goto (tgt := 176) hx hb dX10_sets_136 (by decide) ?_
                        refine lv_iload hx hb dX10_sets_176 (lv_at hl 0 rfl) ?_
                        exact m_iret hx hb hr hlocks hM hS (Nat.le_of_ble_eq_true rfl) (Nat.le_of_ble_eq_true rfl) ⟨_, _, rfl, hI, hK⟩ dX10_sets_178
                    · have hc16 := c16
                      have q16 := q_eq hc16
                      refine lv_aload_n hx hb dX10_sets_108 rfl (lv_at hl 0 rfl) ?_
                      refine m_getr (1000) 15 (1015) hx hb hts hown hE oc10 hM hJ.1 rfl (by decide) rfl (hJ.2 15 (by decide)).2 (by decide) tb_1192 dX10_sets_109 ?_
                      refine lv_iload_n hx hb dX10_sets_112 rfl (lv_at hl 1 rfl) ?_
                      refine m_iald (1015) hx hb hE hM (hJ.2 15 (by decide)).1 rfl (vp_in_iff.mpr (by omega)) dX10_sets_113 ?_
                      refine lv_goto (tgt := 123) hx hb dX10_sets_114 (by decide) ?_
                      refine lv_istore (lv' := [(4, .int (I (1015) (a0).toNatClampNeg)), (0, .ref (ad (1000))), (1, .int (a0)), (2, .int (a1)), (3, .int (a2))]) hx hb dX10_sets_123 hl (by decide) rfl (fun ls hl => ?_)
                      refine lv_iload_n hx hb dX10_sets_125 rfl (lv_at hl 3 rfl) ?_
                      refine lv_if_ne (tgt := 139) hx hb dX10_sets_126 (by decide) (fun c24 => ?_) (fun c24 => ?_)
                      · have hc24 := c24
                        have q24 := q_ne hc24
                        refine lv_iload_n hx hb dX10_sets_139 rfl (lv_at hl 3 rfl) ?_
                        refine lv_iconst (v := (1)) hx hb dX10_sets_140 (by decide) ?_
                        refine lv_icmp_ne (tgt := 154) hx hb dX10_sets_141 (by decide) (fun c25 => ?_) (fun c25 => ?_)
                        · have hc25 := c25
                          have q25 := q_ne hc25
                          refine lv_iload_n hx hb dX10_sets_154 rfl (lv_at hl 3 rfl) ?_
                          refine lv_iconst (v := (2)) hx hb dX10_sets_155 (by decide) ?_
                          refine lv_icmp_ne (tgt := 169) hx hb dX10_sets_156 (by decide) (fun c26 => ?_) (fun c26 => ?_)
                          · have hc26 := c26
                            have q26 := q_ne hc26
                            refine lv_aload_n hx hb dX10_sets_169 rfl (lv_at hl 1 rfl) ?_
                            refine m_getr (1000) 16 (1016) hx hb hts hown hE oc10 hM hJ.1 rfl (by decide) rfl (hJ.2 16 (by decide)).2 (by decide) tb_1193 dX10_sets_170 ?_
                            refine lv_iload_n hx hb dX10_sets_173 rfl (lv_at hl 2 rfl) ?_
                            refine lv_iload_n hx hb dX10_sets_174 rfl (lv_at hl 4 rfl) ?_
                            refine m_iast (1016) hx hb hE hM hS (hJ.2 16 (by decide)).1 rfl (vp_in_iff.mpr (by omega)) dX10_sets_175 (fun H locs I27 eI27 hM hS => ?_)
                            subst eI27
                            have hI := hI.putF (n := 1016) (k := ((a0).toNatClampNeg)) (v := a2) rfl
                            have hK := hK.put (n := 1016) (k := ((a0).toNatClampNeg)) (v := a2) (by first | rfl | simp [inR])
                            refine lv_iload hx hb dX10_sets_176 (lv_at hl 0 rfl) ?_
                            exact m_iret hx hb hr hlocks hM hS (Nat.le_of_ble_eq_true rfl) (Nat.le_of_ble_eq_true rfl) ⟨_, _, rfl, hI, hK⟩ dX10_sets_178
                          · have hc26 := c26
                            have q26 := q_eq hc26
                            refine lv_aload_n hx hb dX10_sets_159 rfl (lv_at hl 1 rfl) ?_
                            refine m_getr (1000) 15 (1015) hx hb hts hown hE oc10 hM hJ.1 rfl (by decide) rfl (hJ.2 15 (by decide)).2 (by decide) tb_1192 dX10_sets_160 ?_
                            refine lv_iload_n hx hb dX10_sets_163 rfl (lv_at hl 2 rfl) ?_
                            refine lv_iload_n hx hb dX10_sets_164 rfl (lv_at hl 4 rfl) ?_
                            refine m_iast (1015) hx hb hE hM hS (hJ.2 15 (by decide)).1 rfl (vp_in_iff.mpr (by omega)) dX10_sets_165 (fun H locs I28 eI28 hM hS => ?_)
                            subst eI28
                            have hI := hI.putF (n := 1015) (k := ((a0).toNatClampNeg)) (v := a2) rfl
                            have hK := hK.put (n := 1015) (k := ((a0).toNatClampNeg)) (v := a2) (by first | rfl | simp [inR])
                            refine lv_goto (tgt := 176) hx hb dX10_sets_166 (by decide) ?_
                            refine lv_iload hx hb dX10_sets_176 (lv_at hl 0 rfl) ?_
                            exact m_iret hx hb hr hlocks hM hS (Nat.le_of_ble_eq_true rfl) (Nat.le_of_ble_eq_true rfl) ⟨_, _, rfl, hI, hK⟩ dX10_sets_178
                        · have hc25 := c25
                          have q25 := q_eq hc25
                          refine lv_aload_n hx hb dX10_sets_144 rfl (lv_at hl 1 rfl) ?_
                          refine m_getr (1000) 14 (1014) hx hb hts hown hE oc10 hM hJ.1 rfl (by decide) rfl (hJ.2 14 (by decide)).2 (by decide) tb_1191 dX10_sets_145 ?_
                          refine lv_iload_n hx hb dX10_sets_148 rfl (lv_at hl 2 rfl) ?_
                          refine lv_iload_n hx hb dX10_sets_149 rfl (lv_at hl 4 rfl) ?_
                          refine m_iast (1014) hx hb hE hM hS (hJ.2 14 (by decide)).1 rfl (vp_in_iff.mpr (by omega)) dX10_sets_150 (fun H locs I29 eI29 hM hS => ?_)
                          subst eI29
                          have hI := hI.putF (n := 1014) (k := ((a0).toNatClampNeg)) (v := a2) rfl
                          have hK := hK.put (n := 1014) (k := ((a0).toNatClampNeg)) (v := a2) (by first | rfl | simp [inR])
                          refine lv_goto (tgt := 176) hx hb dX10_sets_151 (by decide) ?_
                          refine lv_iload hx hb dX10_sets_176 (lv_at hl 0 rfl) ?_
                          exact m_iret hx hb hr hlocks hM hS (Nat.le_of_ble_eq_true rfl) (Nat.le_of_ble_eq_true rfl) ⟨_, _, rfl, hI, hK⟩ dX10_sets_178
                      · have hc24 := c24
                        have q24 := q_eq hc24
                        refine lv_aload_n hx hb dX10_sets_129 rfl (lv_at hl 1 rfl) ?_
                        refine m_getr (1000) 9 (1009) hx hb hts hown hE oc10 hM hJ.1 rfl (by decide) rfl (hJ.2 9 (by decide)).2 (by decide) tb_1186 dX10_sets_130 ?_
                        refine lv_iload_n hx hb dX10_sets_133 rfl (lv_at hl 2 rfl) ?_
                        refine lv_iload_n hx hb dX10_sets_134 rfl (lv_at hl 4 rfl) ?_
                        refine m_iast (1009) hx hb hE hM hS (hJ.2 9 (by decide)).1 rfl (vp_in_iff.mpr (by omega)) dX10_sets_135 (fun H locs I30 eI30 hM hS => ?_)
                        subst eI30
                        have hI := hI.putF (n := 1009) (k := ((a0).toNatClampNeg)) (v := a2) rfl
                        have hK := hK.put (n := 1009) (k := ((a0).toNatClampNeg)) (v := a2) (by first | rfl | simp [inR])
                        refine lv_goto (tgt := 176) hx hb dX10_sets_136 (by decide) ?_
                        refine lv_iload hx hb dX10_sets_176 (lv_at hl 0 rfl) ?_
                        exact m_iret hx hb hr hlocks hM hS (Nat.le_of_ble_eq_true rfl) (Nat.le_of_ble_eq_true rfl) ⟨_, _, rfl, hI, hK⟩ dX10_sets_178
                  · have hc15 := c15
                    have q15 := q_eq hc15
                    refine lv_aload_n hx hb dX10_sets_94 rfl (lv_at hl 0 rfl) ?_
                    refine m_getr (1000) 14 (1014) hx hb hts hown hE oc10 hM hJ.1 rfl (by decide) rfl (hJ.2 14 (by decide)).2 (by decide) tb_1191 dX10_sets_95 ?_
                    refine lv_iload_n hx hb dX10_sets_98 rfl (lv_at hl 1 rfl) ?_
                    refine m_iald (1014) hx hb hE hM (hJ.2 14 (by decide)).1 rfl (vp_in_iff.mpr (by omega)) dX10_sets_99 ?_
                    refine lv_goto (tgt := 123) hx hb dX10_sets_100 (by decide) ?_
                    refine lv_istore (lv' := [(4, .int (I (1014) (a0).toNatClampNeg)), (0, .ref (ad (1000))), (1, .int (a0)), (2, .int (a1)), (3, .int (a2))]) hx hb dX10_sets_123 hl (by decide) rfl (fun ls hl => ?_)
                    refine lv_iload_n hx hb dX10_sets_125 rfl (lv_at hl 3 rfl) ?_
                    refine lv_if_ne (tgt := 139) hx hb dX10_sets_126 (by decide) (fun c31 => ?_) (fun c31 => ?_)
                    · have hc31 := c31
                      have q31 := q_ne hc31
                      refine lv_iload_n hx hb dX10_sets_139 rfl (lv_at hl 3 rfl) ?_
                      refine lv_iconst (v := (1)) hx hb dX10_sets_140 (by decide) ?_
                      refine lv_icmp_ne (tgt := 154) hx hb dX10_sets_141 (by decide) (fun c32 => ?_) (fun c32 => ?_)
                      · have hc32 := c32
                        have q32 := q_ne hc32
                        refine lv_iload_n hx hb dX10_sets_154 rfl (lv_at hl 3 rfl) ?_
                        refine lv_iconst (v := (2)) hx hb dX10_sets_155 (by decide) ?_
                        refine lv_icmp_ne (tgt := 169) hx hb dX10_sets_156 (by decide) (fun c33 => ?_) (fun c33 => ?_)
                        · have hc33 := c33
                          have q33 := q_ne hc33
                          refine lv_aload_n hx hb dX10_sets_169 rfl (lv_at hl 1 rfl) ?_
                          refine m_getr (1000) 16 (1016) hx hb hts hown hE oc10 hM hJ.1 rfl (by decide) rfl (hJ.2 16 (by decide)).2 (by decide) tb_1193 dX10_sets_170 ?_
                          refine lv_iload_n hx hb dX10_sets_173 rfl (lv_at hl 2 rfl) ?_
                          refine lv_iload_n hx hb dX10_sets_174 rfl (lv_at hl 4 rfl) ?_
                          refine m_iast (1016) hx hb hE hM hS (hJ.2 16 (by decide)).1 rfl (vp_in_iff.mpr (by omega)) dX10_sets_175 (fun H locs I34 eI34 hM hS => ?_)
                          subst eI34
                          have hI := hI.putF (n := 1016) (k := ((a0).toNatClampNeg)) (v := a2) rfl
                          have hK := hK.put (n := 1016) (k := ((a0).toNatClampNeg)) (v := a2) (by first | rfl | simp [inR])
                          refine lv_iload hx hb dX10_sets_176 (lv_at hl 0 rfl) ?_
                          exact m_iret hx hb hr hlocks hM hS (Nat.le_of_ble_eq_true rfl) (Nat.le_of_ble_eq_true rfl) ⟨_, _, rfl, hI, hK⟩ dX10_sets_178
                        · have hc33 := c33
                          have q33 := q_eq hc33
                          refine lv_aload_n hx hb dX10_sets_159 rfl (lv_at hl 1 rfl) ?_
                          refine m_getr (1000) 15 (1015) hx hb hts hown hE oc10 hM hJ.1 rfl (by decide) rfl (hJ.2 15 (by decide)).2 (by decide) tb_1192 dX10_sets_160 ?_
                          refine lv_iload_n hx hb dX10_sets_163 rfl (lv_at hl 2 rfl) ?_
                          refine lv_iload_n hx hb dX10_sets_164 rfl (lv_at hl 4 rfl) ?_
                          refine m_iast (1015) hx hb hE hM hS (hJ.2 15 (by decide)).1 rfl (vp_in_iff.mpr (by omega)) dX10_sets_165 (fun H locs I35 eI35 hM hS => ?_)
                          subst eI35
                          have hI := hI.putF (n := 1015) (k := ((a0).toNatClampNeg)) (v := a2) rfl
                          have hK := hK.put (n := 1015) (k := ((a0).toNatClampNeg)) (v := a2) (by first | rfl | simp [inR])
                          refine lv_goto (tgt := 176) hx hb dX10_sets_166 (by decide) ?_
                          refine lv_iload hx hb dX10_sets_176 (lv_at hl 0 rfl) ?_
                          exact m_iret hx hb hr hlocks hM hS (Nat.le_of_ble_eq_true rfl) (Nat.le_of_ble_eq_true rfl) ⟨_, _, rfl, hI, hK⟩ dX10_sets_178
                      · have hc32 := c32
                        have q32 := q_eq hc32
                        refine lv_aload_n hx hb dX10_sets_144 rfl (lv_at hl 1 rfl) ?_
                        refine m_getr (1000) 14 (1014) hx hb hts hown hE oc10 hM hJ.1 rfl (by decide) rfl (hJ.2 14 (by decide)).2 (by decide) tb_1191 dX10_sets_145 ?_
                        refine lv_iload_n hx hb dX10_sets_148 rfl (lv_at hl 2 rfl) ?_
                        refine lv_iload_n hx hb dX10_sets_149 rfl (lv_at hl 4 rfl) ?_
                        refine m_iast (1014) hx hb hE hM hS (hJ.2 14 (by decide)).1 rfl (vp_in_iff.mpr (by omega)) dX10_sets_150 (fun H locs I36 eI36 hM hS => ?_)
                        subst eI36
                        have hI := hI.putF (n := 1014) (k := ((a0).toNatClampNeg)) (v := a2) rfl
                        have hK := hK.put (n := 1014) (k := ((a0).toNatClampNeg)) (v := a2) (by first | rfl | simp [inR])
                        refine lv_goto (tgt := 176) hx hb dX10_sets_151 (by decide) ?_
                        refine lv_iload hx hb dX10_sets_176 (lv_at hl 0 rfl) ?_
                        exact m_iret hx hb hr hlocks hM hS (Nat.le_of_ble_eq_true rfl) (Nat.le_of_ble_eq_true rfl) ⟨_, _, rfl, hI, hK⟩ dX10_sets_178
                    · have hc31 := c31
                      have q31 := q_eq hc31
                      refine lv_aload_n hx hb dX10_sets_129 rfl (lv_at hl 1 rfl) ?_
                      refine m_getr (1000) 9 (1009) hx hb hts hown hE oc10 hM hJ.1 rfl (by decide) rfl (hJ.2 9 (by decide)).2 (by decide) tb_1186 dX10_sets_130 ?_
                      refine lv_iload_n hx hb dX10_sets_133 rfl (lv_at hl 2 rfl) ?_
                      refine lv_iload_n hx hb dX10_sets_134 rfl (lv_at hl 4 rfl) ?_
                      refine m_iast (1009) hx hb hE hM hS (hJ.2 9 (by decide)).1 rfl (vp_in_iff.mpr (by omega)) dX10_sets_135 (fun H locs I37 eI37 hM hS => ?_)
                      subst eI37
                      have hI := hI.putF (n := 1009) (k := ((a0).toNatClampNeg)) (v := a2) rfl
                      have hK := hK.put (n := 1009) (k := ((a0).toNatClampNeg)) (v := a2) (by first | rfl | simp [inR])
                      refine lv_goto (tgt := 176) hx hb dX10_sets_136 (by decide) ?_
                      refine lv_iload hx hb dX10_sets_176 (lv_at hl 0 rfl) ?_
                      exact m_iret hx hb hr hlocks hM hS (Nat.le_of_ble_eq_true rfl) (Nat.le_of_ble_eq_true rfl) ⟨_, _, rfl, hI, hK⟩ dX10_sets_178
                · have hc14 := c14
                  have q14 := q_eq hc14
                  refine lv_aload_n hx hb dX10_sets_80 rfl (lv_at hl 0 rfl) ?_
                  refine m_getr (1000) 9 (1009) hx hb hts hown hE oc10 hM hJ.1 rfl (by decide) rfl (hJ.2 9 (by decide)).2 (by decide) tb_1186 dX10_sets_81 ?_
                  refine lv_iload_n hx hb dX10_sets_84 rfl (lv_at hl 1 rfl) ?_
                  refine m_iald (1009) hx hb hE hM (hJ.2 9 (by decide)).1 rfl (vp_in_iff.mpr (by omega)) dX10_sets_85 ?_
                  refine lv_goto (tgt := 123) hx hb dX10_sets_86 (by decide) ?_
                  refine lv_istore (lv' := [(4, .int (I (1009) (a0).toNatClampNeg)), (0, .ref (ad (1000))), (1, .int (a0)), (2, .int (a1)), (3, .int (a2))]) hx hb dX10_sets_123 hl (by decide) rfl (fun ls hl => ?_)
                  refine lv_iload_n hx hb dX10_sets_125 rfl (lv_at hl 3 rfl) ?_
                  refine lv_if_ne (tgt := 139) hx hb dX10_sets_126 (by decide) (fun c38 => ?_) (fun c38 => ?_)
                  · have hc38 := c38
                    have q38 := q_ne hc38
                    refine lv_iload_n hx hb dX10_sets_139 rfl (lv_at hl 3 rfl) ?_
                    refine lv_iconst (v := (1)) hx hb dX10_sets_140 (by decide) ?_
                    refine lv_icmp_ne (tgt := 154) hx hb dX10_sets_141 (by decide) (fun c39 => ?_) (fun c39 => ?_)
                    · have hc39 := c39
                      have q39 := q_ne hc39
                      refine lv_iload_n hx hb dX10_sets_154 rfl (lv_at hl 3 rfl) ?_
                      refine lv_iconst (v := (2)) hx hb dX10_sets_155 (by decide) ?_
                      refine lv_icmp_ne (tgt := 169) hx hb dX10_sets_156 (by decide) (fun c40 => ?_) (fun c40 => ?_)
                      · have hc40 := c40
                        have q40 := q_ne hc40
                        refine lv_aload_n hx hb dX10_sets_169 rfl (lv_at hl 1 rfl) ?_
                        refine m_getr (1000) 16 (1016) hx hb hts hown hE oc10 hM hJ.1 rfl (by decide) rfl (hJ.2 16 (by decide)).2 (by decide) tb_1193 dX10_sets_170 ?_
                        refine lv_iload_n hx hb dX10_sets_173 rfl (lv_at hl 2 rfl) ?_
                        refine lv_iload_n hx hb dX10_sets_174 rfl (lv_at hl 4 rfl) ?_
                        refine m_iast (1016) hx hb hE hM hS (hJ.2 16 (by decide)).1 rfl (vp_in_iff.mpr (by omega)) dX10_sets_175 (fun H locs I41 eI41 hM hS => ?_)
                        subst eI41
                        have hI := hI.putF (n := 1016) (k := ((a0).toNatClampNeg)) (v := a2) rfl
                        have hK := hK.put (n := 1016) (k := ((a0).toNatClampNeg)) (v := a2) (by first | rfl | simp [inR])
                        refine lv_iload hx hb dX10_sets_176 (lv_at hl 0 rfl) ?_
                        exact m_iret hx hb hr hlocks hM hS (Nat.le_of_ble_eq_true rfl) (Nat.le_of_ble_eq_true rfl) ⟨_, _, rfl, hI, hK⟩ dX10_sets_178
                      · have hc40 := c40
                        have q40 := q_eq hc40
                        refine lv_aload_n hx hb dX10_sets_159 rfl (lv_at hl 1 rfl) ?_
                        refine m_getr (1000) 15 (1015) hx hb hts hown hE oc10 hM hJ.1 rfl (by decide) rfl (hJ.2 15 (by decide)).2 (by decide) tb_1192 dX10_sets_160 ?_
                        refine lv_iload_n hx hb dX10_sets_163 rfl (lv_at hl 2 rfl) ?_
                        refine lv_iload_n hx hb dX10_sets_164 rfl (lv_at hl 4 rfl) ?_
                        refine m_iast (1015) hx hb hE hM hS (hJ.2 15 (by decide)).1 rfl (vp_in_iff.mpr (by omega)) dX10_sets_165 (fun H locs I42 eI42 hM hS => ?_)
                        subst eI42
                        have hI := hI.putF (n := 1015) (k := ((a0).toNatClampNeg)) (v := a2) rfl
                        have hK := hK.put (n := 1015) (k := ((a0).toNatClampNeg)) (v := a2) (by first | rfl | simp [inR])
                        refine lv_goto (tgt := 176) hx hb dX10_sets_166 (by decide) ?_
                        refine lv_iload hx hb dX10_sets_176 (lv_at hl 0 rfl) ?_
                        exact m_iret hx hb hr hlocks hM hS (Nat.le_of_ble_eq_true rfl) (Nat.le_of_ble_eq_true rfl) ⟨_, _, rfl, hI, hK⟩ dX10_sets_178
                    · have hc39 := c39
                      have q39 := q_eq hc39
                      refine lv_aload_n hx hb dX10_sets_144 rfl (lv_at hl 1 rfl) ?_
                      refine m_getr (1000) 14 (1014) hx hb hts hown hE oc10 hM hJ.1 rfl (by decide) rfl (hJ.2 14 (by decide)).2 (by decide) tb_1191 dX10_sets_145 ?_
                      refine lv_iload_n hx hb dX10_sets_148 rfl (lv_at hl 2 rfl) ?_
                      refine lv_iload_n hx hb dX10_sets_149 rfl (lv_at hl 4 rfl) ?_
                      refine m_iast (1014) hx hb hE hM hS (hJ.2 14 (by decide)).1 rfl (vp_in_iff.mpr (by omega)) dX10_sets_150 (fun H locs I43 eI43 hM hS => ?_)
                      subst eI43
                      have hI := hI.putF (n := 1014) (k := ((a0).toNatClampNeg)) (v := a2) rfl
                      have hK := hK.put (n := 1014) (k := ((a0).toNatClampNeg)) (v := a2) (by first | rfl | simp [inR])
                      refine lv_goto (tgt := 176) hx hb dX10_sets_151 (by decide) ?_
                      refine lv_iload hx hb dX10_sets_176 (lv_at hl 0 rfl) ?_
                      exact m_iret hx hb hr hlocks hM hS (Nat.le_of_ble_eq_true rfl) (Nat.le_of_ble_eq_true rfl) ⟨_, _, rfl, hI, hK⟩ dX10_sets_178
                  · have hc38 := c38
                    have q38 := q_eq hc38
                    refine lv_aload_n hx hb dX10_sets_129 rfl (lv_at hl 1 rfl) ?_
                    refine m_getr (1000) 9 (1009) hx hb hts hown hE oc10 hM hJ.1 rfl (by decide) rfl (hJ.2 9 (by decide)).2 (by decide) tb_1186 dX10_sets_130 ?_
                    refine lv_iload_n hx hb dX10_sets_133 rfl (lv_at hl 2 rfl) ?_
                    refine lv_iload_n hx hb dX10_sets_134 rfl (lv_at hl 4 rfl) ?_
                    refine m_iast (1009) hx hb hE hM hS (hJ.2 9 (by decide)).1 rfl (vp_in_iff.mpr (by omega)) dX10_sets_135 (fun H locs I44 eI44 hM hS => ?_)
                    subst eI44
                    have hI := hI.putF (n := 1009) (k := ((a0).toNatClampNeg)) (v := a2) rfl
                    have hK := hK.put (n := 1009) (k := ((a0).toNatClampNeg)) (v := a2) (by first | rfl | simp [inR])
                    refine lv_goto (tgt := 176) hx hb dX10_sets_136 (by decide) ?_
                    refine lv_iload hx hb dX10_sets_176 (lv_at hl 0 rfl) ?_
                    exact m_iret hx hb hr hlocks hM hS (Nat.le_of_ble_eq_true rfl) (Nat.le_of_ble_eq_true rfl) ⟨_, _, rfl, hI, hK⟩ dX10_sets_178
              · have hc13 := c13
                have q13 := xr12.f hc13
                refine lv_bipush (v := (-2)) hx hb dX10_sets_73 (by decide) ?_
                exact m_iret hx hb hr hlocks hM hS (Nat.le_of_ble_eq_true rfl) (Nat.le_of_ble_eq_true rfl) ⟨_, _, rfl, hI, hK⟩ dX10_sets_75
            · have hc11 := c11
              have q11 := q_eq hc11
              refine lv_lconst (v := 1) hx hb dX10_sets_60 (by decide) ?_
              refine lv_goto (tgt := 67) hx hb dX10_sets_61 (by decide) ?_
              refine m_calli (m_runS (As := [.long (v7), .long (0), .long (1)]) (rest := []) hx hb hml hown hts hE hM hS hA ce_X10_in tb_1425 (V_X10_in l D A ad ns I L G (v7) (0) (1) hI) rfl rfl ⟨Nat.le_of_ble_eq_true rfl, Nat.le_of_ble_eq_true rfl⟩  rfl hl.1 rfl (Nat.le_of_ble_eq_true rfl) dX10_sets_67 ⟨Nat.le_of_ble_eq_true rfl, Nat.le_of_ble_eq_true rfl⟩) hS (fun r45 u H locs hw hM hS => ?_)
              obtain ⟨rfl, xr45⟩ := hw
              have hM : Mem D A ad ns I L G H := hM
              have yr45 := bo01 xr45
              refine lv_if_ne (tgt := 76) hx hb dX10_sets_70 (by decide) (fun c46 => ?_) (fun c46 => ?_)
              · have hc46 := c46
                have q46 := xr45.t hc46
                refine lv_iload_n hx hb dX10_sets_76 rfl (lv_at hl 2 rfl) ?_
                refine lv_if_ne (tgt := 89) hx hb dX10_sets_77 (by decide) (fun c47 => ?_) (fun c47 => ?_)
                · have hc47 := c47
                  have q47 := q_ne hc47
                  refine lv_iload_n hx hb dX10_sets_89 rfl (lv_at hl 2 rfl) ?_
                  refine lv_iconst (v := (1)) hx hb dX10_sets_90 (by decide) ?_
                  refine lv_icmp_ne (tgt := 103) hx hb dX10_sets_91 (by decide) (fun c48 => ?_) (fun c48 => ?_)
                  · have hc48 := c48
                    have q48 := q_ne hc48
                    refine lv_iload_n hx hb dX10_sets_103 rfl (lv_at hl 2 rfl) ?_
                    refine lv_iconst (v := (2)) hx hb dX10_sets_104 (by decide) ?_
                    refine lv_icmp_ne (tgt := 117) hx hb dX10_sets_105 (by decide) (fun c49 => ?_) (fun c49 => ?_)
                    · have hc49 := c49
                      have q49 := q_ne hc49
                      refine lv_aload_n hx hb dX10_sets_117 rfl (lv_at hl 0 rfl) ?_
                      refine m_getr (1000) 16 (1016) hx hb hts hown hE oc10 hM hJ.1 rfl (by decide) rfl (hJ.2 16 (by decide)).2 (by decide) tb_1193 dX10_sets_118 ?_
                      refine lv_iload_n hx hb dX10_sets_121 rfl (lv_at hl 1 rfl) ?_
                      refine m_iald (1016) hx hb hE hM (hJ.2 16 (by decide)).1 rfl (vp_in_iff.mpr (by omega)) dX10_sets_122 ?_
                      refine lv_istore (lv' := [(4, .int (I (1016) (a0).toNatClampNeg)), (0, .ref (ad (1000))), (1, .int (a0)), (2, .int (a1)), (3, .int (a2))]) hx hb dX10_sets_123 hl (by decide) rfl (fun ls hl => ?_)
                      refine lv_iload_n hx hb dX10_sets_125 rfl (lv_at hl 3 rfl) ?_
                      refine lv_if_ne (tgt := 139) hx hb dX10_sets_126 (by decide) (fun c50 => ?_) (fun c50 => ?_)
                      · have hc50 := c50
                        have q50 := q_ne hc50
                        refine lv_iload_n hx hb dX10_sets_139 rfl (lv_at hl 3 rfl) ?_
                        refine lv_iconst (v := (1)) hx hb dX10_sets_140 (by decide) ?_
                        refine lv_icmp_ne (tgt := 154) hx hb dX10_sets_141 (by decide) (fun c51 => ?_) (fun c51 => ?_)
                        · have hc51 := c51
                          have q51 := q_ne hc51
                          refine lv_iload_n hx hb dX10_sets_154 rfl (lv_at hl 3 rfl) ?_
                          refine lv_iconst (v := (2)) hx hb dX10_sets_155 (by decide) ?_
                          refine lv_icmp_ne (tgt := 169) hx hb dX10_sets_156 (by decide) (fun c52 => ?_) (fun c52 => ?_)
                          · have hc52 := c52
                            have q52 := q_ne hc52
                            refine lv_aload_n hx hb dX10_sets_169 rfl (lv_at hl 1 rfl) ?_
                            refine m_getr (1000) 16 (1016) hx hb hts hown hE oc10 hM hJ.1 rfl (by decide) rfl (hJ.2 16 (by decide)).2 (by decide) tb_1193 dX10_sets_170 ?_
                            refine lv_iload_n hx hb dX10_sets_173 rfl (lv_at hl 2 rfl) ?_
                            refine lv_iload_n hx hb dX10_sets_174 rfl (lv_at hl 4 rfl) ?_
                            refine m_iast (1016) hx hb hE hM hS (hJ.2 16 (by decide)).1 rfl (vp_in_iff.mpr (by omega)) dX10_sets_175 (fun H locs I53 eI53 hM hS => ?_)
                            subst eI53
                            have hI := hI.putF (n := 1016) (k := ((a0).toNatClampNeg)) (v := a2) rfl
                            have hK := hK.put (n := 1016) (k := ((a0).toNatClampNeg)) (v := a2) (by first | rfl | simp [inR])
                            refine lv_iload hx hb dX10_sets_176 (lv_at hl 0 rfl) ?_
                            exact m_iret hx hb hr hlocks hM hS (Nat.le_of_ble_eq_true rfl) (Nat.le_of_ble_eq_true rfl) ⟨_, _, rfl, hI, hK⟩ dX10_sets_178
                          · have hc52 := c52
                            have q52 := q_eq hc52
                            refine lv_aload_n hx hb dX10_sets_159 rfl (lv_at hl 1 rfl) ?_
                            refine m_getr (1000) 15 (1015) hx hb hts hown hE oc10 hM hJ.1 rfl (by decide) rfl (hJ.2 15 (by decide)).2 (by decide) tb_1192 dX10_sets_160 ?_
                            refine lv_iload_n hx hb dX10_sets_163 rfl (lv_at hl 2 rfl) ?_
                            refine lv_iload_n hx hb dX10_sets_164 rfl (lv_at hl 4 rfl) ?_
                            refine m_iast (1015) hx hb hE hM hS (hJ.2 15 (by decide)).1 rfl (vp_in_iff.mpr (by omega)) dX10_sets_165 (fun H locs I54 eI54 hM hS => ?_)
                            subst eI54
                            have hI := hI.putF (n := 1015) (k := ((a0).toNatClampNeg)) (v := a2) rfl
                            have hK := hK.put (n := 1015) (k := ((a0).toNatClampNeg)) (v := a2) (by first | rfl | simp [inR])
                            refine lv_goto (tgt := 176) hx hb dX10_sets_166 (by decide) ?_
                            refine lv_iload hx hb dX10_sets_176 (lv_at hl 0 rfl) ?_
                            exact m_iret hx hb hr hlocks hM hS (Nat.le_of_ble_eq_true rfl) (Nat.le_of_ble_eq_true rfl) ⟨_, _, rfl, hI, hK⟩ dX10_sets_178
                        · have hc51 := c51
                          have q51 := q_eq hc51
                          refine lv_aload_n hx hb dX10_sets_144 rfl (lv_at hl 1 rfl) ?_
                          refine m_getr (1000) 14 (1014) hx hb hts hown hE oc10 hM hJ.1 rfl (by decide) rfl (hJ.2 14 (by decide)).2 (by decide) tb_1191 dX10_sets_145 ?_
                          refine lv_iload_n hx hb dX10_sets_148 rfl (lv_at hl 2 rfl) ?_
                          refine lv_iload_n hx hb dX10_sets_149 rfl (lv_at hl 4 rfl) ?_
                          refine m_iast (1014) hx hb hE hM hS (hJ.2 14 (by decide)).1 rfl (vp_in_iff.mpr (by omega)) dX10_sets_150 (fun H locs I55 eI55 hM hS => ?_)
                          subst eI55
                          have hI := hI.putF (n := 1014) (k := ((a0).toNatClampNeg)) (v := a2) rfl
                          have hK := hK.put (n := 1014) (k := ((a0).toNatClampNeg)) (v := a2) (by first | rfl | simp [inR])
                          refine lv_goto (tgt := 176) hx hb dX10_sets_151 (by decide) ?_
                          refine lv_iload hx hb dX10_sets_176 (lv_at hl 0 rfl) ?_
                          exact m_iret hx hb hr hlocks hM hS (Nat.le_of_ble_eq_true rfl) (Nat.le_of_ble_eq_true rfl) ⟨_, _, rfl, hI, hK⟩ dX10_sets_178
                      · have hc50 := c50
                        have q50 := q_eq hc50
                        refine lv_aload_n hx hb dX10_sets_129 rfl (lv_at hl 1 rfl) ?_
                        refine m_getr (1000) 9 (1009) hx hb hts hown hE oc10 hM hJ.1 rfl (by decide) rfl (hJ.2 9 (by decide)).2 (by decide) tb_1186 dX10_sets_130 ?_
                        refine lv_iload_n hx hb dX10_sets_133 rfl (lv_at hl 2 rfl) ?_
                        refine lv_iload_n hx hb dX10_sets_134 rfl (lv_at hl 4 rfl) ?_
                        refine m_iast (1009) hx hb hE hM hS (hJ.2 9 (by decide)).1 rfl (vp_in_iff.mpr (by omega)) dX10_sets_135 (fun H locs I56 eI56 hM hS => ?_)
                        subst eI56
                        have hI := hI.putF (n := 1009) (k := ((a0).toNatClampNeg)) (v := a2) rfl
                        have hK := hK.put (n := 1009) (k := ((a0).toNatClampNeg)) (v := a2) (by first | rfl | simp [inR])
                        refine lv_goto (tgt := 176) hx hb dX10_sets_136 (by decide) ?_
                        refine lv_iload hx hb dX10_sets_176 (lv_at hl 0 rfl) ?_
                        exact m_iret hx hb hr hlocks hM hS (Nat.le_of_ble_eq_true rfl) (Nat.le_of_ble_eq_true rfl) ⟨_, _, rfl, hI, hK⟩ dX10_sets_178
                    · have hc49 := c49
                      have q49 := q_eq hc49
                      refine lv_aload_n hx hb dX10_sets_108 rfl (lv_at hl 0 rfl) ?_
                      refine m_getr (1000) 15 (1015) hx hb hts hown hE oc10 hM hJ.1 rfl (by decide) rfl (hJ.2 15 (by decide)).2 (by decide) tb_1192 dX10_sets_109 ?_
                      refine lv_iload_n hx hb dX10_sets_112 rfl (lv_at hl 1 rfl) ?_
                      refine m_iald (1015) hx hb hE hM (hJ.2 15 (by decide)).1 rfl (vp_in_iff.mpr (by omega)) dX10_sets_113 ?_
                      refine lv_goto (tgt := 123) hx hb dX10_sets_114 (by decide) ?_
                      refine lv_istore (lv' := [(4, .int (I (1015) (a0).toNatClampNeg)), (0, .ref (ad (1000))), (1, .int (a0)), (2, .int (a1)), (3, .int (a2))]) hx hb dX10_sets_123 hl (by decide) rfl (fun ls hl => ?_)
                      refine lv_iload_n hx hb dX10_sets_125 rfl (lv_at hl 3 rfl) ?_
                      refine lv_if_ne (tgt := 139) hx hb dX10_sets_126 (by decide) (fun c57 => ?_) (fun c57 => ?_)
                      · have hc57 := c57
                        have q57 := q_ne hc57
                        refine lv_iload_n hx hb dX10_sets_139 rfl (lv_at hl 3 rfl) ?_
                        refine lv_iconst (v := (1)) hx hb dX10_sets_140 (by decide) ?_
                        refine lv_icmp_ne (tgt := 154) hx hb dX10_sets_141 (by decide) (fun c58 => ?_) (fun c58 => ?_)
                        · have hc58 := c58
                          have q58 := q_ne hc58
                          refine lv_iload_n hx hb dX10_sets_154 rfl (lv_at hl 3 rfl) ?_
                          refine lv_iconst (v := (2)) hx hb dX10_sets_155 (by decide) ?_
                          refine lv_icmp_ne (tgt := 169) hx hb dX10_sets_156 (by decide) (fun c59 => ?_) (fun c59 => ?_)
                          · have hc59 := c59
                            have q59 := q_ne hc59
                            refine lv_aload_n hx hb dX10_sets_169 rfl (lv_at hl 1 rfl) ?_
                            refine m_getr (1000) 16 (1016) hx hb hts hown hE oc10 hM hJ.1 rfl (by decide) rfl (hJ.2 16 (by decide)).2 (by decide) tb_1193 dX10_sets_170 ?_
                            refine lv_iload_n hx hb dX10_sets_173 rfl (lv_at hl 2 rfl) ?_
                            refine lv_iload_n hx hb dX10_sets_174 rfl (lv_at hl 4 rfl) ?_
                            refine m_iast (1016) hx hb hE hM hS (hJ.2 16 (by decide)).1 rfl (vp_in_iff.mpr (by omega)) dX10_sets_175 (fun H locs I60 eI60 hM hS => ?_)
                            subst eI60
                            have hI := hI.putF (n := 1016) (k := ((a0).toNatClampNeg)) (v := a2) rfl
                            have hK := hK.put (n := 1016) (k := ((a0).toNatClampNeg)) (v := a2) (by first | rfl | simp [inR])
                            refine lv_iload hx hb dX10_sets_176 (lv_at hl 0 rfl) ?_
                            exact m_iret hx hb hr hlocks hM hS (Nat.le_of_ble_eq_true rfl) (Nat.le_of_ble_eq_true rfl) ⟨_, _, rfl, hI, hK⟩ dX10_sets_178
                          · have hc59 := c59
                            have q59 := q_eq hc59
                            refine lv_aload_n hx hb dX10_sets_159 rfl (lv_at hl 1 rfl) ?_
                            refine m_getr (1000) 15 (1015) hx hb hts hown hE oc10 hM hJ.1 rfl (by decide) rfl (hJ.2 15 (by decide)).2 (by decide) tb_1192 dX10_sets_160 ?_
                            refine lv_iload_n hx hb dX10_sets_163 rfl (lv_at hl 2 rfl) ?_
                            refine lv_iload_n hx hb dX10_sets_164 rfl (lv_at hl 4 rfl) ?_
                            refine m_iast (1015) hx hb hE hM hS (hJ.2 15 (by decide)).1 rfl (vp_in_iff.mpr (by omega)) dX10_sets_165 (fun H locs I61 eI61 hM hS => ?_)
                            subst eI61
                            have hI := hI.putF (n := 1015) (k := ((a0).toNatClampNeg)) (v := a2) rfl
                            have hK := hK.put (n := 1015) (k := ((a0).toNatClampNeg)) (v := a2) (by first | rfl | simp [inR])
                            refine lv_goto (tgt := 176) hx hb dX10_sets_166 (by decide) ?_
                            refine lv_iload hx hb dX10_sets_176 (lv_at hl 0 rfl) ?_
                            exact m_iret hx hb hr hlocks hM hS (Nat.le_of_ble_eq_true rfl) (Nat.le_of_ble_eq_true rfl) ⟨_, _, rfl, hI, hK⟩ dX10_sets_178
                        · have hc58 := c58
                          have q58 := q_eq hc58
                          refine lv_aload_n hx hb dX10_sets_144 rfl (lv_at hl 1 rfl) ?_
                          refine m_getr (1000) 14 (1014) hx hb hts hown hE oc10 hM hJ.1 rfl (by decide) rfl (hJ.2 14 (by decide)).2 (by decide) tb_1191 dX10_sets_145 ?_
                          refine lv_iload_n hx hb dX10_sets_148 rfl (lv_at hl 2 rfl) ?_
                          refine lv_iload_n hx hb dX10_sets_149 rfl (lv_at hl 4 rfl) ?_
                          refine m_iast (1014) hx hb hE hM hS (hJ.2 14 (by decide)).1 rfl (vp_in_iff.mpr (by omega)) dX10_sets_150 (fun H locs I62 eI62 hM hS => ?_)
                          subst eI62
                          have hI := hI.putF (n := 1014) (k := ((a0).toNatClampNeg)) (v := a2) rfl
                          have hK := hK.put (n := 1014) (k := ((a0).toNatClampNeg)) (v := a2) (by first | rfl | simp [inR])
                          refine lv_goto (tgt := 176) hx hb dX10_sets_151 (by decide) ?_
                          refine lv_iload hx hb dX10_sets_176 (lv_at hl 0 rfl) ?_
                          exact m_iret hx hb hr hlocks hM hS (Nat.le_of_ble_eq_true rfl) (Nat.le_of_ble_eq_true rfl) ⟨_, _, rfl, hI, hK⟩ dX10_sets_178
                      · have hc57 := c57
                        have q57 := q_eq hc57
                        refine lv_aload_n hx hb dX10_sets_129 rfl (lv_at hl 1 rfl) ?_
                        refine m_getr (1000) 9 (1009) hx hb hts hown hE oc10 hM hJ.1 rfl (by decide) rfl (hJ.2 9 (by decide)).2 (by decide) tb_1186 dX10_sets_130 ?_
                        refine lv_iload_n hx hb dX10_sets_133 rfl (lv_at hl 2 rfl) ?_
                        refine lv_iload_n hx hb dX10_sets_134 rfl (lv_at hl 4 rfl) ?_
                        refine m_iast (1009) hx hb hE hM hS (hJ.2 9 (by decide)).1 rfl (vp_in_iff.mpr (by omega)) dX10_sets_135 (fun H locs I63 eI63 hM hS => ?_)
                        subst eI63
                        have hI := hI.putF (n := 1009) (k := ((a0).toNatClampNeg)) (v := a2) rfl
                        have hK := hK.put (n := 1009) (k := ((a0).toNatClampNeg)) (v := a2) (by first | rfl | simp [inR])
                        refine lv_goto (tgt := 176) hx hb dX10_sets_136 (by decide) ?_
                        refine lv_iload hx hb dX10_sets_176 (lv_at hl 0 rfl) ?_
                        exact m_iret hx hb hr hlocks hM hS (Nat.le_of_ble_eq_true rfl) (Nat.le_of_ble_eq_true rfl) ⟨_, _, rfl, hI, hK⟩ dX10_sets_178
                  · have hc48 := c48
                    have q48 := q_eq hc48
                    refine lv_aload_n hx hb dX10_sets_94 rfl (lv_at hl 0 rfl) ?_
                    refine m_getr (1000) 14 (1014) hx hb hts hown hE oc10 hM hJ.1 rfl (by decide) rfl (hJ.2 14 (by decide)).2 (by decide) tb_1191 dX10_sets_95 ?_
                    refine lv_iload_n hx hb dX10_sets_98 rfl (lv_at hl 1 rfl) ?_
                    refine m_iald (1014) hx hb hE hM (hJ.2 14 (by decide)).1 rfl (vp_in_iff.mpr (by omega)) dX10_sets_99 ?_
                    refine lv_goto (tgt := 123) hx hb dX10_sets_100 (by decide) ?_
                    refine lv_istore (lv' := [(4, .int (I (1014) (a0).toNatClampNeg)), (0, .ref (ad (1000))), (1, .int (a0)), (2, .int (a1)), (3, .int (a2))]) hx hb dX10_sets_123 hl (by decide) rfl (fun ls hl => ?_)
                    refine lv_iload_n hx hb dX10_sets_125 rfl (lv_at hl 3 rfl) ?_
                    refine lv_if_ne (tgt := 139) hx hb dX10_sets_126 (by decide) (fun c64 => ?_) (fun c64 => ?_)
                    · have hc64 := c64
                      have q64 := q_ne hc64
                      refine lv_iload_n hx hb dX10_sets_139 rfl (lv_at hl 3 rfl) ?_
                      refine lv_iconst (v := (1)) hx hb dX10_sets_140 (by decide) ?_
                      refine lv_icmp_ne (tgt := 154) hx hb dX10_sets_141 (by decide) (fun c65 => ?_) (fun c65 => ?_)
                      · have hc65 := c65
                        have q65 := q_ne hc65
                        refine lv_iload_n hx hb dX10_sets_154 rfl (lv_at hl 3 rfl) ?_
                        refine lv_iconst (v := (2)) hx hb dX10_sets_155 (by decide) ?_
                        refine lv_icmp_ne (tgt := 169) hx hb dX10_sets_156 (by decide) (fun c66 => ?_) (fun c66 => ?_)
                        · have hc66 := c66
                          have q66 := q_ne hc66
                          refine lv_aload_n hx hb dX10_sets_169 rfl (lv_at hl 1 rfl) ?_
                          refine m_getr (1000) 16 (1016) hx hb hts hown hE oc10 hM hJ.1 rfl (by decide) rfl (hJ.2 16 (by decide)).2 (by decide) tb_1193 dX10_sets_170 ?_
                          refine lv_iload_n hx hb dX10_sets_173 rfl (lv_at hl 2 rfl) ?_
                          refine lv_iload_n hx hb dX10_sets_174 rfl (lv_at hl 4 rfl) ?_
                          refine m_iast (1016) hx hb hE hM hS (hJ.2 16 (by decide)).1 rfl (vp_in_iff.mpr (by omega)) dX10_sets_175 (fun H locs I67 eI67 hM hS => ?_)
                          subst eI67
                          have hI := hI.putF (n := 1016) (k := ((a0).toNatClampNeg)) (v := a2) rfl
                          have hK := hK.put (n := 1016) (k := ((a0).toNatClampNeg)) (v := a2) (by first | rfl | simp [inR])
                          refine lv_iload hx hb dX10_sets_176 (lv_at hl 0 rfl) ?_
                          exact m_iret hx hb hr hlocks hM hS (Nat.le_of_ble_eq_true rfl) (Nat.le_of_ble_eq_true rfl) ⟨_, _, rfl, hI, hK⟩ dX10_sets_178
                        · have hc66 := c66
                          have q66 := q_eq hc66
                          refine lv_aload_n hx hb dX10_sets_159 rfl (lv_at hl 1 rfl) ?_
                          refine m_getr (1000) 15 (1015) hx hb hts hown hE oc10 hM hJ.1 rfl (by decide) rfl (hJ.2 15 (by decide)).2 (by decide) tb_1192 dX10_sets_160 ?_
                          refine lv_iload_n hx hb dX10_sets_163 rfl (lv_at hl 2 rfl) ?_
                          refine lv_iload_n hx hb dX10_sets_164 rfl (lv_at hl 4 rfl) ?_
                          refine m_iast (1015) hx hb hE hM hS (hJ.2 15 (by decide)).1 rfl (vp_in_iff.mpr (by omega)) dX10_sets_165 (fun H locs I68 eI68 hM hS => ?_)
                          subst eI68
                          have hI := hI.putF (n := 1015) (k := ((a0).toNatClampNeg)) (v := a2) rfl
                          have hK := hK.put (n := 1015) (k := ((a0).toNatClampNeg)) (v := a2) (by first | rfl | simp [inR])
                          refine lv_goto (tgt := 176) hx hb dX10_sets_166 (by decide) ?_
                          refine lv_iload hx hb dX10_sets_176 (lv_at hl 0 rfl) ?_
                          exact m_iret hx hb hr hlocks hM hS (Nat.le_of_ble_eq_true rfl) (Nat.le_of_ble_eq_true rfl) ⟨_, _, rfl, hI, hK⟩ dX10_sets_178
                      · have hc65 := c65
                        have q65 := q_eq hc65
                        refine lv_aload_n hx hb dX10_sets_144 rfl (lv_at hl 1 rfl) ?_
                        refine m_getr (1000) 14 (1014) hx hb hts hown hE oc10 hM hJ.1 rfl (by decide) rfl (hJ.2 14 (by decide)).2 (by decide) tb_1191 dX10_sets_145 ?_
                        refine lv_iload_n hx hb dX10_sets_148 rfl (lv_at hl 2 rfl) ?_
                        refine lv_iload_n hx hb dX10_sets_149 rfl (lv_at hl 4 rfl) ?_
                        refine m_iast (1014) hx hb hE hM hS (hJ.2 14 (by decide)).1 rfl (vp_in_iff.mpr (by omega)) dX10_sets_150 (fun H locs I69 eI69 hM hS => ?_)
                        subst eI69
                        have hI := hI.putF (n := 1014) (k := ((a0).toNatClampNeg)) (v := a2) rfl
                        have hK := hK.put (n := 1014) (k := ((a0).toNatClampNeg)) (v := a2) (by first | rfl | simp [inR])
                        refine lv_goto (tgt := 176) hx hb dX10_sets_151 (by decide) ?_
                        refine lv_iload hx hb dX10_sets_176 (lv_at hl 0 rfl) ?_
                        exact m_iret hx hb hr hlocks hM hS (Nat.le_of_ble_eq_true rfl) (Nat.le_of_ble_eq_true rfl) ⟨_, _, rfl, hI, hK⟩ dX10_sets_178
                    · have hc64 := c64
                      have q64 := q_eq hc64
                      refine lv_aload_n hx hb dX10_sets_129 rfl (lv_at hl 1 rfl) ?_
                      refine m_getr (1000) 9 (1009) hx hb hts hown hE oc10 hM hJ.1 rfl (by decide) rfl (hJ.2 9 (by decide)).2 (by decide) tb_1186 dX10_sets_130 ?_
                      refine lv_iload_n hx hb dX10_sets_133 rfl (lv_at hl 2 rfl) ?_
                      refine lv_iload_n hx hb dX10_sets_134 rfl (lv_at hl 4 rfl) ?_
                      refine m_iast (1009) hx hb hE hM hS (hJ.2 9 (by decide)).1 rfl (vp_in_iff.mpr (by omega)) dX10_sets_135 (fun H locs I70 eI70 hM hS => ?_)
                      subst eI70
                      have hI := hI.putF (n := 1009) (k := ((a0).toNatClampNeg)) (v := a2) rfl
                      have hK := hK.put (n := 1009) (k := ((a0).toNatClampNeg)) (v := a2) (by first | rfl | simp [inR])
                      refine lv_goto (tgt := 176) hx hb dX10_sets_136 (by decide) ?_
                      refine lv_iload hx hb dX10_sets_176 (lv_at hl 0 rfl) ?_
                      exact m_iret hx hb hr hlocks hM hS (Nat.le_of_ble_eq_true rfl) (Nat.le_of_ble_eq_true rfl) ⟨_, _, rfl, hI, hK⟩ dX10_sets_178
                · have hc47 := c47
                  have q47 := q_eq hc47
                  refine lv_aload_n hx hb dX10_sets_80 rfl (lv_at hl 0 rfl) ?_
                  refine m_getr (1000) 9 (1009) hx hb hts hown hE oc10 hM hJ.1 rfl (by decide) rfl (hJ.2 9 (by decide)).2 (by decide) tb_1186 dX10_sets_81 ?_
                  refine lv_iload_n hx hb dX10_sets_84 rfl (lv_at hl 1 rfl) ?_
                  refine m_iald (1009) hx hb hE hM (hJ.2 9 (by decide)).1 rfl (vp_in_iff.mpr (by omega)) dX10_sets_85 ?_
                  refine lv_goto (tgt := 123) hx hb dX10_sets_86 (by decide) ?_
                  refine lv_istore (lv' := [(4, .int (I (1009) (a0).toNatClampNeg)), (0, .ref (ad (1000))), (1, .int (a0)), (2, .int (a1)), (3, .int (a2))]) hx hb dX10_sets_123 hl (by decide) rfl (fun ls hl => ?_)
                  refine lv_iload_n hx hb dX10_sets_125 rfl (lv_at hl 3 rfl) ?_
                  refine lv_if_ne (tgt := 139) hx hb dX10_sets_126 (by decide) (fun c71 => ?_) (fun c71 => ?_)
                  · have hc71 := c71
                    have q71 := q_ne hc71
                    refine lv_iload_n hx hb dX10_sets_139 rfl (lv_at hl 3 rfl) ?_
                    refine lv_iconst (v := (1)) hx hb dX10_sets_140 (by decide) ?_
                    refine lv_icmp_ne (tgt := 154) hx hb dX10_sets_141 (by decide) (fun c72 => ?_) (fun c72 => ?_)
                    · have hc72 := c72
                      have q72 := q_ne hc72
                      refine lv_iload_n hx hb dX10_sets_154 rfl (lv_at hl 3 rfl) ?_
                      refine lv_iconst (v := (2)) hx hb dX10_sets_155 (by decide) ?_
                      refine lv_icmp_ne (tgt := 169) hx hb dX10_sets_156 (by decide) (fun c73 => ?_) (fun c73 => ?_)
                      · have hc73 := c73
                        have q73 := q_ne hc73
                        refine lv_aload_n hx hb dX10_sets_169 rfl (lv_at hl 1 rfl) ?_
                        refine m_getr (1000) 16 (1016) hx hb hts hown hE oc10 hM hJ.1 rfl (by decide) rfl (hJ.2 16 (by decide)).2 (by decide) tb_1193 dX10_sets_170 ?_
                        refine lv_iload_n hx hb dX10_sets_173 rfl (lv_at hl 2 rfl) ?_
                        refine lv_iload_n hx hb dX10_sets_174 rfl (lv_at hl 4 rfl) ?_
                        refine m_iast (1016) hx hb hE hM hS (hJ.2 16 (by decide)).1 rfl (vp_in_iff.mpr (by omega)) dX10_sets_175 (fun H locs I74 eI74 hM hS => ?_)
                        subst eI74
                        have hI := hI.putF (n := 1016) (k := ((a0).toNatClampNeg)) (v := a2) rfl
                        have hK := hK.put (n := 1016) (k := ((a0).toNatClampNeg)) (v := a2) (by first | rfl | simp [inR])
                        refine lv_iload hx hb dX10_sets_176 (lv_at hl 0 rfl) ?_
                        exact m_iret hx hb hr hlocks hM hS (Nat.le_of_ble_eq_true rfl) (Nat.le_of_ble_eq_true rfl) ⟨_, _, rfl, hI, hK⟩ dX10_sets_178
                      · have hc73 := c73
                        have q73 := q_eq hc73
                        refine lv_aload_n hx hb dX10_sets_159 rfl (lv_at hl 1 rfl) ?_
                        refine m_getr (1000) 15 (1015) hx hb hts hown hE oc10 hM hJ.1 rfl (by decide) rfl (hJ.2 15 (by decide)).2 (by decide) tb_1192 dX10_sets_160 ?_
                        refine lv_iload_n hx hb dX10_sets_163 rfl (lv_at hl 2 rfl) ?_
                        refine lv_iload_n hx hb dX10_sets_164 rfl (lv_at hl 4 rfl) ?_
                        refine m_iast (1015) hx hb hE hM hS (hJ.2 15 (by decide)).1 rfl (vp_in_iff.mpr (by omega)) dX10_sets_165 (fun H locs I75 eI75 hM hS => ?_)
                        subst eI75
                        have hI := hI.putF (n := 1015) (k := ((a0).toNatClampNeg)) (v := a2) rfl
                        have hK := hK.put (n := 1015) (k := ((a0).toNatClampNeg)) (v := a2) (by first | rfl | simp [inR])
                        refine lv_goto (tgt := 176) hx hb dX10_sets_166 (by decide) ?_
                        refine lv_iload hx hb dX10_sets_176 (lv_at hl 0 rfl) ?_
                        exact m_iret hx hb hr hlocks hM hS (Nat.le_of_ble_eq_true rfl) (Nat.le_of_ble_eq_true rfl) ⟨_, _, rfl, hI, hK⟩ dX10_sets_178
                    · have hc72 := c72
                      have q72 := q_eq hc72
                      refine lv_aload_n hx hb dX10_sets_144 rfl (lv_at hl 1 rfl) ?_
                      refine m_getr (1000) 14 (1014) hx hb hts hown hE oc10 hM hJ.1 rfl (by decide) rfl (hJ.2 14 (by decide)).2 (by decide) tb_1191 dX10_sets_145 ?_
                      refine lv_iload_n hx hb dX10_sets_148 rfl (lv_at hl 2 rfl) ?_
                      refine lv_iload_n hx hb dX10_sets_149 rfl (lv_at hl 4 rfl) ?_
                      refine m_iast (1014) hx hb hE hM hS (hJ.2 14 (by decide)).1 rfl (vp_in_iff.mpr (by omega)) dX10_sets_150 (fun H locs I76 eI76 hM hS => ?_)
                      subst eI76
                      have hI := hI.putF (n := 1014) (k := ((a0).toNatClampNeg)) (v := a2) rfl
                      have hK := hK.put (n := 1014) (k := ((a0).toNatClampNeg)) (v := a2) (by first | rfl | simp [inR])
                      refine lv_goto (tgt := 176) hx hb dX10_sets_151 (by decide) ?_
                      refine lv_iload hx hb dX10_sets_176 (lv_at hl 0 rfl) ?_
                      exact m_iret hx hb hr hlocks hM hS (Nat.le_of_ble_eq_true rfl) (Nat.le_of_ble_eq_true rfl) ⟨_, _, rfl, hI, hK⟩ dX10_sets_178
                  · have hc71 := c71
                    have q71 := q_eq hc71
                    refine lv_aload_n hx hb dX10_sets_129 rfl (lv_at hl 1 rfl) ?_
                    refine m_getr (1000) 9 (1009) hx hb hts hown hE oc10 hM hJ.1 rfl (by decide) rfl (hJ.2 9 (by decide)).2 (by decide) tb_1186 dX10_sets_130 ?_
                    refine lv_iload_n hx hb dX10_sets_133 rfl (lv_at hl 2 rfl) ?_
                    refine lv_iload_n hx hb dX10_sets_134 rfl (lv_at hl 4 rfl) ?_
                    refine m_iast (1009) hx hb hE hM hS (hJ.2 9 (by decide)).1 rfl (vp_in_iff.mpr (by omega)) dX10_sets_135 (fun H locs I77 eI77 hM hS => ?_)
                    subst eI77
                    have hI := hI.putF (n := 1009) (k := ((a0).toNatClampNeg)) (v := a2) rfl
                    have hK := hK.put (n := 1009) (k := ((a0).toNatClampNeg)) (v := a2) (by first | rfl | simp [inR])
                    refine lv_goto (tgt := 176) hx hb dX10_sets_136 (by decide) ?_
                    refine lv_iload hx hb dX10_sets_176 (lv_at hl 0 rfl) ?_
                    exact m_iret hx hb hr hlocks hM hS (Nat.le_of_ble_eq_true rfl) (Nat.le_of_ble_eq_true rfl) ⟨_, _, rfl, hI, hK⟩ dX10_sets_178
              · have hc46 := c46
                have q46 := xr45.f hc46
                refine lv_bipush (v := (-2)) hx hb dX10_sets_73 (by decide) ?_
                exact m_iret hx hb hr hlocks hM hS (Nat.le_of_ble_eq_true rfl) (Nat.le_of_ble_eq_true rfl) ⟨_, _, rfl, hI, hK⟩ dX10_sets_75
          · have hc10 := c10
            have q10 := q_eq hc10
            refine lv_ldc2 (v := (1000)) hx hb hown (hts _ tb_1428) dX10_sets_49 ?_
            refine lv_goto (tgt := 67) hx hb dX10_sets_52 (by decide) ?_
            refine m_calli (m_runS (As := [.long (v7), .long (0), .long ((1000 : Int64))]) (rest := []) hx hb hml hown hts hE hM hS hA ce_X10_in tb_1425 (V_X10_in l D A ad ns I L G (v7) (0) ((1000 : Int64)) hI) rfl rfl ⟨Nat.le_of_ble_eq_true rfl, Nat.le_of_ble_eq_true rfl⟩  rfl hl.1 rfl (Nat.le_of_ble_eq_true rfl) dX10_sets_67 ⟨Nat.le_of_ble_eq_true rfl, Nat.le_of_ble_eq_true rfl⟩) hS (fun r78 u H locs hw hM hS => ?_)
            obtain ⟨rfl, xr78⟩ := hw
            have hM : Mem D A ad ns I L G H := hM
            have yr78 := bo01 xr78
            refine lv_if_ne (tgt := 76) hx hb dX10_sets_70 (by decide) (fun c79 => ?_) (fun c79 => ?_)
            · have hc79 := c79
              have q79 := xr78.t hc79
              refine lv_iload_n hx hb dX10_sets_76 rfl (lv_at hl 2 rfl) ?_
              refine lv_if_ne (tgt := 89) hx hb dX10_sets_77 (by decide) (fun c80 => ?_) (fun c80 => ?_)
              · have hc80 := c80
                have q80 := q_ne hc80
                refine lv_iload_n hx hb dX10_sets_89 rfl (lv_at hl 2 rfl) ?_
                refine lv_iconst (v := (1)) hx hb dX10_sets_90 (by decide) ?_
                refine lv_icmp_ne (tgt := 103) hx hb dX10_sets_91 (by decide) (fun c81 => ?_) (fun c81 => ?_)
                · have hc81 := c81
                  have q81 := q_ne hc81
                  refine lv_iload_n hx hb dX10_sets_103 rfl (lv_at hl 2 rfl) ?_
                  refine lv_iconst (v := (2)) hx hb dX10_sets_104 (by decide) ?_
                  refine lv_icmp_ne (tgt := 117) hx hb dX10_sets_105 (by decide) (fun c82 => ?_) (fun c82 => ?_)
                  · have hc82 := c82
                    have q82 := q_ne hc82
                    refine lv_aload_n hx hb dX10_sets_117 rfl (lv_at hl 0 rfl) ?_
                    refine m_getr (1000) 16 (1016) hx hb hts hown hE oc10 hM hJ.1 rfl (by decide) rfl (hJ.2 16 (by decide)).2 (by decide) tb_1193 dX10_sets_118 ?_
                    refine lv_iload_n hx hb dX10_sets_121 rfl (lv_at hl 1 rfl) ?_
                    refine m_iald (1016) hx hb hE hM (hJ.2 16 (by decide)).1 rfl (vp_in_iff.mpr (by omega)) dX10_sets_122 ?_
                    refine lv_istore (lv' := [(4, .int (I (1016) (a0).toNatClampNeg)), (0, .ref (ad (1000))), (1, .int (a0)), (2, .int (a1)), (3, .int (a2))]) hx hb dX10_sets_123 hl (by decide) rfl (fun ls hl => ?_)
                    refine lv_iload_n hx hb dX10_sets_125 rfl (lv_at hl 3 rfl) ?_
                    refine lv_if_ne (tgt := 139) hx hb dX10_sets_126 (by decide) (fun c83 => ?_) (fun c83 => ?_)
                    · have hc83 := c83
                      have q83 := q_ne hc83
                      refine lv_iload_n hx hb dX10_sets_139 rfl (lv_at hl 3 rfl) ?_
                      refine lv_iconst (v := (1)) hx hb dX10_sets_140 (by decide) ?_
                      refine lv_icmp_ne (tgt := 154) hx hb dX10_sets_141 (by decide) (fun c84 => ?_) (fun c84 => ?_)
                      · have hc84 := c84
                        have q84 := q_ne hc84
                        refine lv_iload_n hx hb dX10_sets_154 rfl (lv_at hl 3 rfl) ?_
                        refine lv_iconst (v := (2)) hx hb dX10_sets_155 (by decide) ?_
                        refine lv_icmp_ne (tgt := 169) hx hb dX10_sets_156 (by decide) (fun c85 => ?_) (fun c85 => ?_)
                        · have hc85 := c85
                          have q85 := q_ne hc85
                          refine lv_aload_n hx hb dX10_sets_169 rfl (lv_at hl 1 rfl) ?_
                          refine m_getr (1000) 16 (1016) hx hb hts hown hE oc10 hM hJ.1 rfl (by decide) rfl (hJ.2 16 (by decide)).2 (by decide) tb_1193 dX10_sets_170 ?_
                          refine lv_iload_n hx hb dX10_sets_173 rfl (lv_at hl 2 rfl) ?_
                          refine lv_iload_n hx hb dX10_sets_174 rfl (lv_at hl 4 rfl) ?_
                          refine m_iast (1016) hx hb hE hM hS (hJ.2 16 (by decide)).1 rfl (vp_in_iff.mpr (by omega)) dX10_sets_175 (fun H locs I86 eI86 hM hS => ?_)
                          subst eI86
                          have hI := hI.putF (n := 1016) (k := ((a0).toNatClampNeg)) (v := a2) rfl
                          have hK := hK.put (n := 1016) (k := ((a0).toNatClampNeg)) (v := a2) (by first | rfl | simp [inR])
                          refine lv_iload hx hb dX10_sets_176 (lv_at hl 0 rfl) ?_
                          exact m_iret hx hb hr hlocks hM hS (Nat.le_of_ble_eq_true rfl) (Nat.le_of_ble_eq_true rfl) ⟨_, _, rfl, hI, hK⟩ dX10_sets_178
                        · have hc85 := c85
                          have q85 := q_eq hc85
                          refine lv_aload_n hx hb dX10_sets_159 rfl (lv_at hl 1 rfl) ?_
                          refine m_getr (1000) 15 (1015) hx hb hts hown hE oc10 hM hJ.1 rfl (by decide) rfl (hJ.2 15 (by decide)).2 (by decide) tb_1192 dX10_sets_160 ?_
                          refine lv_iload_n hx hb dX10_sets_163 rfl (lv_at hl 2 rfl) ?_
                          refine lv_iload_n hx hb dX10_sets_164 rfl (lv_at hl 4 rfl) ?_
                          refine m_iast (1015) hx hb hE hM hS (hJ.2 15 (by decide)).1 rfl (vp_in_iff.mpr (by omega)) dX10_sets_165 (fun H locs I87 eI87 hM hS => ?_)
                          subst eI87
                          have hI := hI.putF (n := 1015) (k := ((a0).toNatClampNeg)) (v := a2) rfl
                          have hK := hK.put (n := 1015) (k := ((a0).toNatClampNeg)) (v := a2) (by first | rfl | simp [inR])
                          refine lv_goto (tgt := 176) hx hb dX10_sets_166 (by decide) ?_
                          refine lv_iload hx hb dX10_sets_176 (lv_at hl 0 rfl) ?_
                          exact m_iret hx hb hr hlocks hM hS (Nat.le_of_ble_eq_true rfl) (Nat.le_of_ble_eq_true rfl) ⟨_, _, rfl, hI, hK⟩ dX10_sets_178
                      · have hc84 := c84
                        have q84 := q_eq hc84
                        refine lv_aload_n hx hb dX10_sets_144 rfl (lv_at hl 1 rfl) ?_
                        refine m_getr (1000) 14 (1014) hx hb hts hown hE oc10 hM hJ.1 rfl (by decide) rfl (hJ.2 14 (by decide)).2 (by decide) tb_1191 dX10_sets_145 ?_
                        refine lv_iload_n hx hb dX10_sets_148 rfl (lv_at hl 2 rfl) ?_
                        refine lv_iload_n hx hb dX10_sets_149 rfl (lv_at hl 4 rfl) ?_
                        refine m_iast (1014) hx hb hE hM hS (hJ.2 14 (by decide)).1 rfl (vp_in_iff.mpr (by omega)) dX10_sets_150 (fun H locs I88 eI88 hM hS => ?_)
                        subst eI88
                        have hI := hI.putF (n := 1014) (k := ((a0).toNatClampNeg)) (v := a2) rfl
                        have hK := hK.put (n := 1014) (k := ((a0).toNatClampNeg)) (v := a2) (by first | rfl | simp [inR])
                        refine lv_goto (tgt := 176) hx hb dX10_sets_151 (by decide) ?_
                        refine lv_iload hx hb dX10_sets_176 (lv_at hl 0 rfl) ?_
                        exact m_iret hx hb hr hlocks hM hS (Nat.le_of_ble_eq_true rfl) (Nat.le_of_ble_eq_true rfl) ⟨_, _, rfl, hI, hK⟩ dX10_sets_178
                    · have hc83 := c83
                      have q83 := q_eq hc83
                      refine lv_aload_n hx hb dX10_sets_129 rfl (lv_at hl 1 rfl) ?_
                      refine m_getr (1000) 9 (1009) hx hb hts hown hE oc10 hM hJ.1 rfl (by decide) rfl (hJ.2 9 (by decide)).2 (by decide) tb_1186 dX10_sets_130 ?_
                      refine lv_iload_n hx hb dX10_sets_133 rfl (lv_at hl 2 rfl) ?_
                      refine lv_iload_n hx hb dX10_sets_134 rfl (lv_at hl 4 rfl) ?_
                      refine m_iast (1009) hx hb hE hM hS (hJ.2 9 (by decide)).1 rfl (vp_in_iff.mpr (by omega)) dX10_sets_135 (fun H locs I89 eI89 hM hS => ?_)
                      subst eI89
                      have hI := hI.putF (n := 1009) (k := ((a0).toNatClampNeg)) (v := a2) rfl
                      have hK := hK.put (n := 1009) (k := ((a0).toNatClampNeg)) (v := a2) (by first | rfl | simp [inR])
                      refine lv_goto (tgt := 176) hx hb dX10_sets_136 (by decide) ?_
                      refine lv_iload hx hb dX10_sets_176 (lv_at hl 0 rfl) ?_
                      exact m_iret hx hb hr hlocks hM hS (Nat.le_of_ble_eq_true rfl) (Nat.le_of_ble_eq_true rfl) ⟨_, _, rfl, hI, hK⟩ dX10_sets_178
                  · have hc82 := c82
                    have q82 := q_eq hc82
                    refine lv_aload_n hx hb dX10_sets_108 rfl (lv_at hl 0 rfl) ?_
                    refine m_getr (1000) 15 (1015) hx hb hts hown hE oc10 hM hJ.1 rfl (by decide) rfl (hJ.2 15 (by decide)).2 (by decide) tb_1192 dX10_sets_109 ?_
                    refine lv_iload_n hx hb dX10_sets_112 rfl (lv_at hl 1 rfl) ?_
                    refine m_iald (1015) hx hb hE hM (hJ.2 15 (by decide)).1 rfl (vp_in_iff.mpr (by omega)) dX10_sets_113 ?_
                    refine lv_goto (tgt := 123) hx hb dX10_sets_114 (by decide) ?_
                    refine lv_istore (lv' := [(4, .int (I (1015) (a0).toNatClampNeg)), (0, .ref (ad (1000))), (1, .int (a0)), (2, .int (a1)), (3, .int (a2))]) hx hb dX10_sets_123 hl (by decide) rfl (fun ls hl => ?_)
                    refine lv_iload_n hx hb dX10_sets_125 rfl (lv_at hl 3 rfl) ?_
                    refine lv_if_ne (tgt := 139) hx hb dX10_sets_126 (by decide) (fun c90 => ?_) (fun c90 => ?_)
                    · have hc90 := c90
                      have q90 := q_ne hc90
                      refine lv_iload_n hx hb dX10_sets_139 rfl (lv_at hl 3 rfl) ?_
                      refine lv_iconst (v := (1)) hx hb dX10_sets_140 (by decide) ?_
                      refine lv_icmp_ne (tgt := 154) hx hb dX10_sets_141 (by decide) (fun c91 => ?_) (fun c91 => ?_)
                      · have hc91 := c91
                        have q91 := q_ne hc91
                        refine lv_iload_n hx hb dX10_sets_154 rfl (lv_at hl 3 rfl) ?_
                        refine lv_iconst (v := (2)) hx hb dX10_sets_155 (by decide) ?_
                        refine lv_icmp_ne (tgt := 169) hx hb dX10_sets_156 (by decide) (fun c92 => ?_) (fun c92 => ?_)
                        · have hc92 := c92
                          have q92 := q_ne hc92
                          refine lv_aload_n hx hb dX10_sets_169 rfl (lv_at hl 1 rfl) ?_
                          refine m_getr (1000) 16 (1016) hx hb hts hown hE oc10 hM hJ.1 rfl (by decide) rfl (hJ.2 16 (by decide)).2 (by decide) tb_1193 dX10_sets_170 ?_
                          refine lv_iload_n hx hb dX10_sets_173 rfl (lv_at hl 2 rfl) ?_
                          refine lv_iload_n hx hb dX10_sets_174 rfl (lv_at hl 4 rfl) ?_
                          refine m_iast (1016) hx hb hE hM hS (hJ.2 16 (by decide)).1 rfl (vp_in_iff.mpr (by omega)) dX10_sets_175 (fun H locs I93 eI93 hM hS => ?_)
                          subst eI93
                          have hI := hI.putF (n := 1016) (k := ((a0).toNatClampNeg)) (v := a2) rfl
                          have hK := hK.put (n := 1016) (k := ((a0).toNatClampNeg)) (v := a2) (by first | rfl | simp [inR])
                          refine lv_iload hx hb dX10_sets_176 (lv_at hl 0 rfl) ?_
                          exact m_iret hx hb hr hlocks hM hS (Nat.le_of_ble_eq_true rfl) (Nat.le_of_ble_eq_true rfl) ⟨_, _, rfl, hI, hK⟩ dX10_sets_178
                        · have hc92 := c92
                          have q92 := q_eq hc92
                          refine lv_aload_n hx hb dX10_sets_159 rfl (lv_at hl 1 rfl) ?_
                          refine m_getr (1000) 15 (1015) hx hb hts hown hE oc10 hM hJ.1 rfl (by decide) rfl (hJ.2 15 (by decide)).2 (by decide) tb_1192 dX10_sets_160 ?_
                          refine lv_iload_n hx hb dX10_sets_163 rfl (lv_at hl 2 rfl) ?_
                          refine lv_iload_n hx hb dX10_sets_164 rfl (lv_at hl 4 rfl) ?_
                          refine m_iast (1015) hx hb hE hM hS (hJ.2 15 (by decide)).1 rfl (vp_in_iff.mpr (by omega)) dX10_sets_165 (fun H locs I94 eI94 hM hS => ?_)
                          subst eI94
                          have hI := hI.putF (n := 1015) (k := ((a0).toNatClampNeg)) (v := a2) rfl
                          have hK := hK.put (n := 1015) (k := ((a0).toNatClampNeg)) (v := a2) (by first | rfl | simp [inR])
                          refine lv_goto (tgt := 176) hx hb dX10_sets_166 (by decide) ?_
                          refine lv_iload hx hb dX10_sets_176 (lv_at hl 0 rfl) ?_
                          exact m_iret hx hb hr hlocks hM hS (Nat.le_of_ble_eq_true rfl) (Nat.le_of_ble_eq_true rfl) ⟨_, _, rfl, hI, hK⟩ dX10_sets_178
                      · have hc91 := c91
                        have q91 := q_eq hc91
                        refine lv_aload_n hx hb dX10_sets_144 rfl (lv_at hl 1 rfl) ?_
                        refine m_getr (1000) 14 (1014) hx hb hts hown hE oc10 hM hJ.1 rfl (by decide) rfl (hJ.2 14 (by decide)).2 (by decide) tb_1191 dX10_sets_145 ?_
                        refine lv_iload_n hx hb dX10_sets_148 rfl (lv_at hl 2 rfl) ?_
                        refine lv_iload_n hx hb dX10_sets_149 rfl (lv_at hl 4 rfl) ?_
                        refine m_iast (1014) hx hb hE hM hS (hJ.2 14 (by decide)).1 rfl (vp_in_iff.mpr (by omega)) dX10_sets_150 (fun H locs I95 eI95 hM hS => ?_)
                        subst eI95
                        have hI := hI.putF (n := 1014) (k := ((a0).toNatClampNeg)) (v := a2) rfl
                        have hK := hK.put (n := 1014) (k := ((a0).toNatClampNeg)) (v := a2) (by first | rfl | simp [inR])
                        refine lv_goto (tgt := 176) hx hb dX10_sets_151 (by decide) ?_
                        refine lv_iload hx hb dX10_sets_176 (lv_at hl 0 rfl) ?_
                        exact m_iret hx hb hr hlocks hM hS (Nat.le_of_ble_eq_true rfl) (Nat.le_of_ble_eq_true rfl) ⟨_, _, rfl, hI, hK⟩ dX10_sets_178
                    · have hc90 := c90
                      have q90 := q_eq hc90
                      refine lv_aload_n hx hb dX10_sets_129 rfl (lv_at hl 1 rfl) ?_
                      refine m_getr (1000) 9 (1009) hx hb hts hown hE oc10 hM hJ.1 rfl (by decide) rfl (hJ.2 9 (by decide)).2 (by decide) tb_1186 dX10_sets_130 ?_
                      refine lv_iload_n hx hb dX10_sets_133 rfl (lv_at hl 2 rfl) ?_
                      refine lv_iload_n hx hb dX10_sets_134 rfl (lv_at hl 4 rfl) ?_
                      refine m_iast (1009) hx hb hE hM hS (hJ.2 9 (by decide)).1 rfl (vp_in_iff.mpr (by omega)) dX10_sets_135 (fun H locs I96 eI96 hM hS => ?_)
                      subst eI96
                      have hI := hI.putF (n := 1009) (k := ((a0).toNatClampNeg)) (v := a2) rfl
                      have hK := hK.put (n := 1009) (k := ((a0).toNatClampNeg)) (v := a2) (by first | rfl | simp [inR])
                      refine lv_goto (tgt := 176) hx hb dX10_sets_136 (by decide) ?_
                      refine lv_iload hx hb dX10_sets_176 (lv_at hl 0 rfl) ?_
                      exact m_iret hx hb hr hlocks hM hS (Nat.le_of_ble_eq_true rfl) (Nat.le_of_ble_eq_true rfl) ⟨_, _, rfl, hI, hK⟩ dX10_sets_178
                · have hc81 := c81
                  have q81 := q_eq hc81
                  refine lv_aload_n hx hb dX10_sets_94 rfl (lv_at hl 0 rfl) ?_
                  refine m_getr (1000) 14 (1014) hx hb hts hown hE oc10 hM hJ.1 rfl (by decide) rfl (hJ.2 14 (by decide)).2 (by decide) tb_1191 dX10_sets_95 ?_
                  refine lv_iload_n hx hb dX10_sets_98 rfl (lv_at hl 1 rfl) ?_
                  refine m_iald (1014) hx hb hE hM (hJ.2 14 (by decide)).1 rfl (vp_in_iff.mpr (by omega)) dX10_sets_99 ?_
                  refine lv_goto (tgt := 123) hx hb dX10_sets_100 (by decide) ?_
                  refine lv_istore (lv' := [(4, .int (I (1014) (a0).toNatClampNeg)), (0, .ref (ad (1000))), (1, .int (a0)), (2, .int (a1)), (3, .int (a2))]) hx hb dX10_sets_123 hl (by decide) rfl (fun ls hl => ?_)
                  refine lv_iload_n hx hb dX10_sets_125 rfl (lv_at hl 3 rfl) ?_
                  refine lv_if_ne (tgt := 139) hx hb dX10_sets_126 (by decide) (fun c97 => ?_) (fun c97 => ?_)
                  · have hc97 := c97
                    have q97 := q_ne hc97
                    refine lv_iload_n hx hb dX10_sets_139 rfl (lv_at hl 3 rfl) ?_
                    refine lv_iconst (v := (1)) hx hb dX10_sets_140 (by decide) ?_
                    refine lv_icmp_ne (tgt := 154) hx hb dX10_sets_141 (by decide) (fun c98 => ?_) (fun c98 => ?_)
                    · have hc98 := c98
                      have q98 := q_ne hc98
                      refine lv_iload_n hx hb dX10_sets_154 rfl (lv_at hl 3 rfl) ?_
                      refine lv_iconst (v := (2)) hx hb dX10_sets_155 (by decide) ?_
                      refine lv_icmp_ne (tgt := 169) hx hb dX10_sets_156 (by decide) (fun c99 => ?_) (fun c99 => ?_)
                      · have hc99 := c99
                        have q99 := q_ne hc99
                        refine lv_aload_n hx hb dX10_sets_169 rfl (lv_at hl 1 rfl) ?_
                        refine m_getr (1000) 16 (1016) hx hb hts hown hE oc10 hM hJ.1 rfl (by decide) rfl (hJ.2 16 (by decide)).2 (by decide) tb_1193 dX10_sets_170 ?_
                        refine lv_iload_n hx hb dX10_sets_173 rfl (lv_at hl 2 rfl) ?_
                        refine lv_iload_n hx hb dX10_sets_174 rfl (lv_at hl 4 rfl) ?_
                        refine m_iast (1016) hx hb hE hM hS (hJ.2 16 (by decide)).1 rfl (vp_in_iff.mpr (by omega)) dX10_sets_175 (fun H locs I100 eI100 hM hS => ?_)
                        subst eI100
                        have hI := hI.putF (n := 1016) (k := ((a0).toNatClampNeg)) (v := a2) rfl
                        have hK := hK.put (n := 1016) (k := ((a0).toNatClampNeg)) (v := a2) (by first | rfl | simp [inR])
                        refine lv_iload hx hb dX10_sets_176 (lv_at hl 0 rfl) ?_
                        exact m_iret hx hb hr hlocks hM hS (Nat.le_of_ble_eq_true rfl) (Nat.le_of_ble_eq_true rfl) ⟨_, _, rfl, hI, hK⟩ dX10_sets_178
                      · have hc99 := c99
                        have q99 := q_eq hc99
                        refine lv_aload_n hx hb dX10_sets_159 rfl (lv_at hl 1 rfl) ?_
                        refine m_getr (1000) 15 (1015) hx hb hts hown hE oc10 hM hJ.1 rfl (by decide) rfl (hJ.2 15 (by decide)).2 (by decide) tb_1192 dX10_sets_160 ?_
                        refine lv_iload_n hx hb dX10_sets_163 rfl (lv_at hl 2 rfl) ?_
                        refine lv_iload_n hx hb dX10_sets_164 rfl (lv_at hl 4 rfl) ?_
                        refine m_iast (1015) hx hb hE hM hS (hJ.2 15 (by decide)).1 rfl (vp_in_iff.mpr (by omega)) dX10_sets_165 (fun H locs I101 eI101 hM hS => ?_)
                        subst eI101
                        have hI := hI.putF (n := 1015) (k := ((a0).toNatClampNeg)) (v := a2) rfl
                        have hK := hK.put (n := 1015) (k := ((a0).toNatClampNeg)) (v := a2) (by first | rfl | simp [inR])
                        refine lv_goto (tgt := 176) hx hb dX10_sets_166 (by decide) ?_
                        refine lv_iload hx hb dX10_sets_176 (lv_at hl 0 rfl) ?_
                        exact m_iret hx hb hr hlocks hM hS (Nat.le_of_ble_eq_true rfl) (Nat.le_of_ble_eq_true rfl) ⟨_, _, rfl, hI, hK⟩ dX10_sets_178
                    · have hc98 := c98
                      have q98 := q_eq hc98
                      refine lv_aload_n hx hb dX10_sets_144 rfl (lv_at hl 1 rfl) ?_
                      refine m_getr (1000) 14 (1014) hx hb hts hown hE oc10 hM hJ.1 rfl (by decide) rfl (hJ.2 14 (by decide)).2 (by decide) tb_1191 dX10_sets_145 ?_
                      refine lv_iload_n hx hb dX10_sets_148 rfl (lv_at hl 2 rfl) ?_
                      refine lv_iload_n hx hb dX10_sets_149 rfl (lv_at hl 4 rfl) ?_
                      refine m_iast (1014) hx hb hE hM hS (hJ.2 14 (by decide)).1 rfl (vp_in_iff.mpr (by omega)) dX10_sets_150 (fun H locs I102 eI102 hM hS => ?_)
                      subst eI102
                      have hI := hI.putF (n := 1014) (k := ((a0).toNatClampNeg)) (v := a2) rfl
                      have hK := hK.put (n := 1014) (k := ((a0).toNatClampNeg)) (v := a2) (by first | rfl | simp [inR])
                      refine lv_goto (tgt := 176) hx hb dX10_sets_151 (by decide) ?_
                      refine lv_iload hx hb dX10_sets_176 (lv_at hl 0 rfl) ?_
                      exact m_iret hx hb hr hlocks hM hS (Nat.le_of_ble_eq_true rfl) (Nat.le_of_ble_eq_true rfl) ⟨_, _, rfl, hI, hK⟩ dX10_sets_178
                  · have hc97 := c97
                    have q97 := q_eq hc97
                    refine lv_aload_n hx hb dX10_sets_129 rfl (lv_at hl 1 rfl) ?_
                    refine m_getr (1000) 9 (1009) hx hb hts hown hE oc10 hM hJ.1 rfl (by decide) rfl (hJ.2 9 (by decide)).2 (by decide) tb_1186 dX10_sets_130 ?_
                    refine lv_iload_n hx hb dX10_sets_133 rfl (lv_at hl 2 rfl) ?_
                    refine lv_iload_n hx hb dX10_sets_134 rfl (lv_at hl 4 rfl) ?_
                    refine m_iast (1009) hx hb hE hM hS (hJ.2 9 (by decide)).1 rfl (vp_in_iff.mpr (by omega)) dX10_sets_135 (fun H locs I103 eI103 hM hS => ?_)
                    subst eI103
                    have hI := hI.putF (n := 1009) (k := ((a0).toNatClampNeg)) (v := a2) rfl
                    have hK := hK.put (n := 1009) (k := ((a0).toNatClampNeg)) (v := a2) (by first | rfl | simp [inR])
                    refine lv_goto (tgt := 176) hx hb dX10_sets_136 (by decide) ?_
                    refine lv_iload hx hb dX10_sets_176 (lv_at hl 0 rfl) ?_
                    exact m_iret hx hb hr hlocks hM hS (Nat.le_of_ble_eq_true rfl) (Nat.le_of_ble_eq_true rfl) ⟨_, _, rfl, hI, hK⟩ dX10_sets_178
              · have hc80 := c80
                have q80 := q_eq hc80
                refine lv_aload_n hx hb dX10_sets_80 rfl (lv_at hl 0 rfl) ?_
                refine m_getr (1000) 9 (1009) hx hb hts hown hE oc10 hM hJ.1 rfl (by decide) rfl (hJ.2 9 (by decide)).2 (by decide) tb_1186 dX10_sets_81 ?_
                refine lv_iload_n hx hb dX10_sets_84 rfl (lv_at hl 1 rfl) ?_
                refine m_iald (1009) hx hb hE hM (hJ.2 9 (by decide)).1 rfl (vp_in_iff.mpr (by omega)) dX10_sets_85 ?_
                refine lv_goto (tgt := 123) hx hb dX10_sets_86 (by decide) ?_
                refine lv_istore (lv' := [(4, .int (I (1009) (a0).toNatClampNeg)), (0, .ref (ad (1000))), (1, .int (a0)), (2, .int (a1)), (3, .int (a2))]) hx hb dX10_sets_123 hl (by decide) rfl (fun ls hl => ?_)
                refine lv_iload_n hx hb dX10_sets_125 rfl (lv_at hl 3 rfl) ?_
                refine lv_if_ne (tgt := 139) hx hb dX10_sets_126 (by decide) (fun c104 => ?_) (fun c104 => ?_)
                · have hc104 := c104
                  have q104 := q_ne hc104
                  refine lv_iload_n hx hb dX10_sets_139 rfl (lv_at hl 3 rfl) ?_
                  refine lv_iconst (v := (1)) hx hb dX10_sets_140 (by decide) ?_
                  refine lv_icmp_ne (tgt := 154) hx hb dX10_sets_141 (by decide) (fun c105 => ?_) (fun c105 => ?_)
                  · have hc105 := c105
                    have q105 := q_ne hc105
                    refine lv_iload_n hx hb dX10_sets_154 rfl (lv_at hl 3 rfl) ?_
                    refine lv_iconst (v := (2)) hx hb dX10_sets_155 (by decide) ?_
                    refine lv_icmp_ne (tgt := 169) hx hb dX10_sets_156 (by decide) (fun c106 => ?_) (fun c106 => ?_)
                    · have hc106 := c106
                      have q106 := q_ne hc106
                      refine lv_aload_n hx hb dX10_sets_169 rfl (lv_at hl 1 rfl) ?_
                      refine m_getr (1000) 16 (1016) hx hb hts hown hE oc10 hM hJ.1 rfl (by decide) rfl (hJ.2 16 (by decide)).2 (by decide) tb_1193 dX10_sets_170 ?_
                      refine lv_iload_n hx hb dX10_sets_173 rfl (lv_at hl 2 rfl) ?_
                      refine lv_iload_n hx hb dX10_sets_174 rfl (lv_at hl 4 rfl) ?_
                      refine m_iast (1016) hx hb hE hM hS (hJ.2 16 (by decide)).1 rfl (vp_in_iff.mpr (by omega)) dX10_sets_175 (fun H locs I107 eI107 hM hS => ?_)
                      subst eI107
                      have hI := hI.putF (n := 1016) (k := ((a0).toNatClampNeg)) (v := a2) rfl
                      have hK := hK.put (n := 1016) (k := ((a0).toNatClampNeg)) (v := a2) (by first | rfl | simp [inR])
                      refine lv_iload hx hb dX10_sets_176 (lv_at hl 0 rfl) ?_
                      exact m_iret hx hb hr hlocks hM hS (Nat.le_of_ble_eq_true rfl) (Nat.le_of_ble_eq_true rfl) ⟨_, _, rfl, hI, hK⟩ dX10_sets_178
                    · have hc106 := c106
                      have q106 := q_eq hc106
                      refine lv_aload_n hx hb dX10_sets_159 rfl (lv_at hl 1 rfl) ?_
                      refine m_getr (1000) 15 (1015) hx hb hts hown hE oc10 hM hJ.1 rfl (by decide) rfl (hJ.2 15 (by decide)).2 (by decide) tb_1192 dX10_sets_160 ?_
                      refine lv_iload_n hx hb dX10_sets_163 rfl (lv_at hl 2 rfl) ?_
                      refine lv_iload_n hx hb dX10_sets_164 rfl (lv_at hl 4 rfl) ?_
                      refine m_iast (1015) hx hb hE hM hS (hJ.2 15 (by decide)).1 rfl (vp_in_iff.mpr (by omega)) dX10_sets_165 (fun H locs I108 eI108 hM hS => ?_)
                      subst eI108
                      have hI := hI.putF (n := 1015) (k := ((a0).toNatClampNeg)) (v := a2) rfl
                      have hK := hK.put (n := 1015) (k := ((a0).toNatClampNeg)) (v := a2) (by first | rfl | simp [inR])
                      refine lv_goto (tgt := 176) hx hb dX10_sets_166 (by decide) ?_
                      refine lv_iload hx hb dX10_sets_176 (lv_at hl 0 rfl) ?_
                      exact m_iret hx hb hr hlocks hM hS (Nat.le_of_ble_eq_true rfl) (Nat.le_of_ble_eq_true rfl) ⟨_, _, rfl, hI, hK⟩ dX10_sets_178
                  · have hc105 := c105
                    have q105 := q_eq hc105
                    refine lv_aload_n hx hb dX10_sets_144 rfl (lv_at hl 1 rfl) ?_
                    refine m_getr (1000) 14 (1014) hx hb hts hown hE oc10 hM hJ.1 rfl (by decide) rfl (hJ.2 14 (by decide)).2 (by decide) tb_1191 dX10_sets_145 ?_
                    refine lv_iload_n hx hb dX10_sets_148 rfl (lv_at hl 2 rfl) ?_
                    refine lv_iload_n hx hb dX10_sets_149 rfl (lv_at hl 4 rfl) ?_
                    refine m_iast (1014) hx hb hE hM hS (hJ.2 14 (by decide)).1 rfl (vp_in_iff.mpr (by omega)) dX10_sets_150 (fun H locs I109 eI109 hM hS => ?_)
                    subst eI109
                    have hI := hI.putF (n := 1014) (k := ((a0).toNatClampNeg)) (v := a2) rfl
                    have hK := hK.put (n := 1014) (k := ((a0).toNatClampNeg)) (v := a2) (by first | rfl | simp [inR])
                    refine lv_goto (tgt := 176) hx hb dX10_sets_151 (by decide) ?_
                    refine lv_iload hx hb dX10_sets_176 (lv_at hl 0 rfl) ?_
                    exact m_iret hx hb hr hlocks hM hS (Nat.le_of_ble_eq_true rfl) (Nat.le_of_ble_eq_true rfl) ⟨_, _, rfl, hI, hK⟩ dX10_sets_178
                · have hc104 := c104
                  have q104 := q_eq hc104
                  refine lv_aload_n hx hb dX10_sets_129 rfl (lv_at hl 1 rfl) ?_
                  refine m_getr (1000) 9 (1009) hx hb hts hown hE oc10 hM hJ.1 rfl (by decide) rfl (hJ.2 9 (by decide)).2 (by decide) tb_1186 dX10_sets_130 ?_
                  refine lv_iload_n hx hb dX10_sets_133 rfl (lv_at hl 2 rfl) ?_
                  refine lv_iload_n hx hb dX10_sets_134 rfl (lv_at hl 4 rfl) ?_
                  refine m_iast (1009) hx hb hE hM hS (hJ.2 9 (by decide)).1 rfl (vp_in_iff.mpr (by omega)) dX10_sets_135 (fun H locs I110 eI110 hM hS => ?_)
                  subst eI110
                  have hI := hI.putF (n := 1009) (k := ((a0).toNatClampNeg)) (v := a2) rfl
                  have hK := hK.put (n := 1009) (k := ((a0).toNatClampNeg)) (v := a2) (by first | rfl | simp [inR])
                  refine lv_goto (tgt := 176) hx hb dX10_sets_136 (by decide) ?_
                  refine lv_iload hx hb dX10_sets_176 (lv_at hl 0 rfl) ?_
                  exact m_iret hx hb hr hlocks hM hS (Nat.le_of_ble_eq_true rfl) (Nat.le_of_ble_eq_true rfl) ⟨_, _, rfl, hI, hK⟩ dX10_sets_178
            · have hc79 := c79
              have q79 := xr78.f hc79
              refine lv_bipush (v := (-2)) hx hb dX10_sets_73 (by decide) ?_
              exact m_iret hx hb hr hlocks hM hS (Nat.le_of_ble_eq_true rfl) (Nat.le_of_ble_eq_true rfl) ⟨_, _, rfl, hI, hK⟩ dX10_sets_75
        · have hc9 := c9
          have q9 := q_eq hc9
          refine lv_ldc2 (v := (7)) hx hb hown (hts _ tb_1451) dX10_sets_38 ?_
          refine lv_goto (tgt := 67) hx hb dX10_sets_41 (by decide) ?_
          refine m_calli (m_runS (As := [.long (v7), .long (0), .long ((7 : Int64))]) (rest := []) hx hb hml hown hts hE hM hS hA ce_X10_in tb_1425 (V_X10_in l D A ad ns I L G (v7) (0) ((7 : Int64)) hI) rfl rfl ⟨Nat.le_of_ble_eq_true rfl, Nat.le_of_ble_eq_true rfl⟩  rfl hl.1 rfl (Nat.le_of_ble_eq_true rfl) dX10_sets_67 ⟨Nat.le_of_ble_eq_true rfl, Nat.le_of_ble_eq_true rfl⟩) hS (fun r111 u H locs hw hM hS => ?_)
          obtain ⟨rfl, xr111⟩ := hw
          have hM : Mem D A ad ns I L G H := hM
          have yr111 := bo01 xr111
          refine lv_if_ne (tgt := 76) hx hb dX10_sets_70 (by decide) (fun c112 => ?_) (fun c112 => ?_)
          · have hc112 := c112
            have q112 := xr111.t hc112
            refine lv_iload_n hx hb dX10_sets_76 rfl (lv_at hl 2 rfl) ?_
            refine lv_if_ne (tgt := 89) hx hb dX10_sets_77 (by decide) (fun c113 => ?_) (fun c113 => ?_)
            · have hc113 := c113
              have q113 := q_ne hc113
              refine lv_iload_n hx hb dX10_sets_89 rfl (lv_at hl 2 rfl) ?_
              refine lv_iconst (v := (1)) hx hb dX10_sets_90 (by decide) ?_
              refine lv_icmp_ne (tgt := 103) hx hb dX10_sets_91 (by decide) (fun c114 => ?_) (fun c114 => ?_)
              · have hc114 := c114
                have q114 := q_ne hc114
                refine lv_iload_n hx hb dX10_sets_103 rfl (lv_at hl 2 rfl) ?_
                refine lv_iconst (v := (2)) hx hb dX10_sets_104 (by decide) ?_
                refine lv_icmp_ne (tgt := 117) hx hb dX10_sets_105 (by decide) (fun c115 => ?_) (fun c115 => ?_)
                · have hc115 := c115
                  have q115 := q_ne hc115
                  refine lv_aload_n hx hb dX10_sets_117 rfl (lv_at hl 0 rfl) ?_
                  refine m_getr (1000) 16 (1016) hx hb hts hown hE oc10 hM hJ.1 rfl (by decide) rfl (hJ.2 16 (by decide)).2 (by decide) tb_1193 dX10_sets_118 ?_
                  refine lv_iload_n hx hb dX10_sets_121 rfl (lv_at hl 1 rfl) ?_
                  refine m_iald (1016) hx hb hE hM (hJ.2 16 (by decide)).1 rfl (vp_in_iff.mpr (by omega)) dX10_sets_122 ?_
                  refine lv_istore (lv' := [(4, .int (I (1016) (a0).toNatClampNeg)), (0, .ref (ad (1000))), (1, .int (a0)), (2, .int (a1)), (3, .int (a2))]) hx hb dX10_sets_123 hl (by decide) rfl (fun ls hl => ?_)
                  refine lv_iload_n hx hb dX10_sets_125 rfl (lv_at hl 3 rfl) ?_
                  refine lv_if_ne (tgt := 139) hx hb dX10_sets_126 (by decide) (fun c116 => ?_) (fun c116 => ?_)
                  · have hc116 := c116
                    have q116 := q_ne hc116
                    refine lv_iload_n hx hb dX10_sets_139 rfl (lv_at hl 3 rfl) ?_
                    refine lv_iconst (v := (1)) hx hb dX10_sets_140 (by decide) ?_
                    refine lv_icmp_ne (tgt := 154) hx hb dX10_sets_141 (by decide) (fun c117 => ?_) (fun c117 => ?_)
                    · have hc117 := c117
                      have q117 := q_ne hc117
                      refine lv_iload_n hx hb dX10_sets_154 rfl (lv_at hl 3 rfl) ?_
                      refine lv_iconst (v := (2)) hx hb dX10_sets_155 (by decide) ?_
                      refine lv_icmp_ne (tgt := 169) hx hb dX10_sets_156 (by decide) (fun c118 => ?_) (fun c118 => ?_)
                      · have hc118 := c118
                        have q118 := q_ne hc118
                        refine lv_aload_n hx hb dX10_sets_169 rfl (lv_at hl 1 rfl) ?_
                        refine m_getr (1000) 16 (1016) hx hb hts hown hE oc10 hM hJ.1 rfl (by decide) rfl (hJ.2 16 (by decide)).2 (by decide) tb_1193 dX10_sets_170 ?_
                        refine lv_iload_n hx hb dX10_sets_173 rfl (lv_at hl 2 rfl) ?_
                        refine lv_iload_n hx hb dX10_sets_174 rfl (lv_at hl 4 rfl) ?_
                        refine m_iast (1016) hx hb hE hM hS (hJ.2 16 (by decide)).1 rfl (vp_in_iff.mpr (by omega)) dX10_sets_175 (fun H locs I119 eI119 hM hS => ?_)
                        subst eI119
                        have hI := hI.putF (n := 1016) (k := ((a0).toNatClampNeg)) (v := a2) rfl
                        have hK := hK.put (n := 1016) (k := ((a0).toNatClampNeg)) (v := a2) (by first | rfl | simp [inR])
                        refine lv_iload hx hb dX10_sets_176 (lv_at hl 0 rfl) ?_
                        exact m_iret hx hb hr hlocks hM hS (Nat.le_of_ble_eq_true rfl) (Nat.le_of_ble_eq_true rfl) ⟨_, _, rfl, hI, hK⟩ dX10_sets_178
                      · have hc118 := c118
                        have q118 := q_eq hc118
                        refine lv_aload_n hx hb dX10_sets_159 rfl (lv_at hl 1 rfl) ?_
                        refine m_getr (1000) 15 (1015) hx hb hts hown hE oc10 hM hJ.1 rfl (by decide) rfl (hJ.2 15 (by decide)).2 (by decide) tb_1192 dX10_sets_160 ?_
                        refine lv_iload_n hx hb dX10_sets_163 rfl (lv_at hl 2 rfl) ?_
                        refine lv_iload_n hx hb dX10_sets_164 rfl (lv_at hl 4 rfl) ?_
                        refine m_iast (1015) hx hb hE hM hS (hJ.2 15 (by decide)).1 rfl (vp_in_iff.mpr (by omega)) dX10_sets_165 (fun H locs I120 eI120 hM hS => ?_)
                        subst eI120
                        have hI := hI.putF (n := 1015) (k := ((a0).toNatClampNeg)) (v := a2) rfl
                        have hK := hK.put (n := 1015) (k := ((a0).toNatClampNeg)) (v := a2) (by first | rfl | simp [inR])
                        refine lv_goto (tgt := 176) hx hb dX10_sets_166 (by decide) ?_
                        refine lv_iload hx hb dX10_sets_176 (lv_at hl 0 rfl) ?_
                        exact m_iret hx hb hr hlocks hM hS (Nat.le_of_ble_eq_true rfl) (Nat.le_of_ble_eq_true rfl) ⟨_, _, rfl, hI, hK⟩ dX10_sets_178
                    · have hc117 := c117
                      have q117 := q_eq hc117
                      refine lv_aload_n hx hb dX10_sets_144 rfl (lv_at hl 1 rfl) ?_
                      refine m_getr (1000) 14 (1014) hx hb hts hown hE oc10 hM hJ.1 rfl (by decide) rfl (hJ.2 14 (by decide)).2 (by decide) tb_1191 dX10_sets_145 ?_
                      refine lv_iload_n hx hb dX10_sets_148 rfl (lv_at hl 2 rfl) ?_
                      refine lv_iload_n hx hb dX10_sets_149 rfl (lv_at hl 4 rfl) ?_
                      refine m_iast (1014) hx hb hE hM hS (hJ.2 14 (by decide)).1 rfl (vp_in_iff.mpr (by omega)) dX10_sets_150 (fun H locs I121 eI121 hM hS => ?_)
                      subst eI121
                      have hI := hI.putF (n := 1014) (k := ((a0).toNatClampNeg)) (v := a2) rfl
                      have hK := hK.put (n := 1014) (k := ((a0).toNatClampNeg)) (v := a2) (by first | rfl | simp [inR])
                      refine lv_goto (tgt := 176) hx hb dX10_sets_151 (by decide) ?_
                      refine lv_iload hx hb dX10_sets_176 (lv_at hl 0 rfl) ?_
                      exact m_iret hx hb hr hlocks hM hS (Nat.le_of_ble_eq_true rfl) (Nat.le_of_ble_eq_true rfl) ⟨_, _, rfl, hI, hK⟩ dX10_sets_178
                  · have hc116 := c116
                    have q116 := q_eq hc116
                    refine lv_aload_n hx hb dX10_sets_129 rfl (lv_at hl 1 rfl) ?_
                    refine m_getr (1000) 9 (1009) hx hb hts hown hE oc10 hM hJ.1 rfl (by decide) rfl (hJ.2 9 (by decide)).2 (by decide) tb_1186 dX10_sets_130 ?_
                    refine lv_iload_n hx hb dX10_sets_133 rfl (lv_at hl 2 rfl) ?_
                    refine lv_iload_n hx hb dX10_sets_134 rfl (lv_at hl 4 rfl) ?_
                    refine m_iast (1009) hx hb hE hM hS (hJ.2 9 (by decide)).1 rfl (vp_in_iff.mpr (by omega)) dX10_sets_135 (fun H locs I122 eI122 hM hS => ?_)
                    subst eI122
                    have hI := hI.putF (n := 1009) (k := ((a0).toNatClampNeg)) (v := a2) rfl
                    have hK := hK.put (n := 1009) (k := ((a0).toNatClampNeg)) (v := a2) (by first | rfl | simp [inR])
                    refine lv_goto (tgt := 176) hx hb dX10_sets_136 (by decide) ?_
                    refine lv_iload hx hb dX10_sets_176 (lv_at hl 0 rfl) ?_
                    exact m_iret hx hb hr hlocks hM hS (Nat.le_of_ble_eq_true rfl) (Nat.le_of_ble_eq_true rfl) ⟨_, _, rfl, hI, hK⟩ dX10_sets_178
                · have hc115 := c115
                  have q115 := q_eq hc115
                  refine lv_aload_n hx hb dX10_sets_108 rfl (lv_at hl 0 rfl) ?_
                  refine m_getr (1000) 15 (1015) hx hb hts hown hE oc10 hM hJ.1 rfl (by decide) rfl (hJ.2 15 (by decide)).2 (by decide) tb_1192 dX10_sets_109 ?_
                  refine lv_iload_n hx hb dX10_sets_112 rfl (lv_at hl 1 rfl) ?_
                  refine m_iald (1015) hx hb hE hM (hJ.2 15 (by decide)).1 rfl (vp_in_iff.mpr (by omega)) dX10_sets_113 ?_
                  refine lv_goto (tgt := 123) hx hb dX10_sets_114 (by decide) ?_
                  refine lv_istore (lv' := [(4, .int (I (1015) (a0).toNatClampNeg)), (0, .ref (ad (1000))), (1, .int (a0)), (2, .int (a1)), (3, .int (a2))]) hx hb dX10_sets_123 hl (by decide) rfl (fun ls hl => ?_)
                  refine lv_iload_n hx hb dX10_sets_125 rfl (lv_at hl 3 rfl) ?_
                  refine lv_if_ne (tgt := 139) hx hb dX10_sets_126 (by decide) (fun c123 => ?_) (fun c123 => ?_)
                  · have hc123 := c123
                    have q123 := q_ne hc123
                    refine lv_iload_n hx hb dX10_sets_139 rfl (lv_at hl 3 rfl) ?_
                    refine lv_iconst (v := (1)) hx hb dX10_sets_140 (by decide) ?_
                    refine lv_icmp_ne (tgt := 154) hx hb dX10_sets_141 (by decide) (fun c124 => ?_) (fun c124 => ?_)
                    · have hc124 := c124
                      have q124 := q_ne hc124
                      refine lv_iload_n hx hb dX10_sets_154 rfl (lv_at hl 3 rfl) ?_
                      refine lv_iconst (v := (2)) hx hb dX10_sets_155 (by decide) ?_
                      refine lv_icmp_ne (tgt := 169) hx hb dX10_sets_156 (by decide) (fun c125 => ?_) (fun c125 => ?_)
                      · have hc125 := c125
                        have q125 := q_ne hc125
                        refine lv_aload_n hx hb dX10_sets_169 rfl (lv_at hl 1 rfl) ?_
                        refine m_getr (1000) 16 (1016) hx hb hts hown hE oc10 hM hJ.1 rfl (by decide) rfl (hJ.2 16 (by decide)).2 (by decide) tb_1193 dX10_sets_170 ?_
                        refine lv_iload_n hx hb dX10_sets_173 rfl (lv_at hl 2 rfl) ?_
                        refine lv_iload_n hx hb dX10_sets_174 rfl (lv_at hl 4 rfl) ?_
                        refine m_iast (1016) hx hb hE hM hS (hJ.2 16 (by decide)).1 rfl (vp_in_iff.mpr (by omega)) dX10_sets_175 (fun H locs I126 eI126 hM hS => ?_)
                        subst eI126
                        have hI := hI.putF (n := 1016) (k := ((a0).toNatClampNeg)) (v := a2) rfl
                        have hK := hK.put (n := 1016) (k := ((a0).toNatClampNeg)) (v := a2) (by first | rfl | simp [inR])
                        refine lv_iload hx hb dX10_sets_176 (lv_at hl 0 rfl) ?_
                        exact m_iret hx hb hr hlocks hM hS (Nat.le_of_ble_eq_true rfl) (Nat.le_of_ble_eq_true rfl) ⟨_, _, rfl, hI, hK⟩ dX10_sets_178
                      · have hc125 := c125
                        have q125 := q_eq hc125
                        refine lv_aload_n hx hb dX10_sets_159 rfl (lv_at hl 1 rfl) ?_
                        refine m_getr (1000) 15 (1015) hx hb hts hown hE oc10 hM hJ.1 rfl (by decide) rfl (hJ.2 15 (by decide)).2 (by decide) tb_1192 dX10_sets_160 ?_
                        refine lv_iload_n hx hb dX10_sets_163 rfl (lv_at hl 2 rfl) ?_
                        refine lv_iload_n hx hb dX10_sets_164 rfl (lv_at hl 4 rfl) ?_
                        refine m_iast (1015) hx hb hE hM hS (hJ.2 15 (by decide)).1 rfl (vp_in_iff.mpr (by omega)) dX10_sets_165 (fun H locs I127 eI127 hM hS => ?_)
                        subst eI127
                        have hI := hI.putF (n := 1015) (k := ((a0).toNatClampNeg)) (v := a2) rfl
                        have hK := hK.put (n := 1015) (k := ((a0).toNatClampNeg)) (v := a2) (by first | rfl | simp [inR])
                        refine lv_goto (tgt := 176) hx hb dX10_sets_166 (by decide) ?_
                        refine lv_iload hx hb dX10_sets_176 (lv_at hl 0 rfl) ?_
                        exact m_iret hx hb hr hlocks hM hS (Nat.le_of_ble_eq_true rfl) (Nat.le_of_ble_eq_true rfl) ⟨_, _, rfl, hI, hK⟩ dX10_sets_178
                    · have hc124 := c124
                      have q124 := q_eq hc124
                      refine lv_aload_n hx hb dX10_sets_144 rfl (lv_at hl 1 rfl) ?_
                      refine m_getr (1000) 14 (1014) hx hb hts hown hE oc10 hM hJ.1 rfl (by decide) rfl (hJ.2 14 (by decide)).2 (by decide) tb_1191 dX10_sets_145 ?_
                      refine lv_iload_n hx hb dX10_sets_148 rfl (lv_at hl 2 rfl) ?_
                      refine lv_iload_n hx hb dX10_sets_149 rfl (lv_at hl 4 rfl) ?_
                      refine m_iast (1014) hx hb hE hM hS (hJ.2 14 (by decide)).1 rfl (vp_in_iff.mpr (by omega)) dX10_sets_150 (fun H locs I128 eI128 hM hS => ?_)
                      subst eI128
                      have hI := hI.putF (n := 1014) (k := ((a0).toNatClampNeg)) (v := a2) rfl
                      have hK := hK.put (n := 1014) (k := ((a0).toNatClampNeg)) (v := a2) (by first | rfl | simp [inR])
                      refine lv_goto (tgt := 176) hx hb dX10_sets_151 (by decide) ?_
                      refine lv_iload hx hb dX10_sets_176 (lv_at hl 0 rfl) ?_
                      exact m_iret hx hb hr hlocks hM hS (Nat.le_of_ble_eq_true rfl) (Nat.le_of_ble_eq_true rfl) ⟨_, _, rfl, hI, hK⟩ dX10_sets_178
                  · have hc123 := c123
                    have q123 := q_eq hc123
                    refine lv_aload_n hx hb dX10_sets_129 rfl (lv_at hl 1 rfl) ?_
                    refine m_getr (1000) 9 (1009) hx hb hts hown hE oc10 hM hJ.1 rfl (by decide) rfl (hJ.2 9 (by decide)).2 (by decide) tb_1186 dX10_sets_130 ?_
                    refine lv_iload_n hx hb dX10_sets_133 rfl (lv_at hl 2 rfl) ?_
                    refine lv_iload_n hx hb dX10_sets_134 rfl (lv_at hl 4 rfl) ?_
                    refine m_iast (1009) hx hb hE hM hS (hJ.2 9 (by decide)).1 rfl (vp_in_iff.mpr (by omega)) dX10_sets_135 (fun H locs I129 eI129 hM hS => ?_)
                    subst eI129
                    have hI := hI.putF (n := 1009) (k := ((a0).toNatClampNeg)) (v := a2) rfl
                    have hK := hK.put (n := 1009) (k := ((a0).toNatClampNeg)) (v := a2) (by first | rfl | simp [inR])
                    refine lv_goto (tgt := 176) hx hb dX10_sets_136 (by decide) ?_
                    refine lv_iload hx hb dX10_sets_176 (lv_at hl 0 rfl) ?_
                    exact m_iret hx hb hr hlocks hM hS (Nat.le_of_ble_eq_true rfl) (Nat.le_of_ble_eq_true rfl) ⟨_, _, rfl, hI, hK⟩ dX10_sets_178
              · have hc114 := c114
                have q114 := q_eq hc114
                refine lv_aload_n hx hb dX10_sets_94 rfl (lv_at hl 0 rfl) ?_
                refine m_getr (1000) 14 (1014) hx hb hts hown hE oc10 hM hJ.1 rfl (by decide) rfl (hJ.2 14 (by decide)).2 (by decide) tb_1191 dX10_sets_95 ?_
                refine lv_iload_n hx hb dX10_sets_98 rfl (lv_at hl 1 rfl) ?_
                refine m_iald (1014) hx hb hE hM (hJ.2 14 (by decide)).1 rfl (vp_in_iff.mpr (by omega)) dX10_sets_99 ?_
                refine lv_goto (tgt := 123) hx hb dX10_sets_100 (by decide) ?_
                refine lv_istore (lv' := [(4, .int (I (1014) (a0).toNatClampNeg)), (0, .ref (ad (1000))), (1, .int (a0)), (2, .int (a1)), (3, .int (a2))]) hx hb dX10_sets_123 hl (by decide) rfl (fun ls hl => ?_)
                refine lv_iload_n hx hb dX10_sets_125 rfl (lv_at hl 3 rfl) ?_
                refine lv_if_ne (tgt := 139) hx hb dX10_sets_126 (by decide) (fun c130 => ?_) (fun c130 => ?_)
                · have hc130 := c130
                  have q130 := q_ne hc130
                  refine lv_iload_n hx hb dX10_sets_139 rfl (lv_at hl 3 rfl) ?_
                  refine lv_iconst (v := (1)) hx hb dX10_sets_140 (by decide) ?_
                  refine lv_icmp_ne (tgt := 154) hx hb dX10_sets_141 (by decide) (fun c131 => ?_) (fun c131 => ?_)
                  · have hc131 := c131
                    have q131 := q_ne hc131
                    refine lv_iload_n hx hb dX10_sets_154 rfl (lv_at hl 3 rfl) ?_
                    refine lv_iconst (v := (2)) hx hb dX10_sets_155 (by decide) ?_
                    refine lv_icmp_ne (tgt := 169) hx hb dX10_sets_156 (by decide) (fun c132 => ?_) (fun c132 => ?_)
                    · have hc132 := c132
                      have q132 := q_ne hc132
                      refine lv_aload_n hx hb dX10_sets_169 rfl (lv_at hl 1 rfl) ?_
                      refine m_getr (1000) 16 (1016) hx hb hts hown hE oc10 hM hJ.1 rfl (by decide) rfl (hJ.2 16 (by decide)).2 (by decide) tb_1193 dX10_sets_170 ?_
                      refine lv_iload_n hx hb dX10_sets_173 rfl (lv_at hl 2 rfl) ?_
                      refine lv_iload_n hx hb dX10_sets_174 rfl (lv_at hl 4 rfl) ?_
                      refine m_iast (1016) hx hb hE hM hS (hJ.2 16 (by decide)).1 rfl (vp_in_iff.mpr (by omega)) dX10_sets_175 (fun H locs I133 eI133 hM hS => ?_)
                      subst eI133
                      have hI := hI.putF (n := 1016) (k := ((a0).toNatClampNeg)) (v := a2) rfl
                      have hK := hK.put (n := 1016) (k := ((a0).toNatClampNeg)) (v := a2) (by first | rfl | simp [inR])
                      refine lv_iload hx hb dX10_sets_176 (lv_at hl 0 rfl) ?_
                      exact m_iret hx hb hr hlocks hM hS (Nat.le_of_ble_eq_true rfl) (Nat.le_of_ble_eq_true rfl) ⟨_, _, rfl, hI, hK⟩ dX10_sets_178
                    · have hc132 := c132
                      have q132 := q_eq hc132
                      refine lv_aload_n hx hb dX10_sets_159 rfl (lv_at hl 1 rfl) ?_
                      refine m_getr (1000) 15 (1015) hx hb hts hown hE oc10 hM hJ.1 rfl (by decide) rfl (hJ.2 15 (by decide)).2 (by decide) tb_1192 dX10_sets_160 ?_
                      refine lv_iload_n hx hb dX10_sets_163 rfl (lv_at hl 2 rfl) ?_
                      refine lv_iload_n hx hb dX10_sets_164 rfl (lv_at hl 4 rfl) ?_
                      refine m_iast (1015) hx hb hE hM hS (hJ.2 15 (by decide)).1 rfl (vp_in_iff.mpr (by omega)) dX10_sets_165 (fun H locs I134 eI134 hM hS => ?_)
                      subst eI134
                      have hI := hI.putF (n := 1015) (k := ((a0).toNatClampNeg)) (v := a2) rfl
                      have hK := hK.put (n := 1015) (k := ((a0).toNatClampNeg)) (v := a2) (by first | rfl | simp [inR])
                      refine lv_goto (tgt := 176) hx hb dX10_sets_166 (by decide) ?_
                      refine lv_iload hx hb dX10_sets_176 (lv_at hl 0 rfl) ?_
                      exact m_iret hx hb hr hlocks hM hS (Nat.le_of_ble_eq_true rfl) (Nat.le_of_ble_eq_true rfl) ⟨_, _, rfl, hI, hK⟩ dX10_sets_178
                  · have hc131 := c131
                    have q131 := q_eq hc131
                    refine lv_aload_n hx hb dX10_sets_144 rfl (lv_at hl 1 rfl) ?_
                    refine m_getr (1000) 14 (1014) hx hb hts hown hE oc10 hM hJ.1 rfl (by decide) rfl (hJ.2 14 (by decide)).2 (by decide) tb_1191 dX10_sets_145 ?_
                    refine lv_iload_n hx hb dX10_sets_148 rfl (lv_at hl 2 rfl) ?_
                    refine lv_iload_n hx hb dX10_sets_149 rfl (lv_at hl 4 rfl) ?_
                    refine m_iast (1014) hx hb hE hM hS (hJ.2 14 (by decide)).1 rfl (vp_in_iff.mpr (by omega)) dX10_sets_150 (fun H locs I135 eI135 hM hS => ?_)
                    subst eI135
                    have hI := hI.putF (n := 1014) (k := ((a0).toNatClampNeg)) (v := a2) rfl
                    have hK := hK.put (n := 1014) (k := ((a0).toNatClampNeg)) (v := a2) (by first | rfl | simp [inR])
                    refine lv_goto (tgt := 176) hx hb dX10_sets_151 (by decide) ?_
                    refine lv_iload hx hb dX10_sets_176 (lv_at hl 0 rfl) ?_
                    exact m_iret hx hb hr hlocks hM hS (Nat.le_of_ble_eq_true rfl) (Nat.le_of_ble_eq_true rfl) ⟨_, _, rfl, hI, hK⟩ dX10_sets_178
                · have hc130 := c130
                  have q130 := q_eq hc130
                  refine lv_aload_n hx hb dX10_sets_129 rfl (lv_at hl 1 rfl) ?_
                  refine m_getr (1000) 9 (1009) hx hb hts hown hE oc10 hM hJ.1 rfl (by decide) rfl (hJ.2 9 (by decide)).2 (by decide) tb_1186 dX10_sets_130 ?_
                  refine lv_iload_n hx hb dX10_sets_133 rfl (lv_at hl 2 rfl) ?_
                  refine lv_iload_n hx hb dX10_sets_134 rfl (lv_at hl 4 rfl) ?_
                  refine m_iast (1009) hx hb hE hM hS (hJ.2 9 (by decide)).1 rfl (vp_in_iff.mpr (by omega)) dX10_sets_135 (fun H locs I136 eI136 hM hS => ?_)
                  subst eI136
                  have hI := hI.putF (n := 1009) (k := ((a0).toNatClampNeg)) (v := a2) rfl
                  have hK := hK.put (n := 1009) (k := ((a0).toNatClampNeg)) (v := a2) (by first | rfl | simp [inR])
                  refine lv_goto (tgt := 176) hx hb dX10_sets_136 (by decide) ?_
                  refine lv_iload hx hb dX10_sets_176 (lv_at hl 0 rfl) ?_
                  exact m_iret hx hb hr hlocks hM hS (Nat.le_of_ble_eq_true rfl) (Nat.le_of_ble_eq_true rfl) ⟨_, _, rfl, hI, hK⟩ dX10_sets_178
            · have hc113 := c113
              have q113 := q_eq hc113
              refine lv_aload_n hx hb dX10_sets_80 rfl (lv_at hl 0 rfl) ?_
              refine m_getr (1000) 9 (1009) hx hb hts hown hE oc10 hM hJ.1 rfl (by decide) rfl (hJ.2 9 (by decide)).2 (by decide) tb_1186 dX10_sets_81 ?_
              refine lv_iload_n hx hb dX10_sets_84 rfl (lv_at hl 1 rfl) ?_
              refine m_iald (1009) hx hb hE hM (hJ.2 9 (by decide)).1 rfl (vp_in_iff.mpr (by omega)) dX10_sets_85 ?_
              refine lv_goto (tgt := 123) hx hb dX10_sets_86 (by decide) ?_
              refine lv_istore (lv' := [(4, .int (I (1009) (a0).toNatClampNeg)), (0, .ref (ad (1000))), (1, .int (a0)), (2, .int (a1)), (3, .int (a2))]) hx hb dX10_sets_123 hl (by decide) rfl (fun ls hl => ?_)
              refine lv_iload_n hx hb dX10_sets_125 rfl (lv_at hl 3 rfl) ?_
              refine lv_if_ne (tgt := 139) hx hb dX10_sets_126 (by decide) (fun c137 => ?_) (fun c137 => ?_)
              · have hc137 := c137
                have q137 := q_ne hc137
                refine lv_iload_n hx hb dX10_sets_139 rfl (lv_at hl 3 rfl) ?_
                refine lv_iconst (v := (1)) hx hb dX10_sets_140 (by decide) ?_
                refine lv_icmp_ne (tgt := 154) hx hb dX10_sets_141 (by decide) (fun c138 => ?_) (fun c138 => ?_)
                · have hc138 := c138
                  have q138 := q_ne hc138
                  refine lv_iload_n hx hb dX10_sets_154 rfl (lv_at hl 3 rfl) ?_
                  refine lv_iconst (v := (2)) hx hb dX10_sets_155 (by decide) ?_
                  refine lv_icmp_ne (tgt := 169) hx hb dX10_sets_156 (by decide) (fun c139 => ?_) (fun c139 => ?_)
                  · have hc139 := c139
                    have q139 := q_ne hc139
                    refine lv_aload_n hx hb dX10_sets_169 rfl (lv_at hl 1 rfl) ?_
                    refine m_getr (1000) 16 (1016) hx hb hts hown hE oc10 hM hJ.1 rfl (by decide) rfl (hJ.2 16 (by decide)).2 (by decide) tb_1193 dX10_sets_170 ?_
                    refine lv_iload_n hx hb dX10_sets_173 rfl (lv_at hl 2 rfl) ?_
                    refine lv_iload_n hx hb dX10_sets_174 rfl (lv_at hl 4 rfl) ?_
                    refine m_iast (1016) hx hb hE hM hS (hJ.2 16 (by decide)).1 rfl (vp_in_iff.mpr (by omega)) dX10_sets_175 (fun H locs I140 eI140 hM hS => ?_)
                    subst eI140
                    have hI := hI.putF (n := 1016) (k := ((a0).toNatClampNeg)) (v := a2) rfl
                    have hK := hK.put (n := 1016) (k := ((a0).toNatClampNeg)) (v := a2) (by first | rfl | simp [inR])
                    refine lv_iload hx hb dX10_sets_176 (lv_at hl 0 rfl) ?_
                    exact m_iret hx hb hr hlocks hM hS (Nat.le_of_ble_eq_true rfl) (Nat.le_of_ble_eq_true rfl) ⟨_, _, rfl, hI, hK⟩ dX10_sets_178
                  · have hc139 := c139
                    have q139 := q_eq hc139
                    refine lv_aload_n hx hb dX10_sets_159 rfl (lv_at hl 1 rfl) ?_
                    refine m_getr (1000) 15 (1015) hx hb hts hown hE oc10 hM hJ.1 rfl (by decide) rfl (hJ.2 15 (by decide)).2 (by decide) tb_1192 dX10_sets_160 ?_
                    refine lv_iload_n hx hb dX10_sets_163 rfl (lv_at hl 2 rfl) ?_
                    refine lv_iload_n hx hb dX10_sets_164 rfl (lv_at hl 4 rfl) ?_
                    refine m_iast (1015) hx hb hE hM hS (hJ.2 15 (by decide)).1 rfl (vp_in_iff.mpr (by omega)) dX10_sets_165 (fun H locs I141 eI141 hM hS => ?_)
                    subst eI141
                    have hI := hI.putF (n := 1015) (k := ((a0).toNatClampNeg)) (v := a2) rfl
                    have hK := hK.put (n := 1015) (k := ((a0).toNatClampNeg)) (v := a2) (by first | rfl | simp [inR])
                    refine lv_goto (tgt := 176) hx hb dX10_sets_166 (by decide) ?_
                    refine lv_iload hx hb dX10_sets_176 (lv_at hl 0 rfl) ?_
                    exact m_iret hx hb hr hlocks hM hS (Nat.le_of_ble_eq_true rfl) (Nat.le_of_ble_eq_true rfl) ⟨_, _, rfl, hI, hK⟩ dX10_sets_178
                · have hc138 := c138
                  have q138 := q_eq hc138
                  refine lv_aload_n hx hb dX10_sets_144 rfl (lv_at hl 1 rfl) ?_
                  refine m_getr (1000) 14 (1014) hx hb hts hown hE oc10 hM hJ.1 rfl (by decide) rfl (hJ.2 14 (by decide)).2 (by decide) tb_1191 dX10_sets_145 ?_
                  refine lv_iload_n hx hb dX10_sets_148 rfl (lv_at hl 2 rfl) ?_
                  refine lv_iload_n hx hb dX10_sets_149 rfl (lv_at hl 4 rfl) ?_
                  refine m_iast (1014) hx hb hE hM hS (hJ.2 14 (by decide)).1 rfl (vp_in_iff.mpr (by omega)) dX10_sets_150 (fun H locs I142 eI142 hM hS => ?_)
                  subst eI142
                  have hI := hI.putF (n := 1014) (k := ((a0).toNatClampNeg)) (v := a2) rfl
                  have hK := hK.put (n := 1014) (k := ((a0).toNatClampNeg)) (v := a2) (by first | rfl | simp [inR])
                  refine lv_goto (tgt := 176) hx hb dX10_sets_151 (by decide) ?_
                  refine lv_iload hx hb dX10_sets_176 (lv_at hl 0 rfl) ?_
                  exact m_iret hx hb hr hlocks hM hS (Nat.le_of_ble_eq_true rfl) (Nat.le_of_ble_eq_true rfl) ⟨_, _, rfl, hI, hK⟩ dX10_sets_178
              · have hc137 := c137
                have q137 := q_eq hc137
                refine lv_aload_n hx hb dX10_sets_129 rfl (lv_at hl 1 rfl) ?_
                refine m_getr (1000) 9 (1009) hx hb hts hown hE oc10 hM hJ.1 rfl (by decide) rfl (hJ.2 9 (by decide)).2 (by decide) tb_1186 dX10_sets_130 ?_
                refine lv_iload_n hx hb dX10_sets_133 rfl (lv_at hl 2 rfl) ?_
                refine lv_iload_n hx hb dX10_sets_134 rfl (lv_at hl 4 rfl) ?_
                refine m_iast (1009) hx hb hE hM hS (hJ.2 9 (by decide)).1 rfl (vp_in_iff.mpr (by omega)) dX10_sets_135 (fun H locs I143 eI143 hM hS => ?_)
                subst eI143
                have hI := hI.putF (n := 1009) (k := ((a0).toNatClampNeg)) (v := a2) rfl
                have hK := hK.put (n := 1009) (k := ((a0).toNatClampNeg)) (v := a2) (by first | rfl | simp [inR])
                refine lv_goto (tgt := 176) hx hb dX10_sets_136 (by decide) ?_
                refine lv_iload hx hb dX10_sets_176 (lv_at hl 0 rfl) ?_
                exact m_iret hx hb hr hlocks hM hS (Nat.le_of_ble_eq_true rfl) (Nat.le_of_ble_eq_true rfl) ⟨_, _, rfl, hI, hK⟩ dX10_sets_178
          · have hc112 := c112
            have q112 := xr111.f hc112
            refine lv_bipush (v := (-2)) hx hb dX10_sets_73 (by decide) ?_
            exact m_iret hx hb hr hlocks hM hS (Nat.le_of_ble_eq_true rfl) (Nat.le_of_ble_eq_true rfl) ⟨_, _, rfl, hI, hK⟩ dX10_sets_75
      · have hc8 := c8
        have q8 := q_eq hc8
        refine lv_ldc2 (v := (-1)) hx hb hown (hts _ tb_1467) dX10_sets_27 ?_
        refine lv_goto (tgt := 34) hx hb dX10_sets_30 (by decide) ?_
        refine lv_iload_n hx hb dX10_sets_34 rfl (lv_at hl 2 rfl) ?_
        refine lv_if_ne (tgt := 44) hx hb dX10_sets_35 (by decide) (fun c144 => ?_) (fun c144 => ?_)
        · have hc144 := c144
          have q144 := q_ne hc144
          refine lv_iload_n hx hb dX10_sets_44 rfl (lv_at hl 2 rfl) ?_
          refine lv_iconst (v := (1)) hx hb dX10_sets_45 (by decide) ?_
          refine lv_icmp_ne (tgt := 55) hx hb dX10_sets_46 (by decide) (fun c145 => ?_) (fun c145 => ?_)
          · have hc145 := c145
            have q145 := q_ne hc145
            refine lv_iload_n hx hb dX10_sets_55 rfl (lv_at hl 2 rfl) ?_
            refine lv_iconst (v := (2)) hx hb dX10_sets_56 (by decide) ?_
            refine lv_icmp_ne (tgt := 64) hx hb dX10_sets_57 (by decide) (fun c146 => ?_) (fun c146 => ?_)
            · have hc146 := c146
              have q146 := q_ne hc146
              refine lv_ldc2 (v := (99999)) hx hb hown (hts _ tb_1452) dX10_sets_64 ?_
              refine m_calli (m_runS (As := [.long (v7), .long ((-1 : Int64)), .long ((99999 : Int64))]) (rest := []) hx hb hml hown hts hE hM hS hA ce_X10_in tb_1425 (V_X10_in l D A ad ns I L G (v7) ((-1 : Int64)) ((99999 : Int64)) hI) rfl rfl ⟨Nat.le_of_ble_eq_true rfl, Nat.le_of_ble_eq_true rfl⟩  rfl hl.1 rfl (Nat.le_of_ble_eq_true rfl) dX10_sets_67 ⟨Nat.le_of_ble_eq_true rfl, Nat.le_of_ble_eq_true rfl⟩) hS (fun r147 u H locs hw hM hS => ?_)
              obtain ⟨rfl, xr147⟩ := hw
              have hM : Mem D A ad ns I L G H := hM
              have yr147 := bo01 xr147
              refine lv_if_ne (tgt := 76) hx hb dX10_sets_70 (by decide) (fun c148 => ?_) (fun c148 => ?_)
              · have hc148 := c148
                have q148 := xr147.t hc148
                refine lv_iload_n hx hb dX10_sets_76 rfl (lv_at hl 2 rfl) ?_
                refine lv_if_ne (tgt := 89) hx hb dX10_sets_77 (by decide) (fun c149 => ?_) (fun c149 => ?_)
                · have hc149 := c149
                  have q149 := q_ne hc149
                  refine lv_iload_n hx hb dX10_sets_89 rfl (lv_at hl 2 rfl) ?_
                  refine lv_iconst (v := (1)) hx hb dX10_sets_90 (by decide) ?_
                  refine lv_icmp_ne (tgt := 103) hx hb dX10_sets_91 (by decide) (fun c150 => ?_) (fun c150 => ?_)
                  · have hc150 := c150
                    have q150 := q_ne hc150
                    refine lv_iload_n hx hb dX10_sets_103 rfl (lv_at hl 2 rfl) ?_
                    refine lv_iconst (v := (2)) hx hb dX10_sets_104 (by decide) ?_
                    refine lv_icmp_ne (tgt := 117) hx hb dX10_sets_105 (by decide) (fun c151 => ?_) (fun c151 => ?_)
                    · have hc151 := c151
                      have q151 := q_ne hc151
                      refine lv_aload_n hx hb dX10_sets_117 rfl (lv_at hl 0 rfl) ?_
                      refine m_getr (1000) 16 (1016) hx hb hts hown hE oc10 hM hJ.1 rfl (by decide) rfl (hJ.2 16 (by decide)).2 (by decide) tb_1193 dX10_sets_118 ?_
                      refine lv_iload_n hx hb dX10_sets_121 rfl (lv_at hl 1 rfl) ?_
                      refine m_iald (1016) hx hb hE hM (hJ.2 16 (by decide)).1 rfl (vp_in_iff.mpr (by omega)) dX10_sets_122 ?_
                      refine lv_istore (lv' := [(4, .int (I (1016) (a0).toNatClampNeg)), (0, .ref (ad (1000))), (1, .int (a0)), (2, .int (a1)), (3, .int (a2))]) hx hb dX10_sets_123 hl (by decide) rfl (fun ls hl => ?_)
                      refine lv_iload_n hx hb dX10_sets_125 rfl (lv_at hl 3 rfl) ?_
                      refine lv_if_ne (tgt := 139) hx hb dX10_sets_126 (by decide) (fun c152 => ?_) (fun c152 => ?_)
                      · have hc152 := c152
                        have q152 := q_ne hc152
                        refine lv_iload_n hx hb dX10_sets_139 rfl (lv_at hl 3 rfl) ?_
                        refine lv_iconst (v := (1)) hx hb dX10_sets_140 (by decide) ?_
                        refine lv_icmp_ne (tgt := 154) hx hb dX10_sets_141 (by decide) (fun c153 => ?_) (fun c153 => ?_)
                        · have hc153 := c153
                          have q153 := q_ne hc153
                          refine lv_iload_n hx hb dX10_sets_154 rfl (lv_at hl 3 rfl) ?_
                          refine lv_iconst (v := (2)) hx hb dX10_sets_155 (by decide) ?_
                          refine lv_icmp_ne (tgt := 169) hx hb dX10_sets_156 (by decide) (fun c154 => ?_) (fun c154 => ?_)
                          · have hc154 := c154
                            have q154 := q_ne hc154
                            refine lv_aload_n hx hb dX10_sets_169 rfl (lv_at hl 1 rfl) ?_
                            refine m_getr (1000) 16 (1016) hx hb hts hown hE oc10 hM hJ.1 rfl (by decide) rfl (hJ.2 16 (by decide)).2 (by decide) tb_1193 dX10_sets_170 ?_
                            refine lv_iload_n hx hb dX10_sets_173 rfl (lv_at hl 2 rfl) ?_
                            refine lv_iload_n hx hb dX10_sets_174 rfl (lv_at hl 4 rfl) ?_
                            refine m_iast (1016) hx hb hE hM hS (hJ.2 16 (by decide)).1 rfl (vp_in_iff.mpr (by omega)) dX10_sets_175 (fun H locs I155 eI155 hM hS => ?_)
                            subst eI155
                            have hI := hI.putF (n := 1016) (k := ((a0).toNatClampNeg)) (v := a2) rfl
                            have hK := hK.put (n := 1016) (k := ((a0).toNatClampNeg)) (v := a2) (by first | rfl | simp [inR])
                            refine lv_iload hx hb dX10_sets_176 (lv_at hl 0 rfl) ?_
                            exact m_iret hx hb hr hlocks hM hS (Nat.le_of_ble_eq_true rfl) (Nat.le_of_ble_eq_true rfl) ⟨_, _, rfl, hI, hK⟩ dX10_sets_178
                          · have hc154 := c154
                            have q154 := q_eq hc154
                            refine lv_aload_n hx hb dX10_sets_159 rfl (lv_at hl 1 rfl) ?_
                            refine m_getr (1000) 15 (1015) hx hb hts hown hE oc10 hM hJ.1 rfl (by decide) rfl (hJ.2 15 (by decide)).2 (by decide) tb_1192 dX10_sets_160 ?_
                            refine lv_iload_n hx hb dX10_sets_163 rfl (lv_at hl 2 rfl) ?_
                            refine lv_iload_n hx hb dX10_sets_164 rfl (lv_at hl 4 rfl) ?_
                            refine m_iast (1015) hx hb hE hM hS (hJ.2 15 (by decide)).1 rfl (vp_in_iff.mpr (by omega)) dX10_sets_165 (fun H locs I156 eI156 hM hS => ?_)
                            subst eI156
                            have hI := hI.putF (n := 1015) (k := ((a0).toNatClampNeg)) (v := a2) rfl
                            have hK := hK.put (n := 1015) (k := ((a0).toNatClampNeg)) (v := a2) (by first | rfl | simp [inR])
                            refine lv_goto (tgt := 176) hx hb dX10_sets_166 (by decide) ?_
                            refine lv_iload hx hb dX10_sets_176 (lv_at hl 0 rfl) ?_
                            exact m_iret hx hb hr hlocks hM hS (Nat.le_of_ble_eq_true rfl) (Nat.le_of_ble_eq_true rfl) ⟨_, _, rfl, hI, hK⟩ dX10_sets_178
                        · have hc153 := c153
                          have q153 := q_eq hc153
                          refine lv_aload_n hx hb dX10_sets_144 rfl (lv_at hl 1 rfl) ?_
                          refine m_getr (1000) 14 (1014) hx hb hts hown hE oc10 hM hJ.1 rfl (by decide) rfl (hJ.2 14 (by decide)).2 (by decide) tb_1191 dX10_sets_145 ?_
                          refine lv_iload_n hx hb dX10_sets_148 rfl (lv_at hl 2 rfl) ?_
                          refine lv_iload_n hx hb dX10_sets_149 rfl (lv_at hl 4 rfl) ?_
                          refine m_iast (1014) hx hb hE hM hS (hJ.2 14 (by decide)).1 rfl (vp_in_iff.mpr (by omega)) dX10_sets_150 (fun H locs I157 eI157 hM hS => ?_)
                          subst eI157
                          have hI := hI.putF (n := 1014) (k := ((a0).toNatClampNeg)) (v := a2) rfl
                          have hK := hK.put (n := 1014) (k := ((a0).toNatClampNeg)) (v := a2) (by first | rfl | simp [inR])
                          refine lv_goto (tgt := 176) hx hb dX10_sets_151 (by decide) ?_
                          refine lv_iload hx hb dX10_sets_176 (lv_at hl 0 rfl) ?_
                          exact m_iret hx hb hr hlocks hM hS (Nat.le_of_ble_eq_true rfl) (Nat.le_of_ble_eq_true rfl) ⟨_, _, rfl, hI, hK⟩ dX10_sets_178
                      · have hc152 := c152
                        have q152 := q_eq hc152
                        refine lv_aload_n hx hb dX10_sets_129 rfl (lv_at hl 1 rfl) ?_
                        refine m_getr (1000) 9 (1009) hx hb hts hown hE oc10 hM hJ.1 rfl (by decide) rfl (hJ.2 9 (by decide)).2 (by decide) tb_1186 dX10_sets_130 ?_
                        refine lv_iload_n hx hb dX10_sets_133 rfl (lv_at hl 2 rfl) ?_
                        refine lv_iload_n hx hb dX10_sets_134 rfl (lv_at hl 4 rfl) ?_
                        refine m_iast (1009) hx hb hE hM hS (hJ.2 9 (by decide)).1 rfl (vp_in_iff.mpr (by omega)) dX10_sets_135 (fun H locs I158 eI158 hM hS => ?_)
                        subst eI158
                        have hI := hI.putF (n := 1009) (k := ((a0).toNatClampNeg)) (v := a2) rfl
                        have hK := hK.put (n := 1009) (k := ((a0).toNatClampNeg)) (v := a2) (by first | rfl | simp [inR])
                        refine lv_goto (tgt := 176) hx hb dX10_sets_136 (by decide) ?_
                        refine lv_iload hx hb dX10_sets_176 (lv_at hl 0 rfl) ?_
                        exact m_iret hx hb hr hlocks hM hS (Nat.le_of_ble_eq_true rfl) (Nat.le_of_ble_eq_true rfl) ⟨_, _, rfl, hI, hK⟩ dX10_sets_178
                    · have hc151 := c151
                      have q151 := q_eq hc151
                      refine lv_aload_n hx hb dX10_sets_108 rfl (lv_at hl 0 rfl) ?_
                      refine m_getr (1000) 15 (1015) hx hb hts hown hE oc10 hM hJ.1 rfl (by decide) rfl (hJ.2 15 (by decide)).2 (by decide) tb_1192 dX10_sets_109 ?_
                      refine lv_iload_n hx hb dX10_sets_112 rfl (lv_at hl 1 rfl) ?_
                      refine m_iald (1015) hx hb hE hM (hJ.2 15 (by decide)).1 rfl (vp_in_iff.mpr (by omega)) dX10_sets_113 ?_
                      refine lv_goto (tgt := 123) hx hb dX10_sets_114 (by decide) ?_
                      refine lv_istore (lv' := [(4, .int (I (1015) (a0).toNatClampNeg)), (0, .ref (ad (1000))), (1, .int (a0)), (2, .int (a1)), (3, .int (a2))]) hx hb dX10_sets_123 hl (by decide) rfl (fun ls hl => ?_)
                      refine lv_iload_n hx hb dX10_sets_125 rfl (lv_at hl 3 rfl) ?_
                      refine lv_if_ne (tgt := 139) hx hb dX10_sets_126 (by decide) (fun c159 => ?_) (fun c159 => ?_)
                      · have hc159 := c159
                        have q159 := q_ne hc159
                        refine lv_iload_n hx hb dX10_sets_139 rfl (lv_at hl 3 rfl) ?_
                        refine lv_iconst (v := (1)) hx hb dX10_sets_140 (by decide) ?_
                        refine lv_icmp_ne (tgt := 154) hx hb dX10_sets_141 (by decide) (fun c160 => ?_) (fun c160 => ?_)
                        · have hc160 := c160
                          have q160 := q_ne hc160
                          refine lv_iload_n hx hb dX10_sets_154 rfl (lv_at hl 3 rfl) ?_
                          refine lv_iconst (v := (2)) hx hb dX10_sets_155 (by decide) ?_
                          refine lv_icmp_ne (tgt := 169) hx hb dX10_sets_156 (by decide) (fun c161 => ?_) (fun c161 => ?_)
                          · have hc161 := c161
                            have q161 := q_ne hc161
                            refine lv_aload_n hx hb dX10_sets_169 rfl (lv_at hl 1 rfl) ?_
                            refine m_getr (1000) 16 (1016) hx hb hts hown hE oc10 hM hJ.1 rfl (by decide) rfl (hJ.2 16 (by decide)).2 (by decide) tb_1193 dX10_sets_170 ?_
                            refine lv_iload_n hx hb dX10_sets_173 rfl (lv_at hl 2 rfl) ?_
                            refine lv_iload_n hx hb dX10_sets_174 rfl (lv_at hl 4 rfl) ?_
                            refine m_iast (1016) hx hb hE hM hS (hJ.2 16 (by decide)).1 rfl (vp_in_iff.mpr (by omega)) dX10_sets_175 (fun H locs I162 eI162 hM hS => ?_)
                            subst eI162
                            have hI := hI.putF (n := 1016) (k := ((a0).toNatClampNeg)) (v := a2) rfl
                            have hK := hK.put (n := 1016) (k := ((a0).toNatClampNeg)) (v := a2) (by first | rfl | simp [inR])
                            refine lv_iload hx hb dX10_sets_176 (lv_at hl 0 rfl) ?_
                            exact m_iret hx hb hr hlocks hM hS (Nat.le_of_ble_eq_true rfl) (Nat.le_of_ble_eq_true rfl) ⟨_, _, rfl, hI, hK⟩ dX10_sets_178
                          · have hc161 := c161
                            have q161 := q_eq hc161
                            refine lv_aload_n hx hb dX10_sets_159 rfl (lv_at hl 1 rfl) ?_
                            refine m_getr (1000) 15 (1015) hx hb hts hown hE oc10 hM hJ.1 rfl (by decide) rfl (hJ.2 15 (by decide)).2 (by decide) tb_1192 dX10_sets_160 ?_
                            refine lv_iload_n hx hb dX10_sets_163 rfl (lv_at hl 2 rfl) ?_
                            refine lv_iload_n hx hb dX10_sets_164 rfl (lv_at hl 4 rfl) ?_
                            refine m_iast (1015) hx hb hE hM hS (hJ.2 15 (by decide)).1 rfl (vp_in_iff.mpr (by omega)) dX10_sets_165 (fun H locs I163 eI163 hM hS => ?_)
                            subst eI163
                            have hI := hI.putF (n := 1015) (k := ((a0).toNatClampNeg)) (v := a2) rfl
                            have hK := hK.put (n := 1015) (k := ((a0).toNatClampNeg)) (v := a2) (by first | rfl | simp [inR])
                            refine lv_goto (tgt := 176) hx hb dX10_sets_166 (by decide) ?_
                            refine lv_iload hx hb dX10_sets_176 (lv_at hl 0 rfl) ?_
                            exact m_iret hx hb hr hlocks hM hS (Nat.le_of_ble_eq_true rfl) (Nat.le_of_ble_eq_true rfl) ⟨_, _, rfl, hI, hK⟩ dX10_sets_178
                        · have hc160 := c160
                          have q160 := q_eq hc160
                          refine lv_aload_n hx hb dX10_sets_144 rfl (lv_at hl 1 rfl) ?_
                          refine m_getr (1000) 14 (1014) hx hb hts hown hE oc10 hM hJ.1 rfl (by decide) rfl (hJ.2 14 (by decide)).2 (by decide) tb_1191 dX10_sets_145 ?_
                          refine lv_iload_n hx hb dX10_sets_148 rfl (lv_at hl 2 rfl) ?_
                          refine lv_iload_n hx hb dX10_sets_149 rfl (lv_at hl 4 rfl) ?_
                          refine m_iast (1014) hx hb hE hM hS (hJ.2 14 (by decide)).1 rfl (vp_in_iff.mpr (by omega)) dX10_sets_150 (fun H locs I164 eI164 hM hS => ?_)
                          subst eI164
                          have hI := hI.putF (n := 1014) (k := ((a0).toNatClampNeg)) (v := a2) rfl
                          have hK := hK.put (n := 1014) (k := ((a0).toNatClampNeg)) (v := a2) (by first | rfl | simp [inR])
                          refine lv_goto (tgt := 176) hx hb dX10_sets_151 (by decide) ?_
                          refine lv_iload hx hb dX10_sets_176 (lv_at hl 0 rfl) ?_
                          exact m_iret hx hb hr hlocks hM hS (Nat.le_of_ble_eq_true rfl) (Nat.le_of_ble_eq_true rfl) ⟨_, _, rfl, hI, hK⟩ dX10_sets_178
                      · have hc159 := c159
                        have q159 := q_eq hc159
                        refine lv_aload_n hx hb dX10_sets_129 rfl (lv_at hl 1 rfl) ?_
                        refine m_getr (1000) 9 (1009) hx hb hts hown hE oc10 hM hJ.1 rfl (by decide) rfl (hJ.2 9 (by decide)).2 (by decide) tb_1186 dX10_sets_130 ?_
                        refine lv_iload_n hx hb dX10_sets_133 rfl (lv_at hl 2 rfl) ?_
                        refine lv_iload_n hx hb dX10_sets_134 rfl (lv_at hl 4 rfl) ?_
                        refine m_iast (1009) hx hb hE hM hS (hJ.2 9 (by decide)).1 rfl (vp_in_iff.mpr (by omega)) dX10_sets_135 (fun H locs I165 eI165 hM hS => ?_)
                        subst eI165
                        have hI := hI.putF (n := 1009) (k := ((a0).toNatClampNeg)) (v := a2) rfl
                        have hK := hK.put (n := 1009) (k := ((a0).toNatClampNeg)) (v := a2) (by first | rfl | simp [inR])
                        refine lv_goto (tgt := 176) hx hb dX10_sets_136 (by decide) ?_
                        refine lv_iload hx hb dX10_sets_176 (lv_at hl 0 rfl) ?_
                        exact m_iret hx hb hr hlocks hM hS (Nat.le_of_ble_eq_true rfl) (Nat.le_of_ble_eq_true rfl) ⟨_, _, rfl, hI, hK⟩ dX10_sets_178
                  · have hc150 := c150
                    have q150 := q_eq hc150
                    refine lv_aload_n hx hb dX10_sets_94 rfl (lv_at hl 0 rfl) ?_
                    refine m_getr (1000) 14 (1014) hx hb hts hown hE oc10 hM hJ.1 rfl (by decide) rfl (hJ.2 14 (by decide)).2 (by decide) tb_1191 dX10_sets_95 ?_
                    refine lv_iload_n hx hb dX10_sets_98 rfl (lv_at hl 1 rfl) ?_
                    refine m_iald (1014) hx hb hE hM (hJ.2 14 (by decide)).1 rfl (vp_in_iff.mpr (by omega)) dX10_sets_99 ?_
                    refine lv_goto (tgt := 123) hx hb dX10_sets_100 (by decide) ?_
                    refine lv_istore (lv' := [(4, .int (I (1014) (a0).toNatClampNeg)), (0, .ref (ad (1000))), (1, .int (a0)), (2, .int (a1)), (3, .int (a2))]) hx hb dX10_sets_123 hl (by decide) rfl (fun ls hl => ?_)
                    refine lv_iload_n hx hb dX10_sets_125 rfl (lv_at hl 3 rfl) ?_
                    refine lv_if_ne (tgt := 139) hx hb dX10_sets_126 (by decide) (fun c166 => ?_) (fun c166 => ?_)
                    · have hc166 := c166
                      have q166 := q_ne hc166
                      refine lv_iload_n hx hb dX10_sets_139 rfl (lv_at hl 3 rfl) ?_
                      refine lv_iconst (v := (1)) hx hb dX10_sets_140 (by decide) ?_
                      refine lv_icmp_ne (tgt := 154) hx hb dX10_sets_141 (by decide) (fun c167 => ?_) (fun c167 => ?_)
                      · have hc167 := c167
                        have q167 := q_ne hc167
                        refine lv_iload_n hx hb dX10_sets_154 rfl (lv_at hl 3 rfl) ?_
                        refine lv_iconst (v := (2)) hx hb dX10_sets_155 (by decide) ?_
                        refine lv_icmp_ne (tgt := 169) hx hb dX10_sets_156 (by decide) (fun c168 => ?_) (fun c168 => ?_)
                        · have hc168 := c168
                          have q168 := q_ne hc168
                          refine lv_aload_n hx hb dX10_sets_169 rfl (lv_at hl 1 rfl) ?_
                          refine m_getr (1000) 16 (1016) hx hb hts hown hE oc10 hM hJ.1 rfl (by decide) rfl (hJ.2 16 (by decide)).2 (by decide) tb_1193 dX10_sets_170 ?_
                          refine lv_iload_n hx hb dX10_sets_173 rfl (lv_at hl 2 rfl) ?_
                          refine lv_iload_n hx hb dX10_sets_174 rfl (lv_at hl 4 rfl) ?_
                          refine m_iast (1016) hx hb hE hM hS (hJ.2 16 (by decide)).1 rfl (vp_in_iff.mpr (by omega)) dX10_sets_175 (fun H locs I169 eI169 hM hS => ?_)
                          subst eI169
                          have hI := hI.putF (n := 1016) (k := ((a0).toNatClampNeg)) (v := a2) rfl
                          have hK := hK.put (n := 1016) (k := ((a0).toNatClampNeg)) (v := a2) (by first | rfl | simp [inR])
                          refine lv_iload hx hb dX10_sets_176 (lv_at hl 0 rfl) ?_
                          exact m_iret hx hb hr hlocks hM hS (Nat.le_of_ble_eq_true rfl) (Nat.le_of_ble_eq_true rfl) ⟨_, _, rfl, hI, hK⟩ dX10_sets_178
                        · have hc168 := c168
                          have q168 := q_eq hc168
                          refine lv_aload_n hx hb dX10_sets_159 rfl (lv_at hl 1 rfl) ?_
                          refine m_getr (1000) 15 (1015) hx hb hts hown hE oc10 hM hJ.1 rfl (by decide) rfl (hJ.2 15 (by decide)).2 (by decide) tb_1192 dX10_sets_160 ?_
                          refine lv_iload_n hx hb dX10_sets_163 rfl (lv_at hl 2 rfl) ?_
                          refine lv_iload_n hx hb dX10_sets_164 rfl (lv_at hl 4 rfl) ?_
                          refine m_iast (1015) hx hb hE hM hS (hJ.2 15 (by decide)).1 rfl (vp_in_iff.mpr (by omega)) dX10_sets_165 (fun H locs I170 eI170 hM hS => ?_)
                          subst eI170
                          have hI := hI.putF (n := 1015) (k := ((a0).toNatClampNeg)) (v := a2) rfl
                          have hK := hK.put (n := 1015) (k := ((a0).toNatClampNeg)) (v := a2) (by first | rfl | simp [inR])
                          refine lv_goto (tgt := 176) hx hb dX10_sets_166 (by decide) ?_
                          refine lv_iload hx hb dX10_sets_176 (lv_at hl 0 rfl) ?_
                          exact m_iret hx hb hr hlocks hM hS (Nat.le_of_ble_eq_true rfl) (Nat.le_of_ble_eq_true rfl) ⟨_, _, rfl, hI, hK⟩ dX10_sets_178
                      · have hc167 := c167
                        have q167 := q_eq hc167
                        refine lv_aload_n hx hb dX10_sets_144 rfl (lv_at hl 1 rfl) ?_
                        refine m_getr (1000) 14 (1014) hx hb hts hown hE oc10 hM hJ.1 rfl (by decide) rfl (hJ.2 14 (by decide)).2 (by decide) tb_1191 dX10_sets_145 ?_
                        refine lv_iload_n hx hb dX10_sets_148 rfl (lv_at hl 2 rfl) ?_
                        refine lv_iload_n hx hb dX10_sets_149 rfl (lv_at hl 4 rfl) ?_
                        refine m_iast (1014) hx hb hE hM hS (hJ.2 14 (by decide)).1 rfl (vp_in_iff.mpr (by omega)) dX10_sets_150 (fun H locs I171 eI171 hM hS => ?_)
                        subst eI171
                        have hI := hI.putF (n := 1014) (k := ((a0).toNatClampNeg)) (v := a2) rfl
                        have hK := hK.put (n := 1014) (k := ((a0).toNatClampNeg)) (v := a2) (by first | rfl | simp [inR])
                        refine lv_goto (tgt := 176) hx hb dX10_sets_151 (by decide) ?_
                        refine lv_iload hx hb dX10_sets_176 (lv_at hl 0 rfl) ?_
                        exact m_iret hx hb hr hlocks hM hS (Nat.le_of_ble_eq_true rfl) (Nat.le_of_ble_eq_true rfl) ⟨_, _, rfl, hI, hK⟩ dX10_sets_178
                    · have hc166 := c166
                      have q166 := q_eq hc166
                      refine lv_aload_n hx hb dX10_sets_129 rfl (lv_at hl 1 rfl) ?_
                      refine m_getr (1000) 9 (1009) hx hb hts hown hE oc10 hM hJ.1 rfl (by decide) rfl (hJ.2 9 (by decide)).2 (by decide) tb_1186 dX10_sets_130 ?_
                      refine lv_iload_n hx hb dX10_sets_133 rfl (lv_at hl 2 rfl) ?_
                      refine lv_iload_n hx hb dX10_sets_134 rfl (lv_at hl 4 rfl) ?_
                      refine m_iast (1009) hx hb hE hM hS (hJ.2 9 (by decide)).1 rfl (vp_in_iff.mpr (by omega)) dX10_sets_135 (fun H locs I172 eI172 hM hS => ?_)
                      subst eI172
                      have hI := hI.putF (n := 1009) (k := ((a0).toNatClampNeg)) (v := a2) rfl
                      have hK := hK.put (n := 1009) (k := ((a0).toNatClampNeg)) (v := a2) (by first | rfl | simp [inR])
                      refine lv_goto (tgt := 176) hx hb dX10_sets_136 (by decide) ?_
                      refine lv_iload hx hb dX10_sets_176 (lv_at hl 0 rfl) ?_
                      exact m_iret hx hb hr hlocks hM hS (Nat.le_of_ble_eq_true rfl) (Nat.le_of_ble_eq_true rfl) ⟨_, _, rfl, hI, hK⟩ dX10_sets_178
                · have hc149 := c149
                  have q149 := q_eq hc149
                  refine lv_aload_n hx hb dX10_sets_80 rfl (lv_at hl 0 rfl) ?_
                  refine m_getr (1000) 9 (1009) hx hb hts hown hE oc10 hM hJ.1 rfl (by decide) rfl (hJ.2 9 (by decide)).2 (by decide) tb_1186 dX10_sets_81 ?_
                  refine lv_iload_n hx hb dX10_sets_84 rfl (lv_at hl 1 rfl) ?_
                  refine m_iald (1009) hx hb hE hM (hJ.2 9 (by decide)).1 rfl (vp_in_iff.mpr (by omega)) dX10_sets_85 ?_
                  refine lv_goto (tgt := 123) hx hb dX10_sets_86 (by decide) ?_
                  refine lv_istore (lv' := [(4, .int (I (1009) (a0).toNatClampNeg)), (0, .ref (ad (1000))), (1, .int (a0)), (2, .int (a1)), (3, .int (a2))]) hx hb dX10_sets_123 hl (by decide) rfl (fun ls hl => ?_)
                  refine lv_iload_n hx hb dX10_sets_125 rfl (lv_at hl 3 rfl) ?_
                  refine lv_if_ne (tgt := 139) hx hb dX10_sets_126 (by decide) (fun c173 => ?_) (fun c173 => ?_)
                  · have hc173 := c173
                    have q173 := q_ne hc173
                    refine lv_iload_n hx hb dX10_sets_139 rfl (lv_at hl 3 rfl) ?_
                    refine lv_iconst (v := (1)) hx hb dX10_sets_140 (by decide) ?_
                    refine lv_icmp_ne (tgt := 154) hx hb dX10_sets_141 (by decide) (fun c174 => ?_) (fun c174 => ?_)
                    · have hc174 := c174
                      have q174 := q_ne hc174
                      refine lv_iload_n hx hb dX10_sets_154 rfl (lv_at hl 3 rfl) ?_
                      refine lv_iconst (v := (2)) hx hb dX10_sets_155 (by decide) ?_
                      refine lv_icmp_ne (tgt := 169) hx hb dX10_sets_156 (by decide) (fun c175 => ?_) (fun c175 => ?_)
                      · have hc175 := c175
                        have q175 := q_ne hc175
                        refine lv_aload_n hx hb dX10_sets_169 rfl (lv_at hl 1 rfl) ?_
                        refine m_getr (1000) 16 (1016) hx hb hts hown hE oc10 hM hJ.1 rfl (by decide) rfl (hJ.2 16 (by decide)).2 (by decide) tb_1193 dX10_sets_170 ?_
                        refine lv_iload_n hx hb dX10_sets_173 rfl (lv_at hl 2 rfl) ?_
                        refine lv_iload_n hx hb dX10_sets_174 rfl (lv_at hl 4 rfl) ?_
                        refine m_iast (1016) hx hb hE hM hS (hJ.2 16 (by decide)).1 rfl (vp_in_iff.mpr (by omega)) dX10_sets_175 (fun H locs I176 eI176 hM hS => ?_)
                        subst eI176
                        have hI := hI.putF (n := 1016) (k := ((a0).toNatClampNeg)) (v := a2) rfl
                        have hK := hK.put (n := 1016) (k := ((a0).toNatClampNeg)) (v := a2) (by first | rfl | simp [inR])
                        refine lv_iload hx hb dX10_sets_176 (lv_at hl 0 rfl) ?_
                        exact m_iret hx hb hr hlocks hM hS (Nat.le_of_ble_eq_true rfl) (Nat.le_of_ble_eq_true rfl) ⟨_, _, rfl, hI, hK⟩ dX10_sets_178
                      · have hc175 := c175
                        have q175 := q_eq hc175
                        refine lv_aload_n hx hb dX10_sets_159 rfl (lv_at hl 1 rfl) ?_
                        refine m_getr (1000) 15 (1015) hx hb hts hown hE oc10 hM hJ.1 rfl (by decide) rfl (hJ.2 15 (by decide)).2 (by decide) tb_1192 dX10_sets_160 ?_
                        refine lv_iload_n hx hb dX10_sets_163 rfl (lv_at hl 2 rfl) ?_
                        refine lv_iload_n hx hb dX10_sets_164 rfl (lv_at hl 4 rfl) ?_
                        refine m_iast (1015) hx hb hE hM hS (hJ.2 15 (by decide)).1 rfl (vp_in_iff.mpr (by omega)) dX10_sets_165 (fun H locs I177 eI177 hM hS => ?_)
                        subst eI177
                        have hI := hI.putF (n := 1015) (k := ((a0).toNatClampNeg)) (v := a2) rfl
                        have hK := hK.put (n := 1015) (k := ((a0).toNatClampNeg)) (v := a2) (by first | rfl | simp [inR])
                        refine lv_goto (tgt := 176) hx hb dX10_sets_166 (by decide) ?_
                        refine lv_iload hx hb dX10_sets_176 (lv_at hl 0 rfl) ?_
                        exact m_iret hx hb hr hlocks hM hS (Nat.le_of_ble_eq_true rfl) (Nat.le_of_ble_eq_true rfl) ⟨_, _, rfl, hI, hK⟩ dX10_sets_178
                    · have hc174 := c174
                      have q174 := q_eq hc174
                      refine lv_aload_n hx hb dX10_sets_144 rfl (lv_at hl 1 rfl) ?_
                      refine m_getr (1000) 14 (1014) hx hb hts hown hE oc10 hM hJ.1 rfl (by decide) rfl (hJ.2 14 (by decide)).2 (by decide) tb_1191 dX10_sets_145 ?_
                      refine lv_iload_n hx hb dX10_sets_148 rfl (lv_at hl 2 rfl) ?_
                      refine lv_iload_n hx hb dX10_sets_149 rfl (lv_at hl 4 rfl) ?_
                      refine m_iast (1014) hx hb hE hM hS (hJ.2 14 (by decide)).1 rfl (vp_in_iff.mpr (by omega)) dX10_sets_150 (fun H locs I178 eI178 hM hS => ?_)
                      subst eI178
                      have hI := hI.putF (n := 1014) (k := ((a0).toNatClampNeg)) (v := a2) rfl
                      have hK := hK.put (n := 1014) (k := ((a0).toNatClampNeg)) (v := a2) (by first | rfl | simp [inR])
                      refine lv_goto (tgt := 176) hx hb dX10_sets_151 (by decide) ?_
                      refine lv_iload hx hb dX10_sets_176 (lv_at hl 0 rfl) ?_
                      exact m_iret hx hb hr hlocks hM hS (Nat.le_of_ble_eq_true rfl) (Nat.le_of_ble_eq_true rfl) ⟨_, _, rfl, hI, hK⟩ dX10_sets_178
                  · have hc173 := c173
                    have q173 := q_eq hc173
                    refine lv_aload_n hx hb dX10_sets_129 rfl (lv_at hl 1 rfl) ?_
                    refine m_getr (1000) 9 (1009) hx hb hts hown hE oc10 hM hJ.1 rfl (by decide) rfl (hJ.2 9 (by decide)).2 (by decide) tb_1186 dX10_sets_130 ?_
                    refine lv_iload_n hx hb dX10_sets_133 rfl (lv_at hl 2 rfl) ?_
                    refine lv_iload_n hx hb dX10_sets_134 rfl (lv_at hl 4 rfl) ?_
                    refine m_iast (1009) hx hb hE hM hS (hJ.2 9 (by decide)).1 rfl (vp_in_iff.mpr (by omega)) dX10_sets_135 (fun H locs I179 eI179 hM hS => ?_)
                    subst eI179
                    have hI := hI.putF (n := 1009) (k := ((a0).toNatClampNeg)) (v := a2) rfl
                    have hK := hK.put (n := 1009) (k := ((a0).toNatClampNeg)) (v := a2) (by first | rfl | simp [inR])
                    refine lv_goto (tgt := 176) hx hb dX10_sets_136 (by decide) ?_
                    refine lv_iload hx hb dX10_sets_176 (lv_at hl 0 rfl) ?_
                    exact m_iret hx hb hr hlocks hM hS (Nat.le_of_ble_eq_true rfl) (Nat.le_of_ble_eq_true rfl) ⟨_, _, rfl, hI, hK⟩ dX10_sets_178
              · have hc148 := c148
                have q148 := xr147.f hc148
                refine lv_bipush (v := (-2)) hx hb dX10_sets_73 (by decide) ?_
                exact m_iret hx hb hr hlocks hM hS (Nat.le_of_ble_eq_true rfl) (Nat.le_of_ble_eq_true rfl) ⟨_, _, rfl, hI, hK⟩ dX10_sets_75
            · have hc146 := c146
              have q146 := q_eq hc146
              refine lv_lconst (v := 1) hx hb dX10_sets_60 (by decide) ?_
              refine lv_goto (tgt := 67) hx hb dX10_sets_61 (by decide) ?_
              refine m_calli (m_runS (As := [.long (v7), .long ((-1 : Int64)), .long (1)]) (rest := []) hx hb hml hown hts hE hM hS hA ce_X10_in tb_1425 (V_X10_in l D A ad ns I L G (v7) ((-1 : Int64)) (1) hI) rfl rfl ⟨Nat.le_of_ble_eq_true rfl, Nat.le_of_ble_eq_true rfl⟩  rfl hl.1 rfl (Nat.le_of_ble_eq_true rfl) dX10_sets_67 ⟨Nat.le_of_ble_eq_true rfl, Nat.le_of_ble_eq_true rfl⟩) hS (fun r180 u H locs hw hM hS => ?_)
              obtain ⟨rfl, xr180⟩ := hw
              have hM : Mem D A ad ns I L G H := hM
              have yr180 := bo01 xr180
              refine lv_if_ne (tgt := 76) hx hb dX10_sets_70 (by decide) (fun c181 => ?_) (fun c181 => ?_)
              · have hc181 := c181
                have q181 := xr180.t hc181
                refine lv_iload_n hx hb dX10_sets_76 rfl (lv_at hl 2 rfl) ?_
                refine lv_if_ne (tgt := 89) hx hb dX10_sets_77 (by decide) (fun c182 => ?_) (fun c182 => ?_)
                · have hc182 := c182
                  have q182 := q_ne hc182
                  refine lv_iload_n hx hb dX10_sets_89 rfl (lv_at hl 2 rfl) ?_
                  refine lv_iconst (v := (1)) hx hb dX10_sets_90 (by decide) ?_
                  refine lv_icmp_ne (tgt := 103) hx hb dX10_sets_91 (by decide) (fun c183 => ?_) (fun c183 => ?_)
                  · have hc183 := c183
                    have q183 := q_ne hc183
                    refine lv_iload_n hx hb dX10_sets_103 rfl (lv_at hl 2 rfl) ?_
                    refine lv_iconst (v := (2)) hx hb dX10_sets_104 (by decide) ?_
                    refine lv_icmp_ne (tgt := 117) hx hb dX10_sets_105 (by decide) (fun c184 => ?_) (fun c184 => ?_)
                    · have hc184 := c184
                      have q184 := q_ne hc184
                      refine lv_aload_n hx hb dX10_sets_117 rfl (lv_at hl 0 rfl) ?_
                      refine m_getr (1000) 16 (1016) hx hb hts hown hE oc10 hM hJ.1 rfl (by decide) rfl (hJ.2 16 (by decide)).2 (by decide) tb_1193 dX10_sets_118 ?_
                      refine lv_iload_n hx hb dX10_sets_121 rfl (lv_at hl 1 rfl) ?_
                      refine m_iald (1016) hx hb hE hM (hJ.2 16 (by decide)).1 rfl (vp_in_iff.mpr (by omega)) dX10_sets_122 ?_
                      refine lv_istore (lv' := [(4, .int (I (1016) (a0).toNatClampNeg)), (0, .ref (ad (1000))), (1, .int (a0)), (2, .int (a1)), (3, .int (a2))]) hx hb dX10_sets_123 hl (by decide) rfl (fun ls hl => ?_)
                      refine lv_iload_n hx hb dX10_sets_125 rfl (lv_at hl 3 rfl) ?_
                      refine lv_if_ne (tgt := 139) hx hb dX10_sets_126 (by decide) (fun c185 => ?_) (fun c185 => ?_)
                      · have hc185 := c185
                        have q185 := q_ne hc185
                        refine lv_iload_n hx hb dX10_sets_139 rfl (lv_at hl 3 rfl) ?_
                        refine lv_iconst (v := (1)) hx hb dX10_sets_140 (by decide) ?_
                        refine lv_icmp_ne (tgt := 154) hx hb dX10_sets_141 (by decide) (fun c186 => ?_) (fun c186 => ?_)
                        · have hc186 := c186
                          have q186 := q_ne hc186
                          refine lv_iload_n hx hb dX10_sets_154 rfl (lv_at hl 3 rfl) ?_
                          refine lv_iconst (v := (2)) hx hb dX10_sets_155 (by decide) ?_
                          refine lv_icmp_ne (tgt := 169) hx hb dX10_sets_156 (by decide) (fun c187 => ?_) (fun c187 => ?_)
                          · have hc187 := c187
                            have q187 := q_ne hc187
                            refine lv_aload_n hx hb dX10_sets_169 rfl (lv_at hl 1 rfl) ?_
                            refine m_getr (1000) 16 (1016) hx hb hts hown hE oc10 hM hJ.1 rfl (by decide) rfl (hJ.2 16 (by decide)).2 (by decide) tb_1193 dX10_sets_170 ?_
                            refine lv_iload_n hx hb dX10_sets_173 rfl (lv_at hl 2 rfl) ?_
                            refine lv_iload_n hx hb dX10_sets_174 rfl (lv_at hl 4 rfl) ?_
                            refine m_iast (1016) hx hb hE hM hS (hJ.2 16 (by decide)).1 rfl (vp_in_iff.mpr (by omega)) dX10_sets_175 (fun H locs I188 eI188 hM hS => ?_)
                            subst eI188
                            have hI := hI.putF (n := 1016) (k := ((a0).toNatClampNeg)) (v := a2) rfl
                            have hK := hK.put (n := 1016) (k := ((a0).toNatClampNeg)) (v := a2) (by first | rfl | simp [inR])
                            refine lv_iload hx hb dX10_sets_176 (lv_at hl 0 rfl) ?_
                            exact m_iret hx hb hr hlocks hM hS (Nat.le_of_ble_eq_true rfl) (Nat.le_of_ble_eq_true rfl) ⟨_, _, rfl, hI, hK⟩ dX10_sets_178
                          · have hc187 := c187
                            have q187 := q_eq hc187
                            refine lv_aload_n hx hb dX10_sets_159 rfl (lv_at hl 1 rfl) ?_
                            refine m_getr (1000) 15 (1015) hx hb hts hown hE oc10 hM hJ.1 rfl (by decide) rfl (hJ.2 15 (by decide)).2 (by decide) tb_1192 dX10_sets_160 ?_
                            refine lv_iload_n hx hb dX10_sets_163 rfl (lv_at hl 2 rfl) ?_
                            refine lv_iload_n hx hb dX10_sets_164 rfl (lv_at hl 4 rfl) ?_
                            refine m_iast (1015) hx hb hE hM hS (hJ.2 15 (by decide)).1 rfl (vp_in_iff.mpr (by omega)) dX10_sets_165 (fun H locs I189 eI189 hM hS => ?_)
                            subst eI189
                            have hI := hI.putF (n := 1015) (k := ((a0).toNatClampNeg)) (v := a2) rfl
                            have hK := hK.put (n := 1015) (k := ((a0).toNatClampNeg)) (v := a2) (by first | rfl | simp [inR])
                            refine lv_goto (tgt := 176) hx hb dX10_sets_166 (by decide) ?_
                            refine lv_iload hx hb dX10_sets_176 (lv_at hl 0 rfl) ?_
                            exact m_iret hx hb hr hlocks hM hS (Nat.le_of_ble_eq_true rfl) (Nat.le_of_ble_eq_true rfl) ⟨_, _, rfl, hI, hK⟩ dX10_sets_178
                        · have hc186 := c186
                          have q186 := q_eq hc186
                          refine lv_aload_n hx hb dX10_sets_144 rfl (lv_at hl 1 rfl) ?_
                          refine m_getr (1000) 14 (1014) hx hb hts hown hE oc10 hM hJ.1 rfl (by decide) rfl (hJ.2 14 (by decide)).2 (by decide) tb_1191 dX10_sets_145 ?_
                          refine lv_iload_n hx hb dX10_sets_148 rfl (lv_at hl 2 rfl) ?_
                          refine lv_iload_n hx hb dX10_sets_149 rfl (lv_at hl 4 rfl) ?_
                          refine m_iast (1014) hx hb hE hM hS (hJ.2 14 (by decide)).1 rfl (vp_in_iff.mpr (by omega)) dX10_sets_150 (fun H locs I190 eI190 hM hS => ?_)
                          subst eI190
                          have hI := hI.putF (n := 1014) (k := ((a0).toNatClampNeg)) (v := a2) rfl
                          have hK := hK.put (n := 1014) (k := ((a0).toNatClampNeg)) (v := a2) (by first | rfl | simp [inR])
                          refine lv_goto (tgt := 176) hx hb dX10_sets_151 (by decide) ?_
                          refine lv_iload hx hb dX10_sets_176 (lv_at hl 0 rfl) ?_
                          exact m_iret hx hb hr hlocks hM hS (Nat.le_of_ble_eq_true rfl) (Nat.le_of_ble_eq_true rfl) ⟨_, _, rfl, hI, hK⟩ dX10_sets_178
                      · have hc185 := c185
                        have q185 := q_eq hc185
                        refine lv_aload_n hx hb dX10_sets_129 rfl (lv_at hl 1 rfl) ?_
                        refine m_getr (1000) 9 (1009) hx hb hts hown hE oc10 hM hJ.1 rfl (by decide) rfl (hJ.2 9 (by decide)).2 (by decide) tb_1186 dX10_sets_130 ?_
                        refine lv_iload_n hx hb dX10_sets_133 rfl (lv_at hl 2 rfl) ?_
                        refine lv_iload_n hx hb dX10_sets_134 rfl (lv_at hl 4 rfl) ?_
                        refine m_iast (1009) hx hb hE hM hS (hJ.2 9 (by decide)).1 rfl (vp_in_iff.mpr (by omega)) dX10_sets_135 (fun H locs I191 eI191 hM hS => ?_)
                        subst eI191
                        have hI := hI.putF (n := 1009) (k := ((a0).toNatClampNeg)) (v := a2) rfl
                        have hK := hK.put (n := 1009) (k := ((a0).toNatClampNeg)) (v := a2) (by first | rfl | simp [inR])
                        refine lv_goto (tgt := 176) hx hb dX10_sets_136 (by decide) ?_
                        refine lv_iload hx hb dX10_sets_176 (lv_at hl 0 rfl) ?_
                        exact m_iret hx hb hr hlocks hM hS (Nat.le_of_ble_eq_true rfl) (Nat.le_of_ble_eq_true rfl) ⟨_, _, rfl, hI, hK⟩ dX10_sets_178
                    · have hc184 := c184
                      have q184 := q_eq hc184
                      refine lv_aload_n hx hb dX10_sets_108 rfl (lv_at hl 0 rfl) ?_
                      refine m_getr (1000) 15 (1015) hx hb hts hown hE oc10 hM hJ.1 rfl (by decide) rfl (hJ.2 15 (by decide)).2 (by decide) tb_1192 dX10_sets_109 ?_
                      refine lv_iload_n hx hb dX10_sets_112 rfl (lv_at hl 1 rfl) ?_
                      refine m_iald (1015) hx hb hE hM (hJ.2 15 (by decide)).1 rfl (vp_in_iff.mpr (by omega)) dX10_sets_113 ?_
                      refine lv_goto (tgt := 123) hx hb dX10_sets_114 (by decide) ?_
                      refine lv_istore (lv' := [(4, .int (I (1015) (a0).toNatClampNeg)), (0, .ref (ad (1000))), (1, .int (a0)), (2, .int (a1)), (3, .int (a2))]) hx hb dX10_sets_123 hl (by decide) rfl (fun ls hl => ?_)
                      refine lv_iload_n hx hb dX10_sets_125 rfl (lv_at hl 3 rfl) ?_
                      refine lv_if_ne (tgt := 139) hx hb dX10_sets_126 (by decide) (fun c192 => ?_) (fun c192 => ?_)
                      · have hc192 := c192
                        have q192 := q_ne hc192
                        refine lv_iload_n hx hb dX10_sets_139 rfl (lv_at hl 3 rfl) ?_
                        refine lv_iconst (v := (1)) hx hb dX10_sets_140 (by decide) ?_
                        refine lv_icmp_ne (tgt := 154) hx hb dX10_sets_141 (by decide) (fun c193 => ?_) (fun c193 => ?_)
                        · have hc193 := c193
                          have q193 := q_ne hc193
                          refine lv_iload_n hx hb dX10_sets_154 rfl (lv_at hl 3 rfl) ?_
                          refine lv_iconst (v := (2)) hx hb dX10_sets_155 (by decide) ?_
                          refine lv_icmp_ne (tgt := 169) hx hb dX10_sets_156 (by decide) (fun c194 => ?_) (fun c194 => ?_)
                          · have hc194 := c194
                            have q194 := q_ne hc194
                            refine lv_aload_n hx hb dX10_sets_169 rfl (lv_at hl 1 rfl) ?_
                            refine m_getr (1000) 16 (1016) hx hb hts hown hE oc10 hM hJ.1 rfl (by decide) rfl (hJ.2 16 (by decide)).2 (by decide) tb_1193 dX10_sets_170 ?_
                            refine lv_iload_n hx hb dX10_sets_173 rfl (lv_at hl 2 rfl) ?_
                            refine lv_iload_n hx hb dX10_sets_174 rfl (lv_at hl 4 rfl) ?_
                            refine m_iast (1016) hx hb hE hM hS (hJ.2 16 (by decide)).1 rfl (vp_in_iff.mpr (by omega)) dX10_sets_175 (fun H locs I195 eI195 hM hS => ?_)
                            subst eI195
                            have hI := hI.putF (n := 1016) (k := ((a0).toNatClampNeg)) (v := a2) rfl
                            have hK := hK.put (n := 1016) (k := ((a0).toNatClampNeg)) (v := a2) (by first | rfl | simp [inR])
                            refine lv_iload hx hb dX10_sets_176 (lv_at hl 0 rfl) ?_
                            exact m_iret hx hb hr hlocks hM hS (Nat.le_of_ble_eq_true rfl) (Nat.le_of_ble_eq_true rfl) ⟨_, _, rfl, hI, hK⟩ dX10_sets_178
                          · have hc194 := c194
                            have q194 := q_eq hc194
                            refine lv_aload_n hx hb dX10_sets_159 rfl (lv_at hl 1 rfl) ?_
                            refine m_getr (1000) 15 (1015) hx hb hts hown hE oc10 hM hJ.1 rfl (by decide) rfl (hJ.2 15 (by decide)).2 (by decide) tb_1192 dX10_sets_160 ?_
                            refine lv_iload_n hx hb dX10_sets_163 rfl (lv_at hl 2 rfl) ?_
                            refine lv_iload_n hx hb dX10_sets_164 rfl (lv_at hl 4 rfl) ?_
                            refine m_iast (1015) hx hb hE hM hS (hJ.2 15 (by decide)).1 rfl (vp_in_iff.mpr (by omega)) dX10_sets_165 (fun H locs I196 eI196 hM hS => ?_)
                            subst eI196
                            have hI := hI.putF (n := 1015) (k := ((a0).toNatClampNeg)) (v := a2) rfl
                            have hK := hK.put (n := 1015) (k := ((a0).toNatClampNeg)) (v := a2) (by first | rfl | simp [inR])
                            refine lv_goto (tgt := 176) hx hb dX10_sets_166 (by decide) ?_
                            refine lv_iload hx hb dX10_sets_176 (lv_at hl 0 rfl) ?_
                            exact m_iret hx hb hr hlocks hM hS (Nat.le_of_ble_eq_true rfl) (Nat.le_of_ble_eq_true rfl) ⟨_, _, rfl, hI, hK⟩ dX10_sets_178
                        · have hc193 := c193
                          have q193 := q_eq hc193
                          refine lv_aload_n hx hb dX10_sets_144 rfl (lv_at hl 1 rfl) ?_
                          refine m_getr (1000) 14 (1014) hx hb hts hown hE oc10 hM hJ.1 rfl (by decide) rfl (hJ.2 14 (by decide)).2 (by decide) tb_1191 dX10_sets_145 ?_
                          refine lv_iload_n hx hb dX10_sets_148 rfl (lv_at hl 2 rfl) ?_
                          refine lv_iload_n hx hb dX10_sets_149 rfl (lv_at hl 4 rfl) ?_
                          refine m_iast (1014) hx hb hE hM hS (hJ.2 14 (by decide)).1 rfl (vp_in_iff.mpr (by omega)) dX10_sets_150 (fun H locs I197 eI197 hM hS => ?_)
                          subst eI197
                          have hI := hI.putF (n := 1014) (k := ((a0).toNatClampNeg)) (v := a2) rfl
                          have hK := hK.put (n := 1014) (k := ((a0).toNatClampNeg)) (v := a2) (by first | rfl | simp [inR])
                          refine lv_goto (tgt := 176) hx hb dX10_sets_151 (by decide) ?_
                          refine lv_iload hx hb dX10_sets_176 (lv_at hl 0 rfl) ?_
                          exact m_iret hx hb hr hlocks hM hS (Nat.le_of_ble_eq_true rfl) (Nat.le_of_ble_eq_true rfl) ⟨_, _, rfl, hI, hK⟩ dX10_sets_178
                      · have hc192 := c192
                        have q192 := q_eq hc192
                        refine lv_aload_n hx hb dX10_sets_129 rfl (lv_at hl 1 rfl) ?_
                        refine m_getr (1000) 9 (1009) hx hb hts hown hE oc10 hM hJ.1 rfl (by decide) rfl (hJ.2 9 (by decide)).2 (by decide) tb_1186 dX10_sets_130 ?_
                        refine lv_iload_n hx hb dX10_sets_133 rfl (lv_at hl 2 rfl) ?_
                        refine lv_iload_n hx hb dX10_sets_134 rfl (lv_at hl 4 rfl) ?_
                        refine m_iast (1009) hx hb hE hM hS (hJ.2 9 (by decide)).1 rfl (vp_in_iff.mpr (by omega)) dX10_sets_135 (fun H locs I198 eI198 hM hS => ?_)
                        subst eI198
                        have hI := hI.putF (n := 1009) (k := ((a0).toNatClampNeg)) (v := a2) rfl
                        have hK := hK.put (n := 1009) (k := ((a0).toNatClampNeg)) (v := a2) (by first | rfl | simp [inR])
                        refine lv_goto (tgt := 176) hx hb dX10_sets_136 (by decide) ?_
                        refine lv_iload hx hb dX10_sets_176 (lv_at hl 0 rfl) ?_
                        exact m_iret hx hb hr hlocks hM hS (Nat.le_of_ble_eq_true rfl) (Nat.le_of_ble_eq_true rfl) ⟨_, _, rfl, hI, hK⟩ dX10_sets_178
                  · have hc183 := c183
                    have q183 := q_eq hc183
                    refine lv_aload_n hx hb dX10_sets_94 rfl (lv_at hl 0 rfl) ?_
                    refine m_getr (1000) 14 (1014) hx hb hts hown hE oc10 hM hJ.1 rfl (by decide) rfl (hJ.2 14 (by decide)).2 (by decide) tb_1191 dX10_sets_95 ?_
                    refine lv_iload_n hx hb dX10_sets_98 rfl (lv_at hl 1 rfl) ?_
                    refine m_iald (1014) hx hb hE hM (hJ.2 14 (by decide)).1 rfl (vp_in_iff.mpr (by omega)) dX10_sets_99 ?_
                    refine lv_goto (tgt := 123) hx hb dX10_sets_100 (by decide) ?_
                    refine lv_istore (lv' := [(4, .int (I (1014) (a0).toNatClampNeg)), (0, .ref (ad (1000))), (1, .int (a0)), (2, .int (a1)), (3, .int (a2))]) hx hb dX10_sets_123 hl (by decide) rfl (fun ls hl => ?_)
                    refine lv_iload_n hx hb dX10_sets_125 rfl (lv_at hl 3 rfl) ?_
                    refine lv_if_ne (tgt := 139) hx hb dX10_sets_126 (by decide) (fun c199 => ?_) (fun c199 => ?_)
                    · have hc199 := c199
                      have q199 := q_ne hc199
                      refine lv_iload_n hx hb dX10_sets_139 rfl (lv_at hl 3 rfl) ?_
                      refine lv_iconst (v := (1)) hx hb dX10_sets_140 (by decide) ?_
                      refine lv_icmp_ne (tgt := 154) hx hb dX10_sets_141 (by decide) (fun c200 => ?_) (fun c200 => ?_)
                      · have hc200 := c200
                        have q200 := q_ne hc200
                        refine lv_iload_n hx hb dX10_sets_154 rfl (lv_at hl 3 rfl) ?_
                        refine lv_iconst (v := (2)) hx hb dX10_sets_155 (by decide) ?_
                        refine lv_icmp_ne (tgt := 169) hx hb dX10_sets_156 (by decide) (fun c201 => ?_) (fun c201 => ?_)
                        · have hc201 := c201
                          have q201 := q_ne hc201
                          refine lv_aload_n hx hb dX10_sets_169 rfl (lv_at hl 1 rfl) ?_
                          refine m_getr (1000) 16 (1016) hx hb hts hown hE oc10 hM hJ.1 rfl (by decide) rfl (hJ.2 16 (by decide)).2 (by decide) tb_1193 dX10_sets_170 ?_
                          refine lv_iload_n hx hb dX10_sets_173 rfl (lv_at hl 2 rfl) ?_
                          refine lv_iload_n hx hb dX10_sets_174 rfl (lv_at hl 4 rfl) ?_
                          refine m_iast (1016) hx hb hE hM hS (hJ.2 16 (by decide)).1 rfl (vp_in_iff.mpr (by omega)) dX10_sets_175 (fun H locs I202 eI202 hM hS => ?_)
                          subst eI202
                          have hI := hI.putF (n := 1016) (k := ((a0).toNatClampNeg)) (v := a2) rfl
                          have hK := hK.put (n := 1016) (k := ((a0).toNatClampNeg)) (v := a2) (by first | rfl | simp [inR])
                          refine lv_iload hx hb dX10_sets_176 (lv_at hl 0 rfl) ?_
                          exact m_iret hx hb hr hlocks hM hS (Nat.le_of_ble_eq_true rfl) (Nat.le_of_ble_eq_true rfl) ⟨_, _, rfl, hI, hK⟩ dX10_sets_178
                        · have hc201 := c201
                          have q201 := q_eq hc201
                          refine lv_aload_n hx hb dX10_sets_159 rfl (lv_at hl 1 rfl) ?_
                          refine m_getr (1000) 15 (1015) hx hb hts hown hE oc10 hM hJ.1 rfl (by decide) rfl (hJ.2 15 (by decide)).2 (by decide) tb_1192 dX10_sets_160 ?_
                          refine lv_iload_n hx hb dX10_sets_163 rfl (lv_at hl 2 rfl) ?_
                          refine lv_iload_n hx hb dX10_sets_164 rfl (lv_at hl 4 rfl) ?_
                          refine m_iast (1015) hx hb hE hM hS (hJ.2 15 (by decide)).1 rfl (vp_in_iff.mpr (by omega)) dX10_sets_165 (fun H locs I203 eI203 hM hS => ?_)
                          subst eI203
                          have hI := hI.putF (n := 1015) (k := ((a0).toNatClampNeg)) (v := a2) rfl
                          have hK := hK.put (n := 1015) (k := ((a0).toNatClampNeg)) (v := a2) (by first | rfl | simp [inR])
                          refine lv_goto (tgt := 176) hx hb dX10_sets_166 (by decide) ?_
                          refine lv_iload hx hb dX10_sets_176 (lv_at hl 0 rfl) ?_
                          exact m_iret hx hb hr hlocks hM hS (Nat.le_of_ble_eq_true rfl) (Nat.le_of_ble_eq_true rfl) ⟨_, _, rfl, hI, hK⟩ dX10_sets_178
                      · have hc200 := c200
                        have q200 := q_eq hc200
                        refine lv_aload_n hx hb dX10_sets_144 rfl (lv_at hl 1 rfl) ?_
                        refine m_getr (1000) 14 (1014) hx hb hts hown hE oc10 hM hJ.1 rfl (by decide) rfl (hJ.2 14 (by decide)).2 (by decide) tb_1191 dX10_sets_145 ?_
                        refine lv_iload_n hx hb dX10_sets_148 rfl (lv_at hl 2 rfl) ?_
                        refine lv_iload_n hx hb dX10_sets_149 rfl (lv_at hl 4 rfl) ?_
                        refine m_iast (1014) hx hb hE hM hS (hJ.2 14 (by decide)).1 rfl (vp_in_iff.mpr (by omega)) dX10_sets_150 (fun H locs I204 eI204 hM hS => ?_)
                        subst eI204
                        have hI := hI.putF (n := 1014) (k := ((a0).toNatClampNeg)) (v := a2) rfl
                        have hK := hK.put (n := 1014) (k := ((a0).toNatClampNeg)) (v := a2) (by first | rfl | simp [inR])
                        refine lv_goto (tgt := 176) hx hb dX10_sets_151 (by decide) ?_
                        refine lv_iload hx hb dX10_sets_176 (lv_at hl 0 rfl) ?_
                        exact m_iret hx hb hr hlocks hM hS (Nat.le_of_ble_eq_true rfl) (Nat.le_of_ble_eq_true rfl) ⟨_, _, rfl, hI, hK⟩ dX10_sets_178
                    · have hc199 := c199
                      have q199 := q_eq hc199
                      refine lv_aload_n hx hb dX10_sets_129 rfl (lv_at hl 1 rfl) ?_
                      refine m_getr (1000) 9 (1009) hx hb hts hown hE oc10 hM hJ.1 rfl (by decide) rfl (hJ.2 9 (by decide)).2 (by decide) tb_1186 dX10_sets_130 ?_
                      refine lv_iload_n hx hb dX10_sets_133 rfl (lv_at hl 2 rfl) ?_
                      refine lv_iload_n hx hb dX10_sets_134 rfl (lv_at hl 4 rfl) ?_
                      refine m_iast (1009) hx hb hE hM hS (hJ.2 9 (by decide)).1 rfl (vp_in_iff.mpr (by omega)) dX10_sets_135 (fun H locs I205 eI205 hM hS => ?_)
                      subst eI205
                      have hI := hI.putF (n := 1009) (k := ((a0).toNatClampNeg)) (v := a2) rfl
                      have hK := hK.put (n := 1009) (k := ((a0).toNatClampNeg)) (v := a2) (by first | rfl | simp [inR])
                      refine lv_goto (tgt := 176) hx hb dX10_sets_136 (by decide) ?_
                      refine lv_iload hx hb dX10_sets_176 (lv_at hl 0 rfl) ?_
                      exact m_iret hx hb hr hlocks hM hS (Nat.le_of_ble_eq_true rfl) (Nat.le_of_ble_eq_true rfl) ⟨_, _, rfl, hI, hK⟩ dX10_sets_178
                · have hc182 := c182
                  have q182 := q_eq hc182
                  refine lv_aload_n hx hb dX10_sets_80 rfl (lv_at hl 0 rfl) ?_
                  refine m_getr (1000) 9 (1009) hx hb hts hown hE oc10 hM hJ.1 rfl (by decide) rfl (hJ.2 9 (by decide)).2 (by decide) tb_1186 dX10_sets_81 ?_
                  refine lv_iload_n hx hb dX10_sets_84 rfl (lv_at hl 1 rfl) ?_
                  refine m_iald (1009) hx hb hE hM (hJ.2 9 (by decide)).1 rfl (vp_in_iff.mpr (by omega)) dX10_sets_85 ?_
                  refine lv_goto (tgt := 123) hx hb dX10_sets_86 (by decide) ?_
                  refine lv_istore (lv' := [(4, .int (I (1009) (a0).toNatClampNeg)), (0, .ref (ad (1000))), (1, .int (a0)), (2, .int (a1)), (3, .int (a2))]) hx hb dX10_sets_123 hl (by decide) rfl (fun ls hl => ?_)
                  refine lv_iload_n hx hb dX10_sets_125 rfl (lv_at hl 3 rfl) ?_
                  refine lv_if_ne (tgt := 139) hx hb dX10_sets_126 (by decide) (fun c206 => ?_) (fun c206 => ?_)
                  · have hc206 := c206
                    have q206 := q_ne hc206
                    refine lv_iload_n hx hb dX10_sets_139 rfl (lv_at hl 3 rfl) ?_
                    refine lv_iconst (v := (1)) hx hb dX10_sets_140 (by decide) ?_
                    refine lv_icmp_ne (tgt := 154) hx hb dX10_sets_141 (by decide) (fun c207 => ?_) (fun c207 => ?_)
                    · have hc207 := c207
                      have q207 := q_ne hc207
                      refine lv_iload_n hx hb dX10_sets_154 rfl (lv_at hl 3 rfl) ?_
                      refine lv_iconst (v := (2)) hx hb dX10_sets_155 (by decide) ?_
                      refine lv_icmp_ne (tgt := 169) hx hb dX10_sets_156 (by decide) (fun c208 => ?_) (fun c208 => ?_)
                      · have hc208 := c208
                        have q208 := q_ne hc208
                        refine lv_aload_n hx hb dX10_sets_169 rfl (lv_at hl 1 rfl) ?_
                        refine m_getr (1000) 16 (1016) hx hb hts hown hE oc10 hM hJ.1 rfl (by decide) rfl (hJ.2 16 (by decide)).2 (by decide) tb_1193 dX10_sets_170 ?_
                        refine lv_iload_n hx hb dX10_sets_173 rfl (lv_at hl 2 rfl) ?_
                        refine lv_iload_n hx hb dX10_sets_174 rfl (lv_at hl 4 rfl) ?_
                        refine m_iast (1016) hx hb hE hM hS (hJ.2 16 (by decide)).1 rfl (vp_in_iff.mpr (by omega)) dX10_sets_175 (fun H locs I209 eI209 hM hS => ?_)
                        subst eI209
                        have hI := hI.putF (n := 1016) (k := ((a0).toNatClampNeg)) (v := a2) rfl
                        have hK := hK.put (n := 1016) (k := ((a0).toNatClampNeg)) (v := a2) (by first | rfl | simp [inR])
                        refine lv_iload hx hb dX10_sets_176 (lv_at hl 0 rfl) ?_
                        exact m_iret hx hb hr hlocks hM hS (Nat.le_of_ble_eq_true rfl) (Nat.le_of_ble_eq_true rfl) ⟨_, _, rfl, hI, hK⟩ dX10_sets_178
                      · have hc208 := c208
                        have q208 := q_eq hc208
                        refine lv_aload_n hx hb dX10_sets_159 rfl (lv_at hl 1 rfl) ?_
                        refine m_getr (1000) 15 (1015) hx hb hts hown hE oc10 hM hJ.1 rfl (by decide) rfl (hJ.2 15 (by decide)).2 (by decide) tb_1192 dX10_sets_160 ?_
                        refine lv_iload_n hx hb dX10_sets_163 rfl (lv_at hl 2 rfl) ?_
                        refine lv_iload_n hx hb dX10_sets_164 rfl (lv_at hl 4 rfl) ?_
                        refine m_iast (1015) hx hb hE hM hS (hJ.2 15 (by decide)).1 rfl (vp_in_iff.mpr (by omega)) dX10_sets_165 (fun H locs I210 eI210 hM hS => ?_)
                        subst eI210
                        have hI := hI.putF (n := 1015) (k := ((a0).toNatClampNeg)) (v := a2) rfl
                        have hK := hK.put (n := 1015) (k := ((a0).toNatClampNeg)) (v := a2) (by first | rfl | simp [inR])
                        refine lv_goto (tgt := 176) hx hb dX10_sets_166 (by decide) ?_
                        refine lv_iload hx hb dX10_sets_176 (lv_at hl 0 rfl) ?_
                        exact m_iret hx hb hr hlocks hM hS (Nat.le_of_ble_eq_true rfl) (Nat.le_of_ble_eq_true rfl) ⟨_, _, rfl, hI, hK⟩ dX10_sets_178
                    · have hc207 := c207
                      have q207 := q_eq hc207
                      refine lv_aload_n hx hb dX10_sets_144 rfl (lv_at hl 1 rfl) ?_
                      refine m_getr (1000) 14 (1014) hx hb hts hown hE oc10 hM hJ.1 rfl (by decide) rfl (hJ.2 14 (by decide)).2 (by decide) tb_1191 dX10_sets_145 ?_
                      refine lv_iload_n hx hb dX10_sets_148 rfl (lv_at hl 2 rfl) ?_
                      refine lv_iload_n hx hb dX10_sets_149 rfl (lv_at hl 4 rfl) ?_
                      refine m_iast (1014) hx hb hE hM hS (hJ.2 14 (by decide)).1 rfl (vp_in_iff.mpr (by omega)) dX10_sets_150 (fun H locs I211 eI211 hM hS => ?_)
                      subst eI211
                      have hI := hI.putF (n := 1014) (k := ((a0).toNatClampNeg)) (v := a2) rfl
                      have hK := hK.put (n := 1014) (k := ((a0).toNatClampNeg)) (v := a2) (by first | rfl | simp [inR])
                      refine lv_goto (tgt := 176) hx hb dX10_sets_151 (by decide) ?_
                      refine lv_iload hx hb dX10_sets_176 (lv_at hl 0 rfl) ?_
                      exact m_iret hx hb hr hlocks hM hS (Nat.le_of_ble_eq_true rfl) (Nat.le_of_ble_eq_true rfl) ⟨_, _, rfl, hI, hK⟩ dX10_sets_178
                  · have hc206 := c206
                    have q206 := q_eq hc206
                    refine lv_aload_n hx hb dX10_sets_129 rfl (lv_at hl 1 rfl) ?_
                    refine m_getr (1000) 9 (1009) hx hb hts hown hE oc10 hM hJ.1 rfl (by decide) rfl (hJ.2 9 (by decide)).2 (by decide) tb_1186 dX10_sets_130 ?_
                    refine lv_iload_n hx hb dX10_sets_133 rfl (lv_at hl 2 rfl) ?_
                    refine lv_iload_n hx hb dX10_sets_134 rfl (lv_at hl 4 rfl) ?_
                    refine m_iast (1009) hx hb hE hM hS (hJ.2 9 (by decide)).1 rfl (vp_in_iff.mpr (by omega)) dX10_sets_135 (fun H locs I212 eI212 hM hS => ?_)
                    subst eI212
                    have hI := hI.putF (n := 1009) (k := ((a0).toNatClampNeg)) (v := a2) rfl
                    have hK := hK.put (n := 1009) (k := ((a0).toNatClampNeg)) (v := a2) (by first | rfl | simp [inR])
                    refine lv_goto (tgt := 176) hx hb dX10_sets_136 (by decide) ?_
                    refine lv_iload hx hb dX10_sets_176 (lv_at hl 0 rfl) ?_
                    exact m_iret hx hb hr hlocks hM hS (Nat.le_of_ble_eq_true rfl) (Nat.le_of_ble_eq_true rfl) ⟨_, _, rfl, hI, hK⟩ dX10_sets_178
              · have hc181 := c181
                have q181 := xr180.f hc181
                refine lv_bipush (v := (-2)) hx hb dX10_sets_73 (by decide) ?_
                exact m_iret hx hb hr hlocks hM hS (Nat.le_of_ble_eq_true rfl) (Nat.le_of_ble_eq_true rfl) ⟨_, _, rfl, hI, hK⟩ dX10_sets_75
          · have hc145 := c145
            have q145 := q_eq hc145
            refine lv_ldc2 (v := (1000)) hx hb hown (hts _ tb_1428) dX10_sets_49 ?_
            refine lv_goto (tgt := 67) hx hb dX10_sets_52 (by decide) ?_
            refine m_calli (m_runS (As := [.long (v7), .long ((-1 : Int64)), .long ((1000 : Int64))]) (rest := []) hx hb hml hown hts hE hM hS hA ce_X10_in tb_1425 (V_X10_in l D A ad ns I L G (v7) ((-1 : Int64)) ((1000 : Int64)) hI) rfl rfl ⟨Nat.le_of_ble_eq_true rfl, Nat.le_of_ble_eq_true rfl⟩  rfl hl.1 rfl (Nat.le_of_ble_eq_true rfl) dX10_sets_67 ⟨Nat.le_of_ble_eq_true rfl, Nat.le_of_ble_eq_true rfl⟩) hS (fun r213 u H locs hw hM hS => ?_)
            obtain ⟨rfl, xr213⟩ := hw
            have hM : Mem D A ad ns I L G H := hM
            have yr213 := bo01 xr213
            refine lv_if_ne (tgt := 76) hx hb dX10_sets_70 (by decide) (fun c214 => ?_) (fun c214 => ?_)
            · have hc214 := c214
              have q214 := xr213.t hc214
              refine lv_iload_n hx hb dX10_sets_76 rfl (lv_at hl 2 rfl) ?_
              refine lv_if_ne (tgt := 89) hx hb dX10_sets_77 (by decide) (fun c215 => ?_) (fun c215 => ?_)
              · have hc215 := c215
                have q215 := q_ne hc215
                refine lv_iload_n hx hb dX10_sets_89 rfl (lv_at hl 2 rfl) ?_
                refine lv_iconst (v := (1)) hx hb dX10_sets_90 (by decide) ?_
                refine lv_icmp_ne (tgt := 103) hx hb dX10_sets_91 (by decide) (fun c216 => ?_) (fun c216 => ?_)
                · have hc216 := c216
                  have q216 := q_ne hc216
                  refine lv_iload_n hx hb dX10_sets_103 rfl (lv_at hl 2 rfl) ?_
                  refine lv_iconst (v := (2)) hx hb dX10_sets_104 (by decide) ?_
                  refine lv_icmp_ne (tgt := 117) hx hb dX10_sets_105 (by decide) (fun c217 => ?_) (fun c217 => ?_)
                  · have hc217 := c217
                    have q217 := q_ne hc217
                    refine lv_aload_n hx hb dX10_sets_117 rfl (lv_at hl 0 rfl) ?_
                    refine m_getr (1000) 16 (1016) hx hb hts hown hE oc10 hM hJ.1 rfl (by decide) rfl (hJ.2 16 (by decide)).2 (by decide) tb_1193 dX10_sets_118 ?_
                    refine lv_iload_n hx hb dX10_sets_121 rfl (lv_at hl 1 rfl) ?_
                    refine m_iald (1016) hx hb hE hM (hJ.2 16 (by decide)).1 rfl (vp_in_iff.mpr (by omega)) dX10_sets_122 ?_
                    refine lv_istore (lv' := [(4, .int (I (1016) (a0).toNatClampNeg)), (0, .ref (ad (1000))), (1, .int (a0)), (2, .int (a1)), (3, .int (a2))]) hx hb dX10_sets_123 hl (by decide) rfl (fun ls hl => ?_)
                    refine lv_iload_n hx hb dX10_sets_125 rfl (lv_at hl 3 rfl) ?_
                    refine lv_if_ne (tgt := 139) hx hb dX10_sets_126 (by decide) (fun c218 => ?_) (fun c218 => ?_)
                    · have hc218 := c218
                      have q218 := q_ne hc218
                      refine lv_iload_n hx hb dX10_sets_139 rfl (lv_at hl 3 rfl) ?_
                      refine lv_iconst (v := (1)) hx hb dX10_sets_140 (by decide) ?_
                      refine lv_icmp_ne (tgt := 154) hx hb dX10_sets_141 (by decide) (fun c219 => ?_) (fun c219 => ?_)
                      · have hc219 := c219
                        have q219 := q_ne hc219
                        refine lv_iload_n hx hb dX10_sets_154 rfl (lv_at hl 3 rfl) ?_
                        refine lv_iconst (v := (2)) hx hb dX10_sets_155 (by decide) ?_
                        refine lv_icmp_ne (tgt := 169) hx hb dX10_sets_156 (by decide) (fun c220 => ?_) (fun c220 => ?_)
                        · have hc220 := c220
                          have q220 := q_ne hc220
                          refine lv_aload_n hx hb dX10_sets_169 rfl (lv_at hl 1 rfl) ?_
                          refine m_getr (1000) 16 (1016) hx hb hts hown hE oc10 hM hJ.1 rfl (by decide) rfl (hJ.2 16 (by decide)).2 (by decide) tb_1193 dX10_sets_170 ?_
                          refine lv_iload_n hx hb dX10_sets_173 rfl (lv_at hl 2 rfl) ?_
                          refine lv_iload_n hx hb dX10_sets_174 rfl (lv_at hl 4 rfl) ?_
                          refine m_iast (1016) hx hb hE hM hS (hJ.2 16 (by decide)).1 rfl (vp_in_iff.mpr (by omega)) dX10_sets_175 (fun H locs I221 eI221 hM hS => ?_)
                          subst eI221
                          have hI := hI.putF (n := 1016) (k := ((a0).toNatClampNeg)) (v := a2) rfl
                          have hK := hK.put (n := 1016) (k := ((a0).toNatClampNeg)) (v := a2) (by first | rfl | simp [inR])
                          refine lv_iload hx hb dX10_sets_176 (lv_at hl 0 rfl) ?_
                          exact m_iret hx hb hr hlocks hM hS (Nat.le_of_ble_eq_true rfl) (Nat.le_of_ble_eq_true rfl) ⟨_, _, rfl, hI, hK⟩ dX10_sets_178
                        · have hc220 := c220
                          have q220 := q_eq hc220
                          refine lv_aload_n hx hb dX10_sets_159 rfl (lv_at hl 1 rfl) ?_
                          refine m_getr (1000) 15 (1015) hx hb hts hown hE oc10 hM hJ.1 rfl (by decide) rfl (hJ.2 15 (by decide)).2 (by decide) tb_1192 dX10_sets_160 ?_
                          refine lv_iload_n hx hb dX10_sets_163 rfl (lv_at hl 2 rfl) ?_
                          refine lv_iload_n hx hb dX10_sets_164 rfl (lv_at hl 4 rfl) ?_
                          refine m_iast (1015) hx hb hE hM hS (hJ.2 15 (by decide)).1 rfl (vp_in_iff.mpr (by omega)) dX10_sets_165 (fun H locs I222 eI222 hM hS => ?_)
                          subst eI222
                          have hI := hI.putF (n := 1015) (k := ((a0).toNatClampNeg)) (v := a2) rfl
                          have hK := hK.put (n := 1015) (k := ((a0).toNatClampNeg)) (v := a2) (by first | rfl | simp [inR])
                          refine lv_goto (tgt := 176) hx hb dX10_sets_166 (by decide) ?_
                          refine lv_iload hx hb dX10_sets_176 (lv_at hl 0 rfl) ?_
                          exact m_iret hx hb hr hlocks hM hS (Nat.le_of_ble_eq_true rfl) (Nat.le_of_ble_eq_true rfl) ⟨_, _, rfl, hI, hK⟩ dX10_sets_178
                      · have hc219 := c219
                        have q219 := q_eq hc219
                        refine lv_aload_n hx hb dX10_sets_144 rfl (lv_at hl 1 rfl) ?_
                        refine m_getr (1000) 14 (1014) hx hb hts hown hE oc10 hM hJ.1 rfl (by decide) rfl (hJ.2 14 (by decide)).2 (by decide) tb_1191 dX10_sets_145 ?_
                        refine lv_iload_n hx hb dX10_sets_148 rfl (lv_at hl 2 rfl) ?_
                        refine lv_iload_n hx hb dX10_sets_149 rfl (lv_at hl 4 rfl) ?_
                        refine m_iast (1014) hx hb hE hM hS (hJ.2 14 (by decide)).1 rfl (vp_in_iff.mpr (by omega)) dX10_sets_150 (fun H locs I223 eI223 hM hS => ?_)
                        subst eI223
                        have hI := hI.putF (n := 1014) (k := ((a0).toNatClampNeg)) (v := a2) rfl
                        have hK := hK.put (n := 1014) (k := ((a0).toNatClampNeg)) (v := a2) (by first | rfl | simp [inR])
                        refine lv_goto (tgt := 176) hx hb dX10_sets_151 (by decide) ?_
                        refine lv_iload hx hb dX10_sets_176 (lv_at hl 0 rfl) ?_
                        exact m_iret hx hb hr hlocks hM hS (Nat.le_of_ble_eq_true rfl) (Nat.le_of_ble_eq_true rfl) ⟨_, _, rfl, hI, hK⟩ dX10_sets_178
                    · have hc218 := c218
                      have q218 := q_eq hc218
                      refine lv_aload_n hx hb dX10_sets_129 rfl (lv_at hl 1 rfl) ?_
                      refine m_getr (1000) 9 (1009) hx hb hts hown hE oc10 hM hJ.1 rfl (by decide) rfl (hJ.2 9 (by decide)).2 (by decide) tb_1186 dX10_sets_130 ?_
                      refine lv_iload_n hx hb dX10_sets_133 rfl (lv_at hl 2 rfl) ?_
                      refine lv_iload_n hx hb dX10_sets_134 rfl (lv_at hl 4 rfl) ?_
                      refine m_iast (1009) hx hb hE hM hS (hJ.2 9 (by decide)).1 rfl (vp_in_iff.mpr (by omega)) dX10_sets_135 (fun H locs I224 eI224 hM hS => ?_)
                      subst eI224
                      have hI := hI.putF (n := 1009) (k := ((a0).toNatClampNeg)) (v := a2) rfl
                      have hK := hK.put (n := 1009) (k := ((a0).toNatClampNeg)) (v := a2) (by first | rfl | simp [inR])
                      refine lv_goto (tgt := 176) hx hb dX10_sets_136 (by decide) ?_
                      refine lv_iload hx hb dX10_sets_176 (lv_at hl 0 rfl) ?_
                      exact m_iret hx hb hr hlocks hM hS (Nat.le_of_ble_eq_true rfl) (Nat.le_of_ble_eq_true rfl) ⟨_, _, rfl, hI, hK⟩ dX10_sets_178
                  · have hc217 := c217
                    have q217 := q_eq hc217
                    refine lv_aload_n hx hb dX10_sets_108 rfl (lv_at hl 0 rfl) ?_
                    refine m_getr (1000) 15 (1015) hx hb hts hown hE oc10 hM hJ.1 rfl (by decide) rfl (hJ.2 15 (by decide)).2 (by decide) tb_1192 dX10_sets_109 ?_
                    refine lv_iload_n hx hb dX10_sets_112 rfl (lv_at hl 1 rfl) ?_
                    refine m_iald (1015) hx hb hE hM (hJ.2 15 (by decide)).1 rfl (vp_in_iff.mpr (by omega)) dX10_sets_113 ?_
                    refine lv_goto (tgt := 123) hx hb dX10_sets_114 (by decide) ?_
                    refine lv_istore (lv' := [(4, .int (I (1015) (a0).toNatClampNeg)), (0, .ref (ad (1000))), (1, .int (a0)), (2, .int (a1)), (3, .int (a2))]) hx hb dX10_sets_123 hl (by decide) rfl (fun ls hl => ?_)
                    refine lv_iload_n hx hb dX10_sets_125 rfl (lv_at hl 3 rfl) ?_
                    refine lv_if_ne (tgt := 139) hx hb dX10_sets_126 (by decide) (fun c225 => ?_) (fun c225 => ?_)
                    · have hc225 := c225
                      have q225 := q_ne hc225
                      refine lv_iload_n hx hb dX10_sets_139 rfl (lv_at hl 3 rfl) ?_
                      refine lv_iconst (v := (1)) hx hb dX10_sets_140 (by decide) ?_
                      refine lv_icmp_ne (tgt := 154) hx hb dX10_sets_141 (by decide) (fun c226 => ?_) (fun c226 => ?_)
                      · have hc226 := c226
                        have q226 := q_ne hc226
                        refine lv_iload_n hx hb dX10_sets_154 rfl (lv_at hl 3 rfl) ?_
                        refine lv_iconst (v := (2)) hx hb dX10_sets_155 (by decide) ?_
                        refine lv_icmp_ne (tgt := 169) hx hb dX10_sets_156 (by decide) (fun c227 => ?_) (fun c227 => ?_)
                        · have hc227 := c227
                          have q227 := q_ne hc227
                          refine lv_aload_n hx hb dX10_sets_169 rfl (lv_at hl 1 rfl) ?_
                          refine m_getr (1000) 16 (1016) hx hb hts hown hE oc10 hM hJ.1 rfl (by decide) rfl (hJ.2 16 (by decide)).2 (by decide) tb_1193 dX10_sets_170 ?_
                          refine lv_iload_n hx hb dX10_sets_173 rfl (lv_at hl 2 rfl) ?_
                          refine lv_iload_n hx hb dX10_sets_174 rfl (lv_at hl 4 rfl) ?_
                          refine m_iast (1016) hx hb hE hM hS (hJ.2 16 (by decide)).1 rfl (vp_in_iff.mpr (by omega)) dX10_sets_175 (fun H locs I228 eI228 hM hS => ?_)
                          subst eI228
                          have hI := hI.putF (n := 1016) (k := ((a0).toNatClampNeg)) (v := a2) rfl
                          have hK := hK.put (n := 1016) (k := ((a0).toNatClampNeg)) (v := a2) (by first | rfl | simp [inR])
                          refine lv_iload hx hb dX10_sets_176 (lv_at hl 0 rfl) ?_
                          exact m_iret hx hb hr hlocks hM hS (Nat.le_of_ble_eq_true rfl) (Nat.le_of_ble_eq_true rfl) ⟨_, _, rfl, hI, hK⟩ dX10_sets_178
                        · have hc227 := c227
                          have q227 := q_eq hc227
                          refine lv_aload_n hx hb dX10_sets_159 rfl (lv_at hl 1 rfl) ?_
                          refine m_getr (1000) 15 (1015) hx hb hts hown hE oc10 hM hJ.1 rfl (by decide) rfl (hJ.2 15 (by decide)).2 (by decide) tb_1192 dX10_sets_160 ?_
                          refine lv_iload_n hx hb dX10_sets_163 rfl (lv_at hl 2 rfl) ?_
                          refine lv_iload_n hx hb dX10_sets_164 rfl (lv_at hl 4 rfl) ?_
                          refine m_iast (1015) hx hb hE hM hS (hJ.2 15 (by decide)).1 rfl (vp_in_iff.mpr (by omega)) dX10_sets_165 (fun H locs I229 eI229 hM hS => ?_)
                          subst eI229
                          have hI := hI.putF (n := 1015) (k := ((a0).toNatClampNeg)) (v := a2) rfl
                          have hK := hK.put (n := 1015) (k := ((a0).toNatClampNeg)) (v := a2) (by first | rfl | simp [inR])
                          refine lv_goto (tgt := 176) hx hb dX10_sets_166 (by decide) ?_
                          refine lv_iload hx hb dX10_sets_176 (lv_at hl 0 rfl) ?_
                          exact m_iret hx hb hr hlocks hM hS (Nat.le_of_ble_eq_true rfl) (Nat.le_of_ble_eq_true rfl) ⟨_, _, rfl, hI, hK⟩ dX10_sets_178
                      · have hc226 := c226
                        have q226 := q_eq hc226
                        refine lv_aload_n hx hb dX10_sets_144 rfl (lv_at hl 1 rfl) ?_
                        refine m_getr (1000) 14 (1014) hx hb hts hown hE oc10 hM hJ.1 rfl (by decide) rfl (hJ.2 14 (by decide)).2 (by decide) tb_1191 dX10_sets_145 ?_
                        refine lv_iload_n hx hb dX10_sets_148 rfl (lv_at hl 2 rfl) ?_
                        refine lv_iload_n hx hb dX10_sets_149 rfl (lv_at hl 4 rfl) ?_
                        refine m_iast (1014) hx hb hE hM hS (hJ.2 14 (by decide)).1 rfl (vp_in_iff.mpr (by omega)) dX10_sets_150 (fun H locs I230 eI230 hM hS => ?_)
                        subst eI230
                        have hI := hI.putF (n := 1014) (k := ((a0).toNatClampNeg)) (v := a2) rfl
                        have hK := hK.put (n := 1014) (k := ((a0).toNatClampNeg)) (v := a2) (by first | rfl | simp [inR])
                        refine lv_goto (tgt := 176) hx hb dX10_sets_151 (by decide) ?_
                        refine lv_iload hx hb dX10_sets_176 (lv_at hl 0 rfl) ?_
                        exact m_iret hx hb hr hlocks hM hS (Nat.le_of_ble_eq_true rfl) (Nat.le_of_ble_eq_true rfl) ⟨_, _, rfl, hI, hK⟩ dX10_sets_178
                    · have hc225 := c225
                      have q225 := q_eq hc225
                      refine lv_aload_n hx hb dX10_sets_129 rfl (lv_at hl 1 rfl) ?_
                      refine m_getr (1000) 9 (1009) hx hb hts hown hE oc10 hM hJ.1 rfl (by decide) rfl (hJ.2 9 (by decide)).2 (by decide) tb_1186 dX10_sets_130 ?_
                      refine lv_iload_n hx hb dX10_sets_133 rfl (lv_at hl 2 rfl) ?_
                      refine lv_iload_n hx hb dX10_sets_134 rfl (lv_at hl 4 rfl) ?_
                      refine m_iast (1009) hx hb hE hM hS (hJ.2 9 (by decide)).1 rfl (vp_in_iff.mpr (by omega)) dX10_sets_135 (fun H locs I231 eI231 hM hS => ?_)
                      subst eI231
                      have hI := hI.putF (n := 1009) (k := ((a0).toNatClampNeg)) (v := a2) rfl
                      have hK := hK.put (n := 1009) (k := ((a0).toNatClampNeg)) (v := a2) (by first | rfl | simp [inR])
                      refine lv_goto (tgt := 176) hx hb dX10_sets_136 (by decide) ?_
                      refine lv_iload hx hb dX10_sets_176 (lv_at hl 0 rfl) ?_
                      exact m_iret hx hb hr hlocks hM hS (Nat.le_of_ble_eq_true rfl) (Nat.le_of_ble_eq_true rfl) ⟨_, _, rfl, hI, hK⟩ dX10_sets_178
                · have hc216 := c216
                  have q216 := q_eq hc216
                  refine lv_aload_n hx hb dX10_sets_94 rfl (lv_at hl 0 rfl) ?_
                  refine m_getr (1000) 14 (1014) hx hb hts hown hE oc10 hM hJ.1 rfl (by decide) rfl (hJ.2 14 (by decide)).2 (by decide) tb_1191 dX10_sets_95 ?_
                  refine lv_iload_n hx hb dX10_sets_98 rfl (lv_at hl 1 rfl) ?_
                  refine m_iald (1014) hx hb hE hM (hJ.2 14 (by decide)).1 rfl (vp_in_iff.mpr (by omega)) dX10_sets_99 ?_
                  refine lv_goto (tgt := 123) hx hb dX10_sets_100 (by decide) ?_
                  refine lv_istore (lv' := [(4, .int (I (1014) (a0).toNatClampNeg)), (0, .ref (ad (1000))), (1, .int (a0)), (2, .int (a1)), (3, .int (a2))]) hx hb dX10_sets_123 hl (by decide) rfl (fun ls hl => ?_)
                  refine lv_iload_n hx hb dX10_sets_125 rfl (lv_at hl 3 rfl) ?_
                  refine lv_if_ne (tgt := 139) hx hb dX10_sets_126 (by decide) (fun c232 => ?_) (fun c232 => ?_)
                  · have hc232 := c232
                    have q232 := q_ne hc232
                    refine lv_iload_n hx hb dX10_sets_139 rfl (lv_at hl 3 rfl) ?_
                    refine lv_iconst (v := (1)) hx hb dX10_sets_140 (by decide) ?_
                    refine lv_icmp_ne (tgt := 154) hx hb dX10_sets_141 (by decide) (fun c233 => ?_) (fun c233 => ?_)
                    · have hc233 := c233
                      have q233 := q_ne hc233
                      refine lv_iload_n hx hb dX10_sets_154 rfl (lv_at hl 3 rfl) ?_
                      refine lv_iconst (v := (2)) hx hb dX10_sets_155 (by decide) ?_
                      refine lv_icmp_ne (tgt := 169) hx hb dX10_sets_156 (by decide) (fun c234 => ?_) (fun c234 => ?_)
                      · have hc234 := c234
                        have q234 := q_ne hc234
                        refine lv_aload_n hx hb dX10_sets_169 rfl (lv_at hl 1 rfl) ?_
                        refine m_getr (1000) 16 (1016) hx hb hts hown hE oc10 hM hJ.1 rfl (by decide) rfl (hJ.2 16 (by decide)).2 (by decide) tb_1193 dX10_sets_170 ?_
                        refine lv_iload_n hx hb dX10_sets_173 rfl (lv_at hl 2 rfl) ?_
                        refine lv_iload_n hx hb dX10_sets_174 rfl (lv_at hl 4 rfl) ?_
                        refine m_iast (1016) hx hb hE hM hS (hJ.2 16 (by decide)).1 rfl (vp_in_iff.mpr (by omega)) dX10_sets_175 (fun H locs I235 eI235 hM hS => ?_)
                        subst eI235
                        have hI := hI.putF (n := 1016) (k := ((a0).toNatClampNeg)) (v := a2) rfl
                        have hK := hK.put (n := 1016) (k := ((a0).toNatClampNeg)) (v := a2) (by first | rfl | simp [inR])
                        refine lv_iload hx hb dX10_sets_176 (lv_at hl 0 rfl) ?_
                        exact m_iret hx hb hr hlocks hM hS (Nat.le_of_ble_eq_true rfl) (Nat.le_of_ble_eq_true rfl) ⟨_, _, rfl, hI, hK⟩ dX10_sets_178
                      · have hc234 := c234
                        have q234 := q_eq hc234
                        refine lv_aload_n hx hb dX10_sets_159 rfl (lv_at hl 1 rfl) ?_
                        refine m_getr (1000) 15 (1015) hx hb hts hown hE oc10 hM hJ.1 rfl (by decide) rfl (hJ.2 15 (by decide)).2 (by decide) tb_1192 dX10_sets_160 ?_
                        refine lv_iload_n hx hb dX10_sets_163 rfl (lv_at hl 2 rfl) ?_
                        refine lv_iload_n hx hb dX10_sets_164 rfl (lv_at hl 4 rfl) ?_
                        refine m_iast (1015) hx hb hE hM hS (hJ.2 15 (by decide)).1 rfl (vp_in_iff.mpr (by omega)) dX10_sets_165 (fun H locs I236 eI236 hM hS => ?_)
                        subst eI236
                        have hI := hI.putF (n := 1015) (k := ((a0).toNatClampNeg)) (v := a2) rfl
                        have hK := hK.put (n := 1015) (k := ((a0).toNatClampNeg)) (v := a2) (by first | rfl | simp [inR])
                        refine lv_goto (tgt := 176) hx hb dX10_sets_166 (by decide) ?_
                        refine lv_iload hx hb dX10_sets_176 (lv_at hl 0 rfl) ?_
                        exact m_iret hx hb hr hlocks hM hS (Nat.le_of_ble_eq_true rfl) (Nat.le_of_ble_eq_true rfl) ⟨_, _, rfl, hI, hK⟩ dX10_sets_178
                    · have hc233 := c233
                      have q233 := q_eq hc233
                      refine lv_aload_n hx hb dX10_sets_144 rfl (lv_at hl 1 rfl) ?_
                      refine m_getr (1000) 14 (1014) hx hb hts hown hE oc10 hM hJ.1 rfl (by decide) rfl (hJ.2 14 (by decide)).2 (by decide) tb_1191 dX10_sets_145 ?_
                      refine lv_iload_n hx hb dX10_sets_148 rfl (lv_at hl 2 rfl) ?_
                      refine lv_iload_n hx hb dX10_sets_149 rfl (lv_at hl 4 rfl) ?_
                      refine m_iast (1014) hx hb hE hM hS (hJ.2 14 (by decide)).1 rfl (vp_in_iff.mpr (by omega)) dX10_sets_150 (fun H locs I237 eI237 hM hS => ?_)
                      subst eI237
                      have hI := hI.putF (n := 1014) (k := ((a0).toNatClampNeg)) (v := a2) rfl
                      have hK := hK.put (n := 1014) (k := ((a0).toNatClampNeg)) (v := a2) (by first | rfl | simp [inR])
                      refine lv_goto (tgt := 176) hx hb dX10_sets_151 (by decide) ?_
                      refine lv_iload hx hb dX10_sets_176 (lv_at hl 0 rfl) ?_
                      exact m_iret hx hb hr hlocks hM hS (Nat.le_of_ble_eq_true rfl) (Nat.le_of_ble_eq_true rfl) ⟨_, _, rfl, hI, hK⟩ dX10_sets_178
                  · have hc232 := c232
                    have q232 := q_eq hc232
                    refine lv_aload_n hx hb dX10_sets_129 rfl (lv_at hl 1 rfl) ?_
                    refine m_getr (1000) 9 (1009) hx hb hts hown hE oc10 hM hJ.1 rfl (by decide) rfl (hJ.2 9 (by decide)).2 (by decide) tb_1186 dX10_sets_130 ?_
                    refine lv_iload_n hx hb dX10_sets_133 rfl (lv_at hl 2 rfl) ?_
                    refine lv_iload_n hx hb dX10_sets_134 rfl (lv_at hl 4 rfl) ?_
                    refine m_iast (1009) hx hb hE hM hS (hJ.2 9 (by decide)).1 rfl (vp_in_iff.mpr (by omega)) dX10_sets_135 (fun H locs I238 eI238 hM hS => ?_)
                    subst eI238
                    have hI := hI.putF (n := 1009) (k := ((a0).toNatClampNeg)) (v := a2) rfl
                    have hK := hK.put (n := 1009) (k := ((a0).toNatClampNeg)) (v := a2) (by first | rfl | simp [inR])
                    refine lv_goto (tgt := 176) hx hb dX10_sets_136 (by decide) ?_
                    refine lv_iload hx hb dX10_sets_176 (lv_at hl 0 rfl) ?_
                    exact m_iret hx hb hr hlocks hM hS (Nat.le_of_ble_eq_true rfl) (Nat.le_of_ble_eq_true rfl) ⟨_, _, rfl, hI, hK⟩ dX10_sets_178
              · have hc215 := c215
                have q215 := q_eq hc215
                refine lv_aload_n hx hb dX10_sets_80 rfl (lv_at hl 0 rfl) ?_
                refine m_getr (1000) 9 (1009) hx hb hts hown hE oc10 hM hJ.1 rfl (by decide) rfl (hJ.2 9 (by decide)).2 (by decide) tb_1186 dX10_sets_81 ?_
                refine lv_iload_n hx hb dX10_sets_84 rfl (lv_at hl 1 rfl) ?_
                refine m_iald (1009) hx hb hE hM (hJ.2 9 (by decide)).1 rfl (vp_in_iff.mpr (by omega)) dX10_sets_85 ?_
                refine lv_goto (tgt := 123) hx hb dX10_sets_86 (by decide) ?_
                refine lv_istore (lv' := [(4, .int (I (1009) (a0).toNatClampNeg)), (0, .ref (ad (1000))), (1, .int (a0)), (2, .int (a1)), (3, .int (a2))]) hx hb dX10_sets_123 hl (by decide) rfl (fun ls hl => ?_)
                refine lv_iload_n hx hb dX10_sets_125 rfl (lv_at hl 3 rfl) ?_
                refine lv_if_ne (tgt := 139) hx hb dX10_sets_126 (by decide) (fun c239 => ?_) (fun c239 => ?_)
                · have hc239 := c239
                  have q239 := q_ne hc239
                  refine lv_iload_n hx hb dX10_sets_139 rfl (lv_at hl 3 rfl) ?_
                  refine lv_iconst (v := (1)) hx hb dX10_sets_140 (by decide) ?_
                  refine lv_icmp_ne (tgt := 154) hx hb dX10_sets_141 (by decide) (fun c240 => ?_) (fun c240 => ?_)
                  · have hc240 := c240
                    have q240 := q_ne hc240
                    refine lv_iload_n hx hb dX10_sets_154 rfl (lv_at hl 3 rfl) ?_
                    refine lv_iconst (v := (2)) hx hb dX10_sets_155 (by decide) ?_
                    refine lv_icmp_ne (tgt := 169) hx hb dX10_sets_156 (by decide) (fun c241 => ?_) (fun c241 => ?_)
                    · have hc241 := c241
                      have q241 := q_ne hc241
                      refine lv_aload_n hx hb dX10_sets_169 rfl (lv_at hl 1 rfl) ?_
                      refine m_getr (1000) 16 (1016) hx hb hts hown hE oc10 hM hJ.1 rfl (by decide) rfl (hJ.2 16 (by decide)).2 (by decide) tb_1193 dX10_sets_170 ?_
                      refine lv_iload_n hx hb dX10_sets_173 rfl (lv_at hl 2 rfl) ?_
                      refine lv_iload_n hx hb dX10_sets_174 rfl (lv_at hl 4 rfl) ?_
                      refine m_iast (1016) hx hb hE hM hS (hJ.2 16 (by decide)).1 rfl (vp_in_iff.mpr (by omega)) dX10_sets_175 (fun H locs I242 eI242 hM hS => ?_)
                      subst eI242
                      have hI := hI.putF (n := 1016) (k := ((a0).toNatClampNeg)) (v := a2) rfl
                      have hK := hK.put (n := 1016) (k := ((a0).toNatClampNeg)) (v := a2) (by first | rfl | simp [inR])
                      refine lv_iload hx hb dX10_sets_176 (lv_at hl 0 rfl) ?_
                      exact m_iret hx hb hr hlocks hM hS (Nat.le_of_ble_eq_true rfl) (Nat.le_of_ble_eq_true rfl) ⟨_, _, rfl, hI, hK⟩ dX10_sets_178
                    · have hc241 := c241
                      have q241 := q_eq hc241
                      refine lv_aload_n hx hb dX10_sets_159 rfl (lv_at hl 1 rfl) ?_
                      refine m_getr (1000) 15 (1015) hx hb hts hown hE oc10 hM hJ.1 rfl (by decide) rfl (hJ.2 15 (by decide)).2 (by decide) tb_1192 dX10_sets_160 ?_
                      refine lv_iload_n hx hb dX10_sets_163 rfl (lv_at hl 2 rfl) ?_
                      refine lv_iload_n hx hb dX10_sets_164 rfl (lv_at hl 4 rfl) ?_
                      refine m_iast (1015) hx hb hE hM hS (hJ.2 15 (by decide)).1 rfl (vp_in_iff.mpr (by omega)) dX10_sets_165 (fun H locs I243 eI243 hM hS => ?_)
                      subst eI243
                      have hI := hI.putF (n := 1015) (k := ((a0).toNatClampNeg)) (v := a2) rfl
                      have hK := hK.put (n := 1015) (k := ((a0).toNatClampNeg)) (v := a2) (by first | rfl | simp [inR])
                      refine lv_goto (tgt := 176) hx hb dX10_sets_166 (by decide) ?_
                      refine lv_iload hx hb dX10_sets_176 (lv_at hl 0 rfl) ?_
                      exact m_iret hx hb hr hlocks hM hS (Nat.le_of_ble_eq_true rfl) (Nat.le_of_ble_eq_true rfl) ⟨_, _, rfl, hI, hK⟩ dX10_sets_178
                  · have hc240 := c240
                    have q240 := q_eq hc240
                    refine lv_aload_n hx hb dX10_sets_144 rfl (lv_at hl 1 rfl) ?_
                    refine m_getr (1000) 14 (1014) hx hb hts hown hE oc10 hM hJ.1 rfl (by decide) rfl (hJ.2 14 (by decide)).2 (by decide) tb_1191 dX10_sets_145 ?_
                    refine lv_iload_n hx hb dX10_sets_148 rfl (lv_at hl 2 rfl) ?_
                    refine lv_iload_n hx hb dX10_sets_149 rfl (lv_at hl 4 rfl) ?_
                    refine m_iast (1014) hx hb hE hM hS (hJ.2 14 (by decide)).1 rfl (vp_in_iff.mpr (by omega)) dX10_sets_150 (fun H locs I244 eI244 hM hS => ?_)
                    subst eI244
                    have hI := hI.putF (n := 1014) (k := ((a0).toNatClampNeg)) (v := a2) rfl
                    have hK := hK.put (n := 1014) (k := ((a0).toNatClampNeg)) (v := a2) (by first | rfl | simp [inR])
                    refine lv_goto (tgt := 176) hx hb dX10_sets_151 (by decide) ?_
                    refine lv_iload hx hb dX10_sets_176 (lv_at hl 0 rfl) ?_
                    exact m_iret hx hb hr hlocks hM hS (Nat.le_of_ble_eq_true rfl) (Nat.le_of_ble_eq_true rfl) ⟨_, _, rfl, hI, hK⟩ dX10_sets_178
                · have hc239 := c239
                  have q239 := q_eq hc239
                  refine lv_aload_n hx hb dX10_sets_129 rfl (lv_at hl 1 rfl) ?_
                  refine m_getr (1000) 9 (1009) hx hb hts hown hE oc10 hM hJ.1 rfl (by decide) rfl (hJ.2 9 (by decide)).2 (by decide) tb_1186 dX10_sets_130 ?_
                  refine lv_iload_n hx hb dX10_sets_133 rfl (lv_at hl 2 rfl) ?_
                  refine lv_iload_n hx hb dX10_sets_134 rfl (lv_at hl 4 rfl) ?_
                  refine m_iast (1009) hx hb hE hM hS (hJ.2 9 (by decide)).1 rfl (vp_in_iff.mpr (by omega)) dX10_sets_135 (fun H locs I245 eI245 hM hS => ?_)
                  subst eI245
                  have hI := hI.putF (n := 1009) (k := ((a0).toNatClampNeg)) (v := a2) rfl
                  have hK := hK.put (n := 1009) (k := ((a0).toNatClampNeg)) (v := a2) (by first | rfl | simp [inR])
                  refine lv_goto (tgt := 176) hx hb dX10_sets_136 (by decide) ?_
                  refine lv_iload hx hb dX10_sets_176 (lv_at hl 0 rfl) ?_
                  exact m_iret hx hb hr hlocks hM hS (Nat.le_of_ble_eq_true rfl) (Nat.le_of_ble_eq_true rfl) ⟨_, _, rfl, hI, hK⟩ dX10_sets_178
            · have hc214 := c214
              have q214 := xr213.f hc214
              refine lv_bipush (v := (-2)) hx hb dX10_sets_73 (by decide) ?_
              exact m_iret hx hb hr hlocks hM hS (Nat.le_of_ble_eq_true rfl) (Nat.le_of_ble_eq_true rfl) ⟨_, _, rfl, hI, hK⟩ dX10_sets_75
        · have hc144 := c144
          have q144 := q_eq hc144
          refine lv_ldc2 (v := (7)) hx hb hown (hts _ tb_1451) dX10_sets_38 ?_
          refine lv_goto (tgt := 67) hx hb dX10_sets_41 (by decide) ?_
          refine m_calli (m_runS (As := [.long (v7), .long ((-1 : Int64)), .long ((7 : Int64))]) (rest := []) hx hb hml hown hts hE hM hS hA ce_X10_in tb_1425 (V_X10_in l D A ad ns I L G (v7) ((-1 : Int64)) ((7 : Int64)) hI) rfl rfl ⟨Nat.le_of_ble_eq_true rfl, Nat.le_of_ble_eq_true rfl⟩  rfl hl.1 rfl (Nat.le_of_ble_eq_true rfl) dX10_sets_67 ⟨Nat.le_of_ble_eq_true rfl, Nat.le_of_ble_eq_true rfl⟩) hS (fun r246 u H locs hw hM hS => ?_)
          obtain ⟨rfl, xr246⟩ := hw
          have hM : Mem D A ad ns I L G H := hM
          have yr246 := bo01 xr246
          refine lv_if_ne (tgt := 76) hx hb dX10_sets_70 (by decide) (fun c247 => ?_) (fun c247 => ?_)
          · have hc247 := c247
            have q247 := xr246.t hc247
            refine lv_iload_n hx hb dX10_sets_76 rfl (lv_at hl 2 rfl) ?_
            refine lv_if_ne (tgt := 89) hx hb dX10_sets_77 (by decide) (fun c248 => ?_) (fun c248 => ?_)
            · have hc248 := c248
              have q248 := q_ne hc248
              refine lv_iload_n hx hb dX10_sets_89 rfl (lv_at hl 2 rfl) ?_
              refine lv_iconst (v := (1)) hx hb dX10_sets_90 (by decide) ?_
              refine lv_icmp_ne (tgt := 103) hx hb dX10_sets_91 (by decide) (fun c249 => ?_) (fun c249 => ?_)
              · have hc249 := c249
                have q249 := q_ne hc249
                refine lv_iload_n hx hb dX10_sets_103 rfl (lv_at hl 2 rfl) ?_
                refine lv_iconst (v := (2)) hx hb dX10_sets_104 (by decide) ?_
                refine lv_icmp_ne (tgt := 117) hx hb dX10_sets_105 (by decide) (fun c250 => ?_) (fun c250 => ?_)
                · have hc250 := c250
                  have q250 := q_ne hc250
                  refine lv_aload_n hx hb dX10_sets_117 rfl (lv_at hl 0 rfl) ?_
                  refine m_getr (1000) 16 (1016) hx hb hts hown hE oc10 hM hJ.1 rfl (by decide) rfl (hJ.2 16 (by decide)).2 (by decide) tb_1193 dX10_sets_118 ?_
                  refine lv_iload_n hx hb dX10_sets_121 rfl (lv_at hl 1 rfl) ?_
                  refine m_iald (1016) hx hb hE hM (hJ.2 16 (by decide)).1 rfl (vp_in_iff.mpr (by omega)) dX10_sets_122 ?_
                  refine lv_istore (lv' := [(4, .int (I (1016) (a0).toNatClampNeg)), (0, .ref (ad (1000))), (1, .int (a0)), (2, .int (a1)), (3, .int (a2))]) hx hb dX10_sets_123 hl (by decide) rfl (fun ls hl => ?_)
                  refine lv_iload_n hx hb dX10_sets_125 rfl (lv_at hl 3 rfl) ?_
                  refine lv_if_ne (tgt := 139) hx hb dX10_sets_126 (by decide) (fun c251 => ?_) (fun c251 => ?_)
                  · have hc251 := c251
                    have q251 := q_ne hc251
                    refine lv_iload_n hx hb dX10_sets_139 rfl (lv_at hl 3 rfl) ?_
                    refine lv_iconst (v := (1)) hx hb dX10_sets_140 (by decide) ?_
                    refine lv_icmp_ne (tgt := 154) hx hb dX10_sets_141 (by decide) (fun c252 => ?_) (fun c252 => ?_)
                    · have hc252 := c252
                      have q252 := q_ne hc252
                      refine lv_iload_n hx hb dX10_sets_154 rfl (lv_at hl 3 rfl) ?_
                      refine lv_iconst (v := (2)) hx hb dX10_sets_155 (by decide) ?_
                      refine lv_icmp_ne (tgt := 169) hx hb dX10_sets_156 (by decide) (fun c253 => ?_) (fun c253 => ?_)
                      · have hc253 := c253
                        have q253 := q_ne hc253
                        refine lv_aload_n hx hb dX10_sets_169 rfl (lv_at hl 1 rfl) ?_
                        refine m_getr (1000) 16 (1016) hx hb hts hown hE oc10 hM hJ.1 rfl (by decide) rfl (hJ.2 16 (by decide)).2 (by decide) tb_1193 dX10_sets_170 ?_
                        refine lv_iload_n hx hb dX10_sets_173 rfl (lv_at hl 2 rfl) ?_
                        refine lv_iload_n hx hb dX10_sets_174 rfl (lv_at hl 4 rfl) ?_
                        refine m_iast (1016) hx hb hE hM hS (hJ.2 16 (by decide)).1 rfl (vp_in_iff.mpr (by omega)) dX10_sets_175 (fun H locs I254 eI254 hM hS => ?_)
                        subst eI254
                        have hI := hI.putF (n := 1016) (k := ((a0).toNatClampNeg)) (v := a2) rfl
                        have hK := hK.put (n := 1016) (k := ((a0).toNatClampNeg)) (v := a2) (by first | rfl | simp [inR])
                        refine lv_iload hx hb dX10_sets_176 (lv_at hl 0 rfl) ?_
                        exact m_iret hx hb hr hlocks hM hS (Nat.le_of_ble_eq_true rfl) (Nat.le_of_ble_eq_true rfl) ⟨_, _, rfl, hI, hK⟩ dX10_sets_178
                      · have hc253 := c253
                        have q253 := q_eq hc253
                        refine lv_aload_n hx hb dX10_sets_159 rfl (lv_at hl 1 rfl) ?_
                        refine m_getr (1000) 15 (1015) hx hb hts hown hE oc10 hM hJ.1 rfl (by decide) rfl (hJ.2 15 (by decide)).2 (by decide) tb_1192 dX10_sets_160 ?_
                        refine lv_iload_n hx hb dX10_sets_163 rfl (lv_at hl 2 rfl) ?_
                        refine lv_iload_n hx hb dX10_sets_164 rfl (lv_at hl 4 rfl) ?_
                        refine m_iast (1015) hx hb hE hM hS (hJ.2 15 (by decide)).1 rfl (vp_in_iff.mpr (by omega)) dX10_sets_165 (fun H locs I255 eI255 hM hS => ?_)
                        subst eI255
                        have hI := hI.putF (n := 1015) (k := ((a0).toNatClampNeg)) (v := a2) rfl
                        have hK := hK.put (n := 1015) (k := ((a0).toNatClampNeg)) (v := a2) (by first | rfl | simp [inR])
                        refine lv_goto (tgt := 176) hx hb dX10_sets_166 (by decide) ?_
                        refine lv_iload hx hb dX10_sets_176 (lv_at hl 0 rfl) ?_
                        exact m_iret hx hb hr hlocks hM hS (Nat.le_of_ble_eq_true rfl) (Nat.le_of_ble_eq_true rfl) ⟨_, _, rfl, hI, hK⟩ dX10_sets_178
                    · have hc252 := c252
                      have q252 := q_eq hc252
                      refine lv_aload_n hx hb dX10_sets_144 rfl (lv_at hl 1 rfl) ?_
                      refine m_getr (1000) 14 (1014) hx hb hts hown hE oc10 hM hJ.1 rfl (by decide) rfl (hJ.2 14 (by decide)).2 (by decide) tb_1191 dX10_sets_145 ?_
                      refine lv_iload_n hx hb dX10_sets_148 rfl (lv_at hl 2 rfl) ?_
                      refine lv_iload_n hx hb dX10_sets_149 rfl (lv_at hl 4 rfl) ?_
                      refine m_iast (1014) hx hb hE hM hS (hJ.2 14 (by decide)).1 rfl (vp_in_iff.mpr (by omega)) dX10_sets_150 (fun H locs I256 eI256 hM hS => ?_)
                      subst eI256
                      have hI := hI.putF (n := 1014) (k := ((a0).toNatClampNeg)) (v := a2) rfl
                      have hK := hK.put (n := 1014) (k := ((a0).toNatClampNeg)) (v := a2) (by first | rfl | simp [inR])
                      refine lv_goto (tgt := 176) hx hb dX10_sets_151 (by decide) ?_
                      refine lv_iload hx hb dX10_sets_176 (lv_at hl 0 rfl) ?_
                      exact m_iret hx hb hr hlocks hM hS (Nat.le_of_ble_eq_true rfl) (Nat.le_of_ble_eq_true rfl) ⟨_, _, rfl, hI, hK⟩ dX10_sets_178
                  · have hc251 := c251
                    have q251 := q_eq hc251
                    refine lv_aload_n hx hb dX10_sets_129 rfl (lv_at hl 1 rfl) ?_
                    refine m_getr (1000) 9 (1009) hx hb hts hown hE oc10 hM hJ.1 rfl (by decide) rfl (hJ.2 9 (by decide)).2 (by decide) tb_1186 dX10_sets_130 ?_
                    refine lv_iload_n hx hb dX10_sets_133 rfl (lv_at hl 2 rfl) ?_
                    refine lv_iload_n hx hb dX10_sets_134 rfl (lv_at hl 4 rfl) ?_
                    refine m_iast (1009) hx hb hE hM hS (hJ.2 9 (by decide)).1 rfl (vp_in_iff.mpr (by omega)) dX10_sets_135 (fun H locs I257 eI257 hM hS => ?_)
                    subst eI257
                    have hI := hI.putF (n := 1009) (k := ((a0).toNatClampNeg)) (v := a2) rfl
                    have hK := hK.put (n := 1009) (k := ((a0).toNatClampNeg)) (v := a2) (by first | rfl | simp [inR])
                    refine lv_goto (tgt := 176) hx hb dX10_sets_136 (by decide) ?_
                    refine lv_iload hx hb dX10_sets_176 (lv_at hl 0 rfl) ?_
                    exact m_iret hx hb hr hlocks hM hS (Nat.le_of_ble_eq_true rfl) (Nat.le_of_ble_eq_true rfl) ⟨_, _, rfl, hI, hK⟩ dX10_sets_178
                · have hc250 := c250
                  have q250 := q_eq hc250
                  refine lv_aload_n hx hb dX10_sets_108 rfl (lv_at hl 0 rfl) ?_
                  refine m_getr (1000) 15 (1015) hx hb hts hown hE oc10 hM hJ.1 rfl (by decide) rfl (hJ.2 15 (by decide)).2 (by decide) tb_1192 dX10_sets_109 ?_
                  refine lv_iload_n hx hb dX10_sets_112 rfl (lv_at hl 1 rfl) ?_
                  refine m_iald (1015) hx hb hE hM (hJ.2 15 (by decide)).1 rfl (vp_in_iff.mpr (by omega)) dX10_sets_113 ?_
                  refine lv_goto (tgt := 123) hx hb dX10_sets_114 (by decide) ?_
                  refine lv_istore (lv' := [(4, .int (I (1015) (a0).toNatClampNeg)), (0, .ref (ad (1000))), (1, .int (a0)), (2, .int (a1)), (3, .int (a2))]) hx hb dX10_sets_123 hl (by decide) rfl (fun ls hl => ?_)
                  refine lv_iload_n hx hb dX10_sets_125 rfl (lv_at hl 3 rfl) ?_
                  refine lv_if_ne (tgt := 139) hx hb dX10_sets_126 (by decide) (fun c258 => ?_) (fun c258 => ?_)
                  · have hc258 := c258
                    have q258 := q_ne hc258
                    refine lv_iload_n hx hb dX10_sets_139 rfl (lv_at hl 3 rfl) ?_
                    refine lv_iconst (v := (1)) hx hb dX10_sets_140 (by decide) ?_
                    refine lv_icmp_ne (tgt := 154) hx hb dX10_sets_141 (by decide) (fun c259 => ?_) (fun c259 => ?_)
                    · have hc259 := c259
                      have q259 := q_ne hc259
                      refine lv_iload_n hx hb dX10_sets_154 rfl (lv_at hl 3 rfl) ?_
                      refine lv_iconst (v := (2)) hx hb dX10_sets_155 (by decide) ?_
                      refine lv_icmp_ne (tgt := 169) hx hb dX10_sets_156 (by decide) (fun c260 => ?_) (fun c260 => ?_)
                      · have hc260 := c260
                        have q260 := q_ne hc260
                        refine lv_aload_n hx hb dX10_sets_169 rfl (lv_at hl 1 rfl) ?_
                        refine m_getr (1000) 16 (1016) hx hb hts hown hE oc10 hM hJ.1 rfl (by decide) rfl (hJ.2 16 (by decide)).2 (by decide) tb_1193 dX10_sets_170 ?_
                        refine lv_iload_n hx hb dX10_sets_173 rfl (lv_at hl 2 rfl) ?_
                        refine lv_iload_n hx hb dX10_sets_174 rfl (lv_at hl 4 rfl) ?_
                        refine m_iast (1016) hx hb hE hM hS (hJ.2 16 (by decide)).1 rfl (vp_in_iff.mpr (by omega)) dX10_sets_175 (fun H locs I261 eI261 hM hS => ?_)
                        subst eI261
                        have hI := hI.putF (n := 1016) (k := ((a0).toNatClampNeg)) (v := a2) rfl
                        have hK := hK.put (n := 1016) (k := ((a0).toNatClampNeg)) (v := a2) (by first | rfl | simp [inR])
                        refine lv_iload hx hb dX10_sets_176 (lv_at hl 0 rfl) ?_
                        exact m_iret hx hb hr hlocks hM hS (Nat.le_of_ble_eq_true rfl) (Nat.le_of_ble_eq_true rfl) ⟨_, _, rfl, hI, hK⟩ dX10_sets_178
                      · have hc260 := c260
                        have q260 := q_eq hc260
                        refine lv_aload_n hx hb dX10_sets_159 rfl (lv_at hl 1 rfl) ?_
                        refine m_getr (1000) 15 (1015) hx hb hts hown hE oc10 hM hJ.1 rfl (by decide) rfl (hJ.2 15 (by decide)).2 (by decide) tb_1192 dX10_sets_160 ?_
                        refine lv_iload_n hx hb dX10_sets_163 rfl (lv_at hl 2 rfl) ?_
                        refine lv_iload_n hx hb dX10_sets_164 rfl (lv_at hl 4 rfl) ?_
                        refine m_iast (1015) hx hb hE hM hS (hJ.2 15 (by decide)).1 rfl (vp_in_iff.mpr (by omega)) dX10_sets_165 (fun H locs I262 eI262 hM hS => ?_)
                        subst eI262
                        have hI := hI.putF (n := 1015) (k := ((a0).toNatClampNeg)) (v := a2) rfl
                        have hK := hK.put (n := 1015) (k := ((a0).toNatClampNeg)) (v := a2) (by first | rfl | simp [inR])
                        refine lv_goto (tgt := 176) hx hb dX10_sets_166 (by decide) ?_
                        refine lv_iload hx hb dX10_sets_176 (lv_at hl 0 rfl) ?_
                        exact m_iret hx hb hr hlocks hM hS (Nat.le_of_ble_eq_true rfl) (Nat.le_of_ble_eq_true rfl) ⟨_, _, rfl, hI, hK⟩ dX10_sets_178
                    · have hc259 := c259
                      have q259 := q_eq hc259
                      refine lv_aload_n hx hb dX10_sets_144 rfl (lv_at hl 1 rfl) ?_
                      refine m_getr (1000) 14 (1014) hx hb hts hown hE oc10 hM hJ.1 rfl (by decide) rfl (hJ.2 14 (by decide)).2 (by decide) tb_1191 dX10_sets_145 ?_
                      refine lv_iload_n hx hb dX10_sets_148 rfl (lv_at hl 2 rfl) ?_
                      refine lv_iload_n hx hb dX10_sets_149 rfl (lv_at hl 4 rfl) ?_
                      refine m_iast (1014) hx hb hE hM hS (hJ.2 14 (by decide)).1 rfl (vp_in_iff.mpr (by omega)) dX10_sets_150 (fun H locs I263 eI263 hM hS => ?_)
                      subst eI263
                      have hI := hI.putF (n := 1014) (k := ((a0).toNatClampNeg)) (v := a2) rfl
                      have hK := hK.put (n := 1014) (k := ((a0).toNatClampNeg)) (v := a2) (by first | rfl | simp [inR])
                      refine lv_goto (tgt := 176) hx hb dX10_sets_151 (by decide) ?_
                      refine lv_iload hx hb dX10_sets_176 (lv_at hl 0 rfl) ?_
                      exact m_iret hx hb hr hlocks hM hS (Nat.le_of_ble_eq_true rfl) (Nat.le_of_ble_eq_true rfl) ⟨_, _, rfl, hI, hK⟩ dX10_sets_178
                  · have hc258 := c258
                    have q258 := q_eq hc258
                    refine lv_aload_n hx hb dX10_sets_129 rfl (lv_at hl 1 rfl) ?_
                    refine m_getr (1000) 9 (1009) hx hb hts hown hE oc10 hM hJ.1 rfl (by decide) rfl (hJ.2 9 (by decide)).2 (by decide) tb_1186 dX10_sets_130 ?_
                    refine lv_iload_n hx hb dX10_sets_133 rfl (lv_at hl 2 rfl) ?_
                    refine lv_iload_n hx hb dX10_sets_134 rfl (lv_at hl 4 rfl) ?_
                    refine m_iast (1009) hx hb hE hM hS (hJ.2 9 (by decide)).1 rfl (vp_in_iff.mpr (by omega)) dX10_sets_135 (fun H locs I264 eI264 hM hS => ?_)
                    subst eI264
                    have hI := hI.putF (n := 1009) (k := ((a0).toNatClampNeg)) (v := a2) rfl
                    have hK := hK.put (n := 1009) (k := ((a0).toNatClampNeg)) (v := a2) (by first | rfl | simp [inR])
                    refine lv_goto (tgt := 176) hx hb dX10_sets_136 (by decide) ?_
                    refine lv_iload hx hb dX10_sets_176 (lv_at hl 0 rfl) ?_
                    exact m_iret hx hb hr hlocks hM hS (Nat.le_of_ble_eq_true rfl) (Nat.le_of_ble_eq_true rfl) ⟨_, _, rfl, hI, hK⟩ dX10_sets_178
              · have hc249 := c249
                have q249 := q_eq hc249
                refine lv_aload_n hx hb dX10_sets_94 rfl (lv_at hl 0 rfl) ?_
                refine m_getr (1000) 14 (1014) hx hb hts hown hE oc10 hM hJ.1 rfl (by decide) rfl (hJ.2 14 (by decide)).2 (by decide) tb_1191 dX10_sets_95 ?_
                refine lv_iload_n hx hb dX10_sets_98 rfl (lv_at hl 1 rfl) ?_
                refine m_iald (1014) hx hb hE hM (hJ.2 14 (by decide)).1 rfl (vp_in_iff.mpr (by omega)) dX10_sets_99 ?_
                refine lv_goto (tgt := 123) hx hb dX10_sets_100 (by decide) ?_
                refine lv_istore (lv' := [(4, .int (I (1014) (a0).toNatClampNeg)), (0, .ref (ad (1000))), (1, .int (a0)), (2, .int (a1)), (3, .int (a2))]) hx hb dX10_sets_123 hl (by decide) rfl (fun ls hl => ?_)
                refine lv_iload_n hx hb dX10_sets_125 rfl (lv_at hl 3 rfl) ?_
                refine lv_if_ne (tgt := 139) hx hb dX10_sets_126 (by decide) (fun c265 => ?_) (fun c265 => ?_)
                · have hc265 := c265
                  have q265 := q_ne hc265
                  refine lv_iload_n hx hb dX10_sets_139 rfl (lv_at hl 3 rfl) ?_
                  refine lv_iconst (v := (1)) hx hb dX10_sets_140 (by decide) ?_
                  refine lv_icmp_ne (tgt := 154) hx hb dX10_sets_141 (by decide) (fun c266 => ?_) (fun c266 => ?_)
                  · have hc266 := c266
                    have q266 := q_ne hc266
                    refine lv_iload_n hx hb dX10_sets_154 rfl (lv_at hl 3 rfl) ?_
                    refine lv_iconst (v := (2)) hx hb dX10_sets_155 (by decide) ?_
                    refine lv_icmp_ne (tgt := 169) hx hb dX10_sets_156 (by decide) (fun c267 => ?_) (fun c267 => ?_)
                    · have hc267 := c267
                      have q267 := q_ne hc267
                      refine lv_aload_n hx hb dX10_sets_169 rfl (lv_at hl 1 rfl) ?_
                      refine m_getr (1000) 16 (1016) hx hb hts hown hE oc10 hM hJ.1 rfl (by decide) rfl (hJ.2 16 (by decide)).2 (by decide) tb_1193 dX10_sets_170 ?_
                      refine lv_iload_n hx hb dX10_sets_173 rfl (lv_at hl 2 rfl) ?_
                      refine lv_iload_n hx hb dX10_sets_174 rfl (lv_at hl 4 rfl) ?_
                      refine m_iast (1016) hx hb hE hM hS (hJ.2 16 (by decide)).1 rfl (vp_in_iff.mpr (by omega)) dX10_sets_175 (fun H locs I268 eI268 hM hS => ?_)
                      subst eI268
                      have hI := hI.putF (n := 1016) (k := ((a0).toNatClampNeg)) (v := a2) rfl
                      have hK := hK.put (n := 1016) (k := ((a0).toNatClampNeg)) (v := a2) (by first | rfl | simp [inR])
                      refine lv_iload hx hb dX10_sets_176 (lv_at hl 0 rfl) ?_
                      exact m_iret hx hb hr hlocks hM hS (Nat.le_of_ble_eq_true rfl) (Nat.le_of_ble_eq_true rfl) ⟨_, _, rfl, hI, hK⟩ dX10_sets_178
                    · have hc267 := c267
                      have q267 := q_eq hc267
                      refine lv_aload_n hx hb dX10_sets_159 rfl (lv_at hl 1 rfl) ?_
                      refine m_getr (1000) 15 (1015) hx hb hts hown hE oc10 hM hJ.1 rfl (by decide) rfl (hJ.2 15 (by decide)).2 (by decide) tb_1192 dX10_sets_160 ?_
                      refine lv_iload_n hx hb dX10_sets_163 rfl (lv_at hl 2 rfl) ?_
                      refine lv_iload_n hx hb dX10_sets_164 rfl (lv_at hl 4 rfl) ?_
                      refine m_iast (1015) hx hb hE hM hS (hJ.2 15 (by decide)).1 rfl (vp_in_iff.mpr (by omega)) dX10_sets_165 (fun H locs I269 eI269 hM hS => ?_)
                      subst eI269
                      have hI := hI.putF (n := 1015) (k := ((a0).toNatClampNeg)) (v := a2) rfl
                      have hK := hK.put (n := 1015) (k := ((a0).toNatClampNeg)) (v := a2) (by first | rfl | simp [inR])
                      refine lv_goto (tgt := 176) hx hb dX10_sets_166 (by decide) ?_
                      refine lv_iload hx hb dX10_sets_176 (lv_at hl 0 rfl) ?_
                      exact m_iret hx hb hr hlocks hM hS (Nat.le_of_ble_eq_true rfl) (Nat.le_of_ble_eq_true rfl) ⟨_, _, rfl, hI, hK⟩ dX10_sets_178
                  · have hc266 := c266
                    have q266 := q_eq hc266
                    refine lv_aload_n hx hb dX10_sets_144 rfl (lv_at hl 1 rfl) ?_
                    refine m_getr (1000) 14 (1014) hx hb hts hown hE oc10 hM hJ.1 rfl (by decide) rfl (hJ.2 14 (by decide)).2 (by decide) tb_1191 dX10_sets_145 ?_
                    refine lv_iload_n hx hb dX10_sets_148 rfl (lv_at hl 2 rfl) ?_
                    refine lv_iload_n hx hb dX10_sets_149 rfl (lv_at hl 4 rfl) ?_
                    refine m_iast (1014) hx hb hE hM hS (hJ.2 14 (by decide)).1 rfl (vp_in_iff.mpr (by omega)) dX10_sets_150 (fun H locs I270 eI270 hM hS => ?_)
                    subst eI270
                    have hI := hI.putF (n := 1014) (k := ((a0).toNatClampNeg)) (v := a2) rfl
                    have hK := hK.put (n := 1014) (k := ((a0).toNatClampNeg)) (v := a2) (by first | rfl | simp [inR])
                    refine lv_goto (tgt := 176) hx hb dX10_sets_151 (by decide) ?_
                    refine lv_iload hx hb dX10_sets_176 (lv_at hl 0 rfl) ?_
                    exact m_iret hx hb hr hlocks hM hS (Nat.le_of_ble_eq_true rfl) (Nat.le_of_ble_eq_true rfl) ⟨_, _, rfl, hI, hK⟩ dX10_sets_178
                · have hc265 := c265
                  have q265 := q_eq hc265
                  refine lv_aload_n hx hb dX10_sets_129 rfl (lv_at hl 1 rfl) ?_
                  refine m_getr (1000) 9 (1009) hx hb hts hown hE oc10 hM hJ.1 rfl (by decide) rfl (hJ.2 9 (by decide)).2 (by decide) tb_1186 dX10_sets_130 ?_
                  refine lv_iload_n hx hb dX10_sets_133 rfl (lv_at hl 2 rfl) ?_
                  refine lv_iload_n hx hb dX10_sets_134 rfl (lv_at hl 4 rfl) ?_
                  refine m_iast (1009) hx hb hE hM hS (hJ.2 9 (by decide)).1 rfl (vp_in_iff.mpr (by omega)) dX10_sets_135 (fun H locs I271 eI271 hM hS => ?_)
                  subst eI271
                  have hI := hI.putF (n := 1009) (k := ((a0).toNatClampNeg)) (v := a2) rfl
                  have hK := hK.put (n := 1009) (k := ((a0).toNatClampNeg)) (v := a2) (by first | rfl | simp [inR])
                  refine lv_goto (tgt := 176) hx hb dX10_sets_136 (by decide) ?_
                  refine lv_iload hx hb dX10_sets_176 (lv_at hl 0 rfl) ?_
                  exact m_iret hx hb hr hlocks hM hS (Nat.le_of_ble_eq_true rfl) (Nat.le_of_ble_eq_true rfl) ⟨_, _, rfl, hI, hK⟩ dX10_sets_178
            · have hc248 := c248
              have q248 := q_eq hc248
              refine lv_aload_n hx hb dX10_sets_80 rfl (lv_at hl 0 rfl) ?_
              refine m_getr (1000) 9 (1009) hx hb hts hown hE oc10 hM hJ.1 rfl (by decide) rfl (hJ.2 9 (by decide)).2 (by decide) tb_1186 dX10_sets_81 ?_
              refine lv_iload_n hx hb dX10_sets_84 rfl (lv_at hl 1 rfl) ?_
              refine m_iald (1009) hx hb hE hM (hJ.2 9 (by decide)).1 rfl (vp_in_iff.mpr (by omega)) dX10_sets_85 ?_
              refine lv_goto (tgt := 123) hx hb dX10_sets_86 (by decide) ?_
              refine lv_istore (lv' := [(4, .int (I (1009) (a0).toNatClampNeg)), (0, .ref (ad (1000))), (1, .int (a0)), (2, .int (a1)), (3, .int (a2))]) hx hb dX10_sets_123 hl (by decide) rfl (fun ls hl => ?_)
              refine lv_iload_n hx hb dX10_sets_125 rfl (lv_at hl 3 rfl) ?_
              refine lv_if_ne (tgt := 139) hx hb dX10_sets_126 (by decide) (fun c272 => ?_) (fun c272 => ?_)
              · have hc272 := c272
                have q272 := q_ne hc272
                refine lv_iload_n hx hb dX10_sets_139 rfl (lv_at hl 3 rfl) ?_
                refine lv_iconst (v := (1)) hx hb dX10_sets_140 (by decide) ?_
                refine lv_icmp_ne (tgt := 154) hx hb dX10_sets_141 (by decide) (fun c273 => ?_) (fun c273 => ?_)
                · have hc273 := c273
                  have q273 := q_ne hc273
                  refine lv_iload_n hx hb dX10_sets_154 rfl (lv_at hl 3 rfl) ?_
                  refine lv_iconst (v := (2)) hx hb dX10_sets_155 (by decide) ?_
                  refine lv_icmp_ne (tgt := 169) hx hb dX10_sets_156 (by decide) (fun c274 => ?_) (fun c274 => ?_)
                  · have hc274 := c274
                    have q274 := q_ne hc274
                    refine lv_aload_n hx hb dX10_sets_169 rfl (lv_at hl 1 rfl) ?_
                    refine m_getr (1000) 16 (1016) hx hb hts hown hE oc10 hM hJ.1 rfl (by decide) rfl (hJ.2 16 (by decide)).2 (by decide) tb_1193 dX10_sets_170 ?_
                    refine lv_iload_n hx hb dX10_sets_173 rfl (lv_at hl 2 rfl) ?_
                    refine lv_iload_n hx hb dX10_sets_174 rfl (lv_at hl 4 rfl) ?_
                    refine m_iast (1016) hx hb hE hM hS (hJ.2 16 (by decide)).1 rfl (vp_in_iff.mpr (by omega)) dX10_sets_175 (fun H locs I275 eI275 hM hS => ?_)
                    subst eI275
                    have hI := hI.putF (n := 1016) (k := ((a0).toNatClampNeg)) (v := a2) rfl
                    have hK := hK.put (n := 1016) (k := ((a0).toNatClampNeg)) (v := a2) (by first | rfl | simp [inR])
                    refine lv_iload hx hb dX10_sets_176 (lv_at hl 0 rfl) ?_
                    exact m_iret hx hb hr hlocks hM hS (Nat.le_of_ble_eq_true rfl) (Nat.le_of_ble_eq_true rfl) ⟨_, _, rfl, hI, hK⟩ dX10_sets_178
                  · have hc274 := c274
                    have q274 := q_eq hc274
                    refine lv_aload_n hx hb dX10_sets_159 rfl (lv_at hl 1 rfl) ?_
                    refine m_getr (1000) 15 (1015) hx hb hts hown hE oc10 hM hJ.1 rfl (by decide) rfl (hJ.2 15 (by decide)).2 (by decide) tb_1192 dX10_sets_160 ?_
                    refine lv_iload_n hx hb dX10_sets_163 rfl (lv_at hl 2 rfl) ?_
                    refine lv_iload_n hx hb dX10_sets_164 rfl (lv_at hl 4 rfl) ?_
                    refine m_iast (1015) hx hb hE hM hS (hJ.2 15 (by decide)).1 rfl (vp_in_iff.mpr (by omega)) dX10_sets_165 (fun H locs I276 eI276 hM hS => ?_)
                    subst eI276
                    have hI := hI.putF (n := 1015) (k := ((a0).toNatClampNeg)) (v := a2) rfl
                    have hK := hK.put (n := 1015) (k := ((a0).toNatClampNeg)) (v := a2) (by first | rfl | simp [inR])
                    refine lv_goto (tgt := 176) hx hb dX10_sets_166 (by decide) ?_
                    refine lv_iload hx hb dX10_sets_176 (lv_at hl 0 rfl) ?_
                    exact m_iret hx hb hr hlocks hM hS (Nat.le_of_ble_eq_true rfl) (Nat.le_of_ble_eq_true rfl) ⟨_, _, rfl, hI, hK⟩ dX10_sets_178
                · have hc273 := c273
                  have q273 := q_eq hc273
                  refine lv_aload_n hx hb dX10_sets_144 rfl (lv_at hl 1 rfl) ?_
                  refine m_getr (1000) 14 (1014) hx hb hts hown hE oc10 hM hJ.1 rfl (by decide) rfl (hJ.2 14 (by decide)).2 (by decide) tb_1191 dX10_sets_145 ?_
                  refine lv_iload_n hx hb dX10_sets_148 rfl (lv_at hl 2 rfl) ?_
                  refine lv_iload_n hx hb dX10_sets_149 rfl (lv_at hl 4 rfl) ?_
                  refine m_iast (1014) hx hb hE hM hS (hJ.2 14 (by decide)).1 rfl (vp_in_iff.mpr (by omega)) dX10_sets_150 (fun H locs I277 eI277 hM hS => ?_)
                  subst eI277
                  have hI := hI.putF (n := 1014) (k := ((a0).toNatClampNeg)) (v := a2) rfl
                  have hK := hK.put (n := 1014) (k := ((a0).toNatClampNeg)) (v := a2) (by first | rfl | simp [inR])
                  refine lv_goto (tgt := 176) hx hb dX10_sets_151 (by decide) ?_
                  refine lv_iload hx hb dX10_sets_176 (lv_at hl 0 rfl) ?_
                  exact m_iret hx hb hr hlocks hM hS (Nat.le_of_ble_eq_true rfl) (Nat.le_of_ble_eq_true rfl) ⟨_, _, rfl, hI, hK⟩ dX10_sets_178
              · have hc272 := c272
                have q272 := q_eq hc272
                refine lv_aload_n hx hb dX10_sets_129 rfl (lv_at hl 1 rfl) ?_
                refine m_getr (1000) 9 (1009) hx hb hts hown hE oc10 hM hJ.1 rfl (by decide) rfl (hJ.2 9 (by decide)).2 (by decide) tb_1186 dX10_sets_130 ?_
                refine lv_iload_n hx hb dX10_sets_133 rfl (lv_at hl 2 rfl) ?_
                refine lv_iload_n hx hb dX10_sets_134 rfl (lv_at hl 4 rfl) ?_
                refine m_iast (1009) hx hb hE hM hS (hJ.2 9 (by decide)).1 rfl (vp_in_iff.mpr (by omega)) dX10_sets_135 (fun H locs I278 eI278 hM hS => ?_)
                subst eI278
                have hI := hI.putF (n := 1009) (k := ((a0).toNatClampNeg)) (v := a2) rfl
                have hK := hK.put (n := 1009) (k := ((a0).toNatClampNeg)) (v := a2) (by first | rfl | simp [inR])
                refine lv_goto (tgt := 176) hx hb dX10_sets_136 (by decide) ?_
                refine lv_iload hx hb dX10_sets_176 (lv_at hl 0 rfl) ?_
                exact m_iret hx hb hr hlocks hM hS (Nat.le_of_ble_eq_true rfl) (Nat.le_of_ble_eq_true rfl) ⟨_, _, rfl, hI, hK⟩ dX10_sets_178
          · have hc247 := c247
            have q247 := xr246.f hc247
            refine lv_bipush (v := (-2)) hx hb dX10_sets_73 (by decide) ?_
            exact m_iret hx hb hr hlocks hM hS (Nat.le_of_ble_eq_true rfl) (Nat.le_of_ble_eq_true rfl) ⟨_, _, rfl, hI, hK⟩ dX10_sets_75
theorem dX10_yard_0 : decode cX10_yard 0 = .ok (.aload_n 0, 1) := by decide +kernel
theorem dX10_yard_1 : decode cX10_yard 1 = .ok (.getfield 7, 3) := by decide +kernel
theorem dX10_yard_4 : decode cX10_yard 4 = .ok (.bipush 9, 2) := by decide +kernel
theorem dX10_yard_6 : decode cX10_yard 6 = .ok (.iaload, 1) := by decide +kernel
theorem dX10_yard_7 : decode cX10_yard 7 = .ok (.istore 7, 2) := by decide +kernel
theorem dX10_yard_9 : decode cX10_yard 9 = .ok (.aload_n 0, 1) := by decide +kernel
theorem dX10_yard_10 : decode cX10_yard 10 = .ok (.iload_n 1, 1) := by decide +kernel
theorem dX10_yard_11 : decode cX10_yard 11 = .ok (.iload_n 2, 1) := by decide +kernel
theorem dX10_yard_12 : decode cX10_yard 12 = .ok (.iload_n 3, 1) := by decide +kernel
theorem dX10_yard_13 : decode cX10_yard 13 = .ok (.iload 4, 2) := by decide +kernel
theorem dX10_yard_15 : decode cX10_yard 15 = .ok (.invokevirtual 206, 3) := by decide +kernel
theorem dX10_yard_18 : decode cX10_yard 18 = .ok (.ifCond .eq 36, 3) := by decide +kernel
theorem dX10_yard_21 : decode cX10_yard 21 = .ok (.iload 7, 2) := by decide +kernel
theorem dX10_yard_23 : decode cX10_yard 23 = .ok (.bipush 8, 2) := by decide +kernel
theorem dX10_yard_25 : decode cX10_yard 25 = .ok (.if_icmp .eq 29, 3) := by decide +kernel
theorem dX10_yard_28 : decode cX10_yard 28 = .ok (.iload 5, 2) := by decide +kernel
theorem dX10_yard_30 : decode cX10_yard 30 = .ok (.i2l, 1) := by decide +kernel
theorem dX10_yard_31 : decode cX10_yard 31 = .ok (.lconst 1, 1) := by decide +kernel
theorem dX10_yard_32 : decode cX10_yard 32 = .ok (.ldc2_w 204, 3) := by decide +kernel
theorem dX10_yard_35 : decode cX10_yard 35 = .ok (.invokestatic 192, 3) := by decide +kernel
theorem dX10_yard_38 : decode cX10_yard 38 = .ok (.ifCond .eq 16, 3) := by decide +kernel
theorem dX10_yard_41 : decode cX10_yard 41 = .ok (.iload 6, 2) := by decide +kernel
theorem dX10_yard_43 : decode cX10_yard 43 = .ok (.i2l, 1) := by decide +kernel
theorem dX10_yard_44 : decode cX10_yard 44 = .ok (.lconst 0, 1) := by decide +kernel
theorem dX10_yard_45 : decode cX10_yard 45 = .ok (.ldc2_w 228, 3) := by decide +kernel
theorem dX10_yard_48 : decode cX10_yard 48 = .ok (.invokestatic 192, 3) := by decide +kernel
theorem dX10_yard_51 : decode cX10_yard 51 = .ok (.ifCond .ne 5, 3) := by decide +kernel
theorem dX10_yard_54 : decode cX10_yard 54 = .ok (.iconst (-1), 1) := by decide +kernel
theorem dX10_yard_55 : decode cX10_yard 55 = .ok (.ireturn, 1) := by decide +kernel
theorem dX10_yard_56 : decode cX10_yard 56 = .ok (.aload_n 0, 1) := by decide +kernel
theorem dX10_yard_57 : decode cX10_yard 57 = .ok (.getfield 58, 3) := by decide +kernel
theorem dX10_yard_60 : decode cX10_yard 60 = .ok (.iload 7, 2) := by decide +kernel
theorem dX10_yard_62 : decode cX10_yard 62 = .ok (.iload_n 1, 1) := by decide +kernel
theorem dX10_yard_63 : decode cX10_yard 63 = .ok (.iastore, 1) := by decide +kernel
theorem dX10_yard_64 : decode cX10_yard 64 = .ok (.aload_n 0, 1) := by decide +kernel
theorem dX10_yard_65 : decode cX10_yard 65 = .ok (.getfield 61, 3) := by decide +kernel
theorem dX10_yard_68 : decode cX10_yard 68 = .ok (.iload 7, 2) := by decide +kernel
theorem dX10_yard_70 : decode cX10_yard 70 = .ok (.iload_n 2, 1) := by decide +kernel
theorem dX10_yard_71 : decode cX10_yard 71 = .ok (.iastore, 1) := by decide +kernel
theorem dX10_yard_72 : decode cX10_yard 72 = .ok (.aload_n 0, 1) := by decide +kernel
theorem dX10_yard_73 : decode cX10_yard 73 = .ok (.getfield 64, 3) := by decide +kernel
theorem dX10_yard_76 : decode cX10_yard 76 = .ok (.iload 7, 2) := by decide +kernel
theorem dX10_yard_78 : decode cX10_yard 78 = .ok (.iload_n 3, 1) := by decide +kernel
theorem dX10_yard_79 : decode cX10_yard 79 = .ok (.iastore, 1) := by decide +kernel
theorem dX10_yard_80 : decode cX10_yard 80 = .ok (.aload_n 0, 1) := by decide +kernel
theorem dX10_yard_81 : decode cX10_yard 81 = .ok (.getfield 67, 3) := by decide +kernel
theorem dX10_yard_84 : decode cX10_yard 84 = .ok (.iload 7, 2) := by decide +kernel
theorem dX10_yard_86 : decode cX10_yard 86 = .ok (.iload 4, 2) := by decide +kernel
theorem dX10_yard_88 : decode cX10_yard 88 = .ok (.iastore, 1) := by decide +kernel
theorem dX10_yard_89 : decode cX10_yard 89 = .ok (.aload_n 0, 1) := by decide +kernel
theorem dX10_yard_90 : decode cX10_yard 90 = .ok (.getfield 70, 3) := by decide +kernel
theorem dX10_yard_93 : decode cX10_yard 93 = .ok (.iload 7, 2) := by decide +kernel
theorem dX10_yard_95 : decode cX10_yard 95 = .ok (.iload 5, 2) := by decide +kernel
theorem dX10_yard_97 : decode cX10_yard 97 = .ok (.iastore, 1) := by decide +kernel
theorem dX10_yard_98 : decode cX10_yard 98 = .ok (.aload_n 0, 1) := by decide +kernel
theorem dX10_yard_99 : decode cX10_yard 99 = .ok (.getfield 73, 3) := by decide +kernel
theorem dX10_yard_102 : decode cX10_yard 102 = .ok (.iload 7, 2) := by decide +kernel
theorem dX10_yard_104 : decode cX10_yard 104 = .ok (.iload 6, 2) := by decide +kernel
theorem dX10_yard_106 : decode cX10_yard 106 = .ok (.iastore, 1) := by decide +kernel
theorem dX10_yard_107 : decode cX10_yard 107 = .ok (.aload_n 0, 1) := by decide +kernel
theorem dX10_yard_108 : decode cX10_yard 108 = .ok (.getfield 76, 3) := by decide +kernel
theorem dX10_yard_111 : decode cX10_yard 111 = .ok (.iload 7, 2) := by decide +kernel
theorem dX10_yard_113 : decode cX10_yard 113 = .ok (.iconst 0, 1) := by decide +kernel
theorem dX10_yard_114 : decode cX10_yard 114 = .ok (.iastore, 1) := by decide +kernel
theorem dX10_yard_115 : decode cX10_yard 115 = .ok (.aload_n 0, 1) := by decide +kernel
theorem dX10_yard_116 : decode cX10_yard 116 = .ok (.getfield 7, 3) := by decide +kernel
theorem dX10_yard_119 : decode cX10_yard 119 = .ok (.bipush 9, 2) := by decide +kernel
theorem dX10_yard_121 : decode cX10_yard 121 = .ok (.dup2, 1) := by decide +kernel
theorem dX10_yard_122 : decode cX10_yard 122 = .ok (.iaload, 1) := by decide +kernel
theorem dX10_yard_123 : decode cX10_yard 123 = .ok (.iconst 1, 1) := by decide +kernel
theorem dX10_yard_124 : decode cX10_yard 124 = .ok (.iadd, 1) := by decide +kernel
theorem dX10_yard_125 : decode cX10_yard 125 = .ok (.iastore, 1) := by decide +kernel
theorem dX10_yard_126 : decode cX10_yard 126 = .ok (.iload 7, 2) := by decide +kernel
theorem dX10_yard_128 : decode cX10_yard 128 = .ok (.ireturn, 1) := by decide +kernel
theorem ce_X10_yard : CeV RX10 yX10_yard cX10_yard 8 (some .int) 6 := ⟨tb_1469, tb_1470, tb_11, tb_1471, rfl, by decide, by decide, by decide +kernel⟩
theorem dX10_eyes_0 : decode cX10_eyes 0 = .ok (.aload_n 0, 1) := by decide +kernel
theorem dX10_eyes_1 : decode cX10_eyes 1 = .ok (.iload_n 1, 1) := by decide +kernel
theorem dX10_eyes_2 : decode cX10_eyes 2 = .ok (.iload_n 2, 1) := by decide +kernel
theorem dX10_eyes_3 : decode cX10_eyes 3 = .ok (.invokevirtual 196, 3) := by decide +kernel
theorem dX10_eyes_6 : decode cX10_eyes 6 = .ok (.ifCond .eq 17, 3) := by decide +kernel
theorem dX10_eyes_9 : decode cX10_eyes 9 = .ok (.iload_n 3, 1) := by decide +kernel
theorem dX10_eyes_10 : decode cX10_eyes 10 = .ok (.i2l, 1) := by decide +kernel
theorem dX10_eyes_11 : decode cX10_eyes 11 = .ok (.ldc2_w 226, 3) := by decide +kernel
theorem dX10_eyes_14 : decode cX10_eyes 14 = .ok (.ldc2_w 216, 3) := by decide +kernel
theorem dX10_eyes_17 : decode cX10_eyes 17 = .ok (.invokestatic 192, 3) := by decide +kernel
theorem dX10_eyes_20 : decode cX10_eyes 20 = .ok (.ifCond .ne 6, 3) := by decide +kernel
theorem dX10_eyes_23 : decode cX10_eyes 23 = .ok (.bipush (-2), 2) := by decide +kernel
theorem dX10_eyes_25 : decode cX10_eyes 25 = .ok (.ireturn, 1) := by decide +kernel
theorem dX10_eyes_26 : decode cX10_eyes 26 = .ok (.aload_n 0, 1) := by decide +kernel
theorem dX10_eyes_27 : decode cX10_eyes 27 = .ok (.getfield 16, 3) := by decide +kernel
theorem dX10_eyes_30 : decode cX10_eyes 30 = .ok (.bipush 24, 2) := by decide +kernel
theorem dX10_eyes_32 : decode cX10_eyes 32 = .ok (.iload_n 2, 1) := by decide +kernel
theorem dX10_eyes_33 : decode cX10_eyes 33 = .ok (.imul, 1) := by decide +kernel
theorem dX10_eyes_34 : decode cX10_eyes 34 = .ok (.iload_n 1, 1) := by decide +kernel
theorem dX10_eyes_35 : decode cX10_eyes 35 = .ok (.iadd, 1) := by decide +kernel
theorem dX10_eyes_36 : decode cX10_eyes 36 = .ok (.iaload, 1) := by decide +kernel
theorem dX10_eyes_37 : decode cX10_eyes 37 = .ok (.istore 4, 2) := by decide +kernel
theorem dX10_eyes_39 : decode cX10_eyes 39 = .ok (.aload_n 0, 1) := by decide +kernel
theorem dX10_eyes_40 : decode cX10_eyes 40 = .ok (.getfield 16, 3) := by decide +kernel
theorem dX10_eyes_43 : decode cX10_eyes 43 = .ok (.bipush 24, 2) := by decide +kernel
theorem dX10_eyes_45 : decode cX10_eyes 45 = .ok (.iload_n 2, 1) := by decide +kernel
theorem dX10_eyes_46 : decode cX10_eyes 46 = .ok (.imul, 1) := by decide +kernel
theorem dX10_eyes_47 : decode cX10_eyes 47 = .ok (.iload_n 1, 1) := by decide +kernel
theorem dX10_eyes_48 : decode cX10_eyes 48 = .ok (.iadd, 1) := by decide +kernel
theorem dX10_eyes_49 : decode cX10_eyes 49 = .ok (.iload_n 3, 1) := by decide +kernel
theorem dX10_eyes_50 : decode cX10_eyes 50 = .ok (.iastore, 1) := by decide +kernel
theorem dX10_eyes_51 : decode cX10_eyes 51 = .ok (.iload 4, 2) := by decide +kernel
theorem dX10_eyes_53 : decode cX10_eyes 53 = .ok (.ireturn, 1) := by decide +kernel
theorem ce_X10_eyes : CeV RX10 yX10_eyes cX10_eyes 5 (some .int) 3 := ⟨tb_1474, tb_1475, tb_11, tb_1476, rfl, by decide, by decide, by decide +kernel⟩
theorem dX10_month_0 : decode cX10_month 0 = .ok (.aload_n 0, 1) := by decide +kernel
theorem dX10_month_1 : decode cX10_month 1 = .ok (.invokevirtual 188, 3) := by decide +kernel
theorem dX10_month_4 : decode cX10_month 4 = .ok (.ifCond .eq 15, 3) := by decide +kernel
theorem dX10_month_7 : decode cX10_month 7 = .ok (.iload_n 1, 1) := by decide +kernel
theorem dX10_month_8 : decode cX10_month 8 = .ok (.i2l, 1) := by decide +kernel
theorem dX10_month_9 : decode cX10_month 9 = .ok (.lconst 0, 1) := by decide +kernel
theorem dX10_month_10 : decode cX10_month 10 = .ok (.ldc2_w 210, 3) := by decide +kernel
theorem dX10_month_13 : decode cX10_month 13 = .ok (.invokestatic 192, 3) := by decide +kernel
theorem dX10_month_16 : decode cX10_month 16 = .ok (.ifCond .ne 5, 3) := by decide +kernel
theorem dX10_month_19 : decode cX10_month 19 = .ok (.iconst (-1), 1) := by decide +kernel
theorem dX10_month_20 : decode cX10_month 20 = .ok (.ireturn, 1) := by decide +kernel
theorem dX10_month_21 : decode cX10_month 21 = .ok (.aload_n 0, 1) := by decide +kernel
theorem dX10_month_22 : decode cX10_month 22 = .ok (.getfield 7, 3) := by decide +kernel
theorem dX10_month_25 : decode cX10_month 25 = .ok (.iconst 5, 1) := by decide +kernel
theorem dX10_month_26 : decode cX10_month 26 = .ok (.iaload, 1) := by decide +kernel
theorem dX10_month_27 : decode cX10_month 27 = .ok (.istore_n 2, 1) := by decide +kernel
theorem dX10_month_28 : decode cX10_month 28 = .ok (.aload_n 0, 1) := by decide +kernel
theorem dX10_month_29 : decode cX10_month 29 = .ok (.getfield 7, 3) := by decide +kernel
theorem dX10_month_32 : decode cX10_month 32 = .ok (.iconst 5, 1) := by decide +kernel
theorem dX10_month_33 : decode cX10_month 33 = .ok (.iload_n 1, 1) := by decide +kernel
theorem dX10_month_34 : decode cX10_month 34 = .ok (.iastore, 1) := by decide +kernel
theorem dX10_month_35 : decode cX10_month 35 = .ok (.iload_n 2, 1) := by decide +kernel
theorem dX10_month_36 : decode cX10_month 36 = .ok (.ireturn, 1) := by decide +kernel
theorem ce_X10_month : CeV RX10 yX10_month cX10_month 3 (some .int) 1 := ⟨tb_1478, tb_1479, tb_11, tb_1480, rfl, by decide, by decide, by decide +kernel⟩
theorem dX10_falls_0 : decode cX10_falls 0 = .ok (.aload_n 0, 1) := by decide +kernel
theorem dX10_falls_1 : decode cX10_falls 1 = .ok (.invokevirtual 188, 3) := by decide +kernel
theorem dX10_falls_4 : decode cX10_falls 4 = .ok (.ifCond .eq 15, 3) := by decide +kernel
theorem dX10_falls_7 : decode cX10_falls 7 = .ok (.iload_n 1, 1) := by decide +kernel
theorem dX10_falls_8 : decode cX10_falls 8 = .ok (.i2l, 1) := by decide +kernel
theorem dX10_falls_9 : decode cX10_falls 9 = .ok (.lconst 0, 1) := by decide +kernel
theorem dX10_falls_10 : decode cX10_falls 10 = .ok (.ldc2_w 230, 3) := by decide +kernel
theorem dX10_falls_13 : decode cX10_falls 13 = .ok (.invokestatic 192, 3) := by decide +kernel
theorem dX10_falls_16 : decode cX10_falls 16 = .ok (.ifCond .ne 5, 3) := by decide +kernel
theorem dX10_falls_19 : decode cX10_falls 19 = .ok (.iconst (-1), 1) := by decide +kernel
theorem dX10_falls_20 : decode cX10_falls 20 = .ok (.ireturn, 1) := by decide +kernel
theorem dX10_falls_21 : decode cX10_falls 21 = .ok (.aload_n 0, 1) := by decide +kernel
theorem dX10_falls_22 : decode cX10_falls 22 = .ok (.getfield 7, 3) := by decide +kernel
theorem dX10_falls_25 : decode cX10_falls 25 = .ok (.bipush 7, 2) := by decide +kernel
theorem dX10_falls_27 : decode cX10_falls 27 = .ok (.iaload, 1) := by decide +kernel
theorem dX10_falls_28 : decode cX10_falls 28 = .ok (.istore_n 2, 1) := by decide +kernel
theorem dX10_falls_29 : decode cX10_falls 29 = .ok (.aload_n 0, 1) := by decide +kernel
theorem dX10_falls_30 : decode cX10_falls 30 = .ok (.getfield 7, 3) := by decide +kernel
theorem dX10_falls_33 : decode cX10_falls 33 = .ok (.bipush 7, 2) := by decide +kernel
theorem dX10_falls_35 : decode cX10_falls 35 = .ok (.iload_n 1, 1) := by decide +kernel
theorem dX10_falls_36 : decode cX10_falls 36 = .ok (.iastore, 1) := by decide +kernel
theorem dX10_falls_37 : decode cX10_falls 37 = .ok (.iload_n 2, 1) := by decide +kernel
theorem dX10_falls_38 : decode cX10_falls 38 = .ok (.ireturn, 1) := by decide +kernel
theorem ce_X10_falls : CeV RX10 yX10_falls cX10_falls 3 (some .int) 1 := ⟨tb_1482, tb_1483, tb_11, tb_1484, rfl, by decide, by decide, by decide +kernel⟩
theorem dX10_put_0 : decode cX10_put 0 = .ok (.bipush 24, 2) := by decide +kernel
theorem dX10_put_2 : decode cX10_put 2 = .ok (.istore_n 2, 1) := by decide +kernel
theorem dX10_put_3 : decode cX10_put 3 = .ok (.iload_n 2, 1) := by decide +kernel
theorem dX10_put_4 : decode cX10_put 4 = .ok (.ifCond .lt 32, 3) := by decide +kernel
theorem dX10_put_7 : decode cX10_put 7 = .ok (.aload_n 0, 1) := by decide +kernel
theorem dX10_put_8 : decode cX10_put 8 = .ok (.getfield 83, 3) := by decide +kernel
theorem dX10_put_11 : decode cX10_put 11 = .ok (.aload_n 0, 1) := by decide +kernel
theorem dX10_put_12 : decode cX10_put 12 = .ok (.getfield 232, 3) := by decide +kernel
theorem dX10_put_15 : decode cX10_put 15 = .ok (.iload_n 1, 1) := by decide +kernel
theorem dX10_put_16 : decode cX10_put 16 = .ok (.iload_n 2, 1) := by decide +kernel
theorem dX10_put_17 : decode cX10_put 17 = .ok (.ishr, 1) := by decide +kernel
theorem dX10_put_18 : decode cX10_put 18 = .ok (.i2b, 1) := by decide +kernel
theorem dX10_put_19 : decode cX10_put 19 = .ok (.bastore, 1) := by decide +kernel
theorem dX10_put_20 : decode cX10_put 20 = .ok (.aload_n 0, 1) := by decide +kernel
theorem dX10_put_21 : decode cX10_put 21 = .ok (.dup, 1) := by decide +kernel
theorem dX10_put_22 : decode cX10_put 22 = .ok (.getfield 232, 3) := by decide +kernel
theorem dX10_put_25 : decode cX10_put 25 = .ok (.iconst 1, 1) := by decide +kernel
theorem dX10_put_26 : decode cX10_put 26 = .ok (.iadd, 1) := by decide +kernel
theorem dX10_put_27 : decode cX10_put 27 = .ok (.putfield 232, 3) := by decide +kernel
theorem dX10_put_30 : decode cX10_put 30 = .ok (.iinc 2 (-8), 3) := by decide +kernel
theorem dX10_put_33 : decode cX10_put 33 = .ok (.goto (-30), 3) := by decide +kernel
theorem dX10_put_36 : decode cX10_put 36 = .ok (.return_, 1) := by decide +kernel
theorem ce_X10_put : CeV RX10 yX10_put cX10_put 3 none 1 := ⟨tb_1492, tp_60, tb_11, tb_1493, rfl, by decide, by decide, by decide +kernel⟩
set_option maxHeartbeats 4000000 in
set_option maxRecDepth 20000 in
theorem V_X10_put (l : Launch) (D : va_G) (A : Nat → Prop) (ad : Nat → Nat) (ns : List Nat) (I : MI) (L : ML) (G : MG) (a0 : Int32) (hJ : SGM ns G) (hI : INV I) (ht : (I 1000 24).toInt ≤ 396) : Met l yX10_put (wd yX10_put cX10_put 3 none) ({ frames := 0, cells := 0, slots := 0, locals := 0 }) (va_Pc [.ref (ad (1000)), .int a0] (PM D A ad ns I L G)) (va_Qv (fun u => ∃ I2 L2, u = (ad, ns, I2, L2, G) ∧ INV I2 ∧ Kp [(1034, 1035)] [(1000, 24)] I I2 ∧ ((I2 1000 24).toInt ≤ (I 1000 24).toInt + 4)) (BM D A) A) 0 0 A := by
  refine m_ofW (by decide) (Nat.le_of_ble_eq_true rfl) ?_
  intro p e s m below meth c ls args hC hE hM hA hS hl
  obtain ⟨hx, hb, hml, hown, hts, hr, hlocks, hin⟩ := hC
  have k0 : (0 : Int32).toInt = 0 := by decide
  have k1 : (1 : Int32).toInt = 1 := by decide
  have k24 : (24 : Int32).toInt = 24 := by decide
  have hK : Kp [(1034, 1035)] [(1000, 24)] I I := Kp.rf
  have hl : lv_has ls 3 [(0, .ref (ad (1000))), (1, .int (a0))] := hl
  refine lv_bipush (v := (24)) hx hb dX10_put_0 (by decide) ?_
  refine lv_istore_n (lv' := [(2, .int (24)), (0, .ref (ad (1000))), (1, .int (a0))]) hx hb dX10_put_2 rfl hl (by decide) rfl (fun ls hl => ?_)
  refine lv_iload_n hx hb dX10_put_3 rfl (lv_at hl 0 rfl) ?_
  refine lv_if_lt (tgt := 36) hx hb dX10_put_4 (by decide) (fun c1 => ?_) (fun c1 => ?_)
  · exact absurd c1 (by decide)
  · have hc1 := c1
    have q1 := q_nlt hc1
    refine lv_aload_n hx hb dX10_put_7 rfl (lv_at hl 1 rfl) ?_
    refine m_getr (1000) 34 (1034) hx hb hts hown hE oc10 hM hJ.1 rfl (by decide) rfl (hJ.2 34 (by decide)).2 (by decide) tb_1211 dX10_put_8 ?_
    refine lv_aload_n hx hb dX10_put_11 rfl (lv_at hl 1 rfl) ?_
    refine m_geti (1000) 24 hx hb hts hown hE oc10 hM hJ.1 rfl (by decide) rfl tb_1201 dX10_put_12 ?_
    have g2 := hI.get (1000) 24 (lo := 0) (hi := 400) rfl
    refine lv_iload_n hx hb dX10_put_15 rfl (lv_at hl 2 rfl) ?_
    refine lv_iload_n hx hb dX10_put_16 rfl (lv_at hl 0 rfl) ?_
    refine lv_ishr hx hb dX10_put_17 ?_
    refine lv_topi (fun v3 ev3 => ?_)
    refine lv_i2b hx hb dX10_put_18 rfl ?_
    refine lv_topi (fun v4 ev4 => ?_)
    refine m_bast (1034) hx hb hE hM hS (hJ.2 34 (by decide)).1 rfl (vp_in_iff.mpr (by omega)) dX10_put_19 (fun H locs I5 eI5 hM hS => ?_)
    subst eI5
    have hI := hI.putF (n := 1034) (k := ((I (1000) 24).toNatClampNeg)) (v := vp_nar .byte (v4)) rfl
    have hK := hK.put (n := 1034) (k := ((I (1000) 24).toNatClampNeg)) (v := vp_nar .byte (v4)) (by first | rfl | simp [inR])
    refine lv_aload_n hx hb dX10_put_20 rfl (lv_at hl 1 rfl) ?_
    refine lv_dup hx hb dX10_put_21 rfl ?_
    refine m_geti (1000) 24 hx hb hts hown hE oc10 hM hJ.1 rfl (by decide) rfl tb_1201 dX10_put_22 ?_
    have z6 : (u2 I (1034) ((I (1000) 24).toNatClampNeg) (vp_nar .byte (v4))) (1000) 24 = I (1000) 24 := (show (u2 I (1034) ((I (1000) 24).toNatClampNeg) (vp_nar .byte (v4))) (1000) 24 = I (1000) 24 from by simp [u2_v])
    rw [z6]
    refine lv_iconst (v := (1)) hx hb dX10_put_25 (by decide) ?_
    refine lv_iadd hx hb dX10_put_26 ?_
    refine lv_topi (fun v7 ev7 => ?_)
    have tv7 := a_add ev7 (by omega) (by omega)
    refine m_puti (1000) 24 hx hb hts hown hE oc10 hM hS hJ.1 rfl (by decide) rfl rfl rfl rfl tb_1201 dX10_put_27 (fun H locs I8 eI8 hM hS => ?_)
    subst eI8
    have hI := hI.put (n := 1000) (k := 24) (v := v7) (lo := 0) (hi := 400) rfl (by first | omega | decide)
    have hK := hK.put (n := 1000) (k := 24) (v := v7) (by first | rfl | simp [inR])
    refine lv_iinc (v := 16) (lv' := [(2, .int (16)), (0, .ref (ad (1000))), (1, .int (a0))]) hx hb dX10_put_30 hl (k := 0) rfl (by decide) (by decide) rfl (fun ls hl => ?_)
    refine lv_goto (tgt := 3) hx hb dX10_put_33 (by decide) ?_
    refine lv_iload_n hx hb dX10_put_3 rfl (lv_at hl 0 rfl) ?_
    refine lv_if_lt (tgt := 36) hx hb dX10_put_4 (by decide) (fun c10 => ?_) (fun c10 => ?_)
    · exact absurd c10 (by decide)
    · have hc10 := c10
      have q10 := q_nlt hc10
      refine lv_aload_n hx hb dX10_put_7 rfl (lv_at hl 1 rfl) ?_
      refine m_getr (1000) 34 (1034) hx hb hts hown hE oc10 hM hJ.1 rfl (by decide) rfl (hJ.2 34 (by decide)).2 (by decide) tb_1211 dX10_put_8 ?_
      refine lv_aload_n hx hb dX10_put_11 rfl (lv_at hl 1 rfl) ?_
      refine m_geti (1000) 24 hx hb hts hown hE oc10 hM hJ.1 rfl (by decide) rfl tb_1201 dX10_put_12 ?_
      have g11 := hI.get (1000) 24 (lo := 0) (hi := 400) rfl
      have z12 : (u2 (u2 I (1034) ((I (1000) 24).toNatClampNeg) (vp_nar .byte (v4))) (1000) 24 (v7)) (1000) 24 = v7 := (show (u2 (u2 I (1034) ((I (1000) 24).toNatClampNeg) (vp_nar .byte (v4))) (1000) 24 (v7)) (1000) 24 = v7 from by simp [u2_v])
      rw [z12] at g11 ⊢
      refine lv_iload_n hx hb dX10_put_15 rfl (lv_at hl 2 rfl) ?_
      refine lv_iload_n hx hb dX10_put_16 rfl (lv_at hl 0 rfl) ?_
      refine lv_ishr hx hb dX10_put_17 ?_
      refine lv_topi (fun v13 ev13 => ?_)
      refine lv_i2b hx hb dX10_put_18 rfl ?_
      refine lv_topi (fun v14 ev14 => ?_)
      refine m_bast (1034) hx hb hE hM hS (hJ.2 34 (by decide)).1 rfl (vp_in_iff.mpr (by omega)) dX10_put_19 (fun H locs I15 eI15 hM hS => ?_)
      subst eI15
      have hI := hI.putF (n := 1034) (k := ((v7).toNatClampNeg)) (v := vp_nar .byte (v14)) rfl
      have hK := hK.put (n := 1034) (k := ((v7).toNatClampNeg)) (v := vp_nar .byte (v14)) (by first | rfl | simp [inR])
      refine lv_aload_n hx hb dX10_put_20 rfl (lv_at hl 1 rfl) ?_
      refine lv_dup hx hb dX10_put_21 rfl ?_
      refine m_geti (1000) 24 hx hb hts hown hE oc10 hM hJ.1 rfl (by decide) rfl tb_1201 dX10_put_22 ?_
      have z16 : (u2 (u2 (u2 I (1034) ((I (1000) 24).toNatClampNeg) (vp_nar .byte (v4))) (1000) 24 (v7)) (1034) ((v7).toNatClampNeg) (vp_nar .byte (v14))) (1000) 24 = v7 := (show (u2 (u2 (u2 I (1034) ((I (1000) 24).toNatClampNeg) (vp_nar .byte (v4))) (1000) 24 (v7)) (1034) ((v7).toNatClampNeg) (vp_nar .byte (v14))) (1000) 24 = v7 from by simp [u2_v])
      rw [z16]
      refine lv_iconst (v := (1)) hx hb dX10_put_25 (by decide) ?_
      refine lv_iadd hx hb dX10_put_26 ?_
      refine lv_topi (fun v17 ev17 => ?_)
      have tv17 := a_add ev17 (by omega) (by omega)
      refine m_puti (1000) 24 hx hb hts hown hE oc10 hM hS hJ.1 rfl (by decide) rfl rfl rfl rfl tb_1201 dX10_put_27 (fun H locs I18 eI18 hM hS => ?_)
      subst eI18
      have hI := hI.put (n := 1000) (k := 24) (v := v17) (lo := 0) (hi := 400) rfl (by first | omega | decide)
      have hK := hK.put (n := 1000) (k := 24) (v := v17) (by first | rfl | simp [inR])
      refine lv_iinc (v := 8) (lv' := [(2, .int (8)), (0, .ref (ad (1000))), (1, .int (a0))]) hx hb dX10_put_30 hl (k := 0) rfl (by decide) (by decide) rfl (fun ls hl => ?_)
      refine lv_goto (tgt := 3) hx hb dX10_put_33 (by decide) ?_
      refine lv_iload_n hx hb dX10_put_3 rfl (lv_at hl 0 rfl) ?_
      refine lv_if_lt (tgt := 36) hx hb dX10_put_4 (by decide) (fun c20 => ?_) (fun c20 => ?_)
      · exact absurd c20 (by decide)
      · have hc20 := c20
        have q20 := q_nlt hc20
        refine lv_aload_n hx hb dX10_put_7 rfl (lv_at hl 1 rfl) ?_
        refine m_getr (1000) 34 (1034) hx hb hts hown hE oc10 hM hJ.1 rfl (by decide) rfl (hJ.2 34 (by decide)).2 (by decide) tb_1211 dX10_put_8 ?_
        refine lv_aload_n hx hb dX10_put_11 rfl (lv_at hl 1 rfl) ?_
        refine m_geti (1000) 24 hx hb hts hown hE oc10 hM hJ.1 rfl (by decide) rfl tb_1201 dX10_put_12 ?_
        have g21 := hI.get (1000) 24 (lo := 0) (hi := 400) rfl
        have z22 : (u2 (u2 (u2 (u2 I (1034) ((I (1000) 24).toNatClampNeg) (vp_nar .byte (v4))) (1000) 24 (v7)) (1034) ((v7).toNatClampNeg) (vp_nar .byte (v14))) (1000) 24 (v17)) (1000) 24 = v17 := (show (u2 (u2 (u2 (u2 I (1034) ((I (1000) 24).toNatClampNeg) (vp_nar .byte (v4))) (1000) 24 (v7)) (1034) ((v7).toNatClampNeg) (vp_nar .byte (v14))) (1000) 24 (v17)) (1000) 24 = v17 from by simp [u2_v])
        rw [z22] at g21 ⊢
        refine lv_iload_n hx hb dX10_put_15 rfl (lv_at hl 2 rfl) ?_
        refine lv_iload_n hx hb dX10_put_16 rfl (lv_at hl 0 rfl) ?_
        refine lv_ishr hx hb dX10_put_17 ?_
        refine lv_topi (fun v23 ev23 => ?_)
        refine lv_i2b hx hb dX10_put_18 rfl ?_
        refine lv_topi (fun v24 ev24 => ?_)
        refine m_bast (1034) hx hb hE hM hS (hJ.2 34 (by decide)).1 rfl (vp_in_iff.mpr (by omega)) dX10_put_19 (fun H locs I25 eI25 hM hS => ?_)
        subst eI25
        have hI := hI.putF (n := 1034) (k := ((v17).toNatClampNeg)) (v := vp_nar .byte (v24)) rfl
        have hK := hK.put (n := 1034) (k := ((v17).toNatClampNeg)) (v := vp_nar .byte (v24)) (by first | rfl | simp [inR])
        refine lv_aload_n hx hb dX10_put_20 rfl (lv_at hl 1 rfl) ?_
        refine lv_dup hx hb dX10_put_21 rfl ?_
        refine m_geti (1000) 24 hx hb hts hown hE oc10 hM hJ.1 rfl (by decide) rfl tb_1201 dX10_put_22 ?_
        have z26 : (u2 (u2 (u2 (u2 (u2 I (1034) ((I (1000) 24).toNatClampNeg) (vp_nar .byte (v4))) (1000) 24 (v7)) (1034) ((v7).toNatClampNeg) (vp_nar .byte (v14))) (1000) 24 (v17)) (1034) ((v17).toNatClampNeg) (vp_nar .byte (v24))) (1000) 24 = v17 := (show (u2 (u2 (u2 (u2 (u2 I (1034) ((I (1000) 24).toNatClampNeg) (vp_nar .byte (v4))) (1000) 24 (v7)) (1034) ((v7).toNatClampNeg) (vp_nar .byte (v14))) (1000) 24 (v17)) (1034) ((v17).toNatClampNeg) (vp_nar .byte (v24))) (1000) 24 = v17 from by simp [u2_v])
        rw [z26]
        refine lv_iconst (v := (1)) hx hb dX10_put_25 (by decide) ?_
        refine lv_iadd hx hb dX10_put_26 ?_
        refine lv_topi (fun v27 ev27 => ?_)
        have tv27 := a_add ev27 (by omega) (by omega)
        refine m_puti (1000) 24 hx hb hts hown hE oc10 hM hS hJ.1 rfl (by decide) rfl rfl rfl rfl tb_1201 dX10_put_27 (fun H locs I28 eI28 hM hS => ?_)
        subst eI28
        have hI := hI.put (n := 1000) (k := 24) (v := v27) (lo := 0) (hi := 400) rfl (by first | omega | decide)
        have hK := hK.put (n := 1000) (k := 24) (v := v27) (by first | rfl | simp [inR])
        refine lv_iinc (v := 0) (lv' := [(2, .int (0)), (0, .ref (ad (1000))), (1, .int (a0))]) hx hb dX10_put_30 hl (k := 0) rfl (by decide) (by decide) rfl (fun ls hl => ?_)
        refine lv_goto (tgt := 3) hx hb dX10_put_33 (by decide) ?_
        refine lv_iload_n hx hb dX10_put_3 rfl (lv_at hl 0 rfl) ?_
        refine lv_if_lt (tgt := 36) hx hb dX10_put_4 (by decide) (fun c30 => ?_) (fun c30 => ?_)
        · exact absurd c30 (by decide)
        · have hc30 := c30
          have q30 := q_nlt hc30
          refine lv_aload_n hx hb dX10_put_7 rfl (lv_at hl 1 rfl) ?_
          refine m_getr (1000) 34 (1034) hx hb hts hown hE oc10 hM hJ.1 rfl (by decide) rfl (hJ.2 34 (by decide)).2 (by decide) tb_1211 dX10_put_8 ?_
          refine lv_aload_n hx hb dX10_put_11 rfl (lv_at hl 1 rfl) ?_
          refine m_geti (1000) 24 hx hb hts hown hE oc10 hM hJ.1 rfl (by decide) rfl tb_1201 dX10_put_12 ?_
          have g31 := hI.get (1000) 24 (lo := 0) (hi := 400) rfl
          have z32 : (u2 (u2 (u2 (u2 (u2 (u2 I (1034) ((I (1000) 24).toNatClampNeg) (vp_nar .byte (v4))) (1000) 24 (v7)) (1034) ((v7).toNatClampNeg) (vp_nar .byte (v14))) (1000) 24 (v17)) (1034) ((v17).toNatClampNeg) (vp_nar .byte (v24))) (1000) 24 (v27)) (1000) 24 = v27 := (show (u2 (u2 (u2 (u2 (u2 (u2 I (1034) ((I (1000) 24).toNatClampNeg) (vp_nar .byte (v4))) (1000) 24 (v7)) (1034) ((v7).toNatClampNeg) (vp_nar .byte (v14))) (1000) 24 (v17)) (1034) ((v17).toNatClampNeg) (vp_nar .byte (v24))) (1000) 24 (v27)) (1000) 24 = v27 from by simp [u2_v])
          rw [z32] at g31 ⊢
          refine lv_iload_n hx hb dX10_put_15 rfl (lv_at hl 2 rfl) ?_
          refine lv_iload_n hx hb dX10_put_16 rfl (lv_at hl 0 rfl) ?_
          refine lv_ishr hx hb dX10_put_17 ?_
          refine lv_topi (fun v33 ev33 => ?_)
          refine lv_i2b hx hb dX10_put_18 rfl ?_
          refine lv_topi (fun v34 ev34 => ?_)
          refine m_bast (1034) hx hb hE hM hS (hJ.2 34 (by decide)).1 rfl (vp_in_iff.mpr (by omega)) dX10_put_19 (fun H locs I35 eI35 hM hS => ?_)
          subst eI35
          have hI := hI.putF (n := 1034) (k := ((v27).toNatClampNeg)) (v := vp_nar .byte (v34)) rfl
          have hK := hK.put (n := 1034) (k := ((v27).toNatClampNeg)) (v := vp_nar .byte (v34)) (by first | rfl | simp [inR])
          refine lv_aload_n hx hb dX10_put_20 rfl (lv_at hl 1 rfl) ?_
          refine lv_dup hx hb dX10_put_21 rfl ?_
          refine m_geti (1000) 24 hx hb hts hown hE oc10 hM hJ.1 rfl (by decide) rfl tb_1201 dX10_put_22 ?_
          have z36 : (u2 (u2 (u2 (u2 (u2 (u2 (u2 I (1034) ((I (1000) 24).toNatClampNeg) (vp_nar .byte (v4))) (1000) 24 (v7)) (1034) ((v7).toNatClampNeg) (vp_nar .byte (v14))) (1000) 24 (v17)) (1034) ((v17).toNatClampNeg) (vp_nar .byte (v24))) (1000) 24 (v27)) (1034) ((v27).toNatClampNeg) (vp_nar .byte (v34))) (1000) 24 = v27 := (show (u2 (u2 (u2 (u2 (u2 (u2 (u2 I (1034) ((I (1000) 24).toNatClampNeg) (vp_nar .byte (v4))) (1000) 24 (v7)) (1034) ((v7).toNatClampNeg) (vp_nar .byte (v14))) (1000) 24 (v17)) (1034) ((v17).toNatClampNeg) (vp_nar .byte (v24))) (1000) 24 (v27)) (1034) ((v27).toNatClampNeg) (vp_nar .byte (v34))) (1000) 24 = v27 from by simp [u2_v])
          rw [z36]
          refine lv_iconst (v := (1)) hx hb dX10_put_25 (by decide) ?_
          refine lv_iadd hx hb dX10_put_26 ?_
          refine lv_topi (fun v37 ev37 => ?_)
          have tv37 := a_add ev37 (by omega) (by omega)
          refine m_puti (1000) 24 hx hb hts hown hE oc10 hM hS hJ.1 rfl (by decide) rfl rfl rfl rfl tb_1201 dX10_put_27 (fun H locs I38 eI38 hM hS => ?_)
          subst eI38
          have hI := hI.put (n := 1000) (k := 24) (v := v37) (lo := 0) (hi := 400) rfl (by first | omega | decide)
          have hK := hK.put (n := 1000) (k := 24) (v := v37) (by first | rfl | simp [inR])
          refine lv_iinc (v := (-8 : Int32)) (lv' := [(2, .int ((-8 : Int32))), (0, .ref (ad (1000))), (1, .int (a0))]) hx hb dX10_put_30 hl (k := 0) rfl (by decide) (by decide) rfl (fun ls hl => ?_)
          refine lv_goto (tgt := 3) hx hb dX10_put_33 (by decide) ?_
          refine lv_iload_n hx hb dX10_put_3 rfl (lv_at hl 0 rfl) ?_
          refine lv_if_lt (tgt := 36) hx hb dX10_put_4 (by decide) (fun c40 => ?_) (fun c40 => ?_)
          · have hc40 := c40
            have q40 := q_lt hc40
            exact m_vret hx hb hr hlocks hM hS (Nat.le_of_ble_eq_true rfl) (Nat.le_of_ble_eq_true rfl) ⟨_, _, rfl, hI, hK, (by rw [u2_self]; omega)⟩ dX10_put_36
          · exact absurd c40 (by decide)
theorem dX10_feed_0 : decode cX10_feed 0 = .ok (.aload_n 0, 1) := by decide +kernel
theorem dX10_feed_1 : decode cX10_feed 1 = .ok (.getfield 232, 3) := by decide +kernel
theorem dX10_feed_4 : decode cX10_feed 4 = .ok (.bipush 20, 2) := by decide +kernel
theorem dX10_feed_6 : decode cX10_feed 6 = .ok (.iadd, 1) := by decide +kernel
theorem dX10_feed_7 : decode cX10_feed 7 = .ok (.sipush 400, 3) := by decide +kernel
theorem dX10_feed_10 : decode cX10_feed 10 = .ok (.if_icmp .le 5, 3) := by decide +kernel
theorem dX10_feed_13 : decode cX10_feed 13 = .ok (.iconst (-1), 1) := by decide +kernel
theorem dX10_feed_14 : decode cX10_feed 14 = .ok (.ireturn, 1) := by decide +kernel
theorem dX10_feed_15 : decode cX10_feed 15 = .ok (.aload_n 0, 1) := by decide +kernel
theorem dX10_feed_16 : decode cX10_feed 16 = .ok (.iload_n 1, 1) := by decide +kernel
theorem dX10_feed_17 : decode cX10_feed 17 = .ok (.invokevirtual 235, 3) := by decide +kernel
theorem dX10_feed_20 : decode cX10_feed 20 = .ok (.aload_n 0, 1) := by decide +kernel
theorem dX10_feed_21 : decode cX10_feed 21 = .ok (.iload_n 2, 1) := by decide +kernel
theorem dX10_feed_22 : decode cX10_feed 22 = .ok (.invokevirtual 235, 3) := by decide +kernel
theorem dX10_feed_25 : decode cX10_feed 25 = .ok (.aload_n 0, 1) := by decide +kernel
theorem dX10_feed_26 : decode cX10_feed 26 = .ok (.iload_n 3, 1) := by decide +kernel
theorem dX10_feed_27 : decode cX10_feed 27 = .ok (.invokevirtual 235, 3) := by decide +kernel
theorem dX10_feed_30 : decode cX10_feed 30 = .ok (.aload_n 0, 1) := by decide +kernel
theorem dX10_feed_31 : decode cX10_feed 31 = .ok (.iload 4, 2) := by decide +kernel
theorem dX10_feed_33 : decode cX10_feed 33 = .ok (.invokevirtual 235, 3) := by decide +kernel
theorem dX10_feed_36 : decode cX10_feed 36 = .ok (.aload_n 0, 1) := by decide +kernel
theorem dX10_feed_37 : decode cX10_feed 37 = .ok (.iload 5, 2) := by decide +kernel
theorem dX10_feed_39 : decode cX10_feed 39 = .ok (.invokevirtual 235, 3) := by decide +kernel
theorem dX10_feed_42 : decode cX10_feed 42 = .ok (.aload_n 0, 1) := by decide +kernel
theorem dX10_feed_43 : decode cX10_feed 43 = .ok (.getfield 232, 3) := by decide +kernel
theorem dX10_feed_46 : decode cX10_feed 46 = .ok (.ireturn, 1) := by decide +kernel
theorem ce_X10_feed : CeV RX10 yX10_feed cX10_feed 6 (some .int) 5 := ⟨tb_1487, tb_1488, tb_11, tb_1489, rfl, by decide, by decide, by decide +kernel⟩
set_option maxHeartbeats 4000000 in
set_option maxRecDepth 20000 in
theorem V_X10_feed (l : Launch) (D : va_G) (A : Nat → Prop) (ad : Nat → Nat) (ns : List Nat) (I : MI) (L : ML) (G : MG) (a0 : Int32) (a1 : Int32) (a2 : Int32) (a3 : Int32) (a4 : Int32) (hJ : SGM ns G) (hI : INV I) : Met l yX10_feed (wd yX10_feed cX10_feed 6 (some .int)) ({ frames := 1, cells := 0, slots := 0, locals := 22 }) (va_Pc [.ref (ad (1000)), .int a0, .int a1, .int a2, .int a3, .int a4] (PM D A ad ns I L G)) (va_Qi (fun r u => ∃ I2 L2, u = (ad, ns, I2, L2, G) ∧ INV I2 ∧ Kp [(1034, 1035)] [(1000, 24)] I I2) (BM D A) A) 0 0 A := by
  refine m_ofW (by decide) (Nat.le_of_ble_eq_true rfl) ?_
  intro p e s m below meth c ls args hC hE hM hA hS hl
  obtain ⟨hx, hb, hml, hown, hts, hr, hlocks, hin⟩ := hC
  have km1 : (-1 : Int32).toInt = -1 := by decide
  have k0 : (0 : Int32).toInt = 0 := by decide
  have k20 : (20 : Int32).toInt = 20 := by decide
  have k400 : (400 : Int32).toInt = 400 := by decide
  have hK : Kp [(1034, 1035)] [(1000, 24)] I I := Kp.rf
  have hl : lv_has ls 6 [(0, .ref (ad (1000))), (1, .int (a0)), (2, .int (a1)), (3, .int (a2)), (4, .int (a3)), (5, .int (a4))] := hl
  refine lv_aload_n hx hb dX10_feed_0 rfl (lv_at hl 0 rfl) ?_
  refine m_geti (1000) 24 hx hb hts hown hE oc10 hM hJ.1 rfl (by decide) rfl tb_1201 dX10_feed_1 ?_
  have g1 := hI.get (1000) 24 (lo := 0) (hi := 400) rfl
  refine lv_bipush (v := (20)) hx hb dX10_feed_4 (by decide) ?_
  refine lv_iadd hx hb dX10_feed_6 ?_
  refine lv_topi (fun v2 ev2 => ?_)
  have tv2 := a_add ev2 (by omega) (by omega)
  refine lv_sipush (v := (400)) hx hb dX10_feed_7 (by decide) ?_
  refine lv_icmp_le (tgt := 15) hx hb dX10_feed_10 (by decide) (fun c3 => ?_) (fun c3 => ?_)
  · have hc3 := c3
    have q3 := q_le hc3
    refine lv_aload_n hx hb dX10_feed_15 rfl (lv_at hl 0 rfl) ?_
    refine lv_iload_n hx hb dX10_feed_16 rfl (lv_at hl 1 rfl) ?_
    refine m_callv (m_runV (1000) (As := [.int (a0)]) (rest := []) hx hb hml hown hts hE hM hS hA ce_X10_put tb_1490 (V_X10_put l D A ad ns I L G (a0) hJ hI (by first | omega | decide)) rfl rfl ⟨Nat.le_of_ble_eq_true rfl, Nat.le_of_ble_eq_true rfl⟩ hJ.1 rfl rfl (by decide) rfl hl.1 rfl (Nat.le_of_ble_eq_true rfl) dX10_feed_17 ⟨Nat.le_of_ble_eq_true rfl, Nat.le_of_ble_eq_true rfl⟩) hS (fun u H locs hw hM hS => ?_)
    obtain ⟨I4, L5, rfl, hI, hkI4, xI4⟩ := hw
    have hM : Mem D A ad ns I4 L5 G H := hM
    have hK := hK.trans hkI4 rfl
    refine lv_aload_n hx hb dX10_feed_20 rfl (lv_at hl 0 rfl) ?_
    refine lv_iload_n hx hb dX10_feed_21 rfl (lv_at hl 2 rfl) ?_
    refine m_callv (m_runV (1000) (As := [.int (a1)]) (rest := []) hx hb hml hown hts hE hM hS hA ce_X10_put tb_1490 (V_X10_put l D A ad ns I4 L5 G (a1) hJ hI (by first | omega | decide)) rfl rfl ⟨Nat.le_of_ble_eq_true rfl, Nat.le_of_ble_eq_true rfl⟩ hJ.1 rfl rfl (by decide) rfl hl.1 rfl (Nat.le_of_ble_eq_true rfl) dX10_feed_22 ⟨Nat.le_of_ble_eq_true rfl, Nat.le_of_ble_eq_true rfl⟩) hS (fun u H locs hw hM hS => ?_)
    obtain ⟨I6, L7, rfl, hI, hkI6, xI6⟩ := hw
    have hM : Mem D A ad ns I6 L7 G H := hM
    have hK := hK.trans hkI6 rfl
    refine lv_aload_n hx hb dX10_feed_25 rfl (lv_at hl 0 rfl) ?_
    refine lv_iload_n hx hb dX10_feed_26 rfl (lv_at hl 3 rfl) ?_
    refine m_callv (m_runV (1000) (As := [.int (a2)]) (rest := []) hx hb hml hown hts hE hM hS hA ce_X10_put tb_1490 (V_X10_put l D A ad ns I6 L7 G (a2) hJ hI (by first | omega | decide)) rfl rfl ⟨Nat.le_of_ble_eq_true rfl, Nat.le_of_ble_eq_true rfl⟩ hJ.1 rfl rfl (by decide) rfl hl.1 rfl (Nat.le_of_ble_eq_true rfl) dX10_feed_27 ⟨Nat.le_of_ble_eq_true rfl, Nat.le_of_ble_eq_true rfl⟩) hS (fun u H locs hw hM hS => ?_)
    obtain ⟨I8, L9, rfl, hI, hkI8, xI8⟩ := hw
    have hM : Mem D A ad ns I8 L9 G H := hM
    have hK := hK.trans hkI8 rfl
    refine lv_aload_n hx hb dX10_feed_30 rfl (lv_at hl 0 rfl) ?_
    refine lv_iload hx hb dX10_feed_31 (lv_at hl 4 rfl) ?_
    refine m_callv (m_runV (1000) (As := [.int (a3)]) (rest := []) hx hb hml hown hts hE hM hS hA ce_X10_put tb_1490 (V_X10_put l D A ad ns I8 L9 G (a3) hJ hI (by first | omega | decide)) rfl rfl ⟨Nat.le_of_ble_eq_true rfl, Nat.le_of_ble_eq_true rfl⟩ hJ.1 rfl rfl (by decide) rfl hl.1 rfl (Nat.le_of_ble_eq_true rfl) dX10_feed_33 ⟨Nat.le_of_ble_eq_true rfl, Nat.le_of_ble_eq_true rfl⟩) hS (fun u H locs hw hM hS => ?_)
    obtain ⟨I10, L11, rfl, hI, hkI10, xI10⟩ := hw
    have hM : Mem D A ad ns I10 L11 G H := hM
    have hK := hK.trans hkI10 rfl
    refine lv_aload_n hx hb dX10_feed_36 rfl (lv_at hl 0 rfl) ?_
    refine lv_iload hx hb dX10_feed_37 (lv_at hl 5 rfl) ?_
    refine m_callv (m_runV (1000) (As := [.int (a4)]) (rest := []) hx hb hml hown hts hE hM hS hA ce_X10_put tb_1490 (V_X10_put l D A ad ns I10 L11 G (a4) hJ hI (by first | omega | decide)) rfl rfl ⟨Nat.le_of_ble_eq_true rfl, Nat.le_of_ble_eq_true rfl⟩ hJ.1 rfl rfl (by decide) rfl hl.1 rfl (Nat.le_of_ble_eq_true rfl) dX10_feed_39 ⟨Nat.le_of_ble_eq_true rfl, Nat.le_of_ble_eq_true rfl⟩) hS (fun u H locs hw hM hS => ?_)
    obtain ⟨I12, L13, rfl, hI, hkI12, xI12⟩ := hw
    have hM : Mem D A ad ns I12 L13 G H := hM
    have hK := hK.trans hkI12 rfl
    refine lv_aload_n hx hb dX10_feed_42 rfl (lv_at hl 0 rfl) ?_
    refine m_geti (1000) 24 hx hb hts hown hE oc10 hM hJ.1 rfl (by decide) rfl tb_1201 dX10_feed_43 ?_
    have g14 := hI.get (1000) 24 (lo := 0) (hi := 400) rfl
    exact m_iret hx hb hr hlocks hM hS (Nat.le_of_ble_eq_true rfl) (Nat.le_of_ble_eq_true rfl) ⟨_, _, rfl, hI, hK⟩ dX10_feed_46
  · have hc3 := c3
    have q3 := q_nle hc3
    refine lv_iconst (v := (-1)) hx hb dX10_feed_13 (by decide) ?_
    exact m_iret hx hb hr hlocks hM hS (Nat.le_of_ble_eq_true rfl) (Nat.le_of_ble_eq_true rfl) ⟨_, _, rfl, hI, hK⟩ dX10_feed_14
theorem dX10_end_0 : decode cX10_end 0 = .ok (.iload_n 1, 1) := by decide +kernel
theorem dX10_end_1 : decode cX10_end 1 = .ok (.ifCond .lt 11, 3) := by decide +kernel
theorem dX10_end_4 : decode cX10_end 4 = .ok (.iload_n 1, 1) := by decide +kernel
theorem dX10_end_5 : decode cX10_end 5 = .ok (.aload_n 0, 1) := by decide +kernel
theorem dX10_end_6 : decode cX10_end 6 = .ok (.getfield 232, 3) := by decide +kernel
theorem dX10_end_9 : decode cX10_end 9 = .ok (.if_icmp .le 5, 3) := by decide +kernel
theorem dX10_end_12 : decode cX10_end 12 = .ok (.iconst (-1), 1) := by decide +kernel
theorem dX10_end_13 : decode cX10_end 13 = .ok (.ireturn, 1) := by decide +kernel
theorem dX10_end_14 : decode cX10_end 14 = .ok (.aload_n 0, 1) := by decide +kernel
theorem dX10_end_15 : decode cX10_end 15 = .ok (.iload_n 1, 1) := by decide +kernel
theorem dX10_end_16 : decode cX10_end 16 = .ok (.putfield 232, 3) := by decide +kernel
theorem dX10_end_19 : decode cX10_end 19 = .ok (.iload_n 1, 1) := by decide +kernel
theorem dX10_end_20 : decode cX10_end 20 = .ok (.ireturn, 1) := by decide +kernel
theorem ce_X10_end : CeV RX10 yX10_end cX10_end 2 (some .int) 1 := ⟨tb_1495, tb_1496, tb_11, tb_1497, rfl, by decide, by decide, by decide +kernel⟩
set_option maxHeartbeats 4000000 in
set_option maxRecDepth 20000 in
theorem V_X10_end (l : Launch) (D : va_G) (A : Nat → Prop) (ad : Nat → Nat) (ns : List Nat) (I : MI) (L : ML) (G : MG) (a0 : Int32) (hJ : SGM ns G) (hI : INV I) : Met l yX10_end (wd yX10_end cX10_end 2 (some .int)) ({ frames := 0, cells := 0, slots := 0, locals := 0 }) (va_Pc [.ref (ad (1000)), .int a0] (PM D A ad ns I L G)) (va_Qi (fun r u => ∃ I2 L2, u = (ad, ns, I2, L2, G) ∧ INV I2 ∧ Kp [] [(1000, 24)] I I2) (BM D A) A) 0 0 A := by
  refine m_ofW (by decide) (Nat.le_of_ble_eq_true rfl) ?_
  intro p e s m below meth c ls args hC hE hM hA hS hl
  obtain ⟨hx, hb, hml, hown, hts, hr, hlocks, hin⟩ := hC
  have km1 : (-1 : Int32).toInt = -1 := by decide
  have k0 : (0 : Int32).toInt = 0 := by decide
  have hK : Kp [] [(1000, 24)] I I := Kp.rf
  have hl : lv_has ls 2 [(0, .ref (ad (1000))), (1, .int (a0))] := hl
  refine lv_iload_n hx hb dX10_end_0 rfl (lv_at hl 1 rfl) ?_
  refine lv_if_lt (tgt := 12) hx hb dX10_end_1 (by decide) (fun c1 => ?_) (fun c1 => ?_)
  · have hc1 := c1
    have q1 := q_lt hc1
    refine lv_iconst (v := (-1)) hx hb dX10_end_12 (by decide) ?_
    exact m_iret hx hb hr hlocks hM hS (Nat.le_of_ble_eq_true rfl) (Nat.le_of_ble_eq_true rfl) ⟨_, _, rfl, hI, hK⟩ dX10_end_13
  · have hc1 := c1
    have q1 := q_nlt hc1
    refine lv_iload_n hx hb dX10_end_4 rfl (lv_at hl 1 rfl) ?_
    refine lv_aload_n hx hb dX10_end_5 rfl (lv_at hl 0 rfl) ?_
    refine m_geti (1000) 24 hx hb hts hown hE oc10 hM hJ.1 rfl (by decide) rfl tb_1201 dX10_end_6 ?_
    have g2 := hI.get (1000) 24 (lo := 0) (hi := 400) rfl
    refine lv_icmp_le (tgt := 14) hx hb dX10_end_9 (by decide) (fun c3 => ?_) (fun c3 => ?_)
    · have hc3 := c3
      have q3 := q_le hc3
      refine lv_aload_n hx hb dX10_end_14 rfl (lv_at hl 0 rfl) ?_
      refine lv_iload_n hx hb dX10_end_15 rfl (lv_at hl 1 rfl) ?_
      refine m_puti (1000) 24 hx hb hts hown hE oc10 hM hS hJ.1 rfl (by decide) rfl rfl rfl rfl tb_1201 dX10_end_16 (fun H locs I4 eI4 hM hS => ?_)
      subst eI4
      have hI := hI.put (n := 1000) (k := 24) (v := a0) (lo := 0) (hi := 400) rfl (by first | omega | decide)
      have hK := hK.put (n := 1000) (k := 24) (v := a0) (by first | rfl | simp [inR])
      refine lv_iload_n hx hb dX10_end_19 rfl (lv_at hl 1 rfl) ?_
      exact m_iret hx hb hr hlocks hM hS (Nat.le_of_ble_eq_true rfl) (Nat.le_of_ble_eq_true rfl) ⟨_, _, rfl, hI, hK⟩ dX10_end_20
    · have hc3 := c3
      have q3 := q_nle hc3
      refine lv_iconst (v := (-1)) hx hb dX10_end_12 (by decide) ?_
      exact m_iret hx hb hr hlocks hM hS (Nat.le_of_ble_eq_true rfl) (Nat.le_of_ble_eq_true rfl) ⟨_, _, rfl, hI, hK⟩ dX10_end_13
theorem dX10_met_0 : decode cX10_met 0 = .ok (.iconst 0, 1) := by decide +kernel
theorem dX10_met_1 : decode cX10_met 1 = .ok (.istore_n 1, 1) := by decide +kernel
theorem dX10_met_2 : decode cX10_met 2 = .ok (.iconst 0, 1) := by decide +kernel
theorem dX10_met_3 : decode cX10_met 3 = .ok (.istore_n 2, 1) := by decide +kernel
theorem dX10_met_4 : decode cX10_met 4 = .ok (.iload_n 2, 1) := by decide +kernel
theorem dX10_met_5 : decode cX10_met 5 = .ok (.aload_n 0, 1) := by decide +kernel
theorem dX10_met_6 : decode cX10_met 6 = .ok (.getfield 7, 3) := by decide +kernel
theorem dX10_met_9 : decode cX10_met 9 = .ok (.bipush 9, 2) := by decide +kernel
theorem dX10_met_11 : decode cX10_met 11 = .ok (.iaload, 1) := by decide +kernel
theorem dX10_met_12 : decode cX10_met 12 = .ok (.if_icmp .ge 32, 3) := by decide +kernel
theorem dX10_met_15 : decode cX10_met 15 = .ok (.iload_n 1, 1) := by decide +kernel
theorem dX10_met_16 : decode cX10_met 16 = .ok (.aload_n 0, 1) := by decide +kernel
theorem dX10_met_17 : decode cX10_met 17 = .ok (.getfield 76, 3) := by decide +kernel
theorem dX10_met_20 : decode cX10_met 20 = .ok (.iload_n 2, 1) := by decide +kernel
theorem dX10_met_21 : decode cX10_met 21 = .ok (.iaload, 1) := by decide +kernel
theorem dX10_met_22 : decode cX10_met 22 = .ok (.aload_n 0, 1) := by decide +kernel
theorem dX10_met_23 : decode cX10_met 23 = .ok (.getfield 73, 3) := by decide +kernel
theorem dX10_met_26 : decode cX10_met 26 = .ok (.iload_n 2, 1) := by decide +kernel
theorem dX10_met_27 : decode cX10_met 27 = .ok (.iaload, 1) := by decide +kernel
theorem dX10_met_28 : decode cX10_met 28 = .ok (.if_icmp .lt 7, 3) := by decide +kernel
theorem dX10_met_31 : decode cX10_met 31 = .ok (.iconst 1, 1) := by decide +kernel
theorem dX10_met_32 : decode cX10_met 32 = .ok (.goto 4, 3) := by decide +kernel
theorem dX10_met_35 : decode cX10_met 35 = .ok (.iconst 0, 1) := by decide +kernel
theorem dX10_met_36 : decode cX10_met 36 = .ok (.iadd, 1) := by decide +kernel
theorem dX10_met_37 : decode cX10_met 37 = .ok (.istore_n 1, 1) := by decide +kernel
theorem dX10_met_38 : decode cX10_met 38 = .ok (.iinc 2 1, 3) := by decide +kernel
theorem dX10_met_41 : decode cX10_met 41 = .ok (.goto (-37), 3) := by decide +kernel
theorem dX10_met_44 : decode cX10_met 44 = .ok (.iload_n 1, 1) := by decide +kernel
theorem dX10_met_45 : decode cX10_met 45 = .ok (.ireturn, 1) := by decide +kernel
theorem ce_X10_met : CeV RX10 yX10_met cX10_met 3 (some .int) 0 := ⟨tb_1676, tp_93, tb_11, tb_1677, rfl, by decide, by decide, by decide +kernel⟩
set_option maxHeartbeats 4000000 in
set_option maxRecDepth 20000 in
theorem V_X10_met (l : Launch) (D : va_G) (A : Nat → Prop) (ad : Nat → Nat) (ns : List Nat) (I : MI) (L : ML) (G : MG) (hJ : SGM ns G) (hI : INV I) : Met l yX10_met (wd yX10_met cX10_met 3 (some .int)) ({ frames := 0, cells := 0, slots := 0, locals := 0 }) (va_Pc [.ref (ad (1000))] (PM D A ad ns I L G)) (va_Qi (fun r u => u = (ad, ns, I, L, G) ∧ (True)) (BM D A) A) 0 0 A := by
  refine m_ofW (by decide) (Nat.le_of_ble_eq_true rfl) ?_
  intro p e s m below meth c ls args hC hE hM hA hS hl
  obtain ⟨hx, hb, hml, hown, hts, hr, hlocks, hin⟩ := hC
  have k0 : (0 : Int32).toInt = 0 := by decide
  have k1 : (1 : Int32).toInt = 1 := by decide
  have k9 : (9 : Int32).toInt = 9 := by decide
  have hl : lv_has ls 3 [(0, .ref (ad (1000)))] := hl
  refine lv_iconst (v := (0)) hx hb dX10_met_0 (by decide) ?_
  refine lv_istore_n (lv' := [(1, .int (0)), (0, .ref (ad (1000)))]) hx hb dX10_met_1 rfl hl (by decide) rfl (fun ls hl => ?_)
  refine lv_iconst (v := (0)) hx hb dX10_met_2 (by decide) ?_
  refine lv_istore_n (lv' := [(2, .int (0)), (1, .int (0)), (0, .ref (ad (1000)))]) hx hb dX10_met_3 rfl hl (by decide) rfl (fun ls hl => ?_)
  have loop4 : ∀ (n : Nat) (x2_4 : Int32) (x1_4 : Int32) (H : Heap) (locs : List Loc) (ls : Array Slot), (0 ≤ x2_4.toInt ∧ x2_4.toInt ≤ 8) → (8 - x2_4.toInt).toNat < n → Mem D A ad ns I L G H → va_S A s.heap H locs → lv_has ls 3 [(2, .int (x2_4)), (1, .int (x1_4)), (0, .ref (ad (1000)))] → W p l e ({ frames := 0, cells := 0, slots := 0, locals := 0 } : Room) s m args below meth c H locs 0 0 (MQ below (va_Qi (fun r u => u = (ad, ns, I, L, G) ∧ (True)) (BM D A) A) args s 0 0 A) (F0 m 4 ls []) := by
    intro n
    induction n with
    | zero =>
      intro x2_4 x1_4 H locs ls hr2_4 hmu
      exact absurd hmu (Nat.not_lt_zero _)
    | succ n ih4 =>
      intro x2_4 x1_4 H locs ls hr2_4 hmu4 hM hS hl
      refine lv_iload_n hx hb dX10_met_4 rfl (lv_at hl 0 rfl) ?_
      refine lv_aload_n hx hb dX10_met_5 rfl (lv_at hl 2 rfl) ?_
      refine m_getr (1000) 1 (1001) hx hb hts hown hE oc10 hM hJ.1 rfl (by decide) rfl (hJ.2 1 (by decide)).2 (by decide) tb_1178 dX10_met_6 ?_
      refine lv_bipush (v := (9)) hx hb dX10_met_9 (by decide) ?_
      refine m_iald (1001) hx hb hE hM (hJ.2 1 (by decide)).1 rfl (vp_in_iff.mpr (by decide)) dX10_met_11 ?_
      rw [show (9 : Int32).toNatClampNeg = 9 from rfl]
      have g1 := hI.get (1001) 9 (lo := 0) (hi := 8) rfl
      refine lv_icmp_ge (tgt := 44) hx hb dX10_met_12 (by decide) (fun c2 => ?_) (fun c2 => ?_)
      · have hc2 := c2
        have q2 := q_le hc2
        refine lv_iload_n hx hb dX10_met_44 rfl (lv_at hl 1 rfl) ?_
        exact m_iret hx hb hr hlocks hM hS (Nat.le_of_ble_eq_true rfl) (Nat.le_of_ble_eq_true rfl) ⟨rfl, trivial⟩ dX10_met_45
      · have hc2 := c2
        have q2 := q_nle hc2
        refine lv_iload_n hx hb dX10_met_15 rfl (lv_at hl 1 rfl) ?_
        refine lv_aload_n hx hb dX10_met_16 rfl (lv_at hl 2 rfl) ?_
        refine m_getr (1000) 23 (1023) hx hb hts hown hE oc10 hM hJ.1 rfl (by decide) rfl (hJ.2 23 (by decide)).2 (by decide) tb_1200 dX10_met_17 ?_
        refine lv_iload_n hx hb dX10_met_20 rfl (lv_at hl 0 rfl) ?_
        refine m_iald (1023) hx hb hE hM (hJ.2 23 (by decide)).1 rfl (vp_in_iff.mpr (by omega)) dX10_met_21 ?_
        refine lv_aload_n hx hb dX10_met_22 rfl (lv_at hl 2 rfl) ?_
        refine m_getr (1000) 22 (1022) hx hb hts hown hE oc10 hM hJ.1 rfl (by decide) rfl (hJ.2 22 (by decide)).2 (by decide) tb_1199 dX10_met_23 ?_
        refine lv_iload_n hx hb dX10_met_26 rfl (lv_at hl 0 rfl) ?_
        refine m_iald (1022) hx hb hE hM (hJ.2 22 (by decide)).1 rfl (vp_in_iff.mpr (by omega)) dX10_met_27 ?_
        refine lv_icmp_lt (tgt := 35) hx hb dX10_met_28 (by decide) (fun c3 => ?_) (fun c3 => ?_)
        · have hc3 := c3
          have q3 := q_lt hc3
          refine lv_iconst (v := (0)) hx hb dX10_met_35 (by decide) ?_
          refine lv_iadd hx hb dX10_met_36 ?_
          refine lv_topi (fun v4 ev4 => ?_)
          refine lv_istore_n (lv' := [(1, .int (v4)), (2, .int (x2_4)), (0, .ref (ad (1000)))]) hx hb dX10_met_37 rfl hl (by decide) rfl (fun ls hl => ?_)
          obtain ⟨v5, ev5⟩ : ∃ z : Int32, z = x2_4 + Int32.ofInt (1) := ⟨_, rfl⟩
          have tv5 := a_inc ev5 (by decide) (by omega) (by omega)
          refine lv_iinc (v := v5) (lv' := [(2, .int (v5)), (1, .int (v4)), (0, .ref (ad (1000)))]) hx hb dX10_met_38 hl (k := 1) rfl ev5.symm (by decide) rfl (fun ls hl => ?_)
          refine lv_goto (tgt := 4) hx hb dX10_met_41 (by decide) ?_
          exact ih4 (v5) (v4) _ _ ls (by first | omega | decide) (by omega) hM hS (lv_sub hl [0, 1, 2] rfl)
        · have hc3 := c3
          have q3 := q_nlt hc3
          refine lv_iconst (v := (1)) hx hb dX10_met_31 (by decide) ?_
          refine lv_goto (tgt := 36) hx hb dX10_met_32 (by decide) ?_
          refine lv_iadd hx hb dX10_met_36 ?_
          refine lv_topi (fun v6 ev6 => ?_)
          refine lv_istore_n (lv' := [(1, .int (v6)), (2, .int (x2_4)), (0, .ref (ad (1000)))]) hx hb dX10_met_37 rfl hl (by decide) rfl (fun ls hl => ?_)
          obtain ⟨v7, ev7⟩ : ∃ z : Int32, z = x2_4 + Int32.ofInt (1) := ⟨_, rfl⟩
          have tv7 := a_inc ev7 (by decide) (by omega) (by omega)
          refine lv_iinc (v := v7) (lv' := [(2, .int (v7)), (1, .int (v6)), (0, .ref (ad (1000)))]) hx hb dX10_met_38 hl (k := 1) rfl ev7.symm (by decide) rfl (fun ls hl => ?_)
          refine lv_goto (tgt := 4) hx hb dX10_met_41 (by decide) ?_
          exact ih4 (v7) (v6) _ _ ls (by first | omega | decide) (by omega) hM hS (lv_sub hl [0, 1, 2] rfl)
  exact loop4 (_ + 1) (0) (0) _ _ ls (by first | omega | decide) (Nat.lt_succ_self _) hM hS (lv_sub hl [0, 1, 2] rfl)
theorem dX10_mirrors_0 : decode cX10_mirrors 0 = .ok (.aload_n 0, 1) := by decide +kernel
theorem dX10_mirrors_1 : decode cX10_mirrors 1 = .ok (.iload_n 1, 1) := by decide +kernel
theorem dX10_mirrors_2 : decode cX10_mirrors 2 = .ok (.invokevirtual 220, 3) := by decide +kernel
theorem dX10_mirrors_5 : decode cX10_mirrors 5 = .ok (.ifCond .ne 6, 3) := by decide +kernel
theorem dX10_mirrors_8 : decode cX10_mirrors 8 = .ok (.bipush (-2), 2) := by decide +kernel
theorem dX10_mirrors_10 : decode cX10_mirrors 10 = .ok (.ireturn, 1) := by decide +kernel
theorem dX10_mirrors_11 : decode cX10_mirrors 11 = .ok (.iload_n 2, 1) := by decide +kernel
theorem dX10_mirrors_12 : decode cX10_mirrors 12 = .ok (.tableswitch 126 0 9 #[56, 63, 70, 77, 84, 91, 98, 105, 112, 119], 56) := by decide +kernel
theorem dX10_mirrors_68 : decode cX10_mirrors 68 = .ok (.aload_n 0, 1) := by decide +kernel
theorem dX10_mirrors_69 : decode cX10_mirrors 69 = .ok (.getfield 28, 3) := by decide +kernel
theorem dX10_mirrors_72 : decode cX10_mirrors 72 = .ok (.iload_n 1, 1) := by decide +kernel
theorem dX10_mirrors_73 : decode cX10_mirrors 73 = .ok (.iaload, 1) := by decide +kernel
theorem dX10_mirrors_74 : decode cX10_mirrors 74 = .ok (.ireturn, 1) := by decide +kernel
theorem dX10_mirrors_75 : decode cX10_mirrors 75 = .ok (.aload_n 0, 1) := by decide +kernel
theorem dX10_mirrors_76 : decode cX10_mirrors 76 = .ok (.getfield 31, 3) := by decide +kernel
theorem dX10_mirrors_79 : decode cX10_mirrors 79 = .ok (.iload_n 1, 1) := by decide +kernel
theorem dX10_mirrors_80 : decode cX10_mirrors 80 = .ok (.iaload, 1) := by decide +kernel
theorem dX10_mirrors_81 : decode cX10_mirrors 81 = .ok (.ireturn, 1) := by decide +kernel
theorem dX10_mirrors_82 : decode cX10_mirrors 82 = .ok (.aload_n 0, 1) := by decide +kernel
theorem dX10_mirrors_83 : decode cX10_mirrors 83 = .ok (.getfield 34, 3) := by decide +kernel
theorem dX10_mirrors_86 : decode cX10_mirrors 86 = .ok (.iload_n 1, 1) := by decide +kernel
theorem dX10_mirrors_87 : decode cX10_mirrors 87 = .ok (.iaload, 1) := by decide +kernel
theorem dX10_mirrors_88 : decode cX10_mirrors 88 = .ok (.ireturn, 1) := by decide +kernel
theorem dX10_mirrors_89 : decode cX10_mirrors 89 = .ok (.aload_n 0, 1) := by decide +kernel
theorem dX10_mirrors_90 : decode cX10_mirrors 90 = .ok (.getfield 37, 3) := by decide +kernel
theorem dX10_mirrors_93 : decode cX10_mirrors 93 = .ok (.iload_n 1, 1) := by decide +kernel
theorem dX10_mirrors_94 : decode cX10_mirrors 94 = .ok (.iaload, 1) := by decide +kernel
theorem dX10_mirrors_95 : decode cX10_mirrors 95 = .ok (.ireturn, 1) := by decide +kernel
theorem dX10_mirrors_96 : decode cX10_mirrors 96 = .ok (.aload_n 0, 1) := by decide +kernel
theorem dX10_mirrors_97 : decode cX10_mirrors 97 = .ok (.getfield 40, 3) := by decide +kernel
theorem dX10_mirrors_100 : decode cX10_mirrors 100 = .ok (.iload_n 1, 1) := by decide +kernel
theorem dX10_mirrors_101 : decode cX10_mirrors 101 = .ok (.iaload, 1) := by decide +kernel
theorem dX10_mirrors_102 : decode cX10_mirrors 102 = .ok (.ireturn, 1) := by decide +kernel
theorem dX10_mirrors_103 : decode cX10_mirrors 103 = .ok (.aload_n 0, 1) := by decide +kernel
theorem dX10_mirrors_104 : decode cX10_mirrors 104 = .ok (.getfield 43, 3) := by decide +kernel
theorem dX10_mirrors_107 : decode cX10_mirrors 107 = .ok (.iload_n 1, 1) := by decide +kernel
theorem dX10_mirrors_108 : decode cX10_mirrors 108 = .ok (.iaload, 1) := by decide +kernel
theorem dX10_mirrors_109 : decode cX10_mirrors 109 = .ok (.ireturn, 1) := by decide +kernel
theorem dX10_mirrors_110 : decode cX10_mirrors 110 = .ok (.aload_n 0, 1) := by decide +kernel
theorem dX10_mirrors_111 : decode cX10_mirrors 111 = .ok (.getfield 46, 3) := by decide +kernel
theorem dX10_mirrors_114 : decode cX10_mirrors 114 = .ok (.iload_n 1, 1) := by decide +kernel
theorem dX10_mirrors_115 : decode cX10_mirrors 115 = .ok (.iaload, 1) := by decide +kernel
theorem dX10_mirrors_116 : decode cX10_mirrors 116 = .ok (.ireturn, 1) := by decide +kernel
theorem dX10_mirrors_117 : decode cX10_mirrors 117 = .ok (.aload_n 0, 1) := by decide +kernel
theorem dX10_mirrors_118 : decode cX10_mirrors 118 = .ok (.getfield 49, 3) := by decide +kernel
theorem dX10_mirrors_121 : decode cX10_mirrors 121 = .ok (.iload_n 1, 1) := by decide +kernel
theorem dX10_mirrors_122 : decode cX10_mirrors 122 = .ok (.iaload, 1) := by decide +kernel
theorem dX10_mirrors_123 : decode cX10_mirrors 123 = .ok (.ireturn, 1) := by decide +kernel
theorem dX10_mirrors_124 : decode cX10_mirrors 124 = .ok (.aload_n 0, 1) := by decide +kernel
theorem dX10_mirrors_125 : decode cX10_mirrors 125 = .ok (.getfield 52, 3) := by decide +kernel
theorem dX10_mirrors_128 : decode cX10_mirrors 128 = .ok (.iload_n 1, 1) := by decide +kernel
theorem dX10_mirrors_129 : decode cX10_mirrors 129 = .ok (.iaload, 1) := by decide +kernel
theorem dX10_mirrors_130 : decode cX10_mirrors 130 = .ok (.ireturn, 1) := by decide +kernel
theorem dX10_mirrors_131 : decode cX10_mirrors 131 = .ok (.aload_n 0, 1) := by decide +kernel
theorem dX10_mirrors_132 : decode cX10_mirrors 132 = .ok (.getfield 55, 3) := by decide +kernel
theorem dX10_mirrors_135 : decode cX10_mirrors 135 = .ok (.iload_n 1, 1) := by decide +kernel
theorem dX10_mirrors_136 : decode cX10_mirrors 136 = .ok (.iaload, 1) := by decide +kernel
theorem dX10_mirrors_137 : decode cX10_mirrors 137 = .ok (.ireturn, 1) := by decide +kernel
theorem dX10_mirrors_138 : decode cX10_mirrors 138 = .ok (.bipush (-2), 2) := by decide +kernel
theorem dX10_mirrors_140 : decode cX10_mirrors 140 = .ok (.ireturn, 1) := by decide +kernel
theorem ce_X10_mirrors : CeV RX10 yX10_mirrors cX10_mirrors 3 (some .int) 2 := ⟨tb_1679, tb_1680, tb_11, tb_1681, rfl, by decide, by decide, by decide +kernel⟩
set_option maxHeartbeats 4000000 in
set_option maxRecDepth 20000 in
theorem V_X10_mirrors (l : Launch) (D : va_G) (A : Nat → Prop) (ad : Nat → Nat) (ns : List Nat) (I : MI) (L : ML) (G : MG) (a0 : Int32) (a1 : Int32) (hJ : SGM ns G) (hI : INV I) : Met l yX10_mirrors (wd yX10_mirrors cX10_mirrors 3 (some .int)) ({ frames := 2, cells := 0, slots := 0, locals := 46 }) (va_Pc [.ref (ad (1000)), .int a0, .int a1] (PM D A ad ns I L G)) (va_Qi (fun r u => u = (ad, ns, I, L, G) ∧ (True)) (BM D A) A) 0 0 A := by
  refine m_ofW (by decide) (Nat.le_of_ble_eq_true rfl) ?_
  intro p e s m below meth c ls args hC hE hM hA hS hl
  obtain ⟨hx, hb, hml, hown, hts, hr, hlocks, hin⟩ := hC
  have km2 : (-2 : Int32).toInt = -2 := by decide
  have k0 : (0 : Int32).toInt = 0 := by decide
  have hl : lv_has ls 3 [(0, .ref (ad (1000))), (1, .int (a0)), (2, .int (a1))] := hl
  refine lv_aload_n hx hb dX10_mirrors_0 rfl (lv_at hl 0 rfl) ?_
  refine lv_iload_n hx hb dX10_mirrors_1 rfl (lv_at hl 1 rfl) ?_
  refine m_calli (m_runV (1000) (As := [.int (a0)]) (rest := []) hx hb hml hown hts hE hM hS hA ce_X10_isMirror tb_1462 (V_X10_isMirror l D A ad ns I L G (a0) hJ hI) rfl rfl ⟨Nat.le_of_ble_eq_true rfl, Nat.le_of_ble_eq_true rfl⟩ hJ.1 rfl rfl (by decide) rfl hl.1 rfl (Nat.le_of_ble_eq_true rfl) dX10_mirrors_2 ⟨Nat.le_of_ble_eq_true rfl, Nat.le_of_ble_eq_true rfl⟩) hS (fun r1 u H locs hw hM hS => ?_)
  obtain ⟨rfl, xr1⟩ := hw
  have hM : Mem D A ad ns I L G H := hM
  have yr1 := bo01 xr1
  have g2 := hI.get 1001 8 (lo := 0) (hi := 24) rfl
  refine lv_if_ne (tgt := 11) hx hb dX10_mirrors_5 (by decide) (fun c3 => ?_) (fun c3 => ?_)
  · have hc3 := c3
    have q3 := xr1.t hc3
    refine lv_iload_n hx hb dX10_mirrors_11 rfl (lv_at hl 2 rfl) ?_
    by_cases c4 : (a1).toInt < 0 ∨ 9 < (a1).toInt
    · refine lv_tableOut (tgt := 138) hx hb dX10_mirrors_12 c4 (by decide) ?_
      refine lv_bipush (v := (-2)) hx hb dX10_mirrors_138 (by decide) ?_
      exact m_iret hx hb hr hlocks hM hS (Nat.le_of_ble_eq_true rfl) (Nat.le_of_ble_eq_true rfl) ⟨rfl, trivial⟩ dX10_mirrors_140
    · have qc4 : (a1).toInt = 0 ∨ (a1).toInt = 1 ∨ (a1).toInt = 2 ∨ (a1).toInt = 3 ∨ (a1).toInt = 4 ∨ (a1).toInt = 5 ∨ (a1).toInt = 6 ∨ (a1).toInt = 7 ∨ (a1).toInt = 8 ∨ (a1).toInt = 9 := by omega
      rcases qc4 with qc4 | qc4 | qc4 | qc4 | qc4 | qc4 | qc4 | qc4 | qc4 | qc4
      · refine lv_tableIn (off := 56) (tgt := 68) hx hb dX10_mirrors_12 (by omega) (by omega) (by rw [qc4]; rfl) (by decide) ?_
        refine lv_aload_n hx hb dX10_mirrors_68 rfl (lv_at hl 0 rfl) ?_
        refine m_getr (1000) 7 (1007) hx hb hts hown hE oc10 hM hJ.1 rfl (by decide) rfl (hJ.2 7 (by decide)).2 (by decide) tb_1184 dX10_mirrors_69 ?_
        refine lv_iload_n hx hb dX10_mirrors_72 rfl (lv_at hl 1 rfl) ?_
        refine m_iald (1007) hx hb hE hM (hJ.2 7 (by decide)).1 rfl (vp_in_iff.mpr (by omega)) dX10_mirrors_73 ?_
        exact m_iret hx hb hr hlocks hM hS (Nat.le_of_ble_eq_true rfl) (Nat.le_of_ble_eq_true rfl) ⟨rfl, trivial⟩ dX10_mirrors_74
      · refine lv_tableIn (off := 63) (tgt := 75) hx hb dX10_mirrors_12 (by omega) (by omega) (by rw [qc4]; rfl) (by decide) ?_
        refine lv_aload_n hx hb dX10_mirrors_75 rfl (lv_at hl 0 rfl) ?_
        refine m_getr (1000) 8 (1008) hx hb hts hown hE oc10 hM hJ.1 rfl (by decide) rfl (hJ.2 8 (by decide)).2 (by decide) tb_1185 dX10_mirrors_76 ?_
        refine lv_iload_n hx hb dX10_mirrors_79 rfl (lv_at hl 1 rfl) ?_
        refine m_iald (1008) hx hb hE hM (hJ.2 8 (by decide)).1 rfl (vp_in_iff.mpr (by omega)) dX10_mirrors_80 ?_
        exact m_iret hx hb hr hlocks hM hS (Nat.le_of_ble_eq_true rfl) (Nat.le_of_ble_eq_true rfl) ⟨rfl, trivial⟩ dX10_mirrors_81
      · refine lv_tableIn (off := 70) (tgt := 82) hx hb dX10_mirrors_12 (by omega) (by omega) (by rw [qc4]; rfl) (by decide) ?_
        refine lv_aload_n hx hb dX10_mirrors_82 rfl (lv_at hl 0 rfl) ?_
        refine m_getr (1000) 9 (1009) hx hb hts hown hE oc10 hM hJ.1 rfl (by decide) rfl (hJ.2 9 (by decide)).2 (by decide) tb_1186 dX10_mirrors_83 ?_
        refine lv_iload_n hx hb dX10_mirrors_86 rfl (lv_at hl 1 rfl) ?_
        refine m_iald (1009) hx hb hE hM (hJ.2 9 (by decide)).1 rfl (vp_in_iff.mpr (by omega)) dX10_mirrors_87 ?_
        exact m_iret hx hb hr hlocks hM hS (Nat.le_of_ble_eq_true rfl) (Nat.le_of_ble_eq_true rfl) ⟨rfl, trivial⟩ dX10_mirrors_88
      · refine lv_tableIn (off := 77) (tgt := 89) hx hb dX10_mirrors_12 (by omega) (by omega) (by rw [qc4]; rfl) (by decide) ?_
        refine lv_aload_n hx hb dX10_mirrors_89 rfl (lv_at hl 0 rfl) ?_
        refine m_getr (1000) 10 (1010) hx hb hts hown hE oc10 hM hJ.1 rfl (by decide) rfl (hJ.2 10 (by decide)).2 (by decide) tb_1187 dX10_mirrors_90 ?_
        refine lv_iload_n hx hb dX10_mirrors_93 rfl (lv_at hl 1 rfl) ?_
        refine m_iald (1010) hx hb hE hM (hJ.2 10 (by decide)).1 rfl (vp_in_iff.mpr (by omega)) dX10_mirrors_94 ?_
        exact m_iret hx hb hr hlocks hM hS (Nat.le_of_ble_eq_true rfl) (Nat.le_of_ble_eq_true rfl) ⟨rfl, trivial⟩ dX10_mirrors_95
      · refine lv_tableIn (off := 84) (tgt := 96) hx hb dX10_mirrors_12 (by omega) (by omega) (by rw [qc4]; rfl) (by decide) ?_
        refine lv_aload_n hx hb dX10_mirrors_96 rfl (lv_at hl 0 rfl) ?_
        refine m_getr (1000) 11 (1011) hx hb hts hown hE oc10 hM hJ.1 rfl (by decide) rfl (hJ.2 11 (by decide)).2 (by decide) tb_1188 dX10_mirrors_97 ?_
        refine lv_iload_n hx hb dX10_mirrors_100 rfl (lv_at hl 1 rfl) ?_
        refine m_iald (1011) hx hb hE hM (hJ.2 11 (by decide)).1 rfl (vp_in_iff.mpr (by omega)) dX10_mirrors_101 ?_
        exact m_iret hx hb hr hlocks hM hS (Nat.le_of_ble_eq_true rfl) (Nat.le_of_ble_eq_true rfl) ⟨rfl, trivial⟩ dX10_mirrors_102
      · refine lv_tableIn (off := 91) (tgt := 103) hx hb dX10_mirrors_12 (by omega) (by omega) (by rw [qc4]; rfl) (by decide) ?_
        refine lv_aload_n hx hb dX10_mirrors_103 rfl (lv_at hl 0 rfl) ?_
        refine m_getr (1000) 12 (1012) hx hb hts hown hE oc10 hM hJ.1 rfl (by decide) rfl (hJ.2 12 (by decide)).2 (by decide) tb_1189 dX10_mirrors_104 ?_
        refine lv_iload_n hx hb dX10_mirrors_107 rfl (lv_at hl 1 rfl) ?_
        refine m_iald (1012) hx hb hE hM (hJ.2 12 (by decide)).1 rfl (vp_in_iff.mpr (by omega)) dX10_mirrors_108 ?_
        exact m_iret hx hb hr hlocks hM hS (Nat.le_of_ble_eq_true rfl) (Nat.le_of_ble_eq_true rfl) ⟨rfl, trivial⟩ dX10_mirrors_109
      · refine lv_tableIn (off := 98) (tgt := 110) hx hb dX10_mirrors_12 (by omega) (by omega) (by rw [qc4]; rfl) (by decide) ?_
        refine lv_aload_n hx hb dX10_mirrors_110 rfl (lv_at hl 0 rfl) ?_
        refine m_getr (1000) 13 (1013) hx hb hts hown hE oc10 hM hJ.1 rfl (by decide) rfl (hJ.2 13 (by decide)).2 (by decide) tb_1190 dX10_mirrors_111 ?_
        refine lv_iload_n hx hb dX10_mirrors_114 rfl (lv_at hl 1 rfl) ?_
        refine m_iald (1013) hx hb hE hM (hJ.2 13 (by decide)).1 rfl (vp_in_iff.mpr (by omega)) dX10_mirrors_115 ?_
        exact m_iret hx hb hr hlocks hM hS (Nat.le_of_ble_eq_true rfl) (Nat.le_of_ble_eq_true rfl) ⟨rfl, trivial⟩ dX10_mirrors_116
      · refine lv_tableIn (off := 105) (tgt := 117) hx hb dX10_mirrors_12 (by omega) (by omega) (by rw [qc4]; rfl) (by decide) ?_
        refine lv_aload_n hx hb dX10_mirrors_117 rfl (lv_at hl 0 rfl) ?_
        refine m_getr (1000) 14 (1014) hx hb hts hown hE oc10 hM hJ.1 rfl (by decide) rfl (hJ.2 14 (by decide)).2 (by decide) tb_1191 dX10_mirrors_118 ?_
        refine lv_iload_n hx hb dX10_mirrors_121 rfl (lv_at hl 1 rfl) ?_
        refine m_iald (1014) hx hb hE hM (hJ.2 14 (by decide)).1 rfl (vp_in_iff.mpr (by omega)) dX10_mirrors_122 ?_
        exact m_iret hx hb hr hlocks hM hS (Nat.le_of_ble_eq_true rfl) (Nat.le_of_ble_eq_true rfl) ⟨rfl, trivial⟩ dX10_mirrors_123
      · refine lv_tableIn (off := 112) (tgt := 124) hx hb dX10_mirrors_12 (by omega) (by omega) (by rw [qc4]; rfl) (by decide) ?_
        refine lv_aload_n hx hb dX10_mirrors_124 rfl (lv_at hl 0 rfl) ?_
        refine m_getr (1000) 15 (1015) hx hb hts hown hE oc10 hM hJ.1 rfl (by decide) rfl (hJ.2 15 (by decide)).2 (by decide) tb_1192 dX10_mirrors_125 ?_
        refine lv_iload_n hx hb dX10_mirrors_128 rfl (lv_at hl 1 rfl) ?_
        refine m_iald (1015) hx hb hE hM (hJ.2 15 (by decide)).1 rfl (vp_in_iff.mpr (by omega)) dX10_mirrors_129 ?_
        exact m_iret hx hb hr hlocks hM hS (Nat.le_of_ble_eq_true rfl) (Nat.le_of_ble_eq_true rfl) ⟨rfl, trivial⟩ dX10_mirrors_130
      · refine lv_tableIn (off := 119) (tgt := 131) hx hb dX10_mirrors_12 (by omega) (by omega) (by rw [qc4]; rfl) (by decide) ?_
        refine lv_aload_n hx hb dX10_mirrors_131 rfl (lv_at hl 0 rfl) ?_
        refine m_getr (1000) 16 (1016) hx hb hts hown hE oc10 hM hJ.1 rfl (by decide) rfl (hJ.2 16 (by decide)).2 (by decide) tb_1193 dX10_mirrors_132 ?_
        refine lv_iload_n hx hb dX10_mirrors_135 rfl (lv_at hl 1 rfl) ?_
        refine m_iald (1016) hx hb hE hM (hJ.2 16 (by decide)).1 rfl (vp_in_iff.mpr (by omega)) dX10_mirrors_136 ?_
        exact m_iret hx hb hr hlocks hM hS (Nat.le_of_ble_eq_true rfl) (Nat.le_of_ble_eq_true rfl) ⟨rfl, trivial⟩ dX10_mirrors_137
  · have hc3 := c3
    have q3 := xr1.f hc3
    refine lv_bipush (v := (-2)) hx hb dX10_mirrors_8 (by decide) ?_
    exact m_iret hx hb hr hlocks hM hS (Nat.le_of_ble_eq_true rfl) (Nat.le_of_ble_eq_true rfl) ⟨rfl, trivial⟩ dX10_mirrors_10
theorem dX10_yards_0 : decode cX10_yards 0 = .ok (.aload_n 0, 1) := by decide +kernel
theorem dX10_yards_1 : decode cX10_yards 1 = .ok (.iload_n 1, 1) := by decide +kernel
theorem dX10_yards_2 : decode cX10_yards 2 = .ok (.invokevirtual 469, 3) := by decide +kernel
theorem dX10_yards_5 : decode cX10_yards 5 = .ok (.ifCond .ne 5, 3) := by decide +kernel
theorem dX10_yards_8 : decode cX10_yards 8 = .ok (.iconst (-1), 1) := by decide +kernel
theorem dX10_yards_9 : decode cX10_yards 9 = .ok (.ireturn, 1) := by decide +kernel
theorem dX10_yards_10 : decode cX10_yards 10 = .ok (.iload_n 2, 1) := by decide +kernel
theorem dX10_yards_11 : decode cX10_yards 11 = .ok (.tableswitch 90 0 6 #[41, 48, 55, 62, 69, 76, 83], 41) := by decide +kernel
theorem dX10_yards_52 : decode cX10_yards 52 = .ok (.aload_n 0, 1) := by decide +kernel
theorem dX10_yards_53 : decode cX10_yards 53 = .ok (.getfield 76, 3) := by decide +kernel
theorem dX10_yards_56 : decode cX10_yards 56 = .ok (.iload_n 1, 1) := by decide +kernel
theorem dX10_yards_57 : decode cX10_yards 57 = .ok (.iaload, 1) := by decide +kernel
theorem dX10_yards_58 : decode cX10_yards 58 = .ok (.ireturn, 1) := by decide +kernel
theorem dX10_yards_59 : decode cX10_yards 59 = .ok (.aload_n 0, 1) := by decide +kernel
theorem dX10_yards_60 : decode cX10_yards 60 = .ok (.getfield 73, 3) := by decide +kernel
theorem dX10_yards_63 : decode cX10_yards 63 = .ok (.iload_n 1, 1) := by decide +kernel
theorem dX10_yards_64 : decode cX10_yards 64 = .ok (.iaload, 1) := by decide +kernel
theorem dX10_yards_65 : decode cX10_yards 65 = .ok (.ireturn, 1) := by decide +kernel
theorem dX10_yards_66 : decode cX10_yards 66 = .ok (.aload_n 0, 1) := by decide +kernel
theorem dX10_yards_67 : decode cX10_yards 67 = .ok (.getfield 70, 3) := by decide +kernel
theorem dX10_yards_70 : decode cX10_yards 70 = .ok (.iload_n 1, 1) := by decide +kernel
theorem dX10_yards_71 : decode cX10_yards 71 = .ok (.iaload, 1) := by decide +kernel
theorem dX10_yards_72 : decode cX10_yards 72 = .ok (.ireturn, 1) := by decide +kernel
theorem dX10_yards_73 : decode cX10_yards 73 = .ok (.aload_n 0, 1) := by decide +kernel
theorem dX10_yards_74 : decode cX10_yards 74 = .ok (.getfield 58, 3) := by decide +kernel
theorem dX10_yards_77 : decode cX10_yards 77 = .ok (.iload_n 1, 1) := by decide +kernel
theorem dX10_yards_78 : decode cX10_yards 78 = .ok (.iaload, 1) := by decide +kernel
theorem dX10_yards_79 : decode cX10_yards 79 = .ok (.ireturn, 1) := by decide +kernel
theorem dX10_yards_80 : decode cX10_yards 80 = .ok (.aload_n 0, 1) := by decide +kernel
theorem dX10_yards_81 : decode cX10_yards 81 = .ok (.getfield 61, 3) := by decide +kernel
theorem dX10_yards_84 : decode cX10_yards 84 = .ok (.iload_n 1, 1) := by decide +kernel
theorem dX10_yards_85 : decode cX10_yards 85 = .ok (.iaload, 1) := by decide +kernel
theorem dX10_yards_86 : decode cX10_yards 86 = .ok (.ireturn, 1) := by decide +kernel
theorem dX10_yards_87 : decode cX10_yards 87 = .ok (.aload_n 0, 1) := by decide +kernel
theorem dX10_yards_88 : decode cX10_yards 88 = .ok (.getfield 64, 3) := by decide +kernel
theorem dX10_yards_91 : decode cX10_yards 91 = .ok (.iload_n 1, 1) := by decide +kernel
theorem dX10_yards_92 : decode cX10_yards 92 = .ok (.iaload, 1) := by decide +kernel
theorem dX10_yards_93 : decode cX10_yards 93 = .ok (.ireturn, 1) := by decide +kernel
theorem dX10_yards_94 : decode cX10_yards 94 = .ok (.aload_n 0, 1) := by decide +kernel
theorem dX10_yards_95 : decode cX10_yards 95 = .ok (.getfield 67, 3) := by decide +kernel
theorem dX10_yards_98 : decode cX10_yards 98 = .ok (.iload_n 1, 1) := by decide +kernel
theorem dX10_yards_99 : decode cX10_yards 99 = .ok (.iaload, 1) := by decide +kernel
theorem dX10_yards_100 : decode cX10_yards 100 = .ok (.ireturn, 1) := by decide +kernel
theorem dX10_yards_101 : decode cX10_yards 101 = .ok (.iconst (-1), 1) := by decide +kernel
theorem dX10_yards_102 : decode cX10_yards 102 = .ok (.ireturn, 1) := by decide +kernel
theorem ce_X10_yards : CeV RX10 yX10_yards cX10_yards 3 (some .int) 2 := ⟨tb_1683, tb_1684, tb_11, tb_1685, rfl, by decide, by decide, by decide +kernel⟩
set_option maxHeartbeats 4000000 in
set_option maxRecDepth 20000 in
theorem V_X10_yards (l : Launch) (D : va_G) (A : Nat → Prop) (ad : Nat → Nat) (ns : List Nat) (I : MI) (L : ML) (G : MG) (a0 : Int32) (a1 : Int32) (hJ : SGM ns G) (hI : INV I) : Met l yX10_yards (wd yX10_yards cX10_yards 3 (some .int)) ({ frames := 2, cells := 0, slots := 0, locals := 46 }) (va_Pc [.ref (ad (1000)), .int a0, .int a1] (PM D A ad ns I L G)) (va_Qi (fun r u => u = (ad, ns, I, L, G) ∧ (True)) (BM D A) A) 0 0 A := by
  refine m_ofW (by decide) (Nat.le_of_ble_eq_true rfl) ?_
  intro p e s m below meth c ls args hC hE hM hA hS hl
  obtain ⟨hx, hb, hml, hown, hts, hr, hlocks, hin⟩ := hC
  have km1 : (-1 : Int32).toInt = -1 := by decide
  have k0 : (0 : Int32).toInt = 0 := by decide
  have hl : lv_has ls 3 [(0, .ref (ad (1000))), (1, .int (a0)), (2, .int (a1))] := hl
  refine lv_aload_n hx hb dX10_yards_0 rfl (lv_at hl 0 rfl) ?_
  refine lv_iload_n hx hb dX10_yards_1 rfl (lv_at hl 1 rfl) ?_
  refine m_calli (m_runV (1000) (As := [.int (a0)]) (rest := []) hx hb hml hown hts hE hM hS hA ce_X10_isYard tb_1686 (V_X10_isYard l D A ad ns I L G (a0) hJ hI) rfl rfl ⟨Nat.le_of_ble_eq_true rfl, Nat.le_of_ble_eq_true rfl⟩ hJ.1 rfl rfl (by decide) rfl hl.1 rfl (Nat.le_of_ble_eq_true rfl) dX10_yards_2 ⟨Nat.le_of_ble_eq_true rfl, Nat.le_of_ble_eq_true rfl⟩) hS (fun r1 u H locs hw hM hS => ?_)
  obtain ⟨rfl, xr1⟩ := hw
  have hM : Mem D A ad ns I L G H := hM
  have yr1 := bo01 xr1
  have g2 := hI.get 1001 9 (lo := 0) (hi := 8) rfl
  refine lv_if_ne (tgt := 10) hx hb dX10_yards_5 (by decide) (fun c3 => ?_) (fun c3 => ?_)
  · have hc3 := c3
    have q3 := xr1.t hc3
    refine lv_iload_n hx hb dX10_yards_10 rfl (lv_at hl 2 rfl) ?_
    by_cases c4 : (a1).toInt < 0 ∨ 6 < (a1).toInt
    · refine lv_tableOut (tgt := 101) hx hb dX10_yards_11 c4 (by decide) ?_
      refine lv_iconst (v := (-1)) hx hb dX10_yards_101 (by decide) ?_
      exact m_iret hx hb hr hlocks hM hS (Nat.le_of_ble_eq_true rfl) (Nat.le_of_ble_eq_true rfl) ⟨rfl, trivial⟩ dX10_yards_102
    · have qc4 : (a1).toInt = 0 ∨ (a1).toInt = 1 ∨ (a1).toInt = 2 ∨ (a1).toInt = 3 ∨ (a1).toInt = 4 ∨ (a1).toInt = 5 ∨ (a1).toInt = 6 := by omega
      rcases qc4 with qc4 | qc4 | qc4 | qc4 | qc4 | qc4 | qc4
      · refine lv_tableIn (off := 41) (tgt := 52) hx hb dX10_yards_11 (by omega) (by omega) (by rw [qc4]; rfl) (by decide) ?_
        refine lv_aload_n hx hb dX10_yards_52 rfl (lv_at hl 0 rfl) ?_
        refine m_getr (1000) 23 (1023) hx hb hts hown hE oc10 hM hJ.1 rfl (by decide) rfl (hJ.2 23 (by decide)).2 (by decide) tb_1200 dX10_yards_53 ?_
        refine lv_iload_n hx hb dX10_yards_56 rfl (lv_at hl 1 rfl) ?_
        refine m_iald (1023) hx hb hE hM (hJ.2 23 (by decide)).1 rfl (vp_in_iff.mpr (by omega)) dX10_yards_57 ?_
        exact m_iret hx hb hr hlocks hM hS (Nat.le_of_ble_eq_true rfl) (Nat.le_of_ble_eq_true rfl) ⟨rfl, trivial⟩ dX10_yards_58
      · refine lv_tableIn (off := 48) (tgt := 59) hx hb dX10_yards_11 (by omega) (by omega) (by rw [qc4]; rfl) (by decide) ?_
        refine lv_aload_n hx hb dX10_yards_59 rfl (lv_at hl 0 rfl) ?_
        refine m_getr (1000) 22 (1022) hx hb hts hown hE oc10 hM hJ.1 rfl (by decide) rfl (hJ.2 22 (by decide)).2 (by decide) tb_1199 dX10_yards_60 ?_
        refine lv_iload_n hx hb dX10_yards_63 rfl (lv_at hl 1 rfl) ?_
        refine m_iald (1022) hx hb hE hM (hJ.2 22 (by decide)).1 rfl (vp_in_iff.mpr (by omega)) dX10_yards_64 ?_
        exact m_iret hx hb hr hlocks hM hS (Nat.le_of_ble_eq_true rfl) (Nat.le_of_ble_eq_true rfl) ⟨rfl, trivial⟩ dX10_yards_65
      · refine lv_tableIn (off := 55) (tgt := 66) hx hb dX10_yards_11 (by omega) (by omega) (by rw [qc4]; rfl) (by decide) ?_
        refine lv_aload_n hx hb dX10_yards_66 rfl (lv_at hl 0 rfl) ?_
        refine m_getr (1000) 21 (1021) hx hb hts hown hE oc10 hM hJ.1 rfl (by decide) rfl (hJ.2 21 (by decide)).2 (by decide) tb_1198 dX10_yards_67 ?_
        refine lv_iload_n hx hb dX10_yards_70 rfl (lv_at hl 1 rfl) ?_
        refine m_iald (1021) hx hb hE hM (hJ.2 21 (by decide)).1 rfl (vp_in_iff.mpr (by omega)) dX10_yards_71 ?_
        exact m_iret hx hb hr hlocks hM hS (Nat.le_of_ble_eq_true rfl) (Nat.le_of_ble_eq_true rfl) ⟨rfl, trivial⟩ dX10_yards_72
      · refine lv_tableIn (off := 62) (tgt := 73) hx hb dX10_yards_11 (by omega) (by omega) (by rw [qc4]; rfl) (by decide) ?_
        refine lv_aload_n hx hb dX10_yards_73 rfl (lv_at hl 0 rfl) ?_
        refine m_getr (1000) 17 (1017) hx hb hts hown hE oc10 hM hJ.1 rfl (by decide) rfl (hJ.2 17 (by decide)).2 (by decide) tb_1194 dX10_yards_74 ?_
        refine lv_iload_n hx hb dX10_yards_77 rfl (lv_at hl 1 rfl) ?_
        refine m_iald (1017) hx hb hE hM (hJ.2 17 (by decide)).1 rfl (vp_in_iff.mpr (by omega)) dX10_yards_78 ?_
        exact m_iret hx hb hr hlocks hM hS (Nat.le_of_ble_eq_true rfl) (Nat.le_of_ble_eq_true rfl) ⟨rfl, trivial⟩ dX10_yards_79
      · refine lv_tableIn (off := 69) (tgt := 80) hx hb dX10_yards_11 (by omega) (by omega) (by rw [qc4]; rfl) (by decide) ?_
        refine lv_aload_n hx hb dX10_yards_80 rfl (lv_at hl 0 rfl) ?_
        refine m_getr (1000) 18 (1018) hx hb hts hown hE oc10 hM hJ.1 rfl (by decide) rfl (hJ.2 18 (by decide)).2 (by decide) tb_1195 dX10_yards_81 ?_
        refine lv_iload_n hx hb dX10_yards_84 rfl (lv_at hl 1 rfl) ?_
        refine m_iald (1018) hx hb hE hM (hJ.2 18 (by decide)).1 rfl (vp_in_iff.mpr (by omega)) dX10_yards_85 ?_
        exact m_iret hx hb hr hlocks hM hS (Nat.le_of_ble_eq_true rfl) (Nat.le_of_ble_eq_true rfl) ⟨rfl, trivial⟩ dX10_yards_86
      · refine lv_tableIn (off := 76) (tgt := 87) hx hb dX10_yards_11 (by omega) (by omega) (by rw [qc4]; rfl) (by decide) ?_
        refine lv_aload_n hx hb dX10_yards_87 rfl (lv_at hl 0 rfl) ?_
        refine m_getr (1000) 19 (1019) hx hb hts hown hE oc10 hM hJ.1 rfl (by decide) rfl (hJ.2 19 (by decide)).2 (by decide) tb_1196 dX10_yards_88 ?_
        refine lv_iload_n hx hb dX10_yards_91 rfl (lv_at hl 1 rfl) ?_
        refine m_iald (1019) hx hb hE hM (hJ.2 19 (by decide)).1 rfl (vp_in_iff.mpr (by omega)) dX10_yards_92 ?_
        exact m_iret hx hb hr hlocks hM hS (Nat.le_of_ble_eq_true rfl) (Nat.le_of_ble_eq_true rfl) ⟨rfl, trivial⟩ dX10_yards_93
      · refine lv_tableIn (off := 83) (tgt := 94) hx hb dX10_yards_11 (by omega) (by omega) (by rw [qc4]; rfl) (by decide) ?_
        refine lv_aload_n hx hb dX10_yards_94 rfl (lv_at hl 0 rfl) ?_
        refine m_getr (1000) 20 (1020) hx hb hts hown hE oc10 hM hJ.1 rfl (by decide) rfl (hJ.2 20 (by decide)).2 (by decide) tb_1197 dX10_yards_95 ?_
        refine lv_iload_n hx hb dX10_yards_98 rfl (lv_at hl 1 rfl) ?_
        refine m_iald (1020) hx hb hE hM (hJ.2 20 (by decide)).1 rfl (vp_in_iff.mpr (by omega)) dX10_yards_99 ?_
        exact m_iret hx hb hr hlocks hM hS (Nat.le_of_ble_eq_true rfl) (Nat.le_of_ble_eq_true rfl) ⟨rfl, trivial⟩ dX10_yards_100
  · have hc3 := c3
    have q3 := xr1.f hc3
    refine lv_iconst (v := (-1)) hx hb dX10_yards_8 (by decide) ?_
    exact m_iret hx hb hr hlocks hM hS (Nat.le_of_ble_eq_true rfl) (Nat.le_of_ble_eq_true rfl) ⟨rfl, trivial⟩ dX10_yards_9
theorem dX10_cell_0 : decode cX10_cell 0 = .ok (.aload_n 0, 1) := by decide +kernel
theorem dX10_cell_1 : decode cX10_cell 1 = .ok (.iload_n 1, 1) := by decide +kernel
theorem dX10_cell_2 : decode cX10_cell 2 = .ok (.iload_n 2, 1) := by decide +kernel
theorem dX10_cell_3 : decode cX10_cell 3 = .ok (.invokevirtual 196, 3) := by decide +kernel
theorem dX10_cell_6 : decode cX10_cell 6 = .ok (.ifCond .eq 15, 3) := by decide +kernel
theorem dX10_cell_9 : decode cX10_cell 9 = .ok (.iload_n 3, 1) := by decide +kernel
theorem dX10_cell_10 : decode cX10_cell 10 = .ok (.i2l, 1) := by decide +kernel
theorem dX10_cell_11 : decode cX10_cell 11 = .ok (.lconst 0, 1) := by decide +kernel
theorem dX10_cell_12 : decode cX10_cell 12 = .ok (.ldc2_w 224, 3) := by decide +kernel
theorem dX10_cell_15 : decode cX10_cell 15 = .ok (.invokestatic 192, 3) := by decide +kernel
theorem dX10_cell_18 : decode cX10_cell 18 = .ok (.ifCond .ne 6, 3) := by decide +kernel
theorem dX10_cell_21 : decode cX10_cell 21 = .ok (.bipush (-2), 2) := by decide +kernel
theorem dX10_cell_23 : decode cX10_cell 23 = .ok (.ireturn, 1) := by decide +kernel
theorem dX10_cell_24 : decode cX10_cell 24 = .ok (.bipush 24, 2) := by decide +kernel
theorem dX10_cell_26 : decode cX10_cell 26 = .ok (.iload_n 2, 1) := by decide +kernel
theorem dX10_cell_27 : decode cX10_cell 27 = .ok (.imul, 1) := by decide +kernel
theorem dX10_cell_28 : decode cX10_cell 28 = .ok (.iload_n 1, 1) := by decide +kernel
theorem dX10_cell_29 : decode cX10_cell 29 = .ok (.iadd, 1) := by decide +kernel
theorem dX10_cell_30 : decode cX10_cell 30 = .ok (.istore 4, 2) := by decide +kernel
theorem dX10_cell_32 : decode cX10_cell 32 = .ok (.iload_n 3, 1) := by decide +kernel
theorem dX10_cell_33 : decode cX10_cell 33 = .ok (.ifCond .ne 13, 3) := by decide +kernel
theorem dX10_cell_36 : decode cX10_cell 36 = .ok (.aload_n 0, 1) := by decide +kernel
theorem dX10_cell_37 : decode cX10_cell 37 = .ok (.getfield 13, 3) := by decide +kernel
theorem dX10_cell_40 : decode cX10_cell 40 = .ok (.iload 4, 2) := by decide +kernel
theorem dX10_cell_42 : decode cX10_cell 42 = .ok (.iaload, 1) := by decide +kernel
theorem dX10_cell_43 : decode cX10_cell 43 = .ok (.goto 39, 3) := by decide +kernel
theorem dX10_cell_46 : decode cX10_cell 46 = .ok (.iload_n 3, 1) := by decide +kernel
theorem dX10_cell_47 : decode cX10_cell 47 = .ok (.iconst 1, 1) := by decide +kernel
theorem dX10_cell_48 : decode cX10_cell 48 = .ok (.if_icmp .ne 13, 3) := by decide +kernel
theorem dX10_cell_51 : decode cX10_cell 51 = .ok (.aload_n 0, 1) := by decide +kernel
theorem dX10_cell_52 : decode cX10_cell 52 = .ok (.getfield 16, 3) := by decide +kernel
theorem dX10_cell_55 : decode cX10_cell 55 = .ok (.iload 4, 2) := by decide +kernel
theorem dX10_cell_57 : decode cX10_cell 57 = .ok (.iaload, 1) := by decide +kernel
theorem dX10_cell_58 : decode cX10_cell 58 = .ok (.goto 24, 3) := by decide +kernel
theorem dX10_cell_61 : decode cX10_cell 61 = .ok (.iload_n 3, 1) := by decide +kernel
theorem dX10_cell_62 : decode cX10_cell 62 = .ok (.iconst 2, 1) := by decide +kernel
theorem dX10_cell_63 : decode cX10_cell 63 = .ok (.if_icmp .ne 13, 3) := by decide +kernel
theorem dX10_cell_66 : decode cX10_cell 66 = .ok (.aload_n 0, 1) := by decide +kernel
theorem dX10_cell_67 : decode cX10_cell 67 = .ok (.getfield 25, 3) := by decide +kernel
theorem dX10_cell_70 : decode cX10_cell 70 = .ok (.iload 4, 2) := by decide +kernel
theorem dX10_cell_72 : decode cX10_cell 72 = .ok (.iaload, 1) := by decide +kernel
theorem dX10_cell_73 : decode cX10_cell 73 = .ok (.goto 9, 3) := by decide +kernel
theorem dX10_cell_76 : decode cX10_cell 76 = .ok (.aload_n 0, 1) := by decide +kernel
theorem dX10_cell_77 : decode cX10_cell 77 = .ok (.iload_n 1, 1) := by decide +kernel
theorem dX10_cell_78 : decode cX10_cell 78 = .ok (.iload_n 2, 1) := by decide +kernel
theorem dX10_cell_79 : decode cX10_cell 79 = .ok (.invokevirtual 413, 3) := by decide +kernel
theorem dX10_cell_82 : decode cX10_cell 82 = .ok (.ireturn, 1) := by decide +kernel
theorem ce_X10_cell : CeV RX10 yX10_cell cX10_cell 5 (some .int) 3 := ⟨tb_1691, tb_1692, tb_11, tb_1693, rfl, by decide, by decide, by decide +kernel⟩
theorem dX10_gets_0 : decode cX10_gets 0 = .ok (.aload_n 0, 1) := by decide +kernel
theorem dX10_gets_1 : decode cX10_gets 1 = .ok (.iload_n 1, 1) := by decide +kernel
theorem dX10_gets_2 : decode cX10_gets 2 = .ok (.invokevirtual 472, 3) := by decide +kernel
theorem dX10_gets_5 : decode cX10_gets 5 = .ok (.ifCond .eq 11, 3) := by decide +kernel
theorem dX10_gets_8 : decode cX10_gets 8 = .ok (.aload_n 0, 1) := by decide +kernel
theorem dX10_gets_9 : decode cX10_gets 9 = .ok (.iload_n 2, 1) := by decide +kernel
theorem dX10_gets_10 : decode cX10_gets 10 = .ok (.invokevirtual 469, 3) := by decide +kernel
theorem dX10_gets_13 : decode cX10_gets 13 = .ok (.ifCond .ne 5, 3) := by decide +kernel
theorem dX10_gets_16 : decode cX10_gets 16 = .ok (.iconst (-1), 1) := by decide +kernel
theorem dX10_gets_17 : decode cX10_gets 17 = .ok (.ireturn, 1) := by decide +kernel
theorem dX10_gets_18 : decode cX10_gets 18 = .ok (.aload_n 0, 1) := by decide +kernel
theorem dX10_gets_19 : decode cX10_gets 19 = .ok (.iload_n 1, 1) := by decide +kernel
theorem dX10_gets_20 : decode cX10_gets 20 = .ok (.invokevirtual 404, 3) := by decide +kernel
theorem dX10_gets_23 : decode cX10_gets 23 = .ok (.aload_n 0, 1) := by decide +kernel
theorem dX10_gets_24 : decode cX10_gets 24 = .ok (.getfield 133, 3) := by decide +kernel
theorem dX10_gets_27 : decode cX10_gets 27 = .ok (.iload_n 2, 1) := by decide +kernel
theorem dX10_gets_28 : decode cX10_gets 28 = .ok (.iaload, 1) := by decide +kernel
theorem dX10_gets_29 : decode cX10_gets 29 = .ok (.ireturn, 1) := by decide +kernel
theorem ce_X10_gets : CeV RX10 yX10_gets cX10_gets 3 (some .int) 2 := ⟨tb_1695, tb_1696, tb_11, tb_1697, rfl, by decide, by decide, by decide +kernel⟩
set_option maxHeartbeats 4000000 in
set_option maxRecDepth 20000 in
theorem V_X10_gets (l : Launch) (D : va_G) (A : Nat → Prop) (ad : Nat → Nat) (ns : List Nat) (I : MI) (L : ML) (G : MG) (a0 : Int32) (a1 : Int32) (hJ : SGM ns G) (hI : INV I) : Met l yX10_gets (wd yX10_gets cX10_gets 3 (some .int)) ({ frames := 5, cells := 0, slots := 0, locals := 128 }) (va_Pc [.ref (ad (1000)), .int a0, .int a1] (PM D A ad ns I L G)) (va_Qi (fun r u => ∃ I2 L2, u = (ad, ns, I2, L2, G) ∧ INV I2 ∧ Kp [(1045, 1051), (1058, 1059), (1061, 1063)] [(1000, 51), (1000, 52), (1000, 53), (1000, 54), (1000, 55), (1000, 56), (1000, 59), (1000, 63)] I I2) (BM D A) A) 0 0 A := by
  refine m_ofW (by decide) (Nat.le_of_ble_eq_true rfl) ?_
  intro p e s m below meth c ls args hC hE hM hA hS hl
  obtain ⟨hx, hb, hml, hown, hts, hr, hlocks, hin⟩ := hC
  have km1 : (-1 : Int32).toInt = -1 := by decide
  have k0 : (0 : Int32).toInt = 0 := by decide
  have hK : Kp [(1045, 1051), (1058, 1059), (1061, 1063)] [(1000, 51), (1000, 52), (1000, 53), (1000, 54), (1000, 55), (1000, 56), (1000, 59), (1000, 63)] I I := Kp.rf
  have hl : lv_has ls 3 [(0, .ref (ad (1000))), (1, .int (a0)), (2, .int (a1))] := hl
  refine lv_aload_n hx hb dX10_gets_0 rfl (lv_at hl 0 rfl) ?_
  refine lv_iload_n hx hb dX10_gets_1 rfl (lv_at hl 1 rfl) ?_
  refine m_calli (m_runV (1000) (As := [.int (a0)]) (rest := []) hx hb hml hown hts hE hM hS hA ce_X10_isBright tb_1698 (V_X10_isBright l D A ad ns I L G (a0) hJ hI) rfl rfl ⟨Nat.le_of_ble_eq_true rfl, Nat.le_of_ble_eq_true rfl⟩ hJ.1 rfl rfl (by decide) rfl hl.1 rfl (Nat.le_of_ble_eq_true rfl) dX10_gets_2 ⟨Nat.le_of_ble_eq_true rfl, Nat.le_of_ble_eq_true rfl⟩) hS (fun r1 u H locs hw hM hS => ?_)
  obtain ⟨rfl, xr1⟩ := hw
  have hM : Mem D A ad ns I L G H := hM
  refine lv_if_eq (tgt := 16) hx hb dX10_gets_5 (by decide) (fun c2 => ?_) (fun c2 => ?_)
  · have hc2 := c2
    have q2 := q_eq hc2
    refine lv_iconst (v := (-1)) hx hb dX10_gets_16 (by decide) ?_
    exact m_iret hx hb hr hlocks hM hS (Nat.le_of_ble_eq_true rfl) (Nat.le_of_ble_eq_true rfl) ⟨_, _, rfl, hI, hK⟩ dX10_gets_17
  · have hc2 := c2
    have q2 := q_ne hc2
    refine lv_aload_n hx hb dX10_gets_8 rfl (lv_at hl 0 rfl) ?_
    refine lv_iload_n hx hb dX10_gets_9 rfl (lv_at hl 2 rfl) ?_
    refine m_calli (m_runV (1000) (As := [.int (a1)]) (rest := []) hx hb hml hown hts hE hM hS hA ce_X10_isYard tb_1686 (V_X10_isYard l D A ad ns I L G (a1) hJ hI) rfl rfl ⟨Nat.le_of_ble_eq_true rfl, Nat.le_of_ble_eq_true rfl⟩ hJ.1 rfl rfl (by decide) rfl hl.1 rfl (Nat.le_of_ble_eq_true rfl) dX10_gets_10 ⟨Nat.le_of_ble_eq_true rfl, Nat.le_of_ble_eq_true rfl⟩) hS (fun r3 u H locs hw hM hS => ?_)
    obtain ⟨rfl, xr3⟩ := hw
    have hM : Mem D A ad ns I L G H := hM
    have yr3 := bo01 xr3
    have g4 := hI.get 1001 9 (lo := 0) (hi := 8) rfl
    refine lv_if_ne (tgt := 18) hx hb dX10_gets_13 (by decide) (fun c5 => ?_) (fun c5 => ?_)
    · have hc5 := c5
      have q5 := xr3.t hc5
      refine lv_aload_n hx hb dX10_gets_18 rfl (lv_at hl 0 rfl) ?_
      refine lv_iload_n hx hb dX10_gets_19 rfl (lv_at hl 1 rfl) ?_
      refine m_callv (m_runV (1000) (As := [.int (a0)]) (rest := []) hx hb hml hown hts hE hM hS hA ce_X10_shines tb_1640 (V_X10_shines l D A ad ns I L G (a0) hJ hI (by first | omega | decide)) rfl rfl ⟨Nat.le_of_ble_eq_true rfl, Nat.le_of_ble_eq_true rfl⟩ hJ.1 rfl rfl (by decide) rfl hl.1 rfl (Nat.le_of_ble_eq_true rfl) dX10_gets_20 ⟨Nat.le_of_ble_eq_true rfl, Nat.le_of_ble_eq_true rfl⟩) hS (fun u H locs hw hM hS => ?_)
      obtain ⟨I6, L7, rfl, hI, hkI6⟩ := hw
      have hM : Mem D A ad ns I6 L7 G H := hM
      have hK := hK.trans hkI6 rfl
      refine lv_aload_n hx hb dX10_gets_23 rfl (lv_at hl 0 rfl) ?_
      refine m_getr (1000) 50 (1050) hx hb hts hown hE oc10 hM hJ.1 rfl (by decide) rfl (hJ.2 50 (by decide)).2 (by decide) tb_1227 dX10_gets_24 ?_
      refine lv_iload_n hx hb dX10_gets_27 rfl (lv_at hl 2 rfl) ?_
      refine m_iald (1050) hx hb hE hM (hJ.2 50 (by decide)).1 rfl (vp_in_iff.mpr (by omega)) dX10_gets_28 ?_
      exact m_iret hx hb hr hlocks hM hS (Nat.le_of_ble_eq_true rfl) (Nat.le_of_ble_eq_true rfl) ⟨_, _, rfl, hI, hK⟩ dX10_gets_29
    · have hc5 := c5
      have q5 := xr3.f hc5
      refine lv_iconst (v := (-1)) hx hb dX10_gets_16 (by decide) ?_
      exact m_iret hx hb hr hlocks hM hS (Nat.le_of_ble_eq_true rfl) (Nat.le_of_ble_eq_true rfl) ⟨_, _, rfl, hI, hK⟩ dX10_gets_17
theorem dX10_light_0 : decode cX10_light 0 = .ok (.aload_n 0, 1) := by decide +kernel
theorem dX10_light_1 : decode cX10_light 1 = .ok (.iload_n 1, 1) := by decide +kernel
theorem dX10_light_2 : decode cX10_light 2 = .ok (.invokevirtual 472, 3) := by decide +kernel
theorem dX10_light_5 : decode cX10_light 5 = .ok (.ifCond .eq 15, 3) := by decide +kernel
theorem dX10_light_8 : decode cX10_light 8 = .ok (.iload_n 2, 1) := by decide +kernel
theorem dX10_light_9 : decode cX10_light 9 = .ok (.i2l, 1) := by decide +kernel
theorem dX10_light_10 : decode cX10_light 10 = .ok (.lconst 0, 1) := by decide +kernel
theorem dX10_light_11 : decode cX10_light 11 = .ok (.ldc2_w 475, 3) := by decide +kernel
theorem dX10_light_14 : decode cX10_light 14 = .ok (.invokestatic 192, 3) := by decide +kernel
theorem dX10_light_17 : decode cX10_light 17 = .ok (.ifCond .ne 5, 3) := by decide +kernel
theorem dX10_light_20 : decode cX10_light 20 = .ok (.iconst (-1), 1) := by decide +kernel
theorem dX10_light_21 : decode cX10_light 21 = .ok (.ireturn, 1) := by decide +kernel
theorem dX10_light_22 : decode cX10_light 22 = .ok (.aload_n 0, 1) := by decide +kernel
theorem dX10_light_23 : decode cX10_light 23 = .ok (.iload_n 1, 1) := by decide +kernel
theorem dX10_light_24 : decode cX10_light 24 = .ok (.invokevirtual 404, 3) := by decide +kernel
theorem dX10_light_27 : decode cX10_light 27 = .ok (.iload_n 2, 1) := by decide +kernel
theorem dX10_light_28 : decode cX10_light 28 = .ok (.tableswitch 70 0 5 #[40, 45, 50, 55, 60, 65], 40) := by decide +kernel
theorem dX10_light_68 : decode cX10_light 68 = .ok (.aload_n 0, 1) := by decide +kernel
theorem dX10_light_69 : decode cX10_light 69 = .ok (.invokevirtual 477, 3) := by decide +kernel
theorem dX10_light_72 : decode cX10_light 72 = .ok (.ireturn, 1) := by decide +kernel
theorem dX10_light_73 : decode cX10_light 73 = .ok (.aload_n 0, 1) := by decide +kernel
theorem dX10_light_74 : decode cX10_light 74 = .ok (.getfield 410, 3) := by decide +kernel
theorem dX10_light_77 : decode cX10_light 77 = .ok (.ireturn, 1) := by decide +kernel
theorem dX10_light_78 : decode cX10_light 78 = .ok (.aload_n 0, 1) := by decide +kernel
theorem dX10_light_79 : decode cX10_light 79 = .ok (.getfield 388, 3) := by decide +kernel
theorem dX10_light_82 : decode cX10_light 82 = .ok (.ireturn, 1) := by decide +kernel
theorem dX10_light_83 : decode cX10_light 83 = .ok (.aload_n 0, 1) := by decide +kernel
theorem dX10_light_84 : decode cX10_light 84 = .ok (.getfield 407, 3) := by decide +kernel
theorem dX10_light_87 : decode cX10_light 87 = .ok (.ireturn, 1) := by decide +kernel
theorem dX10_light_88 : decode cX10_light 88 = .ok (.aload_n 0, 1) := by decide +kernel
theorem dX10_light_89 : decode cX10_light 89 = .ok (.getfield 394, 3) := by decide +kernel
theorem dX10_light_92 : decode cX10_light 92 = .ok (.ireturn, 1) := by decide +kernel
theorem dX10_light_93 : decode cX10_light 93 = .ok (.aload_n 0, 1) := by decide +kernel
theorem dX10_light_94 : decode cX10_light 94 = .ok (.invokevirtual 455, 3) := by decide +kernel
theorem dX10_light_97 : decode cX10_light 97 = .ok (.ireturn, 1) := by decide +kernel
theorem dX10_light_98 : decode cX10_light 98 = .ok (.aload_n 0, 1) := by decide +kernel
theorem dX10_light_99 : decode cX10_light 99 = .ok (.invokevirtual 480, 3) := by decide +kernel
theorem dX10_light_102 : decode cX10_light 102 = .ok (.ireturn, 1) := by decide +kernel
theorem ce_X10_light : CeV RX10 yX10_light cX10_light 3 (some .int) 2 := ⟨tb_1703, tb_1704, tb_11, tb_1705, rfl, by decide, by decide, by decide +kernel⟩
set_option maxHeartbeats 4000000 in
set_option maxRecDepth 20000 in
theorem V_X10_light (l : Launch) (D : va_G) (A : Nat → Prop) (ad : Nat → Nat) (ns : List Nat) (I : MI) (L : ML) (G : MG) (a0 : Int32) (a1 : Int32) (hJ : SGM ns G) (hI : INV I) : Met l yX10_light (wd yX10_light cX10_light 3 (some .int)) ({ frames := 5, cells := 0, slots := 0, locals := 128 }) (va_Pc [.ref (ad (1000)), .int a0, .int a1] (PM D A ad ns I L G)) (va_Qi (fun r u => ∃ I2 L2, u = (ad, ns, I2, L2, G) ∧ INV I2 ∧ Kp [(1045, 1051), (1058, 1059), (1061, 1063)] [(1000, 51), (1000, 52), (1000, 53), (1000, 54), (1000, 55), (1000, 56), (1000, 59), (1000, 63)] I I2) (BM D A) A) 0 0 A := by
  refine m_ofW (by decide) (Nat.le_of_ble_eq_true rfl) ?_
  intro p e s m below meth c ls args hC hE hM hA hS hl
  obtain ⟨hx, hb, hml, hown, hts, hr, hlocks, hin⟩ := hC
  have km1 : (-1 : Int32).toInt = -1 := by decide
  have k0 : (0 : Int32).toInt = 0 := by decide
  have kl0 : (0 : Int64).toInt = 0 := by decide
  have kl6 : (6 : Int64).toInt = 6 := by decide
  have hK : Kp [(1045, 1051), (1058, 1059), (1061, 1063)] [(1000, 51), (1000, 52), (1000, 53), (1000, 54), (1000, 55), (1000, 56), (1000, 59), (1000, 63)] I I := Kp.rf
  have hl : lv_has ls 3 [(0, .ref (ad (1000))), (1, .int (a0)), (2, .int (a1))] := hl
  refine lv_aload_n hx hb dX10_light_0 rfl (lv_at hl 0 rfl) ?_
  refine lv_iload_n hx hb dX10_light_1 rfl (lv_at hl 1 rfl) ?_
  refine m_calli (m_runV (1000) (As := [.int (a0)]) (rest := []) hx hb hml hown hts hE hM hS hA ce_X10_isBright tb_1698 (V_X10_isBright l D A ad ns I L G (a0) hJ hI) rfl rfl ⟨Nat.le_of_ble_eq_true rfl, Nat.le_of_ble_eq_true rfl⟩ hJ.1 rfl rfl (by decide) rfl hl.1 rfl (Nat.le_of_ble_eq_true rfl) dX10_light_2 ⟨Nat.le_of_ble_eq_true rfl, Nat.le_of_ble_eq_true rfl⟩) hS (fun r1 u H locs hw hM hS => ?_)
  obtain ⟨rfl, xr1⟩ := hw
  have hM : Mem D A ad ns I L G H := hM
  refine lv_if_eq (tgt := 20) hx hb dX10_light_5 (by decide) (fun c2 => ?_) (fun c2 => ?_)
  · have hc2 := c2
    have q2 := q_eq hc2
    refine lv_iconst (v := (-1)) hx hb dX10_light_20 (by decide) ?_
    exact m_iret hx hb hr hlocks hM hS (Nat.le_of_ble_eq_true rfl) (Nat.le_of_ble_eq_true rfl) ⟨_, _, rfl, hI, hK⟩ dX10_light_21
  · have hc2 := c2
    have q2 := q_ne hc2
    refine lv_iload_n hx hb dX10_light_8 rfl (lv_at hl 2 rfl) ?_
    refine lv_i2l hx hb dX10_light_9 rfl ?_
    refine lv_topl (fun v3 ev3 => ?_)
    have tv3 := q_i2l ev3
    refine lv_lconst (v := 0) hx hb dX10_light_10 (by decide) ?_
    refine lv_ldc2 (v := (6)) hx hb hown (hts _ tb_1706) dX10_light_11 ?_
    refine m_calli (m_runS (As := [.long (v3), .long (0), .long ((6 : Int64))]) (rest := []) hx hb hml hown hts hE hM hS hA ce_X10_in tb_1425 (V_X10_in l D A ad ns I L G (v3) (0) ((6 : Int64)) hI) rfl rfl ⟨Nat.le_of_ble_eq_true rfl, Nat.le_of_ble_eq_true rfl⟩  rfl hl.1 rfl (Nat.le_of_ble_eq_true rfl) dX10_light_14 ⟨Nat.le_of_ble_eq_true rfl, Nat.le_of_ble_eq_true rfl⟩) hS (fun r4 u H locs hw hM hS => ?_)
    obtain ⟨rfl, xr4⟩ := hw
    have hM : Mem D A ad ns I L G H := hM
    have yr4 := bo01 xr4
    refine lv_if_ne (tgt := 22) hx hb dX10_light_17 (by decide) (fun c5 => ?_) (fun c5 => ?_)
    · have hc5 := c5
      have q5 := xr4.t hc5
      refine lv_aload_n hx hb dX10_light_22 rfl (lv_at hl 0 rfl) ?_
      refine lv_iload_n hx hb dX10_light_23 rfl (lv_at hl 1 rfl) ?_
      refine m_callv (m_runV (1000) (As := [.int (a0)]) (rest := []) hx hb hml hown hts hE hM hS hA ce_X10_shines tb_1640 (V_X10_shines l D A ad ns I L G (a0) hJ hI (by first | omega | decide)) rfl rfl ⟨Nat.le_of_ble_eq_true rfl, Nat.le_of_ble_eq_true rfl⟩ hJ.1 rfl rfl (by decide) rfl hl.1 rfl (Nat.le_of_ble_eq_true rfl) dX10_light_24 ⟨Nat.le_of_ble_eq_true rfl, Nat.le_of_ble_eq_true rfl⟩) hS (fun u H locs hw hM hS => ?_)
      obtain ⟨I6, L7, rfl, hI, hkI6⟩ := hw
      have hM : Mem D A ad ns I6 L7 G H := hM
      have hK := hK.trans hkI6 rfl
      refine lv_iload_n hx hb dX10_light_27 rfl (lv_at hl 2 rfl) ?_
      by_cases c8 : (a1).toInt < 0 ∨ 5 < (a1).toInt
      · refine lv_tableOut (tgt := 98) hx hb dX10_light_28 c8 (by decide) ?_
        refine lv_aload_n hx hb dX10_light_98 rfl (lv_at hl 0 rfl) ?_
        refine m_calli (m_runV (1000) (As := []) (rest := []) hx hb hml hown hts hE hM hS hA ce_X10_firstBlind tb_1711 (V_X10_firstBlind l D A ad ns I6 L7 G hJ hI) rfl rfl ⟨Nat.le_of_ble_eq_true rfl, Nat.le_of_ble_eq_true rfl⟩ hJ.1 rfl rfl (by decide) rfl hl.1 rfl (Nat.le_of_ble_eq_true rfl) dX10_light_99 ⟨Nat.le_of_ble_eq_true rfl, Nat.le_of_ble_eq_true rfl⟩) hS (fun r9 u H locs hw hM hS => ?_)
        obtain ⟨rfl, xr9⟩ := hw
        have hM : Mem D A ad ns I6 L7 G H := hM
        exact m_iret hx hb hr hlocks hM hS (Nat.le_of_ble_eq_true rfl) (Nat.le_of_ble_eq_true rfl) ⟨_, _, rfl, hI, hK⟩ dX10_light_102
      · have qc8 : (a1).toInt = 0 ∨ (a1).toInt = 1 ∨ (a1).toInt = 2 ∨ (a1).toInt = 3 ∨ (a1).toInt = 4 ∨ (a1).toInt = 5 := by omega
        rcases qc8 with qc8 | qc8 | qc8 | qc8 | qc8 | qc8
        · refine lv_tableIn (off := 40) (tgt := 68) hx hb dX10_light_28 (by omega) (by omega) (by rw [qc8]; rfl) (by decide) ?_
          refine lv_aload_n hx hb dX10_light_68 rfl (lv_at hl 0 rfl) ?_
          refine m_calli (m_runV (1000) (As := []) (rest := []) hx hb hml hown hts hE hM hS hA ce_X10_allGot tb_1707 (V_X10_allGot l D A ad ns I6 L7 G hJ hI) rfl rfl ⟨Nat.le_of_ble_eq_true rfl, Nat.le_of_ble_eq_true rfl⟩ hJ.1 rfl rfl (by decide) rfl hl.1 rfl (Nat.le_of_ble_eq_true rfl) dX10_light_69 ⟨Nat.le_of_ble_eq_true rfl, Nat.le_of_ble_eq_true rfl⟩) hS (fun r10 u H locs hw hM hS => ?_)
          obtain ⟨rfl, xr10⟩ := hw
          have hM : Mem D A ad ns I6 L7 G H := hM
          exact m_iret hx hb hr hlocks hM hS (Nat.le_of_ble_eq_true rfl) (Nat.le_of_ble_eq_true rfl) ⟨_, _, rfl, hI, hK⟩ dX10_light_72
        · refine lv_tableIn (off := 45) (tgt := 73) hx hb dX10_light_28 (by omega) (by omega) (by rw [qc8]; rfl) (by decide) ?_
          refine lv_aload_n hx hb dX10_light_73 rfl (lv_at hl 0 rfl) ?_
          refine m_geti (1000) 53 hx hb hts hown hE oc10 hM hJ.1 rfl (by decide) rfl tb_1230 dX10_light_74 ?_
          exact m_iret hx hb hr hlocks hM hS (Nat.le_of_ble_eq_true rfl) (Nat.le_of_ble_eq_true rfl) ⟨_, _, rfl, hI, hK⟩ dX10_light_77
        · refine lv_tableIn (off := 50) (tgt := 78) hx hb dX10_light_28 (by omega) (by omega) (by rw [qc8]; rfl) (by decide) ?_
          refine lv_aload_n hx hb dX10_light_78 rfl (lv_at hl 0 rfl) ?_
          refine m_geti (1000) 54 hx hb hts hown hE oc10 hM hJ.1 rfl (by decide) rfl tb_1231 dX10_light_79 ?_
          exact m_iret hx hb hr hlocks hM hS (Nat.le_of_ble_eq_true rfl) (Nat.le_of_ble_eq_true rfl) ⟨_, _, rfl, hI, hK⟩ dX10_light_82
        · refine lv_tableIn (off := 55) (tgt := 83) hx hb dX10_light_28 (by omega) (by omega) (by rw [qc8]; rfl) (by decide) ?_
          refine lv_aload_n hx hb dX10_light_83 rfl (lv_at hl 0 rfl) ?_
          refine m_geti (1000) 55 hx hb hts hown hE oc10 hM hJ.1 rfl (by decide) rfl tb_1232 dX10_light_84 ?_
          have g11 := hI.get (1000) 55 (lo := 0) (hi := 2000) rfl
          exact m_iret hx hb hr hlocks hM hS (Nat.le_of_ble_eq_true rfl) (Nat.le_of_ble_eq_true rfl) ⟨_, _, rfl, hI, hK⟩ dX10_light_87
        · refine lv_tableIn (off := 60) (tgt := 88) hx hb dX10_light_28 (by omega) (by omega) (by rw [qc8]; rfl) (by decide) ?_
          refine lv_aload_n hx hb dX10_light_88 rfl (lv_at hl 0 rfl) ?_
          refine m_geti (1000) 56 hx hb hts hown hE oc10 hM hJ.1 rfl (by decide) rfl tb_1233 dX10_light_89 ?_
          exact m_iret hx hb hr hlocks hM hS (Nat.le_of_ble_eq_true rfl) (Nat.le_of_ble_eq_true rfl) ⟨_, _, rfl, hI, hK⟩ dX10_light_92
        · refine lv_tableIn (off := 65) (tgt := 93) hx hb dX10_light_28 (by omega) (by omega) (by rw [qc8]; rfl) (by decide) ?_
          refine lv_aload_n hx hb dX10_light_93 rfl (lv_at hl 0 rfl) ?_
          refine m_calli (m_runV (1000) (As := []) (rest := []) hx hb hml hown hts hE hM hS hA ce_X10_blindCells tb_1670 (V_X10_blindCells l D A ad ns I6 L7 G hJ hI) rfl rfl ⟨Nat.le_of_ble_eq_true rfl, Nat.le_of_ble_eq_true rfl⟩ hJ.1 rfl rfl (by decide) rfl hl.1 rfl (Nat.le_of_ble_eq_true rfl) dX10_light_94 ⟨Nat.le_of_ble_eq_true rfl, Nat.le_of_ble_eq_true rfl⟩) hS (fun r12 u H locs hw hM hS => ?_)
          obtain ⟨rfl, xr12⟩ := hw
          have hM : Mem D A ad ns I6 L7 G H := hM
          exact m_iret hx hb hr hlocks hM hS (Nat.le_of_ble_eq_true rfl) (Nat.le_of_ble_eq_true rfl) ⟨_, _, rfl, hI, hK⟩ dX10_light_97
    · have hc5 := c5
      have q5 := xr4.f hc5
      refine lv_iconst (v := (-1)) hx hb dX10_light_20 (by decide) ?_
      exact m_iret hx hb hr hlocks hM hS (Nat.le_of_ble_eq_true rfl) (Nat.le_of_ble_eq_true rfl) ⟨_, _, rfl, hI, hK⟩ dX10_light_21
theorem dX10_passes_0 : decode cX10_passes 0 = .ok (.aload_n 0, 1) := by decide +kernel
theorem dX10_passes_1 : decode cX10_passes 1 = .ok (.iload_n 1, 1) := by decide +kernel
theorem dX10_passes_2 : decode cX10_passes 2 = .ok (.invokevirtual 472, 3) := by decide +kernel
theorem dX10_passes_5 : decode cX10_passes 5 = .ok (.ifCond .eq 12, 3) := by decide +kernel
theorem dX10_passes_8 : decode cX10_passes 8 = .ok (.aload_n 0, 1) := by decide +kernel
theorem dX10_passes_9 : decode cX10_passes 9 = .ok (.iload_n 2, 1) := by decide +kernel
theorem dX10_passes_10 : decode cX10_passes 10 = .ok (.iload_n 3, 1) := by decide +kernel
theorem dX10_passes_11 : decode cX10_passes 11 = .ok (.invokevirtual 196, 3) := by decide +kernel
theorem dX10_passes_14 : decode cX10_passes 14 = .ok (.ifCond .ne 5, 3) := by decide +kernel
theorem dX10_passes_17 : decode cX10_passes 17 = .ok (.iconst (-1), 1) := by decide +kernel
theorem dX10_passes_18 : decode cX10_passes 18 = .ok (.ireturn, 1) := by decide +kernel
theorem dX10_passes_19 : decode cX10_passes 19 = .ok (.aload_n 0, 1) := by decide +kernel
theorem dX10_passes_20 : decode cX10_passes 20 = .ok (.iload_n 1, 1) := by decide +kernel
theorem dX10_passes_21 : decode cX10_passes 21 = .ok (.invokevirtual 404, 3) := by decide +kernel
theorem dX10_passes_24 : decode cX10_passes 24 = .ok (.aload_n 0, 1) := by decide +kernel
theorem dX10_passes_25 : decode cX10_passes 25 = .ok (.getfield 130, 3) := by decide +kernel
theorem dX10_passes_28 : decode cX10_passes 28 = .ok (.bipush 24, 2) := by decide +kernel
theorem dX10_passes_30 : decode cX10_passes 30 = .ok (.iload_n 3, 1) := by decide +kernel
theorem dX10_passes_31 : decode cX10_passes 31 = .ok (.imul, 1) := by decide +kernel
theorem dX10_passes_32 : decode cX10_passes 32 = .ok (.iload_n 2, 1) := by decide +kernel
theorem dX10_passes_33 : decode cX10_passes 33 = .ok (.iadd, 1) := by decide +kernel
theorem dX10_passes_34 : decode cX10_passes 34 = .ok (.iaload, 1) := by decide +kernel
theorem dX10_passes_35 : decode cX10_passes 35 = .ok (.ireturn, 1) := by decide +kernel
theorem ce_X10_passes : CeV RX10 yX10_passes cX10_passes 4 (some .int) 3 := ⟨tb_1716, tb_1717, tb_11, tb_1718, rfl, by decide, by decide, by decide +kernel⟩
set_option maxHeartbeats 4000000 in
set_option maxRecDepth 20000 in
theorem V_X10_passes (l : Launch) (D : va_G) (A : Nat → Prop) (ad : Nat → Nat) (ns : List Nat) (I : MI) (L : ML) (G : MG) (a0 : Int32) (a1 : Int32) (a2 : Int32) (hJ : SGM ns G) (hI : INV I) : Met l yX10_passes (wd yX10_passes cX10_passes 4 (some .int)) ({ frames := 5, cells := 0, slots := 0, locals := 128 }) (va_Pc [.ref (ad (1000)), .int a0, .int a1, .int a2] (PM D A ad ns I L G)) (va_Qi (fun r u => ∃ I2 L2, u = (ad, ns, I2, L2, G) ∧ INV I2 ∧ Kp [(1045, 1051), (1058, 1059), (1061, 1063)] [(1000, 51), (1000, 52), (1000, 53), (1000, 54), (1000, 55), (1000, 56), (1000, 59), (1000, 63)] I I2) (BM D A) A) 0 0 A := by
  refine m_ofW (by decide) (Nat.le_of_ble_eq_true rfl) ?_
  intro p e s m below meth c ls args hC hE hM hA hS hl
  obtain ⟨hx, hb, hml, hown, hts, hr, hlocks, hin⟩ := hC
  have km1 : (-1 : Int32).toInt = -1 := by decide
  have k0 : (0 : Int32).toInt = 0 := by decide
  have k24 : (24 : Int32).toInt = 24 := by decide
  have hK : Kp [(1045, 1051), (1058, 1059), (1061, 1063)] [(1000, 51), (1000, 52), (1000, 53), (1000, 54), (1000, 55), (1000, 56), (1000, 59), (1000, 63)] I I := Kp.rf
  have hl : lv_has ls 4 [(0, .ref (ad (1000))), (1, .int (a0)), (2, .int (a1)), (3, .int (a2))] := hl
  refine lv_aload_n hx hb dX10_passes_0 rfl (lv_at hl 0 rfl) ?_
  refine lv_iload_n hx hb dX10_passes_1 rfl (lv_at hl 1 rfl) ?_
  refine m_calli (m_runV (1000) (As := [.int (a0)]) (rest := []) hx hb hml hown hts hE hM hS hA ce_X10_isBright tb_1698 (V_X10_isBright l D A ad ns I L G (a0) hJ hI) rfl rfl ⟨Nat.le_of_ble_eq_true rfl, Nat.le_of_ble_eq_true rfl⟩ hJ.1 rfl rfl (by decide) rfl hl.1 rfl (Nat.le_of_ble_eq_true rfl) dX10_passes_2 ⟨Nat.le_of_ble_eq_true rfl, Nat.le_of_ble_eq_true rfl⟩) hS (fun r1 u H locs hw hM hS => ?_)
  obtain ⟨rfl, xr1⟩ := hw
  have hM : Mem D A ad ns I L G H := hM
  refine lv_if_eq (tgt := 17) hx hb dX10_passes_5 (by decide) (fun c2 => ?_) (fun c2 => ?_)
  · have hc2 := c2
    have q2 := q_eq hc2
    refine lv_iconst (v := (-1)) hx hb dX10_passes_17 (by decide) ?_
    exact m_iret hx hb hr hlocks hM hS (Nat.le_of_ble_eq_true rfl) (Nat.le_of_ble_eq_true rfl) ⟨_, _, rfl, hI, hK⟩ dX10_passes_18
  · have hc2 := c2
    have q2 := q_ne hc2
    refine lv_aload_n hx hb dX10_passes_8 rfl (lv_at hl 0 rfl) ?_
    refine lv_iload_n hx hb dX10_passes_9 rfl (lv_at hl 2 rfl) ?_
    refine lv_iload_n hx hb dX10_passes_10 rfl (lv_at hl 3 rfl) ?_
    refine m_calli (m_runV (1000) (As := [.int (a1), .int (a2)]) (rest := []) hx hb hml hown hts hE hM hS hA ce_X10_isCell tb_1437 (V_X10_isCell l D A ad ns I L G (a1) (a2) hJ hI) rfl rfl ⟨Nat.le_of_ble_eq_true rfl, Nat.le_of_ble_eq_true rfl⟩ hJ.1 rfl rfl (by decide) rfl hl.1 rfl (Nat.le_of_ble_eq_true rfl) dX10_passes_11 ⟨Nat.le_of_ble_eq_true rfl, Nat.le_of_ble_eq_true rfl⟩) hS (fun r3 u H locs hw hM hS => ?_)
    obtain ⟨rfl, xr3⟩ := hw
    have hM : Mem D A ad ns I L G H := hM
    have yr3 := bo01 xr3
    have g4 := hI.get 1001 1 (lo := 0) (hi := 24) rfl
    have g5 := hI.get 1001 2 (lo := 0) (hi := 24) rfl
    refine lv_if_ne (tgt := 19) hx hb dX10_passes_14 (by decide) (fun c6 => ?_) (fun c6 => ?_)
    · have hc6 := c6
      have q6 := xr3.t hc6
      refine lv_aload_n hx hb dX10_passes_19 rfl (lv_at hl 0 rfl) ?_
      refine lv_iload_n hx hb dX10_passes_20 rfl (lv_at hl 1 rfl) ?_
      refine m_callv (m_runV (1000) (As := [.int (a0)]) (rest := []) hx hb hml hown hts hE hM hS hA ce_X10_shines tb_1640 (V_X10_shines l D A ad ns I L G (a0) hJ hI (by first | omega | decide)) rfl rfl ⟨Nat.le_of_ble_eq_true rfl, Nat.le_of_ble_eq_true rfl⟩ hJ.1 rfl rfl (by decide) rfl hl.1 rfl (Nat.le_of_ble_eq_true rfl) dX10_passes_21 ⟨Nat.le_of_ble_eq_true rfl, Nat.le_of_ble_eq_true rfl⟩) hS (fun u H locs hw hM hS => ?_)
      obtain ⟨I7, L8, rfl, hI, hkI7⟩ := hw
      have hM : Mem D A ad ns I7 L8 G H := hM
      have hK := hK.trans hkI7 rfl
      refine lv_aload_n hx hb dX10_passes_24 rfl (lv_at hl 0 rfl) ?_
      refine m_getr (1000) 49 (1049) hx hb hts hown hE oc10 hM hJ.1 rfl (by decide) rfl (hJ.2 49 (by decide)).2 (by decide) tb_1226 dX10_passes_25 ?_
      refine lv_bipush (v := (24)) hx hb dX10_passes_28 (by decide) ?_
      refine lv_iload_n hx hb dX10_passes_30 rfl (lv_at hl 3 rfl) ?_
      refine lv_imul hx hb dX10_passes_31 ?_
      refine lv_topi (fun v9 ev9 => ?_)
      have tv9 := a_mulL (c := 24) ev9 (by decide) (by omega) (by omega)
      refine lv_iload_n hx hb dX10_passes_32 rfl (lv_at hl 2 rfl) ?_
      refine lv_iadd hx hb dX10_passes_33 ?_
      refine lv_topi (fun v10 ev10 => ?_)
      have tv10 := a_add ev10 (by omega) (by omega)
      refine m_iald (1049) hx hb hE hM (hJ.2 49 (by decide)).1 rfl (vp_in_iff.mpr (by omega)) dX10_passes_34 ?_
      exact m_iret hx hb hr hlocks hM hS (Nat.le_of_ble_eq_true rfl) (Nat.le_of_ble_eq_true rfl) ⟨_, _, rfl, hI, hK⟩ dX10_passes_35
    · have hc6 := c6
      have q6 := xr3.f hc6
      refine lv_iconst (v := (-1)) hx hb dX10_passes_17 (by decide) ?_
      exact m_iret hx hb hr hlocks hM hS (Nat.le_of_ble_eq_true rfl) (Nat.le_of_ble_eq_true rfl) ⟨_, _, rfl, hI, hK⟩ dX10_passes_18
theorem dX10_count_0 : decode cX10_count 0 = .ok (.iload_n 1, 1) := by decide +kernel
theorem dX10_count_1 : decode cX10_count 1 = .ok (.tableswitch 211 0 9 #[55, 73, 91, 110, 129, 147, 166, 182, 201, 206], 55) := by decide +kernel
theorem dX10_count_56 : decode cX10_count 56 = .ok (.aload_n 0, 1) := by decide +kernel
theorem dX10_count_57 : decode cX10_count 57 = .ok (.invokevirtual 188, 3) := by decide +kernel
theorem dX10_count_60 : decode cX10_count 60 = .ok (.ifCond .eq 12, 3) := by decide +kernel
theorem dX10_count_63 : decode cX10_count 63 = .ok (.aload_n 0, 1) := by decide +kernel
theorem dX10_count_64 : decode cX10_count 64 = .ok (.getfield 7, 3) := by decide +kernel
theorem dX10_count_67 : decode cX10_count 67 = .ok (.iconst 1, 1) := by decide +kernel
theorem dX10_count_68 : decode cX10_count 68 = .ok (.iaload, 1) := by decide +kernel
theorem dX10_count_69 : decode cX10_count 69 = .ok (.goto 4, 3) := by decide +kernel
theorem dX10_count_72 : decode cX10_count 72 = .ok (.iconst (-1), 1) := by decide +kernel
theorem dX10_count_73 : decode cX10_count 73 = .ok (.ireturn, 1) := by decide +kernel
theorem dX10_count_74 : decode cX10_count 74 = .ok (.aload_n 0, 1) := by decide +kernel
theorem dX10_count_75 : decode cX10_count 75 = .ok (.invokevirtual 188, 3) := by decide +kernel
theorem dX10_count_78 : decode cX10_count 78 = .ok (.ifCond .eq 12, 3) := by decide +kernel
theorem dX10_count_81 : decode cX10_count 81 = .ok (.aload_n 0, 1) := by decide +kernel
theorem dX10_count_82 : decode cX10_count 82 = .ok (.getfield 7, 3) := by decide +kernel
theorem dX10_count_85 : decode cX10_count 85 = .ok (.iconst 2, 1) := by decide +kernel
theorem dX10_count_86 : decode cX10_count 86 = .ok (.iaload, 1) := by decide +kernel
theorem dX10_count_87 : decode cX10_count 87 = .ok (.goto 4, 3) := by decide +kernel
theorem dX10_count_90 : decode cX10_count 90 = .ok (.iconst (-1), 1) := by decide +kernel
theorem dX10_count_91 : decode cX10_count 91 = .ok (.ireturn, 1) := by decide +kernel
theorem dX10_count_92 : decode cX10_count 92 = .ok (.aload_n 0, 1) := by decide +kernel
theorem dX10_count_93 : decode cX10_count 93 = .ok (.invokevirtual 188, 3) := by decide +kernel
theorem dX10_count_96 : decode cX10_count 96 = .ok (.ifCond .eq 13, 3) := by decide +kernel
theorem dX10_count_99 : decode cX10_count 99 = .ok (.aload_n 0, 1) := by decide +kernel
theorem dX10_count_100 : decode cX10_count 100 = .ok (.getfield 7, 3) := by decide +kernel
theorem dX10_count_103 : decode cX10_count 103 = .ok (.bipush 8, 2) := by decide +kernel
theorem dX10_count_105 : decode cX10_count 105 = .ok (.iaload, 1) := by decide +kernel
theorem dX10_count_106 : decode cX10_count 106 = .ok (.goto 4, 3) := by decide +kernel
theorem dX10_count_109 : decode cX10_count 109 = .ok (.iconst (-1), 1) := by decide +kernel
theorem dX10_count_110 : decode cX10_count 110 = .ok (.ireturn, 1) := by decide +kernel
theorem dX10_count_111 : decode cX10_count 111 = .ok (.aload_n 0, 1) := by decide +kernel
theorem dX10_count_112 : decode cX10_count 112 = .ok (.invokevirtual 188, 3) := by decide +kernel
theorem dX10_count_115 : decode cX10_count 115 = .ok (.ifCond .eq 13, 3) := by decide +kernel
theorem dX10_count_118 : decode cX10_count 118 = .ok (.aload_n 0, 1) := by decide +kernel
theorem dX10_count_119 : decode cX10_count 119 = .ok (.getfield 7, 3) := by decide +kernel
theorem dX10_count_122 : decode cX10_count 122 = .ok (.bipush 9, 2) := by decide +kernel
theorem dX10_count_124 : decode cX10_count 124 = .ok (.iaload, 1) := by decide +kernel
theorem dX10_count_125 : decode cX10_count 125 = .ok (.goto 4, 3) := by decide +kernel
theorem dX10_count_128 : decode cX10_count 128 = .ok (.iconst (-1), 1) := by decide +kernel
theorem dX10_count_129 : decode cX10_count 129 = .ok (.ireturn, 1) := by decide +kernel
theorem dX10_count_130 : decode cX10_count 130 = .ok (.aload_n 0, 1) := by decide +kernel
theorem dX10_count_131 : decode cX10_count 131 = .ok (.invokevirtual 188, 3) := by decide +kernel
theorem dX10_count_134 : decode cX10_count 134 = .ok (.ifCond .eq 12, 3) := by decide +kernel
theorem dX10_count_137 : decode cX10_count 137 = .ok (.aload_n 0, 1) := by decide +kernel
theorem dX10_count_138 : decode cX10_count 138 = .ok (.getfield 7, 3) := by decide +kernel
theorem dX10_count_141 : decode cX10_count 141 = .ok (.iconst 5, 1) := by decide +kernel
theorem dX10_count_142 : decode cX10_count 142 = .ok (.iaload, 1) := by decide +kernel
theorem dX10_count_143 : decode cX10_count 143 = .ok (.goto 4, 3) := by decide +kernel
theorem dX10_count_146 : decode cX10_count 146 = .ok (.iconst (-1), 1) := by decide +kernel
theorem dX10_count_147 : decode cX10_count 147 = .ok (.ireturn, 1) := by decide +kernel
theorem dX10_count_148 : decode cX10_count 148 = .ok (.aload_n 0, 1) := by decide +kernel
theorem dX10_count_149 : decode cX10_count 149 = .ok (.invokevirtual 188, 3) := by decide +kernel
theorem dX10_count_152 : decode cX10_count 152 = .ok (.ifCond .eq 13, 3) := by decide +kernel
theorem dX10_count_155 : decode cX10_count 155 = .ok (.aload_n 0, 1) := by decide +kernel
theorem dX10_count_156 : decode cX10_count 156 = .ok (.getfield 7, 3) := by decide +kernel
theorem dX10_count_159 : decode cX10_count 159 = .ok (.bipush 6, 2) := by decide +kernel
theorem dX10_count_161 : decode cX10_count 161 = .ok (.iaload, 1) := by decide +kernel
theorem dX10_count_162 : decode cX10_count 162 = .ok (.goto 4, 3) := by decide +kernel
theorem dX10_count_165 : decode cX10_count 165 = .ok (.iconst (-1), 1) := by decide +kernel
theorem dX10_count_166 : decode cX10_count 166 = .ok (.ireturn, 1) := by decide +kernel
theorem dX10_count_167 : decode cX10_count 167 = .ok (.aload_n 0, 1) := by decide +kernel
theorem dX10_count_168 : decode cX10_count 168 = .ok (.invokevirtual 188, 3) := by decide +kernel
theorem dX10_count_171 : decode cX10_count 171 = .ok (.ifCond .eq 10, 3) := by decide +kernel
theorem dX10_count_174 : decode cX10_count 174 = .ok (.aload_n 0, 1) := by decide +kernel
theorem dX10_count_175 : decode cX10_count 175 = .ok (.invokevirtual 466, 3) := by decide +kernel
theorem dX10_count_178 : decode cX10_count 178 = .ok (.goto 4, 3) := by decide +kernel
theorem dX10_count_181 : decode cX10_count 181 = .ok (.iconst (-1), 1) := by decide +kernel
theorem dX10_count_182 : decode cX10_count 182 = .ok (.ireturn, 1) := by decide +kernel
theorem dX10_count_183 : decode cX10_count 183 = .ok (.aload_n 0, 1) := by decide +kernel
theorem dX10_count_184 : decode cX10_count 184 = .ok (.invokevirtual 188, 3) := by decide +kernel
theorem dX10_count_187 : decode cX10_count 187 = .ok (.ifCond .eq 13, 3) := by decide +kernel
theorem dX10_count_190 : decode cX10_count 190 = .ok (.aload_n 0, 1) := by decide +kernel
theorem dX10_count_191 : decode cX10_count 191 = .ok (.getfield 7, 3) := by decide +kernel
theorem dX10_count_194 : decode cX10_count 194 = .ok (.bipush 7, 2) := by decide +kernel
theorem dX10_count_196 : decode cX10_count 196 = .ok (.iaload, 1) := by decide +kernel
theorem dX10_count_197 : decode cX10_count 197 = .ok (.goto 4, 3) := by decide +kernel
theorem dX10_count_200 : decode cX10_count 200 = .ok (.iconst (-1), 1) := by decide +kernel
theorem dX10_count_201 : decode cX10_count 201 = .ok (.ireturn, 1) := by decide +kernel
theorem dX10_count_202 : decode cX10_count 202 = .ok (.aload_n 0, 1) := by decide +kernel
theorem dX10_count_203 : decode cX10_count 203 = .ok (.getfield 371, 3) := by decide +kernel
theorem dX10_count_206 : decode cX10_count 206 = .ok (.ireturn, 1) := by decide +kernel
theorem dX10_count_207 : decode cX10_count 207 = .ok (.aload_n 0, 1) := by decide +kernel
theorem dX10_count_208 : decode cX10_count 208 = .ok (.getfield 232, 3) := by decide +kernel
theorem dX10_count_211 : decode cX10_count 211 = .ok (.ireturn, 1) := by decide +kernel
theorem dX10_count_212 : decode cX10_count 212 = .ok (.iconst (-1), 1) := by decide +kernel
theorem dX10_count_213 : decode cX10_count 213 = .ok (.ireturn, 1) := by decide +kernel
theorem ce_X10_count : CeV RX10 yX10_count cX10_count 2 (some .int) 1 := ⟨tb_1821, tb_1822, tb_11, tb_1823, rfl, by decide, by decide, by decide +kernel⟩
set_option maxHeartbeats 4000000 in
set_option maxRecDepth 20000 in
theorem V_X10_count (l : Launch) (D : va_G) (A : Nat → Prop) (ad : Nat → Nat) (ns : List Nat) (I : MI) (L : ML) (G : MG) (a0 : Int32) (hJ : SGM ns G) (hI : INV I) : Met l yX10_count (wd yX10_count cX10_count 2 (some .int)) ({ frames := 1, cells := 0, slots := 0, locals := 22 }) (va_Pc [.ref (ad (1000)), .int a0] (PM D A ad ns I L G)) (va_Qi (fun r u => u = (ad, ns, I, L, G) ∧ (True)) (BM D A) A) 0 0 A := by
  refine m_ofW (by decide) (Nat.le_of_ble_eq_true rfl) ?_
  intro p e s m below meth c ls args hC hE hM hA hS hl
  obtain ⟨hx, hb, hml, hown, hts, hr, hlocks, hin⟩ := hC
  have km1 : (-1 : Int32).toInt = -1 := by decide
  have k0 : (0 : Int32).toInt = 0 := by decide
  have k1 : (1 : Int32).toInt = 1 := by decide
  have k2 : (2 : Int32).toInt = 2 := by decide
  have k5 : (5 : Int32).toInt = 5 := by decide
  have k6 : (6 : Int32).toInt = 6 := by decide
  have k7 : (7 : Int32).toInt = 7 := by decide
  have k8 : (8 : Int32).toInt = 8 := by decide
  have k9 : (9 : Int32).toInt = 9 := by decide
  have hl : lv_has ls 2 [(0, .ref (ad (1000))), (1, .int (a0))] := hl
  refine lv_iload_n hx hb dX10_count_0 rfl (lv_at hl 1 rfl) ?_
  by_cases c1 : (a0).toInt < 0 ∨ 9 < (a0).toInt
  · refine lv_tableOut (tgt := 212) hx hb dX10_count_1 c1 (by decide) ?_
    refine lv_iconst (v := (-1)) hx hb dX10_count_212 (by decide) ?_
    exact m_iret hx hb hr hlocks hM hS (Nat.le_of_ble_eq_true rfl) (Nat.le_of_ble_eq_true rfl) ⟨rfl, trivial⟩ dX10_count_213
  · have qc1 : (a0).toInt = 0 ∨ (a0).toInt = 1 ∨ (a0).toInt = 2 ∨ (a0).toInt = 3 ∨ (a0).toInt = 4 ∨ (a0).toInt = 5 ∨ (a0).toInt = 6 ∨ (a0).toInt = 7 ∨ (a0).toInt = 8 ∨ (a0).toInt = 9 := by omega
    rcases qc1 with qc1 | qc1 | qc1 | qc1 | qc1 | qc1 | qc1 | qc1 | qc1 | qc1
    · refine lv_tableIn (off := 55) (tgt := 56) hx hb dX10_count_1 (by omega) (by omega) (by rw [qc1]; rfl) (by decide) ?_
      refine lv_aload_n hx hb dX10_count_56 rfl (lv_at hl 0 rfl) ?_
      refine m_calli (m_runV (1000) (As := []) (rest := []) hx hb hml hown hts hE hM hS hA ce_X10_isTown tb_1441 (V_X10_isTown l D A ad ns I L G hJ hI) rfl rfl ⟨Nat.le_of_ble_eq_true rfl, Nat.le_of_ble_eq_true rfl⟩ hJ.1 rfl rfl (by decide) rfl hl.1 rfl (Nat.le_of_ble_eq_true rfl) dX10_count_57 ⟨Nat.le_of_ble_eq_true rfl, Nat.le_of_ble_eq_true rfl⟩) hS (fun r2 u H locs hw hM hS => ?_)
      obtain ⟨rfl, xr2⟩ := hw
      have hM : Mem D A ad ns I L G H := hM
      have yr2 := bo01 xr2
      refine lv_if_eq (tgt := 72) hx hb dX10_count_60 (by decide) (fun c3 => ?_) (fun c3 => ?_)
      · have hc3 := c3
        have q3 := xr2.f hc3
        refine lv_iconst (v := (-1)) hx hb dX10_count_72 (by decide) ?_
        exact m_iret hx hb hr hlocks hM hS (Nat.le_of_ble_eq_true rfl) (Nat.le_of_ble_eq_true rfl) ⟨rfl, trivial⟩ dX10_count_73
      · have hc3 := c3
        have q3 := xr2.t hc3
        refine lv_aload_n hx hb dX10_count_63 rfl (lv_at hl 0 rfl) ?_
        refine m_getr (1000) 1 (1001) hx hb hts hown hE oc10 hM hJ.1 rfl (by decide) rfl (hJ.2 1 (by decide)).2 (by decide) tb_1178 dX10_count_64 ?_
        refine lv_iconst (v := (1)) hx hb dX10_count_67 (by decide) ?_
        refine m_iald (1001) hx hb hE hM (hJ.2 1 (by decide)).1 rfl (vp_in_iff.mpr (by decide)) dX10_count_68 ?_
        rw [show (1 : Int32).toNatClampNeg = 1 from rfl]
        have g4 := hI.get (1001) 1 (lo := 0) (hi := 24) rfl
        refine lv_goto (tgt := 73) hx hb dX10_count_69 (by decide) ?_
        exact m_iret hx hb hr hlocks hM hS (Nat.le_of_ble_eq_true rfl) (Nat.le_of_ble_eq_true rfl) ⟨rfl, trivial⟩ dX10_count_73
    · refine lv_tableIn (off := 73) (tgt := 74) hx hb dX10_count_1 (by omega) (by omega) (by rw [qc1]; rfl) (by decide) ?_
      refine lv_aload_n hx hb dX10_count_74 rfl (lv_at hl 0 rfl) ?_
      refine m_calli (m_runV (1000) (As := []) (rest := []) hx hb hml hown hts hE hM hS hA ce_X10_isTown tb_1441 (V_X10_isTown l D A ad ns I L G hJ hI) rfl rfl ⟨Nat.le_of_ble_eq_true rfl, Nat.le_of_ble_eq_true rfl⟩ hJ.1 rfl rfl (by decide) rfl hl.1 rfl (Nat.le_of_ble_eq_true rfl) dX10_count_75 ⟨Nat.le_of_ble_eq_true rfl, Nat.le_of_ble_eq_true rfl⟩) hS (fun r5 u H locs hw hM hS => ?_)
      obtain ⟨rfl, xr5⟩ := hw
      have hM : Mem D A ad ns I L G H := hM
      have yr5 := bo01 xr5
      refine lv_if_eq (tgt := 90) hx hb dX10_count_78 (by decide) (fun c6 => ?_) (fun c6 => ?_)
      · have hc6 := c6
        have q6 := xr5.f hc6
        refine lv_iconst (v := (-1)) hx hb dX10_count_90 (by decide) ?_
        exact m_iret hx hb hr hlocks hM hS (Nat.le_of_ble_eq_true rfl) (Nat.le_of_ble_eq_true rfl) ⟨rfl, trivial⟩ dX10_count_91
      · have hc6 := c6
        have q6 := xr5.t hc6
        refine lv_aload_n hx hb dX10_count_81 rfl (lv_at hl 0 rfl) ?_
        refine m_getr (1000) 1 (1001) hx hb hts hown hE oc10 hM hJ.1 rfl (by decide) rfl (hJ.2 1 (by decide)).2 (by decide) tb_1178 dX10_count_82 ?_
        refine lv_iconst (v := (2)) hx hb dX10_count_85 (by decide) ?_
        refine m_iald (1001) hx hb hE hM (hJ.2 1 (by decide)).1 rfl (vp_in_iff.mpr (by decide)) dX10_count_86 ?_
        rw [show (2 : Int32).toNatClampNeg = 2 from rfl]
        have g7 := hI.get (1001) 2 (lo := 0) (hi := 24) rfl
        refine lv_goto (tgt := 91) hx hb dX10_count_87 (by decide) ?_
        exact m_iret hx hb hr hlocks hM hS (Nat.le_of_ble_eq_true rfl) (Nat.le_of_ble_eq_true rfl) ⟨rfl, trivial⟩ dX10_count_91
    · refine lv_tableIn (off := 91) (tgt := 92) hx hb dX10_count_1 (by omega) (by omega) (by rw [qc1]; rfl) (by decide) ?_
      refine lv_aload_n hx hb dX10_count_92 rfl (lv_at hl 0 rfl) ?_
      refine m_calli (m_runV (1000) (As := []) (rest := []) hx hb hml hown hts hE hM hS hA ce_X10_isTown tb_1441 (V_X10_isTown l D A ad ns I L G hJ hI) rfl rfl ⟨Nat.le_of_ble_eq_true rfl, Nat.le_of_ble_eq_true rfl⟩ hJ.1 rfl rfl (by decide) rfl hl.1 rfl (Nat.le_of_ble_eq_true rfl) dX10_count_93 ⟨Nat.le_of_ble_eq_true rfl, Nat.le_of_ble_eq_true rfl⟩) hS (fun r8 u H locs hw hM hS => ?_)
      obtain ⟨rfl, xr8⟩ := hw
      have hM : Mem D A ad ns I L G H := hM
      have yr8 := bo01 xr8
      refine lv_if_eq (tgt := 109) hx hb dX10_count_96 (by decide) (fun c9 => ?_) (fun c9 => ?_)
      · have hc9 := c9
        have q9 := xr8.f hc9
        refine lv_iconst (v := (-1)) hx hb dX10_count_109 (by decide) ?_
        exact m_iret hx hb hr hlocks hM hS (Nat.le_of_ble_eq_true rfl) (Nat.le_of_ble_eq_true rfl) ⟨rfl, trivial⟩ dX10_count_110
      · have hc9 := c9
        have q9 := xr8.t hc9
        refine lv_aload_n hx hb dX10_count_99 rfl (lv_at hl 0 rfl) ?_
        refine m_getr (1000) 1 (1001) hx hb hts hown hE oc10 hM hJ.1 rfl (by decide) rfl (hJ.2 1 (by decide)).2 (by decide) tb_1178 dX10_count_100 ?_
        refine lv_bipush (v := (8)) hx hb dX10_count_103 (by decide) ?_
        refine m_iald (1001) hx hb hE hM (hJ.2 1 (by decide)).1 rfl (vp_in_iff.mpr (by decide)) dX10_count_105 ?_
        rw [show (8 : Int32).toNatClampNeg = 8 from rfl]
        have g10 := hI.get (1001) 8 (lo := 0) (hi := 24) rfl
        refine lv_goto (tgt := 110) hx hb dX10_count_106 (by decide) ?_
        exact m_iret hx hb hr hlocks hM hS (Nat.le_of_ble_eq_true rfl) (Nat.le_of_ble_eq_true rfl) ⟨rfl, trivial⟩ dX10_count_110
    · refine lv_tableIn (off := 110) (tgt := 111) hx hb dX10_count_1 (by omega) (by omega) (by rw [qc1]; rfl) (by decide) ?_
      refine lv_aload_n hx hb dX10_count_111 rfl (lv_at hl 0 rfl) ?_
      refine m_calli (m_runV (1000) (As := []) (rest := []) hx hb hml hown hts hE hM hS hA ce_X10_isTown tb_1441 (V_X10_isTown l D A ad ns I L G hJ hI) rfl rfl ⟨Nat.le_of_ble_eq_true rfl, Nat.le_of_ble_eq_true rfl⟩ hJ.1 rfl rfl (by decide) rfl hl.1 rfl (Nat.le_of_ble_eq_true rfl) dX10_count_112 ⟨Nat.le_of_ble_eq_true rfl, Nat.le_of_ble_eq_true rfl⟩) hS (fun r11 u H locs hw hM hS => ?_)
      obtain ⟨rfl, xr11⟩ := hw
      have hM : Mem D A ad ns I L G H := hM
      have yr11 := bo01 xr11
      refine lv_if_eq (tgt := 128) hx hb dX10_count_115 (by decide) (fun c12 => ?_) (fun c12 => ?_)
      · have hc12 := c12
        have q12 := xr11.f hc12
        refine lv_iconst (v := (-1)) hx hb dX10_count_128 (by decide) ?_
        exact m_iret hx hb hr hlocks hM hS (Nat.le_of_ble_eq_true rfl) (Nat.le_of_ble_eq_true rfl) ⟨rfl, trivial⟩ dX10_count_129
      · have hc12 := c12
        have q12 := xr11.t hc12
        refine lv_aload_n hx hb dX10_count_118 rfl (lv_at hl 0 rfl) ?_
        refine m_getr (1000) 1 (1001) hx hb hts hown hE oc10 hM hJ.1 rfl (by decide) rfl (hJ.2 1 (by decide)).2 (by decide) tb_1178 dX10_count_119 ?_
        refine lv_bipush (v := (9)) hx hb dX10_count_122 (by decide) ?_
        refine m_iald (1001) hx hb hE hM (hJ.2 1 (by decide)).1 rfl (vp_in_iff.mpr (by decide)) dX10_count_124 ?_
        rw [show (9 : Int32).toNatClampNeg = 9 from rfl]
        have g13 := hI.get (1001) 9 (lo := 0) (hi := 8) rfl
        refine lv_goto (tgt := 129) hx hb dX10_count_125 (by decide) ?_
        exact m_iret hx hb hr hlocks hM hS (Nat.le_of_ble_eq_true rfl) (Nat.le_of_ble_eq_true rfl) ⟨rfl, trivial⟩ dX10_count_129
    · refine lv_tableIn (off := 129) (tgt := 130) hx hb dX10_count_1 (by omega) (by omega) (by rw [qc1]; rfl) (by decide) ?_
      refine lv_aload_n hx hb dX10_count_130 rfl (lv_at hl 0 rfl) ?_
      refine m_calli (m_runV (1000) (As := []) (rest := []) hx hb hml hown hts hE hM hS hA ce_X10_isTown tb_1441 (V_X10_isTown l D A ad ns I L G hJ hI) rfl rfl ⟨Nat.le_of_ble_eq_true rfl, Nat.le_of_ble_eq_true rfl⟩ hJ.1 rfl rfl (by decide) rfl hl.1 rfl (Nat.le_of_ble_eq_true rfl) dX10_count_131 ⟨Nat.le_of_ble_eq_true rfl, Nat.le_of_ble_eq_true rfl⟩) hS (fun r14 u H locs hw hM hS => ?_)
      obtain ⟨rfl, xr14⟩ := hw
      have hM : Mem D A ad ns I L G H := hM
      have yr14 := bo01 xr14
      refine lv_if_eq (tgt := 146) hx hb dX10_count_134 (by decide) (fun c15 => ?_) (fun c15 => ?_)
      · have hc15 := c15
        have q15 := xr14.f hc15
        refine lv_iconst (v := (-1)) hx hb dX10_count_146 (by decide) ?_
        exact m_iret hx hb hr hlocks hM hS (Nat.le_of_ble_eq_true rfl) (Nat.le_of_ble_eq_true rfl) ⟨rfl, trivial⟩ dX10_count_147
      · have hc15 := c15
        have q15 := xr14.t hc15
        refine lv_aload_n hx hb dX10_count_137 rfl (lv_at hl 0 rfl) ?_
        refine m_getr (1000) 1 (1001) hx hb hts hown hE oc10 hM hJ.1 rfl (by decide) rfl (hJ.2 1 (by decide)).2 (by decide) tb_1178 dX10_count_138 ?_
        refine lv_iconst (v := (5)) hx hb dX10_count_141 (by decide) ?_
        refine m_iald (1001) hx hb hE hM (hJ.2 1 (by decide)).1 rfl (vp_in_iff.mpr (by decide)) dX10_count_142 ?_
        rw [show (5 : Int32).toNatClampNeg = 5 from rfl]
        have g16 := hI.get (1001) 5 (lo := 0) (hi := 11) rfl
        refine lv_goto (tgt := 147) hx hb dX10_count_143 (by decide) ?_
        exact m_iret hx hb hr hlocks hM hS (Nat.le_of_ble_eq_true rfl) (Nat.le_of_ble_eq_true rfl) ⟨rfl, trivial⟩ dX10_count_147
    · refine lv_tableIn (off := 147) (tgt := 148) hx hb dX10_count_1 (by omega) (by omega) (by rw [qc1]; rfl) (by decide) ?_
      refine lv_aload_n hx hb dX10_count_148 rfl (lv_at hl 0 rfl) ?_
      refine m_calli (m_runV (1000) (As := []) (rest := []) hx hb hml hown hts hE hM hS hA ce_X10_isTown tb_1441 (V_X10_isTown l D A ad ns I L G hJ hI) rfl rfl ⟨Nat.le_of_ble_eq_true rfl, Nat.le_of_ble_eq_true rfl⟩ hJ.1 rfl rfl (by decide) rfl hl.1 rfl (Nat.le_of_ble_eq_true rfl) dX10_count_149 ⟨Nat.le_of_ble_eq_true rfl, Nat.le_of_ble_eq_true rfl⟩) hS (fun r17 u H locs hw hM hS => ?_)
      obtain ⟨rfl, xr17⟩ := hw
      have hM : Mem D A ad ns I L G H := hM
      have yr17 := bo01 xr17
      refine lv_if_eq (tgt := 165) hx hb dX10_count_152 (by decide) (fun c18 => ?_) (fun c18 => ?_)
      · have hc18 := c18
        have q18 := xr17.f hc18
        refine lv_iconst (v := (-1)) hx hb dX10_count_165 (by decide) ?_
        exact m_iret hx hb hr hlocks hM hS (Nat.le_of_ble_eq_true rfl) (Nat.le_of_ble_eq_true rfl) ⟨rfl, trivial⟩ dX10_count_166
      · have hc18 := c18
        have q18 := xr17.t hc18
        refine lv_aload_n hx hb dX10_count_155 rfl (lv_at hl 0 rfl) ?_
        refine m_getr (1000) 1 (1001) hx hb hts hown hE oc10 hM hJ.1 rfl (by decide) rfl (hJ.2 1 (by decide)).2 (by decide) tb_1178 dX10_count_156 ?_
        refine lv_bipush (v := (6)) hx hb dX10_count_159 (by decide) ?_
        refine m_iald (1001) hx hb hE hM (hJ.2 1 (by decide)).1 rfl (vp_in_iff.mpr (by decide)) dX10_count_161 ?_
        rw [show (6 : Int32).toNatClampNeg = 6 from rfl]
        refine lv_goto (tgt := 166) hx hb dX10_count_162 (by decide) ?_
        exact m_iret hx hb hr hlocks hM hS (Nat.le_of_ble_eq_true rfl) (Nat.le_of_ble_eq_true rfl) ⟨rfl, trivial⟩ dX10_count_166
    · refine lv_tableIn (off := 166) (tgt := 167) hx hb dX10_count_1 (by omega) (by omega) (by rw [qc1]; rfl) (by decide) ?_
      refine lv_aload_n hx hb dX10_count_167 rfl (lv_at hl 0 rfl) ?_
      refine m_calli (m_runV (1000) (As := []) (rest := []) hx hb hml hown hts hE hM hS hA ce_X10_isTown tb_1441 (V_X10_isTown l D A ad ns I L G hJ hI) rfl rfl ⟨Nat.le_of_ble_eq_true rfl, Nat.le_of_ble_eq_true rfl⟩ hJ.1 rfl rfl (by decide) rfl hl.1 rfl (Nat.le_of_ble_eq_true rfl) dX10_count_168 ⟨Nat.le_of_ble_eq_true rfl, Nat.le_of_ble_eq_true rfl⟩) hS (fun r19 u H locs hw hM hS => ?_)
      obtain ⟨rfl, xr19⟩ := hw
      have hM : Mem D A ad ns I L G H := hM
      have yr19 := bo01 xr19
      refine lv_if_eq (tgt := 181) hx hb dX10_count_171 (by decide) (fun c20 => ?_) (fun c20 => ?_)
      · have hc20 := c20
        have q20 := xr19.f hc20
        refine lv_iconst (v := (-1)) hx hb dX10_count_181 (by decide) ?_
        exact m_iret hx hb hr hlocks hM hS (Nat.le_of_ble_eq_true rfl) (Nat.le_of_ble_eq_true rfl) ⟨rfl, trivial⟩ dX10_count_182
      · have hc20 := c20
        have q20 := xr19.t hc20
        refine lv_aload_n hx hb dX10_count_174 rfl (lv_at hl 0 rfl) ?_
        refine m_calli (m_runV (1000) (As := []) (rest := []) hx hb hml hown hts hE hM hS hA ce_X10_met tb_1674 (V_X10_met l D A ad ns I L G hJ hI) rfl rfl ⟨Nat.le_of_ble_eq_true rfl, Nat.le_of_ble_eq_true rfl⟩ hJ.1 rfl rfl (by decide) rfl hl.1 rfl (Nat.le_of_ble_eq_true rfl) dX10_count_175 ⟨Nat.le_of_ble_eq_true rfl, Nat.le_of_ble_eq_true rfl⟩) hS (fun r21 u H locs hw hM hS => ?_)
        obtain ⟨rfl, xr21⟩ := hw
        have hM : Mem D A ad ns I L G H := hM
        refine lv_goto (tgt := 182) hx hb dX10_count_178 (by decide) ?_
        exact m_iret hx hb hr hlocks hM hS (Nat.le_of_ble_eq_true rfl) (Nat.le_of_ble_eq_true rfl) ⟨rfl, trivial⟩ dX10_count_182
    · refine lv_tableIn (off := 182) (tgt := 183) hx hb dX10_count_1 (by omega) (by omega) (by rw [qc1]; rfl) (by decide) ?_
      refine lv_aload_n hx hb dX10_count_183 rfl (lv_at hl 0 rfl) ?_
      refine m_calli (m_runV (1000) (As := []) (rest := []) hx hb hml hown hts hE hM hS hA ce_X10_isTown tb_1441 (V_X10_isTown l D A ad ns I L G hJ hI) rfl rfl ⟨Nat.le_of_ble_eq_true rfl, Nat.le_of_ble_eq_true rfl⟩ hJ.1 rfl rfl (by decide) rfl hl.1 rfl (Nat.le_of_ble_eq_true rfl) dX10_count_184 ⟨Nat.le_of_ble_eq_true rfl, Nat.le_of_ble_eq_true rfl⟩) hS (fun r22 u H locs hw hM hS => ?_)
      obtain ⟨rfl, xr22⟩ := hw
      have hM : Mem D A ad ns I L G H := hM
      have yr22 := bo01 xr22
      refine lv_if_eq (tgt := 200) hx hb dX10_count_187 (by decide) (fun c23 => ?_) (fun c23 => ?_)
      · have hc23 := c23
        have q23 := xr22.f hc23
        refine lv_iconst (v := (-1)) hx hb dX10_count_200 (by decide) ?_
        exact m_iret hx hb hr hlocks hM hS (Nat.le_of_ble_eq_true rfl) (Nat.le_of_ble_eq_true rfl) ⟨rfl, trivial⟩ dX10_count_201
      · have hc23 := c23
        have q23 := xr22.t hc23
        refine lv_aload_n hx hb dX10_count_190 rfl (lv_at hl 0 rfl) ?_
        refine m_getr (1000) 1 (1001) hx hb hts hown hE oc10 hM hJ.1 rfl (by decide) rfl (hJ.2 1 (by decide)).2 (by decide) tb_1178 dX10_count_191 ?_
        refine lv_bipush (v := (7)) hx hb dX10_count_194 (by decide) ?_
        refine m_iald (1001) hx hb hE hM (hJ.2 1 (by decide)).1 rfl (vp_in_iff.mpr (by decide)) dX10_count_196 ?_
        rw [show (7 : Int32).toNatClampNeg = 7 from rfl]
        refine lv_goto (tgt := 201) hx hb dX10_count_197 (by decide) ?_
        exact m_iret hx hb hr hlocks hM hS (Nat.le_of_ble_eq_true rfl) (Nat.le_of_ble_eq_true rfl) ⟨rfl, trivial⟩ dX10_count_201
    · refine lv_tableIn (off := 201) (tgt := 202) hx hb dX10_count_1 (by omega) (by omega) (by rw [qc1]; rfl) (by decide) ?_
      refine lv_aload_n hx hb dX10_count_202 rfl (lv_at hl 0 rfl) ?_
      refine m_geti (1000) 28 hx hb hts hown hE oc10 hM hJ.1 rfl (by decide) rfl tb_1205 dX10_count_203 ?_
      have g24 := hI.get (1000) 28 (lo := 0) (hi := 6) rfl
      exact m_iret hx hb hr hlocks hM hS (Nat.le_of_ble_eq_true rfl) (Nat.le_of_ble_eq_true rfl) ⟨rfl, trivial⟩ dX10_count_206
    · refine lv_tableIn (off := 206) (tgt := 207) hx hb dX10_count_1 (by omega) (by omega) (by rw [qc1]; rfl) (by decide) ?_
      refine lv_aload_n hx hb dX10_count_207 rfl (lv_at hl 0 rfl) ?_
      refine m_geti (1000) 24 hx hb hts hown hE oc10 hM hJ.1 rfl (by decide) rfl tb_1201 dX10_count_208 ?_
      have g25 := hI.get (1000) 24 (lo := 0) (hi := 400) rfl
      exact m_iret hx hb hr hlocks hM hS (Nat.le_of_ble_eq_true rfl) (Nat.le_of_ble_eq_true rfl) ⟨rfl, trivial⟩ dX10_count_211
theorem dX10_copy_0 : decode cX10_copy 0 = .ok (.iconst 0, 1) := by decide +kernel
theorem dX10_copy_1 : decode cX10_copy 1 = .ok (.istore_n 2, 1) := by decide +kernel
theorem dX10_copy_2 : decode cX10_copy 2 = .ok (.iload_n 2, 1) := by decide +kernel
theorem dX10_copy_3 : decode cX10_copy 3 = .ok (.aload_n 1, 1) := by decide +kernel
theorem dX10_copy_4 : decode cX10_copy 4 = .ok (.arraylength, 1) := by decide +kernel
theorem dX10_copy_5 : decode cX10_copy 5 = .ok (.if_icmp .ge 15, 3) := by decide +kernel
theorem dX10_copy_8 : decode cX10_copy 8 = .ok (.aload_n 1, 1) := by decide +kernel
theorem dX10_copy_9 : decode cX10_copy 9 = .ok (.iload_n 2, 1) := by decide +kernel
theorem dX10_copy_10 : decode cX10_copy 10 = .ok (.aload_n 0, 1) := by decide +kernel
theorem dX10_copy_11 : decode cX10_copy 11 = .ok (.iload_n 2, 1) := by decide +kernel
theorem dX10_copy_12 : decode cX10_copy 12 = .ok (.iaload, 1) := by decide +kernel
theorem dX10_copy_13 : decode cX10_copy 13 = .ok (.iastore, 1) := by decide +kernel
theorem dX10_copy_14 : decode cX10_copy 14 = .ok (.iinc 2 1, 3) := by decide +kernel
theorem dX10_copy_17 : decode cX10_copy 17 = .ok (.goto (-15), 3) := by decide +kernel
theorem dX10_copy_20 : decode cX10_copy 20 = .ok (.return_, 1) := by decide +kernel
theorem ce_X10_copy : CeS yX10_copy cX10_copy 3 none 2 := ⟨tb_1724, tb_11, tb_1725, by decide, by decide, by decide +kernel⟩
set_option maxHeartbeats 4000000 in
set_option maxRecDepth 20000 in
theorem V_X10_copy_1050_1066 (l : Launch) (D : va_G) (A : Nat → Prop) (ad : Nat → Nat) (ns : List Nat) (I : MI) (L : ML) (G : MG) (hJ : SGM ns G) (hI : INV I) : Met l yX10_copy (wd yX10_copy cX10_copy 3 none) ({ frames := 0, cells := 0, slots := 0, locals := 0 }) (va_Pc [.ref (ad (1050)), .ref (ad (1066))] (PM D A ad ns I L G)) (va_Qv (fun u => ∃ I2 L2, u = (ad, ns, I2, L2, G) ∧ INV I2 ∧ Kp [(1066, 1067)] [] I I2) (BM D A) A) 0 0 A := by
  refine m_ofW (by decide) (Nat.le_of_ble_eq_true rfl) ?_
  intro p e s m below meth c ls args hC hE hM hA hS hl
  obtain ⟨hx, hb, hml, hown, hts, hr, hlocks, hin⟩ := hC
  have k0 : (0 : Int32).toInt = 0 := by decide
  have k8 : (8 : Int32).toInt = 8 := by decide
  have hK : Kp [(1066, 1067)] [] I I := Kp.rf
  have hl : lv_has ls 3 [(0, .ref (ad (1050))), (1, .ref (ad (1066)))] := hl
  refine lv_iconst (v := (0)) hx hb dX10_copy_0 (by decide) ?_
  refine lv_istore_n (lv' := [(2, .int (0)), (0, .ref (ad (1050))), (1, .ref (ad (1066)))]) hx hb dX10_copy_1 rfl hl (by decide) rfl (fun ls hl => ?_)
  have loop2 : ∀ (n : Nat) (x2_2 : Int32) (Ia2 : MI) (La2 : ML) (H : Heap) (locs : List Loc) (ls : Array Slot), INV Ia2 → Kp [(1066, 1067)] [] I Ia2 → (0 ≤ x2_2.toInt ∧ x2_2.toInt ≤ 8) → (8 - x2_2.toInt).toNat < n → Mem D A ad ns Ia2 La2 G H → va_S A s.heap H locs → lv_has ls 3 [(2, .int (x2_2)), (0, .ref (ad (1050))), (1, .ref (ad (1066)))] → W p l e ({ frames := 0, cells := 0, slots := 0, locals := 0 } : Room) s m args below meth c H locs 0 0 (MQ below (va_Qv (fun u => ∃ I2 L2, u = (ad, ns, I2, L2, G) ∧ INV I2 ∧ Kp [(1066, 1067)] [] I I2) (BM D A) A) args s 0 0 A) (F0 m 2 ls []) := by
    intro n
    induction n with
    | zero =>
      intro x2_2 Ia2 La2 H locs ls hI hK hr2_2 hmu
      exact absurd hmu (Nat.not_lt_zero _)
    | succ n ih2 =>
      intro x2_2 Ia2 La2 H locs ls hI hK hr2_2 hmu2 hM hS hl
      refine lv_iload_n hx hb dX10_copy_2 rfl (lv_at hl 0 rfl) ?_
      refine lv_aload_n hx hb dX10_copy_3 rfl (lv_at hl 2 rfl) ?_
      refine m_alen 1066 (t0 := 0) (v := 8) hx hb hE hM (hJ.2 66 (by decide)).1 rfl (by decide) rfl rfl dX10_copy_4 ?_
      refine lv_icmp_ge (tgt := 20) hx hb dX10_copy_5 (by decide) (fun c1 => ?_) (fun c1 => ?_)
      · have hc1 := c1
        have q1 := q_le hc1
        exact m_vret hx hb hr hlocks hM hS (Nat.le_of_ble_eq_true rfl) (Nat.le_of_ble_eq_true rfl) ⟨_, _, rfl, hI, hK⟩ dX10_copy_20
      · have hc1 := c1
        have q1 := q_nle hc1
        refine lv_aload_n hx hb dX10_copy_8 rfl (lv_at hl 2 rfl) ?_
        refine lv_iload_n hx hb dX10_copy_9 rfl (lv_at hl 0 rfl) ?_
        refine lv_aload_n hx hb dX10_copy_10 rfl (lv_at hl 1 rfl) ?_
        refine lv_iload_n hx hb dX10_copy_11 rfl (lv_at hl 0 rfl) ?_
        refine m_iald (1050) hx hb hE hM (hJ.2 50 (by decide)).1 rfl (vp_in_iff.mpr (by omega)) dX10_copy_12 ?_
        refine m_iast (1066) hx hb hE hM hS (hJ.2 66 (by decide)).1 rfl (vp_in_iff.mpr (by omega)) dX10_copy_13 (fun H locs I2 eI2 hM hS => ?_)
        subst eI2
        have hI := hI.putF (n := 1066) (k := ((x2_2).toNatClampNeg)) (v := Ia2 (1050) (x2_2).toNatClampNeg) rfl
        have hK := hK.put (n := 1066) (k := ((x2_2).toNatClampNeg)) (v := Ia2 (1050) (x2_2).toNatClampNeg) (by first | rfl | simp [inR])
        obtain ⟨v3, ev3⟩ : ∃ z : Int32, z = x2_2 + Int32.ofInt (1) := ⟨_, rfl⟩
        have tv3 := a_inc ev3 (by decide) (by omega) (by omega)
        refine lv_iinc (v := v3) (lv' := [(2, .int (v3)), (0, .ref (ad (1050))), (1, .ref (ad (1066)))]) hx hb dX10_copy_14 hl (k := 0) rfl ev3.symm (by decide) rfl (fun ls hl => ?_)
        refine lv_goto (tgt := 2) hx hb dX10_copy_17 (by decide) ?_
        exact ih2 (v3) (u2 Ia2 (1066) ((x2_2).toNatClampNeg) (Ia2 (1050) (x2_2).toNatClampNeg)) La2 _ _ ls hI hK (by first | omega | decide) (by omega) hM hS (lv_sub hl [0, 1, 2] rfl)
  exact loop2 (_ + 1) (0) I L _ _ ls hI hK (by first | omega | decide) (Nat.lt_succ_self _) hM hS (lv_sub hl [0, 1, 2] rfl)
set_option maxHeartbeats 4000000 in
set_option maxRecDepth 20000 in
theorem V_X10_copy_1009_1067 (l : Launch) (D : va_G) (A : Nat → Prop) (ad : Nat → Nat) (ns : List Nat) (I : MI) (L : ML) (G : MG) (hJ : SGM ns G) (hI : INV I) : Met l yX10_copy (wd yX10_copy cX10_copy 3 none) ({ frames := 0, cells := 0, slots := 0, locals := 0 }) (va_Pc [.ref (ad (1009)), .ref (ad (1067))] (PM D A ad ns I L G)) (va_Qv (fun u => ∃ I2 L2, u = (ad, ns, I2, L2, G) ∧ INV I2 ∧ Kp [(1067, 1068)] [] I I2) (BM D A) A) 0 0 A := by
  refine m_ofW (by decide) (Nat.le_of_ble_eq_true rfl) ?_
  intro p e s m below meth c ls args hC hE hM hA hS hl
  obtain ⟨hx, hb, hml, hown, hts, hr, hlocks, hin⟩ := hC
  have k0 : (0 : Int32).toInt = 0 := by decide
  have k24 : (24 : Int32).toInt = 24 := by decide
  have hK : Kp [(1067, 1068)] [] I I := Kp.rf
  have hl : lv_has ls 3 [(0, .ref (ad (1009))), (1, .ref (ad (1067)))] := hl
  refine lv_iconst (v := (0)) hx hb dX10_copy_0 (by decide) ?_
  refine lv_istore_n (lv' := [(2, .int (0)), (0, .ref (ad (1009))), (1, .ref (ad (1067)))]) hx hb dX10_copy_1 rfl hl (by decide) rfl (fun ls hl => ?_)
  have loop2 : ∀ (n : Nat) (x2_2 : Int32) (Ia2 : MI) (La2 : ML) (H : Heap) (locs : List Loc) (ls : Array Slot), INV Ia2 → Kp [(1067, 1068)] [] I Ia2 → (0 ≤ x2_2.toInt ∧ x2_2.toInt ≤ 24) → (24 - x2_2.toInt).toNat < n → Mem D A ad ns Ia2 La2 G H → va_S A s.heap H locs → lv_has ls 3 [(2, .int (x2_2)), (0, .ref (ad (1009))), (1, .ref (ad (1067)))] → W p l e ({ frames := 0, cells := 0, slots := 0, locals := 0 } : Room) s m args below meth c H locs 0 0 (MQ below (va_Qv (fun u => ∃ I2 L2, u = (ad, ns, I2, L2, G) ∧ INV I2 ∧ Kp [(1067, 1068)] [] I I2) (BM D A) A) args s 0 0 A) (F0 m 2 ls []) := by
    intro n
    induction n with
    | zero =>
      intro x2_2 Ia2 La2 H locs ls hI hK hr2_2 hmu
      exact absurd hmu (Nat.not_lt_zero _)
    | succ n ih2 =>
      intro x2_2 Ia2 La2 H locs ls hI hK hr2_2 hmu2 hM hS hl
      refine lv_iload_n hx hb dX10_copy_2 rfl (lv_at hl 0 rfl) ?_
      refine lv_aload_n hx hb dX10_copy_3 rfl (lv_at hl 2 rfl) ?_
      refine m_alen 1067 (t0 := 0) (v := 24) hx hb hE hM (hJ.2 67 (by decide)).1 rfl (by decide) rfl rfl dX10_copy_4 ?_
      refine lv_icmp_ge (tgt := 20) hx hb dX10_copy_5 (by decide) (fun c1 => ?_) (fun c1 => ?_)
      · have hc1 := c1
        have q1 := q_le hc1
        exact m_vret hx hb hr hlocks hM hS (Nat.le_of_ble_eq_true rfl) (Nat.le_of_ble_eq_true rfl) ⟨_, _, rfl, hI, hK⟩ dX10_copy_20
      · have hc1 := c1
        have q1 := q_nle hc1
        refine lv_aload_n hx hb dX10_copy_8 rfl (lv_at hl 2 rfl) ?_
        refine lv_iload_n hx hb dX10_copy_9 rfl (lv_at hl 0 rfl) ?_
        refine lv_aload_n hx hb dX10_copy_10 rfl (lv_at hl 1 rfl) ?_
        refine lv_iload_n hx hb dX10_copy_11 rfl (lv_at hl 0 rfl) ?_
        refine m_iald (1009) hx hb hE hM (hJ.2 9 (by decide)).1 rfl (vp_in_iff.mpr (by omega)) dX10_copy_12 ?_
        refine m_iast (1067) hx hb hE hM hS (hJ.2 67 (by decide)).1 rfl (vp_in_iff.mpr (by omega)) dX10_copy_13 (fun H locs I2 eI2 hM hS => ?_)
        subst eI2
        have hI := hI.putF (n := 1067) (k := ((x2_2).toNatClampNeg)) (v := Ia2 (1009) (x2_2).toNatClampNeg) rfl
        have hK := hK.put (n := 1067) (k := ((x2_2).toNatClampNeg)) (v := Ia2 (1009) (x2_2).toNatClampNeg) (by first | rfl | simp [inR])
        obtain ⟨v3, ev3⟩ : ∃ z : Int32, z = x2_2 + Int32.ofInt (1) := ⟨_, rfl⟩
        have tv3 := a_inc ev3 (by decide) (by omega) (by omega)
        refine lv_iinc (v := v3) (lv' := [(2, .int (v3)), (0, .ref (ad (1009))), (1, .ref (ad (1067)))]) hx hb dX10_copy_14 hl (k := 0) rfl ev3.symm (by decide) rfl (fun ls hl => ?_)
        refine lv_goto (tgt := 2) hx hb dX10_copy_17 (by decide) ?_
        exact ih2 (v3) (u2 Ia2 (1067) ((x2_2).toNatClampNeg) (Ia2 (1009) (x2_2).toNatClampNeg)) La2 _ _ ls hI hK (by first | omega | decide) (by omega) hM hS (lv_sub hl [0, 1, 2] rfl)
  exact loop2 (_ + 1) (0) I L _ _ ls hI hK (by first | omega | decide) (Nat.lt_succ_self _) hM hS (lv_sub hl [0, 1, 2] rfl)
set_option maxHeartbeats 4000000 in
set_option maxRecDepth 20000 in
theorem V_X10_copy_1067_1009 (l : Launch) (D : va_G) (A : Nat → Prop) (ad : Nat → Nat) (ns : List Nat) (I : MI) (L : ML) (G : MG) (hJ : SGM ns G) (hI : INV I) : Met l yX10_copy (wd yX10_copy cX10_copy 3 none) ({ frames := 0, cells := 0, slots := 0, locals := 0 }) (va_Pc [.ref (ad (1067)), .ref (ad (1009))] (PM D A ad ns I L G)) (va_Qv (fun u => ∃ I2 L2, u = (ad, ns, I2, L2, G) ∧ INV I2 ∧ Kp [(1009, 1010)] [] I I2) (BM D A) A) 0 0 A := by
  refine m_ofW (by decide) (Nat.le_of_ble_eq_true rfl) ?_
  intro p e s m below meth c ls args hC hE hM hA hS hl
  obtain ⟨hx, hb, hml, hown, hts, hr, hlocks, hin⟩ := hC
  have k0 : (0 : Int32).toInt = 0 := by decide
  have k24 : (24 : Int32).toInt = 24 := by decide
  have hK : Kp [(1009, 1010)] [] I I := Kp.rf
  have hl : lv_has ls 3 [(0, .ref (ad (1067))), (1, .ref (ad (1009)))] := hl
  refine lv_iconst (v := (0)) hx hb dX10_copy_0 (by decide) ?_
  refine lv_istore_n (lv' := [(2, .int (0)), (0, .ref (ad (1067))), (1, .ref (ad (1009)))]) hx hb dX10_copy_1 rfl hl (by decide) rfl (fun ls hl => ?_)
  have loop2 : ∀ (n : Nat) (x2_2 : Int32) (Ia2 : MI) (La2 : ML) (H : Heap) (locs : List Loc) (ls : Array Slot), INV Ia2 → Kp [(1009, 1010)] [] I Ia2 → (0 ≤ x2_2.toInt ∧ x2_2.toInt ≤ 24) → (24 - x2_2.toInt).toNat < n → Mem D A ad ns Ia2 La2 G H → va_S A s.heap H locs → lv_has ls 3 [(2, .int (x2_2)), (0, .ref (ad (1067))), (1, .ref (ad (1009)))] → W p l e ({ frames := 0, cells := 0, slots := 0, locals := 0 } : Room) s m args below meth c H locs 0 0 (MQ below (va_Qv (fun u => ∃ I2 L2, u = (ad, ns, I2, L2, G) ∧ INV I2 ∧ Kp [(1009, 1010)] [] I I2) (BM D A) A) args s 0 0 A) (F0 m 2 ls []) := by
    intro n
    induction n with
    | zero =>
      intro x2_2 Ia2 La2 H locs ls hI hK hr2_2 hmu
      exact absurd hmu (Nat.not_lt_zero _)
    | succ n ih2 =>
      intro x2_2 Ia2 La2 H locs ls hI hK hr2_2 hmu2 hM hS hl
      refine lv_iload_n hx hb dX10_copy_2 rfl (lv_at hl 0 rfl) ?_
      refine lv_aload_n hx hb dX10_copy_3 rfl (lv_at hl 2 rfl) ?_
      refine m_alen 1009 (t0 := 0) (v := 24) hx hb hE hM (hJ.2 9 (by decide)).1 rfl (by decide) rfl rfl dX10_copy_4 ?_
      refine lv_icmp_ge (tgt := 20) hx hb dX10_copy_5 (by decide) (fun c1 => ?_) (fun c1 => ?_)
      · have hc1 := c1
        have q1 := q_le hc1
        exact m_vret hx hb hr hlocks hM hS (Nat.le_of_ble_eq_true rfl) (Nat.le_of_ble_eq_true rfl) ⟨_, _, rfl, hI, hK⟩ dX10_copy_20
      · have hc1 := c1
        have q1 := q_nle hc1
        refine lv_aload_n hx hb dX10_copy_8 rfl (lv_at hl 2 rfl) ?_
        refine lv_iload_n hx hb dX10_copy_9 rfl (lv_at hl 0 rfl) ?_
        refine lv_aload_n hx hb dX10_copy_10 rfl (lv_at hl 1 rfl) ?_
        refine lv_iload_n hx hb dX10_copy_11 rfl (lv_at hl 0 rfl) ?_
        refine m_iald (1067) hx hb hE hM (hJ.2 67 (by decide)).1 rfl (vp_in_iff.mpr (by omega)) dX10_copy_12 ?_
        refine m_iast (1009) hx hb hE hM hS (hJ.2 9 (by decide)).1 rfl (vp_in_iff.mpr (by omega)) dX10_copy_13 (fun H locs I2 eI2 hM hS => ?_)
        subst eI2
        have hI := hI.putF (n := 1009) (k := ((x2_2).toNatClampNeg)) (v := Ia2 (1067) (x2_2).toNatClampNeg) rfl
        have hK := hK.put (n := 1009) (k := ((x2_2).toNatClampNeg)) (v := Ia2 (1067) (x2_2).toNatClampNeg) (by first | rfl | simp [inR])
        obtain ⟨v3, ev3⟩ : ∃ z : Int32, z = x2_2 + Int32.ofInt (1) := ⟨_, rfl⟩
        have tv3 := a_inc ev3 (by decide) (by omega) (by omega)
        refine lv_iinc (v := v3) (lv' := [(2, .int (v3)), (0, .ref (ad (1067))), (1, .ref (ad (1009)))]) hx hb dX10_copy_14 hl (k := 0) rfl ev3.symm (by decide) rfl (fun ls hl => ?_)
        refine lv_goto (tgt := 2) hx hb dX10_copy_17 (by decide) ?_
        exact ih2 (v3) (u2 Ia2 (1009) ((x2_2).toNatClampNeg) (Ia2 (1067) (x2_2).toNatClampNeg)) La2 _ _ ls hI hK (by first | omega | decide) (by omega) hM hS (lv_sub hl [0, 1, 2] rfl)
  exact loop2 (_ + 1) (0) I L _ _ ls hI hK (by first | omega | decide) (Nat.lt_succ_self _) hM hS (lv_sub hl [0, 1, 2] rfl)
set_option maxHeartbeats 4000000 in
set_option maxRecDepth 20000 in
theorem V_X10_copy_1015_1068 (l : Launch) (D : va_G) (A : Nat → Prop) (ad : Nat → Nat) (ns : List Nat) (I : MI) (L : ML) (G : MG) (hJ : SGM ns G) (hI : INV I) : Met l yX10_copy (wd yX10_copy cX10_copy 3 none) ({ frames := 0, cells := 0, slots := 0, locals := 0 }) (va_Pc [.ref (ad (1015)), .ref (ad (1068))] (PM D A ad ns I L G)) (va_Qv (fun u => ∃ I2 L2, u = (ad, ns, I2, L2, G) ∧ INV I2 ∧ Kp [(1068, 1069)] [] I I2) (BM D A) A) 0 0 A := by
  refine m_ofW (by decide) (Nat.le_of_ble_eq_true rfl) ?_
  intro p e s m below meth c ls args hC hE hM hA hS hl
  obtain ⟨hx, hb, hml, hown, hts, hr, hlocks, hin⟩ := hC
  have k0 : (0 : Int32).toInt = 0 := by decide
  have k24 : (24 : Int32).toInt = 24 := by decide
  have hK : Kp [(1068, 1069)] [] I I := Kp.rf
  have hl : lv_has ls 3 [(0, .ref (ad (1015))), (1, .ref (ad (1068)))] := hl
  refine lv_iconst (v := (0)) hx hb dX10_copy_0 (by decide) ?_
  refine lv_istore_n (lv' := [(2, .int (0)), (0, .ref (ad (1015))), (1, .ref (ad (1068)))]) hx hb dX10_copy_1 rfl hl (by decide) rfl (fun ls hl => ?_)
  have loop2 : ∀ (n : Nat) (x2_2 : Int32) (Ia2 : MI) (La2 : ML) (H : Heap) (locs : List Loc) (ls : Array Slot), INV Ia2 → Kp [(1068, 1069)] [] I Ia2 → (0 ≤ x2_2.toInt ∧ x2_2.toInt ≤ 24) → (24 - x2_2.toInt).toNat < n → Mem D A ad ns Ia2 La2 G H → va_S A s.heap H locs → lv_has ls 3 [(2, .int (x2_2)), (0, .ref (ad (1015))), (1, .ref (ad (1068)))] → W p l e ({ frames := 0, cells := 0, slots := 0, locals := 0 } : Room) s m args below meth c H locs 0 0 (MQ below (va_Qv (fun u => ∃ I2 L2, u = (ad, ns, I2, L2, G) ∧ INV I2 ∧ Kp [(1068, 1069)] [] I I2) (BM D A) A) args s 0 0 A) (F0 m 2 ls []) := by
    intro n
    induction n with
    | zero =>
      intro x2_2 Ia2 La2 H locs ls hI hK hr2_2 hmu
      exact absurd hmu (Nat.not_lt_zero _)
    | succ n ih2 =>
      intro x2_2 Ia2 La2 H locs ls hI hK hr2_2 hmu2 hM hS hl
      refine lv_iload_n hx hb dX10_copy_2 rfl (lv_at hl 0 rfl) ?_
      refine lv_aload_n hx hb dX10_copy_3 rfl (lv_at hl 2 rfl) ?_
      refine m_alen 1068 (t0 := 0) (v := 24) hx hb hE hM (hJ.2 68 (by decide)).1 rfl (by decide) rfl rfl dX10_copy_4 ?_
      refine lv_icmp_ge (tgt := 20) hx hb dX10_copy_5 (by decide) (fun c1 => ?_) (fun c1 => ?_)
      · have hc1 := c1
        have q1 := q_le hc1
        exact m_vret hx hb hr hlocks hM hS (Nat.le_of_ble_eq_true rfl) (Nat.le_of_ble_eq_true rfl) ⟨_, _, rfl, hI, hK⟩ dX10_copy_20
      · have hc1 := c1
        have q1 := q_nle hc1
        refine lv_aload_n hx hb dX10_copy_8 rfl (lv_at hl 2 rfl) ?_
        refine lv_iload_n hx hb dX10_copy_9 rfl (lv_at hl 0 rfl) ?_
        refine lv_aload_n hx hb dX10_copy_10 rfl (lv_at hl 1 rfl) ?_
        refine lv_iload_n hx hb dX10_copy_11 rfl (lv_at hl 0 rfl) ?_
        refine m_iald (1015) hx hb hE hM (hJ.2 15 (by decide)).1 rfl (vp_in_iff.mpr (by omega)) dX10_copy_12 ?_
        refine m_iast (1068) hx hb hE hM hS (hJ.2 68 (by decide)).1 rfl (vp_in_iff.mpr (by omega)) dX10_copy_13 (fun H locs I2 eI2 hM hS => ?_)
        subst eI2
        have hI := hI.putF (n := 1068) (k := ((x2_2).toNatClampNeg)) (v := Ia2 (1015) (x2_2).toNatClampNeg) rfl
        have hK := hK.put (n := 1068) (k := ((x2_2).toNatClampNeg)) (v := Ia2 (1015) (x2_2).toNatClampNeg) (by first | rfl | simp [inR])
        obtain ⟨v3, ev3⟩ : ∃ z : Int32, z = x2_2 + Int32.ofInt (1) := ⟨_, rfl⟩
        have tv3 := a_inc ev3 (by decide) (by omega) (by omega)
        refine lv_iinc (v := v3) (lv' := [(2, .int (v3)), (0, .ref (ad (1015))), (1, .ref (ad (1068)))]) hx hb dX10_copy_14 hl (k := 0) rfl ev3.symm (by decide) rfl (fun ls hl => ?_)
        refine lv_goto (tgt := 2) hx hb dX10_copy_17 (by decide) ?_
        exact ih2 (v3) (u2 Ia2 (1068) ((x2_2).toNatClampNeg) (Ia2 (1015) (x2_2).toNatClampNeg)) La2 _ _ ls hI hK (by first | omega | decide) (by omega) hM hS (lv_sub hl [0, 1, 2] rfl)
  exact loop2 (_ + 1) (0) I L _ _ ls hI hK (by first | omega | decide) (Nat.lt_succ_self _) hM hS (lv_sub hl [0, 1, 2] rfl)
set_option maxHeartbeats 4000000 in
set_option maxRecDepth 20000 in
theorem V_X10_copy_1068_1015 (l : Launch) (D : va_G) (A : Nat → Prop) (ad : Nat → Nat) (ns : List Nat) (I : MI) (L : ML) (G : MG) (hJ : SGM ns G) (hI : INV I) : Met l yX10_copy (wd yX10_copy cX10_copy 3 none) ({ frames := 0, cells := 0, slots := 0, locals := 0 }) (va_Pc [.ref (ad (1068)), .ref (ad (1015))] (PM D A ad ns I L G)) (va_Qv (fun u => ∃ I2 L2, u = (ad, ns, I2, L2, G) ∧ INV I2 ∧ Kp [(1015, 1016)] [] I I2) (BM D A) A) 0 0 A := by
  refine m_ofW (by decide) (Nat.le_of_ble_eq_true rfl) ?_
  intro p e s m below meth c ls args hC hE hM hA hS hl
  obtain ⟨hx, hb, hml, hown, hts, hr, hlocks, hin⟩ := hC
  have k0 : (0 : Int32).toInt = 0 := by decide
  have k24 : (24 : Int32).toInt = 24 := by decide
  have hK : Kp [(1015, 1016)] [] I I := Kp.rf
  have hl : lv_has ls 3 [(0, .ref (ad (1068))), (1, .ref (ad (1015)))] := hl
  refine lv_iconst (v := (0)) hx hb dX10_copy_0 (by decide) ?_
  refine lv_istore_n (lv' := [(2, .int (0)), (0, .ref (ad (1068))), (1, .ref (ad (1015)))]) hx hb dX10_copy_1 rfl hl (by decide) rfl (fun ls hl => ?_)
  have loop2 : ∀ (n : Nat) (x2_2 : Int32) (Ia2 : MI) (La2 : ML) (H : Heap) (locs : List Loc) (ls : Array Slot), INV Ia2 → Kp [(1015, 1016)] [] I Ia2 → (0 ≤ x2_2.toInt ∧ x2_2.toInt ≤ 24) → (24 - x2_2.toInt).toNat < n → Mem D A ad ns Ia2 La2 G H → va_S A s.heap H locs → lv_has ls 3 [(2, .int (x2_2)), (0, .ref (ad (1068))), (1, .ref (ad (1015)))] → W p l e ({ frames := 0, cells := 0, slots := 0, locals := 0 } : Room) s m args below meth c H locs 0 0 (MQ below (va_Qv (fun u => ∃ I2 L2, u = (ad, ns, I2, L2, G) ∧ INV I2 ∧ Kp [(1015, 1016)] [] I I2) (BM D A) A) args s 0 0 A) (F0 m 2 ls []) := by
    intro n
    induction n with
    | zero =>
      intro x2_2 Ia2 La2 H locs ls hI hK hr2_2 hmu
      exact absurd hmu (Nat.not_lt_zero _)
    | succ n ih2 =>
      intro x2_2 Ia2 La2 H locs ls hI hK hr2_2 hmu2 hM hS hl
      refine lv_iload_n hx hb dX10_copy_2 rfl (lv_at hl 0 rfl) ?_
      refine lv_aload_n hx hb dX10_copy_3 rfl (lv_at hl 2 rfl) ?_
      refine m_alen 1015 (t0 := 0) (v := 24) hx hb hE hM (hJ.2 15 (by decide)).1 rfl (by decide) rfl rfl dX10_copy_4 ?_
      refine lv_icmp_ge (tgt := 20) hx hb dX10_copy_5 (by decide) (fun c1 => ?_) (fun c1 => ?_)
      · have hc1 := c1
        have q1 := q_le hc1
        exact m_vret hx hb hr hlocks hM hS (Nat.le_of_ble_eq_true rfl) (Nat.le_of_ble_eq_true rfl) ⟨_, _, rfl, hI, hK⟩ dX10_copy_20
      · have hc1 := c1
        have q1 := q_nle hc1
        refine lv_aload_n hx hb dX10_copy_8 rfl (lv_at hl 2 rfl) ?_
        refine lv_iload_n hx hb dX10_copy_9 rfl (lv_at hl 0 rfl) ?_
        refine lv_aload_n hx hb dX10_copy_10 rfl (lv_at hl 1 rfl) ?_
        refine lv_iload_n hx hb dX10_copy_11 rfl (lv_at hl 0 rfl) ?_
        refine m_iald (1068) hx hb hE hM (hJ.2 68 (by decide)).1 rfl (vp_in_iff.mpr (by omega)) dX10_copy_12 ?_
        refine m_iast (1015) hx hb hE hM hS (hJ.2 15 (by decide)).1 rfl (vp_in_iff.mpr (by omega)) dX10_copy_13 (fun H locs I2 eI2 hM hS => ?_)
        subst eI2
        have hI := hI.putF (n := 1015) (k := ((x2_2).toNatClampNeg)) (v := Ia2 (1068) (x2_2).toNatClampNeg) rfl
        have hK := hK.put (n := 1015) (k := ((x2_2).toNatClampNeg)) (v := Ia2 (1068) (x2_2).toNatClampNeg) (by first | rfl | simp [inR])
        obtain ⟨v3, ev3⟩ : ∃ z : Int32, z = x2_2 + Int32.ofInt (1) := ⟨_, rfl⟩
        have tv3 := a_inc ev3 (by decide) (by omega) (by omega)
        refine lv_iinc (v := v3) (lv' := [(2, .int (v3)), (0, .ref (ad (1068))), (1, .ref (ad (1015)))]) hx hb dX10_copy_14 hl (k := 0) rfl ev3.symm (by decide) rfl (fun ls hl => ?_)
        refine lv_goto (tgt := 2) hx hb dX10_copy_17 (by decide) ?_
        exact ih2 (v3) (u2 Ia2 (1015) ((x2_2).toNatClampNeg) (Ia2 (1068) (x2_2).toNatClampNeg)) La2 _ _ ls hI hK (by first | omega | decide) (by omega) hM hS (lv_sub hl [0, 1, 2] rfl)
  exact loop2 (_ + 1) (0) I L _ _ ls hI hK (by first | omega | decide) (Nat.lt_succ_self _) hM hS (lv_sub hl [0, 1, 2] rfl)
set_option maxHeartbeats 4000000 in
set_option maxRecDepth 20000 in
theorem V_X10_copy_1014_1069 (l : Launch) (D : va_G) (A : Nat → Prop) (ad : Nat → Nat) (ns : List Nat) (I : MI) (L : ML) (G : MG) (hJ : SGM ns G) (hI : INV I) : Met l yX10_copy (wd yX10_copy cX10_copy 3 none) ({ frames := 0, cells := 0, slots := 0, locals := 0 }) (va_Pc [.ref (ad (1014)), .ref (ad (1069))] (PM D A ad ns I L G)) (va_Qv (fun u => ∃ I2 L2, u = (ad, ns, I2, L2, G) ∧ INV I2 ∧ Kp [(1069, 1070)] [] I I2) (BM D A) A) 0 0 A := by
  refine m_ofW (by decide) (Nat.le_of_ble_eq_true rfl) ?_
  intro p e s m below meth c ls args hC hE hM hA hS hl
  obtain ⟨hx, hb, hml, hown, hts, hr, hlocks, hin⟩ := hC
  have k0 : (0 : Int32).toInt = 0 := by decide
  have k24 : (24 : Int32).toInt = 24 := by decide
  have hK : Kp [(1069, 1070)] [] I I := Kp.rf
  have hl : lv_has ls 3 [(0, .ref (ad (1014))), (1, .ref (ad (1069)))] := hl
  refine lv_iconst (v := (0)) hx hb dX10_copy_0 (by decide) ?_
  refine lv_istore_n (lv' := [(2, .int (0)), (0, .ref (ad (1014))), (1, .ref (ad (1069)))]) hx hb dX10_copy_1 rfl hl (by decide) rfl (fun ls hl => ?_)
  have loop2 : ∀ (n : Nat) (x2_2 : Int32) (Ia2 : MI) (La2 : ML) (H : Heap) (locs : List Loc) (ls : Array Slot), INV Ia2 → Kp [(1069, 1070)] [] I Ia2 → (0 ≤ x2_2.toInt ∧ x2_2.toInt ≤ 24) → (24 - x2_2.toInt).toNat < n → Mem D A ad ns Ia2 La2 G H → va_S A s.heap H locs → lv_has ls 3 [(2, .int (x2_2)), (0, .ref (ad (1014))), (1, .ref (ad (1069)))] → W p l e ({ frames := 0, cells := 0, slots := 0, locals := 0 } : Room) s m args below meth c H locs 0 0 (MQ below (va_Qv (fun u => ∃ I2 L2, u = (ad, ns, I2, L2, G) ∧ INV I2 ∧ Kp [(1069, 1070)] [] I I2) (BM D A) A) args s 0 0 A) (F0 m 2 ls []) := by
    intro n
    induction n with
    | zero =>
      intro x2_2 Ia2 La2 H locs ls hI hK hr2_2 hmu
      exact absurd hmu (Nat.not_lt_zero _)
    | succ n ih2 =>
      intro x2_2 Ia2 La2 H locs ls hI hK hr2_2 hmu2 hM hS hl
      refine lv_iload_n hx hb dX10_copy_2 rfl (lv_at hl 0 rfl) ?_
      refine lv_aload_n hx hb dX10_copy_3 rfl (lv_at hl 2 rfl) ?_
      refine m_alen 1069 (t0 := 0) (v := 24) hx hb hE hM (hJ.2 69 (by decide)).1 rfl (by decide) rfl rfl dX10_copy_4 ?_
      refine lv_icmp_ge (tgt := 20) hx hb dX10_copy_5 (by decide) (fun c1 => ?_) (fun c1 => ?_)
      · have hc1 := c1
        have q1 := q_le hc1
        exact m_vret hx hb hr hlocks hM hS (Nat.le_of_ble_eq_true rfl) (Nat.le_of_ble_eq_true rfl) ⟨_, _, rfl, hI, hK⟩ dX10_copy_20
      · have hc1 := c1
        have q1 := q_nle hc1
        refine lv_aload_n hx hb dX10_copy_8 rfl (lv_at hl 2 rfl) ?_
        refine lv_iload_n hx hb dX10_copy_9 rfl (lv_at hl 0 rfl) ?_
        refine lv_aload_n hx hb dX10_copy_10 rfl (lv_at hl 1 rfl) ?_
        refine lv_iload_n hx hb dX10_copy_11 rfl (lv_at hl 0 rfl) ?_
        refine m_iald (1014) hx hb hE hM (hJ.2 14 (by decide)).1 rfl (vp_in_iff.mpr (by omega)) dX10_copy_12 ?_
        refine m_iast (1069) hx hb hE hM hS (hJ.2 69 (by decide)).1 rfl (vp_in_iff.mpr (by omega)) dX10_copy_13 (fun H locs I2 eI2 hM hS => ?_)
        subst eI2
        have hI := hI.putF (n := 1069) (k := ((x2_2).toNatClampNeg)) (v := Ia2 (1014) (x2_2).toNatClampNeg) rfl
        have hK := hK.put (n := 1069) (k := ((x2_2).toNatClampNeg)) (v := Ia2 (1014) (x2_2).toNatClampNeg) (by first | rfl | simp [inR])
        obtain ⟨v3, ev3⟩ : ∃ z : Int32, z = x2_2 + Int32.ofInt (1) := ⟨_, rfl⟩
        have tv3 := a_inc ev3 (by decide) (by omega) (by omega)
        refine lv_iinc (v := v3) (lv' := [(2, .int (v3)), (0, .ref (ad (1014))), (1, .ref (ad (1069)))]) hx hb dX10_copy_14 hl (k := 0) rfl ev3.symm (by decide) rfl (fun ls hl => ?_)
        refine lv_goto (tgt := 2) hx hb dX10_copy_17 (by decide) ?_
        exact ih2 (v3) (u2 Ia2 (1069) ((x2_2).toNatClampNeg) (Ia2 (1014) (x2_2).toNatClampNeg)) La2 _ _ ls hI hK (by first | omega | decide) (by omega) hM hS (lv_sub hl [0, 1, 2] rfl)
  exact loop2 (_ + 1) (0) I L _ _ ls hI hK (by first | omega | decide) (Nat.lt_succ_self _) hM hS (lv_sub hl [0, 1, 2] rfl)
set_option maxHeartbeats 4000000 in
set_option maxRecDepth 20000 in
theorem V_X10_copy_1069_1014 (l : Launch) (D : va_G) (A : Nat → Prop) (ad : Nat → Nat) (ns : List Nat) (I : MI) (L : ML) (G : MG) (hJ : SGM ns G) (hI : INV I) : Met l yX10_copy (wd yX10_copy cX10_copy 3 none) ({ frames := 0, cells := 0, slots := 0, locals := 0 }) (va_Pc [.ref (ad (1069)), .ref (ad (1014))] (PM D A ad ns I L G)) (va_Qv (fun u => ∃ I2 L2, u = (ad, ns, I2, L2, G) ∧ INV I2 ∧ Kp [(1014, 1015)] [] I I2) (BM D A) A) 0 0 A := by
  refine m_ofW (by decide) (Nat.le_of_ble_eq_true rfl) ?_
  intro p e s m below meth c ls args hC hE hM hA hS hl
  obtain ⟨hx, hb, hml, hown, hts, hr, hlocks, hin⟩ := hC
  have k0 : (0 : Int32).toInt = 0 := by decide
  have k24 : (24 : Int32).toInt = 24 := by decide
  have hK : Kp [(1014, 1015)] [] I I := Kp.rf
  have hl : lv_has ls 3 [(0, .ref (ad (1069))), (1, .ref (ad (1014)))] := hl
  refine lv_iconst (v := (0)) hx hb dX10_copy_0 (by decide) ?_
  refine lv_istore_n (lv' := [(2, .int (0)), (0, .ref (ad (1069))), (1, .ref (ad (1014)))]) hx hb dX10_copy_1 rfl hl (by decide) rfl (fun ls hl => ?_)
  have loop2 : ∀ (n : Nat) (x2_2 : Int32) (Ia2 : MI) (La2 : ML) (H : Heap) (locs : List Loc) (ls : Array Slot), INV Ia2 → Kp [(1014, 1015)] [] I Ia2 → (0 ≤ x2_2.toInt ∧ x2_2.toInt ≤ 24) → (24 - x2_2.toInt).toNat < n → Mem D A ad ns Ia2 La2 G H → va_S A s.heap H locs → lv_has ls 3 [(2, .int (x2_2)), (0, .ref (ad (1069))), (1, .ref (ad (1014)))] → W p l e ({ frames := 0, cells := 0, slots := 0, locals := 0 } : Room) s m args below meth c H locs 0 0 (MQ below (va_Qv (fun u => ∃ I2 L2, u = (ad, ns, I2, L2, G) ∧ INV I2 ∧ Kp [(1014, 1015)] [] I I2) (BM D A) A) args s 0 0 A) (F0 m 2 ls []) := by
    intro n
    induction n with
    | zero =>
      intro x2_2 Ia2 La2 H locs ls hI hK hr2_2 hmu
      exact absurd hmu (Nat.not_lt_zero _)
    | succ n ih2 =>
      intro x2_2 Ia2 La2 H locs ls hI hK hr2_2 hmu2 hM hS hl
      refine lv_iload_n hx hb dX10_copy_2 rfl (lv_at hl 0 rfl) ?_
      refine lv_aload_n hx hb dX10_copy_3 rfl (lv_at hl 2 rfl) ?_
      refine m_alen 1014 (t0 := 0) (v := 24) hx hb hE hM (hJ.2 14 (by decide)).1 rfl (by decide) rfl rfl dX10_copy_4 ?_
      refine lv_icmp_ge (tgt := 20) hx hb dX10_copy_5 (by decide) (fun c1 => ?_) (fun c1 => ?_)
      · have hc1 := c1
        have q1 := q_le hc1
        exact m_vret hx hb hr hlocks hM hS (Nat.le_of_ble_eq_true rfl) (Nat.le_of_ble_eq_true rfl) ⟨_, _, rfl, hI, hK⟩ dX10_copy_20
      · have hc1 := c1
        have q1 := q_nle hc1
        refine lv_aload_n hx hb dX10_copy_8 rfl (lv_at hl 2 rfl) ?_
        refine lv_iload_n hx hb dX10_copy_9 rfl (lv_at hl 0 rfl) ?_
        refine lv_aload_n hx hb dX10_copy_10 rfl (lv_at hl 1 rfl) ?_
        refine lv_iload_n hx hb dX10_copy_11 rfl (lv_at hl 0 rfl) ?_
        refine m_iald (1069) hx hb hE hM (hJ.2 69 (by decide)).1 rfl (vp_in_iff.mpr (by omega)) dX10_copy_12 ?_
        refine m_iast (1014) hx hb hE hM hS (hJ.2 14 (by decide)).1 rfl (vp_in_iff.mpr (by omega)) dX10_copy_13 (fun H locs I2 eI2 hM hS => ?_)
        subst eI2
        have hI := hI.putF (n := 1014) (k := ((x2_2).toNatClampNeg)) (v := Ia2 (1069) (x2_2).toNatClampNeg) rfl
        have hK := hK.put (n := 1014) (k := ((x2_2).toNatClampNeg)) (v := Ia2 (1069) (x2_2).toNatClampNeg) (by first | rfl | simp [inR])
        obtain ⟨v3, ev3⟩ : ∃ z : Int32, z = x2_2 + Int32.ofInt (1) := ⟨_, rfl⟩
        have tv3 := a_inc ev3 (by decide) (by omega) (by omega)
        refine lv_iinc (v := v3) (lv' := [(2, .int (v3)), (0, .ref (ad (1069))), (1, .ref (ad (1014)))]) hx hb dX10_copy_14 hl (k := 0) rfl ev3.symm (by decide) rfl (fun ls hl => ?_)
        refine lv_goto (tgt := 2) hx hb dX10_copy_17 (by decide) ?_
        exact ih2 (v3) (u2 Ia2 (1014) ((x2_2).toNatClampNeg) (Ia2 (1069) (x2_2).toNatClampNeg)) La2 _ _ ls hI hK (by first | omega | decide) (by omega) hM hS (lv_sub hl [0, 1, 2] rfl)
  exact loop2 (_ + 1) (0) I L _ _ ls hI hK (by first | omega | decide) (Nat.lt_succ_self _) hM hS (lv_sub hl [0, 1, 2] rfl)
set_option maxHeartbeats 4000000 in
set_option maxRecDepth 20000 in
theorem V_X10_copy_1023_1070 (l : Launch) (D : va_G) (A : Nat → Prop) (ad : Nat → Nat) (ns : List Nat) (I : MI) (L : ML) (G : MG) (hJ : SGM ns G) (hI : INV I) : Met l yX10_copy (wd yX10_copy cX10_copy 3 none) ({ frames := 0, cells := 0, slots := 0, locals := 0 }) (va_Pc [.ref (ad (1023)), .ref (ad (1070))] (PM D A ad ns I L G)) (va_Qv (fun u => ∃ I2 L2, u = (ad, ns, I2, L2, G) ∧ INV I2 ∧ Kp [(1070, 1071)] [] I I2) (BM D A) A) 0 0 A := by
  refine m_ofW (by decide) (Nat.le_of_ble_eq_true rfl) ?_
  intro p e s m below meth c ls args hC hE hM hA hS hl
  obtain ⟨hx, hb, hml, hown, hts, hr, hlocks, hin⟩ := hC
  have k0 : (0 : Int32).toInt = 0 := by decide
  have k8 : (8 : Int32).toInt = 8 := by decide
  have hK : Kp [(1070, 1071)] [] I I := Kp.rf
  have hl : lv_has ls 3 [(0, .ref (ad (1023))), (1, .ref (ad (1070)))] := hl
  refine lv_iconst (v := (0)) hx hb dX10_copy_0 (by decide) ?_
  refine lv_istore_n (lv' := [(2, .int (0)), (0, .ref (ad (1023))), (1, .ref (ad (1070)))]) hx hb dX10_copy_1 rfl hl (by decide) rfl (fun ls hl => ?_)
  have loop2 : ∀ (n : Nat) (x2_2 : Int32) (Ia2 : MI) (La2 : ML) (H : Heap) (locs : List Loc) (ls : Array Slot), INV Ia2 → Kp [(1070, 1071)] [] I Ia2 → (0 ≤ x2_2.toInt ∧ x2_2.toInt ≤ 8) → (8 - x2_2.toInt).toNat < n → Mem D A ad ns Ia2 La2 G H → va_S A s.heap H locs → lv_has ls 3 [(2, .int (x2_2)), (0, .ref (ad (1023))), (1, .ref (ad (1070)))] → W p l e ({ frames := 0, cells := 0, slots := 0, locals := 0 } : Room) s m args below meth c H locs 0 0 (MQ below (va_Qv (fun u => ∃ I2 L2, u = (ad, ns, I2, L2, G) ∧ INV I2 ∧ Kp [(1070, 1071)] [] I I2) (BM D A) A) args s 0 0 A) (F0 m 2 ls []) := by
    intro n
    induction n with
    | zero =>
      intro x2_2 Ia2 La2 H locs ls hI hK hr2_2 hmu
      exact absurd hmu (Nat.not_lt_zero _)
    | succ n ih2 =>
      intro x2_2 Ia2 La2 H locs ls hI hK hr2_2 hmu2 hM hS hl
      refine lv_iload_n hx hb dX10_copy_2 rfl (lv_at hl 0 rfl) ?_
      refine lv_aload_n hx hb dX10_copy_3 rfl (lv_at hl 2 rfl) ?_
      refine m_alen 1070 (t0 := 0) (v := 8) hx hb hE hM (hJ.2 70 (by decide)).1 rfl (by decide) rfl rfl dX10_copy_4 ?_
      refine lv_icmp_ge (tgt := 20) hx hb dX10_copy_5 (by decide) (fun c1 => ?_) (fun c1 => ?_)
      · have hc1 := c1
        have q1 := q_le hc1
        exact m_vret hx hb hr hlocks hM hS (Nat.le_of_ble_eq_true rfl) (Nat.le_of_ble_eq_true rfl) ⟨_, _, rfl, hI, hK⟩ dX10_copy_20
      · have hc1 := c1
        have q1 := q_nle hc1
        refine lv_aload_n hx hb dX10_copy_8 rfl (lv_at hl 2 rfl) ?_
        refine lv_iload_n hx hb dX10_copy_9 rfl (lv_at hl 0 rfl) ?_
        refine lv_aload_n hx hb dX10_copy_10 rfl (lv_at hl 1 rfl) ?_
        refine lv_iload_n hx hb dX10_copy_11 rfl (lv_at hl 0 rfl) ?_
        refine m_iald (1023) hx hb hE hM (hJ.2 23 (by decide)).1 rfl (vp_in_iff.mpr (by omega)) dX10_copy_12 ?_
        refine m_iast (1070) hx hb hE hM hS (hJ.2 70 (by decide)).1 rfl (vp_in_iff.mpr (by omega)) dX10_copy_13 (fun H locs I2 eI2 hM hS => ?_)
        subst eI2
        have hI := hI.putF (n := 1070) (k := ((x2_2).toNatClampNeg)) (v := Ia2 (1023) (x2_2).toNatClampNeg) rfl
        have hK := hK.put (n := 1070) (k := ((x2_2).toNatClampNeg)) (v := Ia2 (1023) (x2_2).toNatClampNeg) (by first | rfl | simp [inR])
        obtain ⟨v3, ev3⟩ : ∃ z : Int32, z = x2_2 + Int32.ofInt (1) := ⟨_, rfl⟩
        have tv3 := a_inc ev3 (by decide) (by omega) (by omega)
        refine lv_iinc (v := v3) (lv' := [(2, .int (v3)), (0, .ref (ad (1023))), (1, .ref (ad (1070)))]) hx hb dX10_copy_14 hl (k := 0) rfl ev3.symm (by decide) rfl (fun ls hl => ?_)
        refine lv_goto (tgt := 2) hx hb dX10_copy_17 (by decide) ?_
        exact ih2 (v3) (u2 Ia2 (1070) ((x2_2).toNatClampNeg) (Ia2 (1023) (x2_2).toNatClampNeg)) La2 _ _ ls hI hK (by first | omega | decide) (by omega) hM hS (lv_sub hl [0, 1, 2] rfl)
  exact loop2 (_ + 1) (0) I L _ _ ls hI hK (by first | omega | decide) (Nat.lt_succ_self _) hM hS (lv_sub hl [0, 1, 2] rfl)
set_option maxHeartbeats 4000000 in
set_option maxRecDepth 20000 in
theorem V_X10_copy_1070_1023 (l : Launch) (D : va_G) (A : Nat → Prop) (ad : Nat → Nat) (ns : List Nat) (I : MI) (L : ML) (G : MG) (hJ : SGM ns G) (hI : INV I) : Met l yX10_copy (wd yX10_copy cX10_copy 3 none) ({ frames := 0, cells := 0, slots := 0, locals := 0 }) (va_Pc [.ref (ad (1070)), .ref (ad (1023))] (PM D A ad ns I L G)) (va_Qv (fun u => ∃ I2 L2, u = (ad, ns, I2, L2, G) ∧ INV I2 ∧ Kp [(1023, 1024)] [] I I2) (BM D A) A) 0 0 A := by
  refine m_ofW (by decide) (Nat.le_of_ble_eq_true rfl) ?_
  intro p e s m below meth c ls args hC hE hM hA hS hl
  obtain ⟨hx, hb, hml, hown, hts, hr, hlocks, hin⟩ := hC
  have k0 : (0 : Int32).toInt = 0 := by decide
  have k8 : (8 : Int32).toInt = 8 := by decide
  have hK : Kp [(1023, 1024)] [] I I := Kp.rf
  have hl : lv_has ls 3 [(0, .ref (ad (1070))), (1, .ref (ad (1023)))] := hl
  refine lv_iconst (v := (0)) hx hb dX10_copy_0 (by decide) ?_
  refine lv_istore_n (lv' := [(2, .int (0)), (0, .ref (ad (1070))), (1, .ref (ad (1023)))]) hx hb dX10_copy_1 rfl hl (by decide) rfl (fun ls hl => ?_)
  have loop2 : ∀ (n : Nat) (x2_2 : Int32) (Ia2 : MI) (La2 : ML) (H : Heap) (locs : List Loc) (ls : Array Slot), INV Ia2 → Kp [(1023, 1024)] [] I Ia2 → (0 ≤ x2_2.toInt ∧ x2_2.toInt ≤ 8) → (8 - x2_2.toInt).toNat < n → Mem D A ad ns Ia2 La2 G H → va_S A s.heap H locs → lv_has ls 3 [(2, .int (x2_2)), (0, .ref (ad (1070))), (1, .ref (ad (1023)))] → W p l e ({ frames := 0, cells := 0, slots := 0, locals := 0 } : Room) s m args below meth c H locs 0 0 (MQ below (va_Qv (fun u => ∃ I2 L2, u = (ad, ns, I2, L2, G) ∧ INV I2 ∧ Kp [(1023, 1024)] [] I I2) (BM D A) A) args s 0 0 A) (F0 m 2 ls []) := by
    intro n
    induction n with
    | zero =>
      intro x2_2 Ia2 La2 H locs ls hI hK hr2_2 hmu
      exact absurd hmu (Nat.not_lt_zero _)
    | succ n ih2 =>
      intro x2_2 Ia2 La2 H locs ls hI hK hr2_2 hmu2 hM hS hl
      refine lv_iload_n hx hb dX10_copy_2 rfl (lv_at hl 0 rfl) ?_
      refine lv_aload_n hx hb dX10_copy_3 rfl (lv_at hl 2 rfl) ?_
      refine m_alen 1023 (t0 := 0) (v := 8) hx hb hE hM (hJ.2 23 (by decide)).1 rfl (by decide) rfl rfl dX10_copy_4 ?_
      refine lv_icmp_ge (tgt := 20) hx hb dX10_copy_5 (by decide) (fun c1 => ?_) (fun c1 => ?_)
      · have hc1 := c1
        have q1 := q_le hc1
        exact m_vret hx hb hr hlocks hM hS (Nat.le_of_ble_eq_true rfl) (Nat.le_of_ble_eq_true rfl) ⟨_, _, rfl, hI, hK⟩ dX10_copy_20
      · have hc1 := c1
        have q1 := q_nle hc1
        refine lv_aload_n hx hb dX10_copy_8 rfl (lv_at hl 2 rfl) ?_
        refine lv_iload_n hx hb dX10_copy_9 rfl (lv_at hl 0 rfl) ?_
        refine lv_aload_n hx hb dX10_copy_10 rfl (lv_at hl 1 rfl) ?_
        refine lv_iload_n hx hb dX10_copy_11 rfl (lv_at hl 0 rfl) ?_
        refine m_iald (1070) hx hb hE hM (hJ.2 70 (by decide)).1 rfl (vp_in_iff.mpr (by omega)) dX10_copy_12 ?_
        refine m_iast (1023) hx hb hE hM hS (hJ.2 23 (by decide)).1 rfl (vp_in_iff.mpr (by omega)) dX10_copy_13 (fun H locs I2 eI2 hM hS => ?_)
        subst eI2
        have hI := hI.putF (n := 1023) (k := ((x2_2).toNatClampNeg)) (v := Ia2 (1070) (x2_2).toNatClampNeg) rfl
        have hK := hK.put (n := 1023) (k := ((x2_2).toNatClampNeg)) (v := Ia2 (1070) (x2_2).toNatClampNeg) (by first | rfl | simp [inR])
        obtain ⟨v3, ev3⟩ : ∃ z : Int32, z = x2_2 + Int32.ofInt (1) := ⟨_, rfl⟩
        have tv3 := a_inc ev3 (by decide) (by omega) (by omega)
        refine lv_iinc (v := v3) (lv' := [(2, .int (v3)), (0, .ref (ad (1070))), (1, .ref (ad (1023)))]) hx hb dX10_copy_14 hl (k := 0) rfl ev3.symm (by decide) rfl (fun ls hl => ?_)
        refine lv_goto (tgt := 2) hx hb dX10_copy_17 (by decide) ?_
        exact ih2 (v3) (u2 Ia2 (1023) ((x2_2).toNatClampNeg) (Ia2 (1070) (x2_2).toNatClampNeg)) La2 _ _ ls hI hK (by first | omega | decide) (by omega) hM hS (lv_sub hl [0, 1, 2] rfl)
  exact loop2 (_ + 1) (0) I L _ _ ls hI hK (by first | omega | decide) (Nat.lt_succ_self _) hM hS (lv_sub hl [0, 1, 2] rfl)
set_option maxHeartbeats 4000000 in
set_option maxRecDepth 20000 in
theorem V_X10_copy_1071_1072 (l : Launch) (D : va_G) (A : Nat → Prop) (ad : Nat → Nat) (ns : List Nat) (I : MI) (L : ML) (G : MG) (hJ : SGM ns G) (hI : INV I) : Met l yX10_copy (wd yX10_copy cX10_copy 3 none) ({ frames := 0, cells := 0, slots := 0, locals := 0 }) (va_Pc [.ref (ad (1071)), .ref (ad (1072))] (PM D A ad ns I L G)) (va_Qv (fun u => ∃ I2 L2, u = (ad, ns, I2, L2, G) ∧ INV I2 ∧ Kp [(1072, 1073)] [] I I2) (BM D A) A) 0 0 A := by
  refine m_ofW (by decide) (Nat.le_of_ble_eq_true rfl) ?_
  intro p e s m below meth c ls args hC hE hM hA hS hl
  obtain ⟨hx, hb, hml, hown, hts, hr, hlocks, hin⟩ := hC
  have k0 : (0 : Int32).toInt = 0 := by decide
  have k4 : (4 : Int32).toInt = 4 := by decide
  have hK : Kp [(1072, 1073)] [] I I := Kp.rf
  have hl : lv_has ls 3 [(0, .ref (ad (1071))), (1, .ref (ad (1072)))] := hl
  refine lv_iconst (v := (0)) hx hb dX10_copy_0 (by decide) ?_
  refine lv_istore_n (lv' := [(2, .int (0)), (0, .ref (ad (1071))), (1, .ref (ad (1072)))]) hx hb dX10_copy_1 rfl hl (by decide) rfl (fun ls hl => ?_)
  have loop2 : ∀ (n : Nat) (x2_2 : Int32) (Ia2 : MI) (La2 : ML) (H : Heap) (locs : List Loc) (ls : Array Slot), INV Ia2 → Kp [(1072, 1073)] [] I Ia2 → (0 ≤ x2_2.toInt ∧ x2_2.toInt ≤ 4) → (4 - x2_2.toInt).toNat < n → Mem D A ad ns Ia2 La2 G H → va_S A s.heap H locs → lv_has ls 3 [(2, .int (x2_2)), (0, .ref (ad (1071))), (1, .ref (ad (1072)))] → W p l e ({ frames := 0, cells := 0, slots := 0, locals := 0 } : Room) s m args below meth c H locs 0 0 (MQ below (va_Qv (fun u => ∃ I2 L2, u = (ad, ns, I2, L2, G) ∧ INV I2 ∧ Kp [(1072, 1073)] [] I I2) (BM D A) A) args s 0 0 A) (F0 m 2 ls []) := by
    intro n
    induction n with
    | zero =>
      intro x2_2 Ia2 La2 H locs ls hI hK hr2_2 hmu
      exact absurd hmu (Nat.not_lt_zero _)
    | succ n ih2 =>
      intro x2_2 Ia2 La2 H locs ls hI hK hr2_2 hmu2 hM hS hl
      refine lv_iload_n hx hb dX10_copy_2 rfl (lv_at hl 0 rfl) ?_
      refine lv_aload_n hx hb dX10_copy_3 rfl (lv_at hl 2 rfl) ?_
      refine m_alen 1072 (t0 := 0) (v := 4) hx hb hE hM (hJ.2 72 (by decide)).1 rfl (by decide) rfl rfl dX10_copy_4 ?_
      refine lv_icmp_ge (tgt := 20) hx hb dX10_copy_5 (by decide) (fun c1 => ?_) (fun c1 => ?_)
      · have hc1 := c1
        have q1 := q_le hc1
        exact m_vret hx hb hr hlocks hM hS (Nat.le_of_ble_eq_true rfl) (Nat.le_of_ble_eq_true rfl) ⟨_, _, rfl, hI, hK⟩ dX10_copy_20
      · have hc1 := c1
        have q1 := q_nle hc1
        refine lv_aload_n hx hb dX10_copy_8 rfl (lv_at hl 2 rfl) ?_
        refine lv_iload_n hx hb dX10_copy_9 rfl (lv_at hl 0 rfl) ?_
        refine lv_aload_n hx hb dX10_copy_10 rfl (lv_at hl 1 rfl) ?_
        refine lv_iload_n hx hb dX10_copy_11 rfl (lv_at hl 0 rfl) ?_
        refine m_iald (1071) hx hb hE hM (hJ.2 71 (by decide)).1 rfl (vp_in_iff.mpr (by omega)) dX10_copy_12 ?_
        refine m_iast (1072) hx hb hE hM hS (hJ.2 72 (by decide)).1 rfl (vp_in_iff.mpr (by omega)) dX10_copy_13 (fun H locs I2 eI2 hM hS => ?_)
        subst eI2
        have hI := hI.putF (n := 1072) (k := ((x2_2).toNatClampNeg)) (v := Ia2 (1071) (x2_2).toNatClampNeg) rfl
        have hK := hK.put (n := 1072) (k := ((x2_2).toNatClampNeg)) (v := Ia2 (1071) (x2_2).toNatClampNeg) (by first | rfl | simp [inR])
        obtain ⟨v3, ev3⟩ : ∃ z : Int32, z = x2_2 + Int32.ofInt (1) := ⟨_, rfl⟩
        have tv3 := a_inc ev3 (by decide) (by omega) (by omega)
        refine lv_iinc (v := v3) (lv' := [(2, .int (v3)), (0, .ref (ad (1071))), (1, .ref (ad (1072)))]) hx hb dX10_copy_14 hl (k := 0) rfl ev3.symm (by decide) rfl (fun ls hl => ?_)
        refine lv_goto (tgt := 2) hx hb dX10_copy_17 (by decide) ?_
        exact ih2 (v3) (u2 Ia2 (1072) ((x2_2).toNatClampNeg) (Ia2 (1071) (x2_2).toNatClampNeg)) La2 _ _ ls hI hK (by first | omega | decide) (by omega) hM hS (lv_sub hl [0, 1, 2] rfl)
  exact loop2 (_ + 1) (0) I L _ _ ls hI hK (by first | omega | decide) (Nat.lt_succ_self _) hM hS (lv_sub hl [0, 1, 2] rfl)
set_option maxHeartbeats 4000000 in
set_option maxRecDepth 20000 in
theorem V_X10_copy_1062_1060 (l : Launch) (D : va_G) (A : Nat → Prop) (ad : Nat → Nat) (ns : List Nat) (I : MI) (L : ML) (G : MG) (hJ : SGM ns G) (hI : INV I) : Met l yX10_copy (wd yX10_copy cX10_copy 3 none) ({ frames := 0, cells := 0, slots := 0, locals := 0 }) (va_Pc [.ref (ad (1062)), .ref (ad (1060))] (PM D A ad ns I L G)) (va_Qv (fun u => ∃ I2 L2, u = (ad, ns, I2, L2, G) ∧ INV I2 ∧ Kp [(1060, 1061)] [] I I2) (BM D A) A) 0 0 A := by
  refine m_ofW (by decide) (Nat.le_of_ble_eq_true rfl) ?_
  intro p e s m below meth c ls args hC hE hM hA hS hl
  obtain ⟨hx, hb, hml, hown, hts, hr, hlocks, hin⟩ := hC
  have k0 : (0 : Int32).toInt = 0 := by decide
  have k24 : (24 : Int32).toInt = 24 := by decide
  have hK : Kp [(1060, 1061)] [] I I := Kp.rf
  have hl : lv_has ls 3 [(0, .ref (ad (1062))), (1, .ref (ad (1060)))] := hl
  refine lv_iconst (v := (0)) hx hb dX10_copy_0 (by decide) ?_
  refine lv_istore_n (lv' := [(2, .int (0)), (0, .ref (ad (1062))), (1, .ref (ad (1060)))]) hx hb dX10_copy_1 rfl hl (by decide) rfl (fun ls hl => ?_)
  have loop2 : ∀ (n : Nat) (x2_2 : Int32) (Ia2 : MI) (La2 : ML) (H : Heap) (locs : List Loc) (ls : Array Slot), INV Ia2 → Kp [(1060, 1061)] [] I Ia2 → (0 ≤ x2_2.toInt ∧ x2_2.toInt ≤ 24) → (24 - x2_2.toInt).toNat < n → Mem D A ad ns Ia2 La2 G H → va_S A s.heap H locs → lv_has ls 3 [(2, .int (x2_2)), (0, .ref (ad (1062))), (1, .ref (ad (1060)))] → W p l e ({ frames := 0, cells := 0, slots := 0, locals := 0 } : Room) s m args below meth c H locs 0 0 (MQ below (va_Qv (fun u => ∃ I2 L2, u = (ad, ns, I2, L2, G) ∧ INV I2 ∧ Kp [(1060, 1061)] [] I I2) (BM D A) A) args s 0 0 A) (F0 m 2 ls []) := by
    intro n
    induction n with
    | zero =>
      intro x2_2 Ia2 La2 H locs ls hI hK hr2_2 hmu
      exact absurd hmu (Nat.not_lt_zero _)
    | succ n ih2 =>
      intro x2_2 Ia2 La2 H locs ls hI hK hr2_2 hmu2 hM hS hl
      refine lv_iload_n hx hb dX10_copy_2 rfl (lv_at hl 0 rfl) ?_
      refine lv_aload_n hx hb dX10_copy_3 rfl (lv_at hl 2 rfl) ?_
      refine m_alen 1060 (t0 := 0) (v := 24) hx hb hE hM (hJ.2 60 (by decide)).1 rfl (by decide) rfl rfl dX10_copy_4 ?_
      refine lv_icmp_ge (tgt := 20) hx hb dX10_copy_5 (by decide) (fun c1 => ?_) (fun c1 => ?_)
      · have hc1 := c1
        have q1 := q_le hc1
        exact m_vret hx hb hr hlocks hM hS (Nat.le_of_ble_eq_true rfl) (Nat.le_of_ble_eq_true rfl) ⟨_, _, rfl, hI, hK⟩ dX10_copy_20
      · have hc1 := c1
        have q1 := q_nle hc1
        refine lv_aload_n hx hb dX10_copy_8 rfl (lv_at hl 2 rfl) ?_
        refine lv_iload_n hx hb dX10_copy_9 rfl (lv_at hl 0 rfl) ?_
        refine lv_aload_n hx hb dX10_copy_10 rfl (lv_at hl 1 rfl) ?_
        refine lv_iload_n hx hb dX10_copy_11 rfl (lv_at hl 0 rfl) ?_
        refine m_iald (1062) hx hb hE hM (hJ.2 62 (by decide)).1 rfl (vp_in_iff.mpr (by omega)) dX10_copy_12 ?_
        refine m_iast (1060) hx hb hE hM hS (hJ.2 60 (by decide)).1 rfl (vp_in_iff.mpr (by omega)) dX10_copy_13 (fun H locs I2 eI2 hM hS => ?_)
        subst eI2
        have hI := hI.putF (n := 1060) (k := ((x2_2).toNatClampNeg)) (v := Ia2 (1062) (x2_2).toNatClampNeg) rfl
        have hK := hK.put (n := 1060) (k := ((x2_2).toNatClampNeg)) (v := Ia2 (1062) (x2_2).toNatClampNeg) (by first | rfl | simp [inR])
        obtain ⟨v3, ev3⟩ : ∃ z : Int32, z = x2_2 + Int32.ofInt (1) := ⟨_, rfl⟩
        have tv3 := a_inc ev3 (by decide) (by omega) (by omega)
        refine lv_iinc (v := v3) (lv' := [(2, .int (v3)), (0, .ref (ad (1062))), (1, .ref (ad (1060)))]) hx hb dX10_copy_14 hl (k := 0) rfl ev3.symm (by decide) rfl (fun ls hl => ?_)
        refine lv_goto (tgt := 2) hx hb dX10_copy_17 (by decide) ?_
        exact ih2 (v3) (u2 Ia2 (1060) ((x2_2).toNatClampNeg) (Ia2 (1062) (x2_2).toNatClampNeg)) La2 _ _ ls hI hK (by first | omega | decide) (by omega) hM hS (lv_sub hl [0, 1, 2] rfl)
  exact loop2 (_ + 1) (0) I L _ _ ls hI hK (by first | omega | decide) (Nat.lt_succ_self _) hM hS (lv_sub hl [0, 1, 2] rfl)
theorem dX10_sees_0 : decode cX10_sees 0 = .ok (.aload_n 0, 1) := by decide +kernel
theorem dX10_sees_1 : decode cX10_sees 1 = .ok (.iload_n 1, 1) := by decide +kernel
theorem dX10_sees_2 : decode cX10_sees 2 = .ok (.invokevirtual 472, 3) := by decide +kernel
theorem dX10_sees_5 : decode cX10_sees 5 = .ok (.ifCond .eq 11, 3) := by decide +kernel
theorem dX10_sees_8 : decode cX10_sees 8 = .ok (.aload_n 0, 1) := by decide +kernel
theorem dX10_sees_9 : decode cX10_sees 9 = .ok (.iload_n 2, 1) := by decide +kernel
theorem dX10_sees_10 : decode cX10_sees 10 = .ok (.invokevirtual 220, 3) := by decide +kernel
theorem dX10_sees_13 : decode cX10_sees 13 = .ok (.ifCond .ne 5, 3) := by decide +kernel
theorem dX10_sees_16 : decode cX10_sees 16 = .ok (.iconst (-1), 1) := by decide +kernel
theorem dX10_sees_17 : decode cX10_sees 17 = .ok (.ireturn, 1) := by decide +kernel
theorem dX10_sees_18 : decode cX10_sees 18 = .ok (.aload_n 0, 1) := by decide +kernel
theorem dX10_sees_19 : decode cX10_sees 19 = .ok (.iload_n 1, 1) := by decide +kernel
theorem dX10_sees_20 : decode cX10_sees 20 = .ok (.invokevirtual 404, 3) := by decide +kernel
theorem dX10_sees_23 : decode cX10_sees 23 = .ok (.aload_n 0, 1) := by decide +kernel
theorem dX10_sees_24 : decode cX10_sees 24 = .ok (.getfield 133, 3) := by decide +kernel
theorem dX10_sees_27 : decode cX10_sees 27 = .ok (.aload_n 0, 1) := by decide +kernel
theorem dX10_sees_28 : decode cX10_sees 28 = .ok (.getfield 155, 3) := by decide +kernel
theorem dX10_sees_31 : decode cX10_sees 31 = .ok (.invokestatic 483, 3) := by decide +kernel
theorem dX10_sees_34 : decode cX10_sees 34 = .ok (.aload_n 0, 1) := by decide +kernel
theorem dX10_sees_35 : decode cX10_sees 35 = .ok (.getfield 34, 3) := by decide +kernel
theorem dX10_sees_38 : decode cX10_sees 38 = .ok (.iload_n 2, 1) := by decide +kernel
theorem dX10_sees_39 : decode cX10_sees 39 = .ok (.iaload, 1) := by decide +kernel
theorem dX10_sees_40 : decode cX10_sees 40 = .ok (.istore_n 3, 1) := by decide +kernel
theorem dX10_sees_41 : decode cX10_sees 41 = .ok (.aload_n 0, 1) := by decide +kernel
theorem dX10_sees_42 : decode cX10_sees 42 = .ok (.getfield 34, 3) := by decide +kernel
theorem dX10_sees_45 : decode cX10_sees 45 = .ok (.iload_n 2, 1) := by decide +kernel
theorem dX10_sees_46 : decode cX10_sees 46 = .ok (.iload_n 3, 1) := by decide +kernel
theorem dX10_sees_47 : decode cX10_sees 47 = .ok (.iconst 1, 1) := by decide +kernel
theorem dX10_sees_48 : decode cX10_sees 48 = .ok (.iadd, 1) := by decide +kernel
theorem dX10_sees_49 : decode cX10_sees 49 = .ok (.bipush 8, 2) := by decide +kernel
theorem dX10_sees_51 : decode cX10_sees 51 = .ok (.irem, 1) := by decide +kernel
theorem dX10_sees_52 : decode cX10_sees 52 = .ok (.iastore, 1) := by decide +kernel
theorem dX10_sees_53 : decode cX10_sees 53 = .ok (.aload_n 0, 1) := by decide +kernel
theorem dX10_sees_54 : decode cX10_sees 54 = .ok (.iload_n 1, 1) := by decide +kernel
theorem dX10_sees_55 : decode cX10_sees 55 = .ok (.invokevirtual 404, 3) := by decide +kernel
theorem dX10_sees_58 : decode cX10_sees 58 = .ok (.aload_n 0, 1) := by decide +kernel
theorem dX10_sees_59 : decode cX10_sees 59 = .ok (.getfield 34, 3) := by decide +kernel
theorem dX10_sees_62 : decode cX10_sees 62 = .ok (.iload_n 2, 1) := by decide +kernel
theorem dX10_sees_63 : decode cX10_sees 63 = .ok (.iload_n 3, 1) := by decide +kernel
theorem dX10_sees_64 : decode cX10_sees 64 = .ok (.iastore, 1) := by decide +kernel
theorem dX10_sees_65 : decode cX10_sees 65 = .ok (.iconst 0, 1) := by decide +kernel
theorem dX10_sees_66 : decode cX10_sees 66 = .ok (.istore 4, 2) := by decide +kernel
theorem dX10_sees_68 : decode cX10_sees 68 = .ok (.iconst 0, 1) := by decide +kernel
theorem dX10_sees_69 : decode cX10_sees 69 = .ok (.istore 5, 2) := by decide +kernel
theorem dX10_sees_71 : decode cX10_sees 71 = .ok (.iload 5, 2) := by decide +kernel
theorem dX10_sees_73 : decode cX10_sees 73 = .ok (.aload_n 0, 1) := by decide +kernel
theorem dX10_sees_74 : decode cX10_sees 74 = .ok (.getfield 7, 3) := by decide +kernel
theorem dX10_sees_77 : decode cX10_sees 77 = .ok (.bipush 9, 2) := by decide +kernel
theorem dX10_sees_79 : decode cX10_sees 79 = .ok (.iaload, 1) := by decide +kernel
theorem dX10_sees_80 : decode cX10_sees 80 = .ok (.if_icmp .ge 39, 3) := by decide +kernel
theorem dX10_sees_83 : decode cX10_sees 83 = .ok (.iload 4, 2) := by decide +kernel
theorem dX10_sees_85 : decode cX10_sees 85 = .ok (.aload_n 0, 1) := by decide +kernel
theorem dX10_sees_86 : decode cX10_sees 86 = .ok (.getfield 133, 3) := by decide +kernel
theorem dX10_sees_89 : decode cX10_sees 89 = .ok (.iload 5, 2) := by decide +kernel
theorem dX10_sees_91 : decode cX10_sees 91 = .ok (.iaload, 1) := by decide +kernel
theorem dX10_sees_92 : decode cX10_sees 92 = .ok (.aload_n 0, 1) := by decide +kernel
theorem dX10_sees_93 : decode cX10_sees 93 = .ok (.getfield 155, 3) := by decide +kernel
theorem dX10_sees_96 : decode cX10_sees 96 = .ok (.iload 5, 2) := by decide +kernel
theorem dX10_sees_98 : decode cX10_sees 98 = .ok (.iaload, 1) := by decide +kernel
theorem dX10_sees_99 : decode cX10_sees 99 = .ok (.if_icmp .eq 10, 3) := by decide +kernel
theorem dX10_sees_102 : decode cX10_sees 102 = .ok (.iconst 1, 1) := by decide +kernel
theorem dX10_sees_103 : decode cX10_sees 103 = .ok (.iload 5, 2) := by decide +kernel
theorem dX10_sees_105 : decode cX10_sees 105 = .ok (.ishl, 1) := by decide +kernel
theorem dX10_sees_106 : decode cX10_sees 106 = .ok (.goto 4, 3) := by decide +kernel
theorem dX10_sees_109 : decode cX10_sees 109 = .ok (.iconst 0, 1) := by decide +kernel
theorem dX10_sees_110 : decode cX10_sees 110 = .ok (.ior, 1) := by decide +kernel
theorem dX10_sees_111 : decode cX10_sees 111 = .ok (.istore 4, 2) := by decide +kernel
theorem dX10_sees_113 : decode cX10_sees 113 = .ok (.iinc 5 1, 3) := by decide +kernel
theorem dX10_sees_116 : decode cX10_sees 116 = .ok (.goto (-45), 3) := by decide +kernel
theorem dX10_sees_119 : decode cX10_sees 119 = .ok (.iload 4, 2) := by decide +kernel
theorem dX10_sees_121 : decode cX10_sees 121 = .ok (.ireturn, 1) := by decide +kernel
theorem ce_X10_sees : CeV RX10 yX10_sees cX10_sees 6 (some .int) 2 := ⟨tb_1720, tb_1721, tb_11, tb_1722, rfl, by decide, by decide, by decide +kernel⟩
set_option maxHeartbeats 4000000 in
set_option maxRecDepth 20000 in
theorem V_X10_sees (l : Launch) (D : va_G) (A : Nat → Prop) (ad : Nat → Nat) (ns : List Nat) (I : MI) (L : ML) (G : MG) (a0 : Int32) (a1 : Int32) (hJ : SGM ns G) (hI : INV I) : Met l yX10_sees (wd yX10_sees cX10_sees 6 (some .int)) ({ frames := 5, cells := 0, slots := 0, locals := 128 }) (va_Pc [.ref (ad (1000)), .int a0, .int a1] (PM D A ad ns I L G)) (va_Qi (fun r u => ∃ I2 L2, u = (ad, ns, I2, L2, G) ∧ INV I2 ∧ Kp [(1009, 1010), (1045, 1051), (1058, 1059), (1061, 1063), (1066, 1067)] [(1000, 51), (1000, 52), (1000, 53), (1000, 54), (1000, 55), (1000, 56), (1000, 59), (1000, 63)] I I2) (BM D A) A) 0 0 A := by
  refine m_ofW (by decide) (Nat.le_of_ble_eq_true rfl) ?_
  intro p e s m below meth c ls args hC hE hM hA hS hl
  obtain ⟨hx, hb, hml, hown, hts, hr, hlocks, hin⟩ := hC
  have km1 : (-1 : Int32).toInt = -1 := by decide
  have k0 : (0 : Int32).toInt = 0 := by decide
  have k1 : (1 : Int32).toInt = 1 := by decide
  have k8 : (8 : Int32).toInt = 8 := by decide
  have k9 : (9 : Int32).toInt = 9 := by decide
  have hK : Kp [(1009, 1010), (1045, 1051), (1058, 1059), (1061, 1063), (1066, 1067)] [(1000, 51), (1000, 52), (1000, 53), (1000, 54), (1000, 55), (1000, 56), (1000, 59), (1000, 63)] I I := Kp.rf
  have hl : lv_has ls 6 [(0, .ref (ad (1000))), (1, .int (a0)), (2, .int (a1))] := hl
  refine lv_aload_n hx hb dX10_sees_0 rfl (lv_at hl 0 rfl) ?_
  refine lv_iload_n hx hb dX10_sees_1 rfl (lv_at hl 1 rfl) ?_
  refine m_calli (m_runV (1000) (As := [.int (a0)]) (rest := []) hx hb hml hown hts hE hM hS hA ce_X10_isBright tb_1698 (V_X10_isBright l D A ad ns I L G (a0) hJ hI) rfl rfl ⟨Nat.le_of_ble_eq_true rfl, Nat.le_of_ble_eq_true rfl⟩ hJ.1 rfl rfl (by decide) rfl hl.1 rfl (Nat.le_of_ble_eq_true rfl) dX10_sees_2 ⟨Nat.le_of_ble_eq_true rfl, Nat.le_of_ble_eq_true rfl⟩) hS (fun r1 u H locs hw hM hS => ?_)
  obtain ⟨rfl, xr1⟩ := hw
  have hM : Mem D A ad ns I L G H := hM
  refine lv_if_eq (tgt := 16) hx hb dX10_sees_5 (by decide) (fun c2 => ?_) (fun c2 => ?_)
  · have hc2 := c2
    have q2 := q_eq hc2
    refine lv_iconst (v := (-1)) hx hb dX10_sees_16 (by decide) ?_
    exact m_iret hx hb hr hlocks hM hS (Nat.le_of_ble_eq_true rfl) (Nat.le_of_ble_eq_true rfl) ⟨_, _, rfl, hI, hK⟩ dX10_sees_17
  · have hc2 := c2
    have q2 := q_ne hc2
    refine lv_aload_n hx hb dX10_sees_8 rfl (lv_at hl 0 rfl) ?_
    refine lv_iload_n hx hb dX10_sees_9 rfl (lv_at hl 2 rfl) ?_
    refine m_calli (m_runV (1000) (As := [.int (a1)]) (rest := []) hx hb hml hown hts hE hM hS hA ce_X10_isMirror tb_1462 (V_X10_isMirror l D A ad ns I L G (a1) hJ hI) rfl rfl ⟨Nat.le_of_ble_eq_true rfl, Nat.le_of_ble_eq_true rfl⟩ hJ.1 rfl rfl (by decide) rfl hl.1 rfl (Nat.le_of_ble_eq_true rfl) dX10_sees_10 ⟨Nat.le_of_ble_eq_true rfl, Nat.le_of_ble_eq_true rfl⟩) hS (fun r3 u H locs hw hM hS => ?_)
    obtain ⟨rfl, xr3⟩ := hw
    have hM : Mem D A ad ns I L G H := hM
    have yr3 := bo01 xr3
    have g4 := hI.get 1001 8 (lo := 0) (hi := 24) rfl
    refine lv_if_ne (tgt := 18) hx hb dX10_sees_13 (by decide) (fun c5 => ?_) (fun c5 => ?_)
    · have hc5 := c5
      have q5 := xr3.t hc5
      refine lv_aload_n hx hb dX10_sees_18 rfl (lv_at hl 0 rfl) ?_
      refine lv_iload_n hx hb dX10_sees_19 rfl (lv_at hl 1 rfl) ?_
      refine m_callv (m_runV (1000) (As := [.int (a0)]) (rest := []) hx hb hml hown hts hE hM hS hA ce_X10_shines tb_1640 (V_X10_shines l D A ad ns I L G (a0) hJ hI (by first | omega | decide)) rfl rfl ⟨Nat.le_of_ble_eq_true rfl, Nat.le_of_ble_eq_true rfl⟩ hJ.1 rfl rfl (by decide) rfl hl.1 rfl (Nat.le_of_ble_eq_true rfl) dX10_sees_20 ⟨Nat.le_of_ble_eq_true rfl, Nat.le_of_ble_eq_true rfl⟩) hS (fun u H locs hw hM hS => ?_)
      obtain ⟨I6, L7, rfl, hI, hkI6⟩ := hw
      have hM : Mem D A ad ns I6 L7 G H := hM
      have hK := hK.trans hkI6 rfl
      refine lv_aload_n hx hb dX10_sees_23 rfl (lv_at hl 0 rfl) ?_
      refine m_getr (1000) 50 (1050) hx hb hts hown hE oc10 hM hJ.1 rfl (by decide) rfl (hJ.2 50 (by decide)).2 (by decide) tb_1227 dX10_sees_24 ?_
      refine lv_aload_n hx hb dX10_sees_27 rfl (lv_at hl 0 rfl) ?_
      refine m_getr (1000) 66 (1066) hx hb hts hown hE oc10 hM hJ.1 rfl (by decide) rfl (hJ.2 66 (by decide)).2 (by decide) tb_1243 dX10_sees_28 ?_
      refine m_callv (m_runS (As := [.ref (ad (1050)), .ref (ad (1066))]) (rest := []) hx hb hml hown hts hE hM hS hA ce_X10_copy tb_1723 (V_X10_copy_1050_1066 l D A ad ns I6 L7 G hJ hI) rfl rfl ⟨Nat.le_of_ble_eq_true rfl, Nat.le_of_ble_eq_true rfl⟩  rfl hl.1 rfl (Nat.le_of_ble_eq_true rfl) dX10_sees_31 ⟨Nat.le_of_ble_eq_true rfl, Nat.le_of_ble_eq_true rfl⟩) hS (fun u H locs hw hM hS => ?_)
      obtain ⟨I8, L9, rfl, hI, hkI8⟩ := hw
      have hM : Mem D A ad ns I8 L9 G H := hM
      have hK := hK.trans hkI8 rfl
      refine lv_aload_n hx hb dX10_sees_34 rfl (lv_at hl 0 rfl) ?_
      refine m_getr (1000) 9 (1009) hx hb hts hown hE oc10 hM hJ.1 rfl (by decide) rfl (hJ.2 9 (by decide)).2 (by decide) tb_1186 dX10_sees_35 ?_
      refine lv_iload_n hx hb dX10_sees_38 rfl (lv_at hl 2 rfl) ?_
      refine m_iald (1009) hx hb hE hM (hJ.2 9 (by decide)).1 rfl (vp_in_iff.mpr (by omega)) dX10_sees_39 ?_
      have z10 : I8 (1009) (a1).toNatClampNeg = I (1009) ((a1).toNatClampNeg) := ((congrFun (hkI8.getA (1009) rfl) ((a1).toNatClampNeg))).trans (congrFun (hkI6.getA (1009) rfl) ((a1).toNatClampNeg))
      rw [z10]
      refine lv_istore_n (lv' := [(3, .int (I (1009) ((a1).toNatClampNeg))), (0, .ref (ad (1000))), (1, .int (a0)), (2, .int (a1))]) hx hb dX10_sees_40 rfl hl (by decide) rfl (fun ls hl => ?_)
      refine lv_aload_n hx hb dX10_sees_41 rfl (lv_at hl 1 rfl) ?_
      refine m_getr (1000) 9 (1009) hx hb hts hown hE oc10 hM hJ.1 rfl (by decide) rfl (hJ.2 9 (by decide)).2 (by decide) tb_1186 dX10_sees_42 ?_
      refine lv_iload_n hx hb dX10_sees_45 rfl (lv_at hl 3 rfl) ?_
      refine lv_iload_n hx hb dX10_sees_46 rfl (lv_at hl 0 rfl) ?_
      refine lv_iconst (v := (1)) hx hb dX10_sees_47 (by decide) ?_
      refine lv_iadd hx hb dX10_sees_48 ?_
      refine lv_topi (fun v11 ev11 => ?_)
      refine lv_bipush (v := (8)) hx hb dX10_sees_49 (by decide) ?_
      refine lv_irem hx hb dX10_sees_51 (by decide) ?_
      refine lv_topi (fun v12 ev12 => ?_)
      refine m_iast (1009) hx hb hE hM hS (hJ.2 9 (by decide)).1 rfl (vp_in_iff.mpr (by omega)) dX10_sees_52 (fun H locs I13 eI13 hM hS => ?_)
      subst eI13
      have hI := hI.putF (n := 1009) (k := ((a1).toNatClampNeg)) (v := v12) rfl
      have hK := hK.put (n := 1009) (k := ((a1).toNatClampNeg)) (v := v12) (by first | rfl | simp [inR])
      refine lv_aload_n hx hb dX10_sees_53 rfl (lv_at hl 1 rfl) ?_
      refine lv_iload_n hx hb dX10_sees_54 rfl (lv_at hl 2 rfl) ?_
      refine m_callv (m_runV (1000) (As := [.int (a0)]) (rest := []) hx hb hml hown hts hE hM hS hA ce_X10_shines tb_1640 (V_X10_shines l D A ad ns (u2 I8 (1009) ((a1).toNatClampNeg) (v12)) L9 G (a0) hJ hI (by first | omega | decide)) rfl rfl ⟨Nat.le_of_ble_eq_true rfl, Nat.le_of_ble_eq_true rfl⟩ hJ.1 rfl rfl (by decide) rfl hl.1 rfl (Nat.le_of_ble_eq_true rfl) dX10_sees_55 ⟨Nat.le_of_ble_eq_true rfl, Nat.le_of_ble_eq_true rfl⟩) hS (fun u H locs hw hM hS => ?_)
      obtain ⟨I14, L15, rfl, hI, hkI14⟩ := hw
      have hM : Mem D A ad ns I14 L15 G H := hM
      have hK := hK.trans hkI14 rfl
      refine lv_aload_n hx hb dX10_sees_58 rfl (lv_at hl 1 rfl) ?_
      refine m_getr (1000) 9 (1009) hx hb hts hown hE oc10 hM hJ.1 rfl (by decide) rfl (hJ.2 9 (by decide)).2 (by decide) tb_1186 dX10_sees_59 ?_
      refine lv_iload_n hx hb dX10_sees_62 rfl (lv_at hl 3 rfl) ?_
      refine lv_iload_n hx hb dX10_sees_63 rfl (lv_at hl 0 rfl) ?_
      refine m_iast (1009) hx hb hE hM hS (hJ.2 9 (by decide)).1 rfl (vp_in_iff.mpr (by omega)) dX10_sees_64 (fun H locs I16 eI16 hM hS => ?_)
      subst eI16
      have hI := hI.putF (n := 1009) (k := ((a1).toNatClampNeg)) (v := I (1009) ((a1).toNatClampNeg)) rfl
      have hK := hK.put (n := 1009) (k := ((a1).toNatClampNeg)) (v := I (1009) ((a1).toNatClampNeg)) (by first | rfl | simp [inR])
      refine lv_iconst (v := (0)) hx hb dX10_sees_65 (by decide) ?_
      refine lv_istore (lv' := [(4, .int (0)), (3, .int (I (1009) ((a1).toNatClampNeg))), (0, .ref (ad (1000))), (1, .int (a0)), (2, .int (a1))]) hx hb dX10_sees_66 hl (by decide) rfl (fun ls hl => ?_)
      refine lv_iconst (v := (0)) hx hb dX10_sees_68 (by decide) ?_
      refine lv_istore (lv' := [(5, .int (0)), (4, .int (0)), (3, .int (I (1009) ((a1).toNatClampNeg))), (0, .ref (ad (1000))), (1, .int (a0)), (2, .int (a1))]) hx hb dX10_sees_69 hl (by decide) rfl (fun ls hl => ?_)
      have loop71 : ∀ (n : Nat) (x5_71 : Int32) (x4_71 : Int32) (Ia71 : MI) (La71 : ML) (H : Heap) (locs : List Loc) (ls : Array Slot), INV Ia71 → Kp [(1009, 1010), (1045, 1051), (1058, 1059), (1061, 1063), (1066, 1067)] [(1000, 51), (1000, 52), (1000, 53), (1000, 54), (1000, 55), (1000, 56), (1000, 59), (1000, 63)] I Ia71 → (0 ≤ x5_71.toInt ∧ x5_71.toInt ≤ 8) → (8 - x5_71.toInt).toNat < n → Mem D A ad ns Ia71 La71 G H → va_S A s.heap H locs → lv_has ls 6 [(5, .int (x5_71)), (4, .int (x4_71)), (3, .int (I (1009) ((a1).toNatClampNeg))), (0, .ref (ad (1000))), (1, .int (a0)), (2, .int (a1))] → W p l e ({ frames := 5, cells := 0, slots := 0, locals := 128 } : Room) s m args below meth c H locs 0 0 (MQ below (va_Qi (fun r u => ∃ I2 L2, u = (ad, ns, I2, L2, G) ∧ INV I2 ∧ Kp [(1009, 1010), (1045, 1051), (1058, 1059), (1061, 1063), (1066, 1067)] [(1000, 51), (1000, 52), (1000, 53), (1000, 54), (1000, 55), (1000, 56), (1000, 59), (1000, 63)] I I2) (BM D A) A) args s 0 0 A) (F0 m 71 ls []) := by
        intro n
        induction n with
        | zero =>
          intro x5_71 x4_71 Ia71 La71 H locs ls hI hK hr5_71 hmu
          exact absurd hmu (Nat.not_lt_zero _)
        | succ n ih71 =>
          intro x5_71 x4_71 Ia71 La71 H locs ls hI hK hr5_71 hmu71 hM hS hl
          refine lv_iload hx hb dX10_sees_71 (lv_at hl 0 rfl) ?_
          refine lv_aload_n hx hb dX10_sees_73 rfl (lv_at hl 3 rfl) ?_
          refine m_getr (1000) 1 (1001) hx hb hts hown hE oc10 hM hJ.1 rfl (by decide) rfl (hJ.2 1 (by decide)).2 (by decide) tb_1178 dX10_sees_74 ?_
          refine lv_bipush (v := (9)) hx hb dX10_sees_77 (by decide) ?_
          refine m_iald (1001) hx hb hE hM (hJ.2 1 (by decide)).1 rfl (vp_in_iff.mpr (by decide)) dX10_sees_79 ?_
          rw [show (9 : Int32).toNatClampNeg = 9 from rfl]
          have g17 := hI.get (1001) 9 (lo := 0) (hi := 8) rfl
          refine lv_icmp_ge (tgt := 119) hx hb dX10_sees_80 (by decide) (fun c18 => ?_) (fun c18 => ?_)
          · have hc18 := c18
            have q18 := q_le hc18
            refine lv_iload hx hb dX10_sees_119 (lv_at hl 1 rfl) ?_
            exact m_iret hx hb hr hlocks hM hS (Nat.le_of_ble_eq_true rfl) (Nat.le_of_ble_eq_true rfl) ⟨_, _, rfl, hI, hK⟩ dX10_sees_121
          · have hc18 := c18
            have q18 := q_nle hc18
            refine lv_iload hx hb dX10_sees_83 (lv_at hl 1 rfl) ?_
            refine lv_aload_n hx hb dX10_sees_85 rfl (lv_at hl 3 rfl) ?_
            refine m_getr (1000) 50 (1050) hx hb hts hown hE oc10 hM hJ.1 rfl (by decide) rfl (hJ.2 50 (by decide)).2 (by decide) tb_1227 dX10_sees_86 ?_
            refine lv_iload hx hb dX10_sees_89 (lv_at hl 0 rfl) ?_
            refine m_iald (1050) hx hb hE hM (hJ.2 50 (by decide)).1 rfl (vp_in_iff.mpr (by omega)) dX10_sees_91 ?_
            refine lv_aload_n hx hb dX10_sees_92 rfl (lv_at hl 3 rfl) ?_
            refine m_getr (1000) 66 (1066) hx hb hts hown hE oc10 hM hJ.1 rfl (by decide) rfl (hJ.2 66 (by decide)).2 (by decide) tb_1243 dX10_sees_93 ?_
            refine lv_iload hx hb dX10_sees_96 (lv_at hl 0 rfl) ?_
            refine m_iald (1066) hx hb hE hM (hJ.2 66 (by decide)).1 rfl (vp_in_iff.mpr (by omega)) dX10_sees_98 ?_
            refine lv_icmp_eq (tgt := 109) hx hb dX10_sees_99 (by decide) (fun c19 => ?_) (fun c19 => ?_)
            · have hc19 := c19
              have q19 := q_eq hc19
              refine lv_iconst (v := (0)) hx hb dX10_sees_109 (by decide) ?_
              refine lv_ior hx hb dX10_sees_110 ?_
              refine lv_topi (fun v20 ev20 => ?_)
              refine lv_istore (lv' := [(4, .int (v20)), (5, .int (x5_71)), (3, .int (I (1009) ((a1).toNatClampNeg))), (0, .ref (ad (1000))), (1, .int (a0)), (2, .int (a1))]) hx hb dX10_sees_111 hl (by decide) rfl (fun ls hl => ?_)
              obtain ⟨v21, ev21⟩ : ∃ z : Int32, z = x5_71 + Int32.ofInt (1) := ⟨_, rfl⟩
              have tv21 := a_inc ev21 (by decide) (by omega) (by omega)
              refine lv_iinc (v := v21) (lv' := [(5, .int (v21)), (4, .int (v20)), (3, .int (I (1009) ((a1).toNatClampNeg))), (0, .ref (ad (1000))), (1, .int (a0)), (2, .int (a1))]) hx hb dX10_sees_113 hl (k := 1) rfl ev21.symm (by decide) rfl (fun ls hl => ?_)
              refine lv_goto (tgt := 71) hx hb dX10_sees_116 (by decide) ?_
              exact ih71 (v21) (v20) Ia71 La71 _ _ ls hI hK (by first | omega | decide) (by omega) hM hS (lv_sub hl [0, 1, 2, 3, 4, 5] rfl)
            · have hc19 := c19
              have q19 := q_ne hc19
              refine lv_iconst (v := (1)) hx hb dX10_sees_102 (by decide) ?_
              refine lv_iload hx hb dX10_sees_103 (lv_at hl 0 rfl) ?_
              refine lv_ishl hx hb dX10_sees_105 ?_
              refine lv_topi (fun v22 ev22 => ?_)
              refine lv_goto (tgt := 110) hx hb dX10_sees_106 (by decide) ?_
              refine lv_ior hx hb dX10_sees_110 ?_
              refine lv_topi (fun v23 ev23 => ?_)
              refine lv_istore (lv' := [(4, .int (v23)), (5, .int (x5_71)), (3, .int (I (1009) ((a1).toNatClampNeg))), (0, .ref (ad (1000))), (1, .int (a0)), (2, .int (a1))]) hx hb dX10_sees_111 hl (by decide) rfl (fun ls hl => ?_)
              obtain ⟨v24, ev24⟩ : ∃ z : Int32, z = x5_71 + Int32.ofInt (1) := ⟨_, rfl⟩
              have tv24 := a_inc ev24 (by decide) (by omega) (by omega)
              refine lv_iinc (v := v24) (lv' := [(5, .int (v24)), (4, .int (v23)), (3, .int (I (1009) ((a1).toNatClampNeg))), (0, .ref (ad (1000))), (1, .int (a0)), (2, .int (a1))]) hx hb dX10_sees_113 hl (k := 1) rfl ev24.symm (by decide) rfl (fun ls hl => ?_)
              refine lv_goto (tgt := 71) hx hb dX10_sees_116 (by decide) ?_
              exact ih71 (v24) (v23) Ia71 La71 _ _ ls hI hK (by first | omega | decide) (by omega) hM hS (lv_sub hl [0, 1, 2, 3, 4, 5] rfl)
      exact loop71 (_ + 1) (0) (0) (u2 I14 (1009) ((a1).toNatClampNeg) (I (1009) ((a1).toNatClampNeg))) L15 _ _ ls hI hK (by first | omega | decide) (Nat.lt_succ_self _) hM hS (lv_sub hl [0, 1, 2, 3, 4, 5] rfl)
    · have hc5 := c5
      have q5 := xr3.f hc5
      refine lv_iconst (v := (-1)) hx hb dX10_sees_16 (by decide) ?_
      exact m_iret hx hb hr hlocks hM hS (Nat.le_of_ble_eq_true rfl) (Nat.le_of_ble_eq_true rfl) ⟨_, _, rfl, hI, hK⟩ dX10_sees_17
theorem dX10_worth_0 : decode cX10_worth 0 = .ok (.aload_n 0, 1) := by decide +kernel
theorem dX10_worth_1 : decode cX10_worth 1 = .ok (.iload_n 1, 1) := by decide +kernel
theorem dX10_worth_2 : decode cX10_worth 2 = .ok (.invokevirtual 472, 3) := by decide +kernel
theorem dX10_worth_5 : decode cX10_worth 5 = .ok (.ifCond .eq 11, 3) := by decide +kernel
theorem dX10_worth_8 : decode cX10_worth 8 = .ok (.aload_n 0, 1) := by decide +kernel
theorem dX10_worth_9 : decode cX10_worth 9 = .ok (.iload_n 2, 1) := by decide +kernel
theorem dX10_worth_10 : decode cX10_worth 10 = .ok (.invokevirtual 220, 3) := by decide +kernel
theorem dX10_worth_13 : decode cX10_worth 13 = .ok (.ifCond .ne 7, 3) := by decide +kernel
theorem dX10_worth_16 : decode cX10_worth 16 = .ok (.ldc_w 487, 3) := by decide +kernel
theorem dX10_worth_19 : decode cX10_worth 19 = .ok (.ireturn, 1) := by decide +kernel
theorem dX10_worth_20 : decode cX10_worth 20 = .ok (.aload_n 0, 1) := by decide +kernel
theorem dX10_worth_21 : decode cX10_worth 21 = .ok (.iload_n 1, 1) := by decide +kernel
theorem dX10_worth_22 : decode cX10_worth 22 = .ok (.invokevirtual 404, 3) := by decide +kernel
theorem dX10_worth_25 : decode cX10_worth 25 = .ok (.aload_n 0, 1) := by decide +kernel
theorem dX10_worth_26 : decode cX10_worth 26 = .ok (.invokevirtual 477, 3) := by decide +kernel
theorem dX10_worth_29 : decode cX10_worth 29 = .ok (.istore_n 3, 1) := by decide +kernel
theorem dX10_worth_30 : decode cX10_worth 30 = .ok (.aload_n 0, 1) := by decide +kernel
theorem dX10_worth_31 : decode cX10_worth 31 = .ok (.getfield 52, 3) := by decide +kernel
theorem dX10_worth_34 : decode cX10_worth 34 = .ok (.iload_n 2, 1) := by decide +kernel
theorem dX10_worth_35 : decode cX10_worth 35 = .ok (.iaload, 1) := by decide +kernel
theorem dX10_worth_36 : decode cX10_worth 36 = .ok (.istore 4, 2) := by decide +kernel
theorem dX10_worth_38 : decode cX10_worth 38 = .ok (.aload_n 0, 1) := by decide +kernel
theorem dX10_worth_39 : decode cX10_worth 39 = .ok (.getfield 52, 3) := by decide +kernel
theorem dX10_worth_42 : decode cX10_worth 42 = .ok (.iload_n 2, 1) := by decide +kernel
theorem dX10_worth_43 : decode cX10_worth 43 = .ok (.iconst 1, 1) := by decide +kernel
theorem dX10_worth_44 : decode cX10_worth 44 = .ok (.iastore, 1) := by decide +kernel
theorem dX10_worth_45 : decode cX10_worth 45 = .ok (.aload_n 0, 1) := by decide +kernel
theorem dX10_worth_46 : decode cX10_worth 46 = .ok (.iload_n 1, 1) := by decide +kernel
theorem dX10_worth_47 : decode cX10_worth 47 = .ok (.invokevirtual 404, 3) := by decide +kernel
theorem dX10_worth_50 : decode cX10_worth 50 = .ok (.aload_n 0, 1) := by decide +kernel
theorem dX10_worth_51 : decode cX10_worth 51 = .ok (.getfield 52, 3) := by decide +kernel
theorem dX10_worth_54 : decode cX10_worth 54 = .ok (.iload_n 2, 1) := by decide +kernel
theorem dX10_worth_55 : decode cX10_worth 55 = .ok (.iload 4, 2) := by decide +kernel
theorem dX10_worth_57 : decode cX10_worth 57 = .ok (.iastore, 1) := by decide +kernel
theorem dX10_worth_58 : decode cX10_worth 58 = .ok (.iload_n 3, 1) := by decide +kernel
theorem dX10_worth_59 : decode cX10_worth 59 = .ok (.aload_n 0, 1) := by decide +kernel
theorem dX10_worth_60 : decode cX10_worth 60 = .ok (.invokevirtual 477, 3) := by decide +kernel
theorem dX10_worth_63 : decode cX10_worth 63 = .ok (.isub, 1) := by decide +kernel
theorem dX10_worth_64 : decode cX10_worth 64 = .ok (.ireturn, 1) := by decide +kernel
theorem ce_X10_worth : CeV RX10 yX10_worth cX10_worth 5 (some .int) 2 := ⟨tb_1727, tb_1728, tb_11, tb_1729, rfl, by decide, by decide, by decide +kernel⟩
set_option maxHeartbeats 4000000 in
set_option maxRecDepth 20000 in
theorem V_X10_worth (l : Launch) (D : va_G) (A : Nat → Prop) (ad : Nat → Nat) (ns : List Nat) (I : MI) (L : ML) (G : MG) (a0 : Int32) (a1 : Int32) (hJ : SGM ns G) (hI : INV I) : Met l yX10_worth (wd yX10_worth cX10_worth 5 (some .int)) ({ frames := 5, cells := 0, slots := 0, locals := 128 }) (va_Pc [.ref (ad (1000)), .int a0, .int a1] (PM D A ad ns I L G)) (va_Qi (fun r u => ∃ I2 L2, u = (ad, ns, I2, L2, G) ∧ INV I2 ∧ Kp [(1015, 1016), (1045, 1051), (1058, 1059), (1061, 1063)] [(1000, 51), (1000, 52), (1000, 53), (1000, 54), (1000, 55), (1000, 56), (1000, 59), (1000, 63)] I I2) (BM D A) A) 0 0 A := by
  refine m_ofW (by decide) (Nat.le_of_ble_eq_true rfl) ?_
  intro p e s m below meth c ls args hC hE hM hA hS hl
  obtain ⟨hx, hb, hml, hown, hts, hr, hlocks, hin⟩ := hC
  have km1000000 : (-1000000 : Int32).toInt = -1000000 := by decide
  have k0 : (0 : Int32).toInt = 0 := by decide
  have k1 : (1 : Int32).toInt = 1 := by decide
  have hK : Kp [(1015, 1016), (1045, 1051), (1058, 1059), (1061, 1063)] [(1000, 51), (1000, 52), (1000, 53), (1000, 54), (1000, 55), (1000, 56), (1000, 59), (1000, 63)] I I := Kp.rf
  have hl : lv_has ls 5 [(0, .ref (ad (1000))), (1, .int (a0)), (2, .int (a1))] := hl
  refine lv_aload_n hx hb dX10_worth_0 rfl (lv_at hl 0 rfl) ?_
  refine lv_iload_n hx hb dX10_worth_1 rfl (lv_at hl 1 rfl) ?_
  refine m_calli (m_runV (1000) (As := [.int (a0)]) (rest := []) hx hb hml hown hts hE hM hS hA ce_X10_isBright tb_1698 (V_X10_isBright l D A ad ns I L G (a0) hJ hI) rfl rfl ⟨Nat.le_of_ble_eq_true rfl, Nat.le_of_ble_eq_true rfl⟩ hJ.1 rfl rfl (by decide) rfl hl.1 rfl (Nat.le_of_ble_eq_true rfl) dX10_worth_2 ⟨Nat.le_of_ble_eq_true rfl, Nat.le_of_ble_eq_true rfl⟩) hS (fun r1 u H locs hw hM hS => ?_)
  obtain ⟨rfl, xr1⟩ := hw
  have hM : Mem D A ad ns I L G H := hM
  refine lv_if_eq (tgt := 16) hx hb dX10_worth_5 (by decide) (fun c2 => ?_) (fun c2 => ?_)
  · have hc2 := c2
    have q2 := q_eq hc2
    refine lv_ldcw (v := (-1000000)) hx hb hown (hts _ tb_1730) dX10_worth_16 ?_
    exact m_iret hx hb hr hlocks hM hS (Nat.le_of_ble_eq_true rfl) (Nat.le_of_ble_eq_true rfl) ⟨_, _, rfl, hI, hK⟩ dX10_worth_19
  · have hc2 := c2
    have q2 := q_ne hc2
    refine lv_aload_n hx hb dX10_worth_8 rfl (lv_at hl 0 rfl) ?_
    refine lv_iload_n hx hb dX10_worth_9 rfl (lv_at hl 2 rfl) ?_
    refine m_calli (m_runV (1000) (As := [.int (a1)]) (rest := []) hx hb hml hown hts hE hM hS hA ce_X10_isMirror tb_1462 (V_X10_isMirror l D A ad ns I L G (a1) hJ hI) rfl rfl ⟨Nat.le_of_ble_eq_true rfl, Nat.le_of_ble_eq_true rfl⟩ hJ.1 rfl rfl (by decide) rfl hl.1 rfl (Nat.le_of_ble_eq_true rfl) dX10_worth_10 ⟨Nat.le_of_ble_eq_true rfl, Nat.le_of_ble_eq_true rfl⟩) hS (fun r3 u H locs hw hM hS => ?_)
    obtain ⟨rfl, xr3⟩ := hw
    have hM : Mem D A ad ns I L G H := hM
    have yr3 := bo01 xr3
    have g4 := hI.get 1001 8 (lo := 0) (hi := 24) rfl
    refine lv_if_ne (tgt := 20) hx hb dX10_worth_13 (by decide) (fun c5 => ?_) (fun c5 => ?_)
    · have hc5 := c5
      have q5 := xr3.t hc5
      refine lv_aload_n hx hb dX10_worth_20 rfl (lv_at hl 0 rfl) ?_
      refine lv_iload_n hx hb dX10_worth_21 rfl (lv_at hl 1 rfl) ?_
      refine m_callv (m_runV (1000) (As := [.int (a0)]) (rest := []) hx hb hml hown hts hE hM hS hA ce_X10_shines tb_1640 (V_X10_shines l D A ad ns I L G (a0) hJ hI (by first | omega | decide)) rfl rfl ⟨Nat.le_of_ble_eq_true rfl, Nat.le_of_ble_eq_true rfl⟩ hJ.1 rfl rfl (by decide) rfl hl.1 rfl (Nat.le_of_ble_eq_true rfl) dX10_worth_22 ⟨Nat.le_of_ble_eq_true rfl, Nat.le_of_ble_eq_true rfl⟩) hS (fun u H locs hw hM hS => ?_)
      obtain ⟨I6, L7, rfl, hI, hkI6⟩ := hw
      have hM : Mem D A ad ns I6 L7 G H := hM
      have hK := hK.trans hkI6 rfl
      refine lv_aload_n hx hb dX10_worth_25 rfl (lv_at hl 0 rfl) ?_
      refine m_calli (m_runV (1000) (As := []) (rest := []) hx hb hml hown hts hE hM hS hA ce_X10_allGot tb_1707 (V_X10_allGot l D A ad ns I6 L7 G hJ hI) rfl rfl ⟨Nat.le_of_ble_eq_true rfl, Nat.le_of_ble_eq_true rfl⟩ hJ.1 rfl rfl (by decide) rfl hl.1 rfl (Nat.le_of_ble_eq_true rfl) dX10_worth_26 ⟨Nat.le_of_ble_eq_true rfl, Nat.le_of_ble_eq_true rfl⟩) hS (fun r8 u H locs hw hM hS => ?_)
      obtain ⟨rfl, xr8⟩ := hw
      have hM : Mem D A ad ns I6 L7 G H := hM
      refine lv_istore_n (lv' := [(3, .int (r8)), (0, .ref (ad (1000))), (1, .int (a0)), (2, .int (a1))]) hx hb dX10_worth_29 rfl hl (by decide) rfl (fun ls hl => ?_)
      refine lv_aload_n hx hb dX10_worth_30 rfl (lv_at hl 1 rfl) ?_
      refine m_getr (1000) 15 (1015) hx hb hts hown hE oc10 hM hJ.1 rfl (by decide) rfl (hJ.2 15 (by decide)).2 (by decide) tb_1192 dX10_worth_31 ?_
      refine lv_iload_n hx hb dX10_worth_34 rfl (lv_at hl 3 rfl) ?_
      refine m_iald (1015) hx hb hE hM (hJ.2 15 (by decide)).1 rfl (vp_in_iff.mpr (by omega)) dX10_worth_35 ?_
      have z9 : I6 (1015) (a1).toNatClampNeg = I (1015) ((a1).toNatClampNeg) := (congrFun (hkI6.getA (1015) rfl) ((a1).toNatClampNeg))
      rw [z9]
      refine lv_istore (lv' := [(4, .int (I (1015) ((a1).toNatClampNeg))), (3, .int (r8)), (0, .ref (ad (1000))), (1, .int (a0)), (2, .int (a1))]) hx hb dX10_worth_36 hl (by decide) rfl (fun ls hl => ?_)
      refine lv_aload_n hx hb dX10_worth_38 rfl (lv_at hl 2 rfl) ?_
      refine m_getr (1000) 15 (1015) hx hb hts hown hE oc10 hM hJ.1 rfl (by decide) rfl (hJ.2 15 (by decide)).2 (by decide) tb_1192 dX10_worth_39 ?_
      refine lv_iload_n hx hb dX10_worth_42 rfl (lv_at hl 4 rfl) ?_
      refine lv_iconst (v := (1)) hx hb dX10_worth_43 (by decide) ?_
      refine m_iast (1015) hx hb hE hM hS (hJ.2 15 (by decide)).1 rfl (vp_in_iff.mpr (by omega)) dX10_worth_44 (fun H locs I10 eI10 hM hS => ?_)
      subst eI10
      have hI := hI.putF (n := 1015) (k := ((a1).toNatClampNeg)) (v := 1) rfl
      have hK := hK.put (n := 1015) (k := ((a1).toNatClampNeg)) (v := 1) (by first | rfl | simp [inR])
      refine lv_aload_n hx hb dX10_worth_45 rfl (lv_at hl 2 rfl) ?_
      refine lv_iload_n hx hb dX10_worth_46 rfl (lv_at hl 3 rfl) ?_
      refine m_callv (m_runV (1000) (As := [.int (a0)]) (rest := []) hx hb hml hown hts hE hM hS hA ce_X10_shines tb_1640 (V_X10_shines l D A ad ns (u2 I6 (1015) ((a1).toNatClampNeg) (1)) L7 G (a0) hJ hI (by first | omega | decide)) rfl rfl ⟨Nat.le_of_ble_eq_true rfl, Nat.le_of_ble_eq_true rfl⟩ hJ.1 rfl rfl (by decide) rfl hl.1 rfl (Nat.le_of_ble_eq_true rfl) dX10_worth_47 ⟨Nat.le_of_ble_eq_true rfl, Nat.le_of_ble_eq_true rfl⟩) hS (fun u H locs hw hM hS => ?_)
      obtain ⟨I11, L12, rfl, hI, hkI11⟩ := hw
      have hM : Mem D A ad ns I11 L12 G H := hM
      have hK := hK.trans hkI11 rfl
      refine lv_aload_n hx hb dX10_worth_50 rfl (lv_at hl 2 rfl) ?_
      refine m_getr (1000) 15 (1015) hx hb hts hown hE oc10 hM hJ.1 rfl (by decide) rfl (hJ.2 15 (by decide)).2 (by decide) tb_1192 dX10_worth_51 ?_
      refine lv_iload_n hx hb dX10_worth_54 rfl (lv_at hl 4 rfl) ?_
      refine lv_iload hx hb dX10_worth_55 (lv_at hl 0 rfl) ?_
      refine m_iast (1015) hx hb hE hM hS (hJ.2 15 (by decide)).1 rfl (vp_in_iff.mpr (by omega)) dX10_worth_57 (fun H locs I13 eI13 hM hS => ?_)
      subst eI13
      have hI := hI.putF (n := 1015) (k := ((a1).toNatClampNeg)) (v := I (1015) ((a1).toNatClampNeg)) rfl
      have hK := hK.put (n := 1015) (k := ((a1).toNatClampNeg)) (v := I (1015) ((a1).toNatClampNeg)) (by first | rfl | simp [inR])
      refine lv_iload_n hx hb dX10_worth_58 rfl (lv_at hl 1 rfl) ?_
      refine lv_aload_n hx hb dX10_worth_59 rfl (lv_at hl 2 rfl) ?_
      refine m_calli (m_runV (1000) (As := []) (rest := [.int (r8)]) hx hb hml hown hts hE hM hS hA ce_X10_allGot tb_1707 (V_X10_allGot l D A ad ns (u2 I11 (1015) ((a1).toNatClampNeg) (I (1015) ((a1).toNatClampNeg))) L12 G hJ hI) rfl rfl ⟨Nat.le_of_ble_eq_true rfl, Nat.le_of_ble_eq_true rfl⟩ hJ.1 rfl rfl (by decide) rfl hl.1 rfl (Nat.le_of_ble_eq_true rfl) dX10_worth_60 ⟨Nat.le_of_ble_eq_true rfl, Nat.le_of_ble_eq_true rfl⟩) hS (fun r14 u H locs hw hM hS => ?_)
      obtain ⟨rfl, xr14⟩ := hw
      have hM : Mem D A ad ns (u2 I11 (1015) ((a1).toNatClampNeg) (I (1015) ((a1).toNatClampNeg))) L12 G H := hM
      refine lv_isub hx hb dX10_worth_63 ?_
      refine lv_topi (fun v15 ev15 => ?_)
      exact m_iret hx hb hr hlocks hM hS (Nat.le_of_ble_eq_true rfl) (Nat.le_of_ble_eq_true rfl) ⟨_, _, rfl, hI, hK⟩ dX10_worth_64
    · have hc5 := c5
      have q5 := xr3.f hc5
      refine lv_ldcw (v := (-1000000)) hx hb hown (hts _ tb_1730) dX10_worth_16 ?_
      exact m_iret hx hb hr hlocks hM hS (Nat.le_of_ble_eq_true rfl) (Nat.le_of_ble_eq_true rfl) ⟨_, _, rfl, hI, hK⟩ dX10_worth_19
theorem dX10_owned_0 : decode cX10_owned 0 = .ok (.aload_n 0, 1) := by decide +kernel
theorem dX10_owned_1 : decode cX10_owned 1 = .ok (.iload_n 1, 1) := by decide +kernel
theorem dX10_owned_2 : decode cX10_owned 2 = .ok (.invokevirtual 472, 3) := by decide +kernel
theorem dX10_owned_5 : decode cX10_owned 5 = .ok (.ifCond .eq 15, 3) := by decide +kernel
theorem dX10_owned_8 : decode cX10_owned 8 = .ok (.iload_n 2, 1) := by decide +kernel
theorem dX10_owned_9 : decode cX10_owned 9 = .ok (.i2l, 1) := by decide +kernel
theorem dX10_owned_10 : decode cX10_owned 10 = .ok (.lconst 0, 1) := by decide +kernel
theorem dX10_owned_11 : decode cX10_owned 11 = .ok (.ldc2_w 218, 3) := by decide +kernel
theorem dX10_owned_14 : decode cX10_owned 14 = .ok (.invokestatic 192, 3) := by decide +kernel
theorem dX10_owned_17 : decode cX10_owned 17 = .ok (.ifCond .ne 7, 3) := by decide +kernel
theorem dX10_owned_20 : decode cX10_owned 20 = .ok (.ldc_w 487, 3) := by decide +kernel
theorem dX10_owned_23 : decode cX10_owned 23 = .ok (.ireturn, 1) := by decide +kernel
theorem dX10_owned_24 : decode cX10_owned 24 = .ok (.aload_n 0, 1) := by decide +kernel
theorem dX10_owned_25 : decode cX10_owned 25 = .ok (.iload_n 1, 1) := by decide +kernel
theorem dX10_owned_26 : decode cX10_owned 26 = .ok (.invokevirtual 404, 3) := by decide +kernel
theorem dX10_owned_29 : decode cX10_owned 29 = .ok (.aload_n 0, 1) := by decide +kernel
theorem dX10_owned_30 : decode cX10_owned 30 = .ok (.invokevirtual 477, 3) := by decide +kernel
theorem dX10_owned_33 : decode cX10_owned 33 = .ok (.istore_n 3, 1) := by decide +kernel
theorem dX10_owned_34 : decode cX10_owned 34 = .ok (.aload_n 0, 1) := by decide +kernel
theorem dX10_owned_35 : decode cX10_owned 35 = .ok (.getfield 52, 3) := by decide +kernel
theorem dX10_owned_38 : decode cX10_owned 38 = .ok (.aload_n 0, 1) := by decide +kernel
theorem dX10_owned_39 : decode cX10_owned 39 = .ok (.getfield 161, 3) := by decide +kernel
theorem dX10_owned_42 : decode cX10_owned 42 = .ok (.invokestatic 483, 3) := by decide +kernel
theorem dX10_owned_45 : decode cX10_owned 45 = .ok (.iconst 0, 1) := by decide +kernel
theorem dX10_owned_46 : decode cX10_owned 46 = .ok (.istore 4, 2) := by decide +kernel
theorem dX10_owned_48 : decode cX10_owned 48 = .ok (.iload 4, 2) := by decide +kernel
theorem dX10_owned_50 : decode cX10_owned 50 = .ok (.aload_n 0, 1) := by decide +kernel
theorem dX10_owned_51 : decode cX10_owned 51 = .ok (.getfield 7, 3) := by decide +kernel
theorem dX10_owned_54 : decode cX10_owned 54 = .ok (.bipush 8, 2) := by decide +kernel
theorem dX10_owned_56 : decode cX10_owned 56 = .ok (.iaload, 1) := by decide +kernel
theorem dX10_owned_57 : decode cX10_owned 57 = .ok (.if_icmp .ge 38, 3) := by decide +kernel
theorem dX10_owned_60 : decode cX10_owned 60 = .ok (.aload_n 0, 1) := by decide +kernel
theorem dX10_owned_61 : decode cX10_owned 61 = .ok (.getfield 52, 3) := by decide +kernel
theorem dX10_owned_64 : decode cX10_owned 64 = .ok (.iload 4, 2) := by decide +kernel
theorem dX10_owned_66 : decode cX10_owned 66 = .ok (.aload_n 0, 1) := by decide +kernel
theorem dX10_owned_67 : decode cX10_owned 67 = .ok (.getfield 46, 3) := by decide +kernel
theorem dX10_owned_70 : decode cX10_owned 70 = .ok (.iload 4, 2) := by decide +kernel
theorem dX10_owned_72 : decode cX10_owned 72 = .ok (.iaload, 1) := by decide +kernel
theorem dX10_owned_73 : decode cX10_owned 73 = .ok (.iload_n 2, 1) := by decide +kernel
theorem dX10_owned_74 : decode cX10_owned 74 = .ok (.if_icmp .ne 7, 3) := by decide +kernel
theorem dX10_owned_77 : decode cX10_owned 77 = .ok (.iconst 1, 1) := by decide +kernel
theorem dX10_owned_78 : decode cX10_owned 78 = .ok (.goto 10, 3) := by decide +kernel
theorem dX10_owned_81 : decode cX10_owned 81 = .ok (.aload_n 0, 1) := by decide +kernel
theorem dX10_owned_82 : decode cX10_owned 82 = .ok (.getfield 52, 3) := by decide +kernel
theorem dX10_owned_85 : decode cX10_owned 85 = .ok (.iload 4, 2) := by decide +kernel
theorem dX10_owned_87 : decode cX10_owned 87 = .ok (.iaload, 1) := by decide +kernel
theorem dX10_owned_88 : decode cX10_owned 88 = .ok (.iastore, 1) := by decide +kernel
theorem dX10_owned_89 : decode cX10_owned 89 = .ok (.iinc 4 1, 3) := by decide +kernel
theorem dX10_owned_92 : decode cX10_owned 92 = .ok (.goto (-44), 3) := by decide +kernel
theorem dX10_owned_95 : decode cX10_owned 95 = .ok (.aload_n 0, 1) := by decide +kernel
theorem dX10_owned_96 : decode cX10_owned 96 = .ok (.iload_n 1, 1) := by decide +kernel
theorem dX10_owned_97 : decode cX10_owned 97 = .ok (.invokevirtual 404, 3) := by decide +kernel
theorem dX10_owned_100 : decode cX10_owned 100 = .ok (.aload_n 0, 1) := by decide +kernel
theorem dX10_owned_101 : decode cX10_owned 101 = .ok (.getfield 161, 3) := by decide +kernel
theorem dX10_owned_104 : decode cX10_owned 104 = .ok (.aload_n 0, 1) := by decide +kernel
theorem dX10_owned_105 : decode cX10_owned 105 = .ok (.getfield 52, 3) := by decide +kernel
theorem dX10_owned_108 : decode cX10_owned 108 = .ok (.invokestatic 483, 3) := by decide +kernel
theorem dX10_owned_111 : decode cX10_owned 111 = .ok (.iload_n 3, 1) := by decide +kernel
theorem dX10_owned_112 : decode cX10_owned 112 = .ok (.aload_n 0, 1) := by decide +kernel
theorem dX10_owned_113 : decode cX10_owned 113 = .ok (.invokevirtual 477, 3) := by decide +kernel
theorem dX10_owned_116 : decode cX10_owned 116 = .ok (.isub, 1) := by decide +kernel
theorem dX10_owned_117 : decode cX10_owned 117 = .ok (.ireturn, 1) := by decide +kernel
theorem ce_X10_owned : CeV RX10 yX10_owned cX10_owned 5 (some .int) 2 := ⟨tb_1732, tb_1733, tb_11, tb_1734, rfl, by decide, by decide, by decide +kernel⟩
set_option maxHeartbeats 4000000 in
set_option maxRecDepth 20000 in
theorem V_X10_owned (l : Launch) (D : va_G) (A : Nat → Prop) (ad : Nat → Nat) (ns : List Nat) (I : MI) (L : ML) (G : MG) (a0 : Int32) (a1 : Int32) (hJ : SGM ns G) (hI : INV I) : Met l yX10_owned (wd yX10_owned cX10_owned 5 (some .int)) ({ frames := 5, cells := 0, slots := 0, locals := 128 }) (va_Pc [.ref (ad (1000)), .int a0, .int a1] (PM D A ad ns I L G)) (va_Qi (fun r u => ∃ I2 L2, u = (ad, ns, I2, L2, G) ∧ INV I2 ∧ Kp [(1015, 1016), (1045, 1051), (1058, 1059), (1061, 1063), (1068, 1069)] [(1000, 51), (1000, 52), (1000, 53), (1000, 54), (1000, 55), (1000, 56), (1000, 59), (1000, 63)] I I2) (BM D A) A) 0 0 A := by
  refine m_ofW (by decide) (Nat.le_of_ble_eq_true rfl) ?_
  intro p e s m below meth c ls args hC hE hM hA hS hl
  obtain ⟨hx, hb, hml, hown, hts, hr, hlocks, hin⟩ := hC
  have km1000000 : (-1000000 : Int32).toInt = -1000000 := by decide
  have k0 : (0 : Int32).toInt = 0 := by decide
  have k1 : (1 : Int32).toInt = 1 := by decide
  have k8 : (8 : Int32).toInt = 8 := by decide
  have kl0 : (0 : Int64).toInt = 0 := by decide
  have kl9 : (9 : Int64).toInt = 9 := by decide
  have hK : Kp [(1015, 1016), (1045, 1051), (1058, 1059), (1061, 1063), (1068, 1069)] [(1000, 51), (1000, 52), (1000, 53), (1000, 54), (1000, 55), (1000, 56), (1000, 59), (1000, 63)] I I := Kp.rf
  have hl : lv_has ls 5 [(0, .ref (ad (1000))), (1, .int (a0)), (2, .int (a1))] := hl
  refine lv_aload_n hx hb dX10_owned_0 rfl (lv_at hl 0 rfl) ?_
  refine lv_iload_n hx hb dX10_owned_1 rfl (lv_at hl 1 rfl) ?_
  refine m_calli (m_runV (1000) (As := [.int (a0)]) (rest := []) hx hb hml hown hts hE hM hS hA ce_X10_isBright tb_1698 (V_X10_isBright l D A ad ns I L G (a0) hJ hI) rfl rfl ⟨Nat.le_of_ble_eq_true rfl, Nat.le_of_ble_eq_true rfl⟩ hJ.1 rfl rfl (by decide) rfl hl.1 rfl (Nat.le_of_ble_eq_true rfl) dX10_owned_2 ⟨Nat.le_of_ble_eq_true rfl, Nat.le_of_ble_eq_true rfl⟩) hS (fun r1 u H locs hw hM hS => ?_)
  obtain ⟨rfl, xr1⟩ := hw
  have hM : Mem D A ad ns I L G H := hM
  refine lv_if_eq (tgt := 20) hx hb dX10_owned_5 (by decide) (fun c2 => ?_) (fun c2 => ?_)
  · have hc2 := c2
    have q2 := q_eq hc2
    refine lv_ldcw (v := (-1000000)) hx hb hown (hts _ tb_1730) dX10_owned_20 ?_
    exact m_iret hx hb hr hlocks hM hS (Nat.le_of_ble_eq_true rfl) (Nat.le_of_ble_eq_true rfl) ⟨_, _, rfl, hI, hK⟩ dX10_owned_23
  · have hc2 := c2
    have q2 := q_ne hc2
    refine lv_iload_n hx hb dX10_owned_8 rfl (lv_at hl 2 rfl) ?_
    refine lv_i2l hx hb dX10_owned_9 rfl ?_
    refine lv_topl (fun v3 ev3 => ?_)
    have tv3 := q_i2l ev3
    refine lv_lconst (v := 0) hx hb dX10_owned_10 (by decide) ?_
    refine lv_ldc2 (v := (9)) hx hb hown (hts _ tb_1457) dX10_owned_11 ?_
    refine m_calli (m_runS (As := [.long (v3), .long (0), .long ((9 : Int64))]) (rest := []) hx hb hml hown hts hE hM hS hA ce_X10_in tb_1425 (V_X10_in l D A ad ns I L G (v3) (0) ((9 : Int64)) hI) rfl rfl ⟨Nat.le_of_ble_eq_true rfl, Nat.le_of_ble_eq_true rfl⟩  rfl hl.1 rfl (Nat.le_of_ble_eq_true rfl) dX10_owned_14 ⟨Nat.le_of_ble_eq_true rfl, Nat.le_of_ble_eq_true rfl⟩) hS (fun r4 u H locs hw hM hS => ?_)
    obtain ⟨rfl, xr4⟩ := hw
    have hM : Mem D A ad ns I L G H := hM
    have yr4 := bo01 xr4
    refine lv_if_ne (tgt := 24) hx hb dX10_owned_17 (by decide) (fun c5 => ?_) (fun c5 => ?_)
    · have hc5 := c5
      have q5 := xr4.t hc5
      refine lv_aload_n hx hb dX10_owned_24 rfl (lv_at hl 0 rfl) ?_
      refine lv_iload_n hx hb dX10_owned_25 rfl (lv_at hl 1 rfl) ?_
      refine m_callv (m_runV (1000) (As := [.int (a0)]) (rest := []) hx hb hml hown hts hE hM hS hA ce_X10_shines tb_1640 (V_X10_shines l D A ad ns I L G (a0) hJ hI (by first | omega | decide)) rfl rfl ⟨Nat.le_of_ble_eq_true rfl, Nat.le_of_ble_eq_true rfl⟩ hJ.1 rfl rfl (by decide) rfl hl.1 rfl (Nat.le_of_ble_eq_true rfl) dX10_owned_26 ⟨Nat.le_of_ble_eq_true rfl, Nat.le_of_ble_eq_true rfl⟩) hS (fun u H locs hw hM hS => ?_)
      obtain ⟨I6, L7, rfl, hI, hkI6⟩ := hw
      have hM : Mem D A ad ns I6 L7 G H := hM
      have hK := hK.trans hkI6 rfl
      refine lv_aload_n hx hb dX10_owned_29 rfl (lv_at hl 0 rfl) ?_
      refine m_calli (m_runV (1000) (As := []) (rest := []) hx hb hml hown hts hE hM hS hA ce_X10_allGot tb_1707 (V_X10_allGot l D A ad ns I6 L7 G hJ hI) rfl rfl ⟨Nat.le_of_ble_eq_true rfl, Nat.le_of_ble_eq_true rfl⟩ hJ.1 rfl rfl (by decide) rfl hl.1 rfl (Nat.le_of_ble_eq_true rfl) dX10_owned_30 ⟨Nat.le_of_ble_eq_true rfl, Nat.le_of_ble_eq_true rfl⟩) hS (fun r8 u H locs hw hM hS => ?_)
      obtain ⟨rfl, xr8⟩ := hw
      have hM : Mem D A ad ns I6 L7 G H := hM
      refine lv_istore_n (lv' := [(3, .int (r8)), (0, .ref (ad (1000))), (1, .int (a0)), (2, .int (a1))]) hx hb dX10_owned_33 rfl hl (by decide) rfl (fun ls hl => ?_)
      refine lv_aload_n hx hb dX10_owned_34 rfl (lv_at hl 1 rfl) ?_
      refine m_getr (1000) 15 (1015) hx hb hts hown hE oc10 hM hJ.1 rfl (by decide) rfl (hJ.2 15 (by decide)).2 (by decide) tb_1192 dX10_owned_35 ?_
      refine lv_aload_n hx hb dX10_owned_38 rfl (lv_at hl 1 rfl) ?_
      refine m_getr (1000) 68 (1068) hx hb hts hown hE oc10 hM hJ.1 rfl (by decide) rfl (hJ.2 68 (by decide)).2 (by decide) tb_1245 dX10_owned_39 ?_
      refine m_callv (m_runS (As := [.ref (ad (1015)), .ref (ad (1068))]) (rest := []) hx hb hml hown hts hE hM hS hA ce_X10_copy tb_1723 (V_X10_copy_1015_1068 l D A ad ns I6 L7 G hJ hI) rfl rfl ⟨Nat.le_of_ble_eq_true rfl, Nat.le_of_ble_eq_true rfl⟩  rfl hl.1 rfl (Nat.le_of_ble_eq_true rfl) dX10_owned_42 ⟨Nat.le_of_ble_eq_true rfl, Nat.le_of_ble_eq_true rfl⟩) hS (fun u H locs hw hM hS => ?_)
      obtain ⟨I9, L10, rfl, hI, hkI9⟩ := hw
      have hM : Mem D A ad ns I9 L10 G H := hM
      have hK := hK.trans hkI9 rfl
      refine lv_iconst (v := (0)) hx hb dX10_owned_45 (by decide) ?_
      refine lv_istore (lv' := [(4, .int (0)), (3, .int (r8)), (0, .ref (ad (1000))), (1, .int (a0)), (2, .int (a1))]) hx hb dX10_owned_46 hl (by decide) rfl (fun ls hl => ?_)
      have loop48 : ∀ (n : Nat) (x4_48 : Int32) (Ia48 : MI) (La48 : ML) (H : Heap) (locs : List Loc) (ls : Array Slot), INV Ia48 → Kp [(1015, 1016), (1045, 1051), (1058, 1059), (1061, 1063), (1068, 1069)] [(1000, 51), (1000, 52), (1000, 53), (1000, 54), (1000, 55), (1000, 56), (1000, 59), (1000, 63)] I Ia48 → (0 ≤ x4_48.toInt ∧ x4_48.toInt ≤ 24) → (24 - x4_48.toInt).toNat < n → Mem D A ad ns Ia48 La48 G H → va_S A s.heap H locs → lv_has ls 5 [(4, .int (x4_48)), (3, .int (r8)), (0, .ref (ad (1000))), (1, .int (a0)), (2, .int (a1))] → W p l e ({ frames := 5, cells := 0, slots := 0, locals := 128 } : Room) s m args below meth c H locs 0 0 (MQ below (va_Qi (fun r u => ∃ I2 L2, u = (ad, ns, I2, L2, G) ∧ INV I2 ∧ Kp [(1015, 1016), (1045, 1051), (1058, 1059), (1061, 1063), (1068, 1069)] [(1000, 51), (1000, 52), (1000, 53), (1000, 54), (1000, 55), (1000, 56), (1000, 59), (1000, 63)] I I2) (BM D A) A) args s 0 0 A) (F0 m 48 ls []) := by
        intro n
        induction n with
        | zero =>
          intro x4_48 Ia48 La48 H locs ls hI hK hr4_48 hmu
          exact absurd hmu (Nat.not_lt_zero _)
        | succ n ih48 =>
          intro x4_48 Ia48 La48 H locs ls hI hK hr4_48 hmu48 hM hS hl
          refine lv_iload hx hb dX10_owned_48 (lv_at hl 0 rfl) ?_
          refine lv_aload_n hx hb dX10_owned_50 rfl (lv_at hl 2 rfl) ?_
          refine m_getr (1000) 1 (1001) hx hb hts hown hE oc10 hM hJ.1 rfl (by decide) rfl (hJ.2 1 (by decide)).2 (by decide) tb_1178 dX10_owned_51 ?_
          refine lv_bipush (v := (8)) hx hb dX10_owned_54 (by decide) ?_
          refine m_iald (1001) hx hb hE hM (hJ.2 1 (by decide)).1 rfl (vp_in_iff.mpr (by decide)) dX10_owned_56 ?_
          rw [show (8 : Int32).toNatClampNeg = 8 from rfl]
          have g11 := hI.get (1001) 8 (lo := 0) (hi := 24) rfl
          refine lv_icmp_ge (tgt := 95) hx hb dX10_owned_57 (by decide) (fun c12 => ?_) (fun c12 => ?_)
          · have hc12 := c12
            have q12 := q_le hc12
            refine lv_aload_n hx hb dX10_owned_95 rfl (lv_at hl 2 rfl) ?_
            refine lv_iload_n hx hb dX10_owned_96 rfl (lv_at hl 3 rfl) ?_
            refine m_callv (m_runV (1000) (As := [.int (a0)]) (rest := []) hx hb hml hown hts hE hM hS hA ce_X10_shines tb_1640 (V_X10_shines l D A ad ns Ia48 La48 G (a0) hJ hI (by first | omega | decide)) rfl rfl ⟨Nat.le_of_ble_eq_true rfl, Nat.le_of_ble_eq_true rfl⟩ hJ.1 rfl rfl (by decide) rfl hl.1 rfl (Nat.le_of_ble_eq_true rfl) dX10_owned_97 ⟨Nat.le_of_ble_eq_true rfl, Nat.le_of_ble_eq_true rfl⟩) hS (fun u H locs hw hM hS => ?_)
            obtain ⟨I13, L14, rfl, hI, hkI13⟩ := hw
            have hM : Mem D A ad ns I13 L14 G H := hM
            have hK := hK.trans hkI13 rfl
            refine lv_aload_n hx hb dX10_owned_100 rfl (lv_at hl 2 rfl) ?_
            refine m_getr (1000) 68 (1068) hx hb hts hown hE oc10 hM hJ.1 rfl (by decide) rfl (hJ.2 68 (by decide)).2 (by decide) tb_1245 dX10_owned_101 ?_
            refine lv_aload_n hx hb dX10_owned_104 rfl (lv_at hl 2 rfl) ?_
            refine m_getr (1000) 15 (1015) hx hb hts hown hE oc10 hM hJ.1 rfl (by decide) rfl (hJ.2 15 (by decide)).2 (by decide) tb_1192 dX10_owned_105 ?_
            refine m_callv (m_runS (As := [.ref (ad (1068)), .ref (ad (1015))]) (rest := []) hx hb hml hown hts hE hM hS hA ce_X10_copy tb_1723 (V_X10_copy_1068_1015 l D A ad ns I13 L14 G hJ hI) rfl rfl ⟨Nat.le_of_ble_eq_true rfl, Nat.le_of_ble_eq_true rfl⟩  rfl hl.1 rfl (Nat.le_of_ble_eq_true rfl) dX10_owned_108 ⟨Nat.le_of_ble_eq_true rfl, Nat.le_of_ble_eq_true rfl⟩) hS (fun u H locs hw hM hS => ?_)
            obtain ⟨I15, L16, rfl, hI, hkI15⟩ := hw
            have hM : Mem D A ad ns I15 L16 G H := hM
            have hK := hK.trans hkI15 rfl
            refine lv_iload_n hx hb dX10_owned_111 rfl (lv_at hl 1 rfl) ?_
            refine lv_aload_n hx hb dX10_owned_112 rfl (lv_at hl 2 rfl) ?_
            refine m_calli (m_runV (1000) (As := []) (rest := [.int (r8)]) hx hb hml hown hts hE hM hS hA ce_X10_allGot tb_1707 (V_X10_allGot l D A ad ns I15 L16 G hJ hI) rfl rfl ⟨Nat.le_of_ble_eq_true rfl, Nat.le_of_ble_eq_true rfl⟩ hJ.1 rfl rfl (by decide) rfl hl.1 rfl (Nat.le_of_ble_eq_true rfl) dX10_owned_113 ⟨Nat.le_of_ble_eq_true rfl, Nat.le_of_ble_eq_true rfl⟩) hS (fun r17 u H locs hw hM hS => ?_)
            obtain ⟨rfl, xr17⟩ := hw
            have hM : Mem D A ad ns I15 L16 G H := hM
            refine lv_isub hx hb dX10_owned_116 ?_
            refine lv_topi (fun v18 ev18 => ?_)
            exact m_iret hx hb hr hlocks hM hS (Nat.le_of_ble_eq_true rfl) (Nat.le_of_ble_eq_true rfl) ⟨_, _, rfl, hI, hK⟩ dX10_owned_117
          · have hc12 := c12
            have q12 := q_nle hc12
            refine lv_aload_n hx hb dX10_owned_60 rfl (lv_at hl 2 rfl) ?_
            refine m_getr (1000) 15 (1015) hx hb hts hown hE oc10 hM hJ.1 rfl (by decide) rfl (hJ.2 15 (by decide)).2 (by decide) tb_1192 dX10_owned_61 ?_
            refine lv_iload hx hb dX10_owned_64 (lv_at hl 0 rfl) ?_
            refine lv_aload_n hx hb dX10_owned_66 rfl (lv_at hl 2 rfl) ?_
            refine m_getr (1000) 13 (1013) hx hb hts hown hE oc10 hM hJ.1 rfl (by decide) rfl (hJ.2 13 (by decide)).2 (by decide) tb_1190 dX10_owned_67 ?_
            refine lv_iload hx hb dX10_owned_70 (lv_at hl 0 rfl) ?_
            refine m_iald (1013) hx hb hE hM (hJ.2 13 (by decide)).1 rfl (vp_in_iff.mpr (by omega)) dX10_owned_72 ?_
            refine lv_iload_n hx hb dX10_owned_73 rfl (lv_at hl 4 rfl) ?_
            refine lv_icmp_ne (tgt := 81) hx hb dX10_owned_74 (by decide) (fun c19 => ?_) (fun c19 => ?_)
            · have hc19 := c19
              have q19 := q_ne hc19
              refine lv_aload_n hx hb dX10_owned_81 rfl (lv_at hl 2 rfl) ?_
              refine m_getr (1000) 15 (1015) hx hb hts hown hE oc10 hM hJ.1 rfl (by decide) rfl (hJ.2 15 (by decide)).2 (by decide) tb_1192 dX10_owned_82 ?_
              refine lv_iload hx hb dX10_owned_85 (lv_at hl 0 rfl) ?_
              refine m_iald (1015) hx hb hE hM (hJ.2 15 (by decide)).1 rfl (vp_in_iff.mpr (by omega)) dX10_owned_87 ?_
              refine m_iast (1015) hx hb hE hM hS (hJ.2 15 (by decide)).1 rfl (vp_in_iff.mpr (by omega)) dX10_owned_88 (fun H locs I20 eI20 hM hS => ?_)
              subst eI20
              have hI := hI.putF (n := 1015) (k := ((x4_48).toNatClampNeg)) (v := Ia48 (1015) (x4_48).toNatClampNeg) rfl
              have hK := hK.put (n := 1015) (k := ((x4_48).toNatClampNeg)) (v := Ia48 (1015) (x4_48).toNatClampNeg) (by first | rfl | simp [inR])
              obtain ⟨v21, ev21⟩ : ∃ z : Int32, z = x4_48 + Int32.ofInt (1) := ⟨_, rfl⟩
              have tv21 := a_inc ev21 (by decide) (by omega) (by omega)
              refine lv_iinc (v := v21) (lv' := [(4, .int (v21)), (3, .int (r8)), (0, .ref (ad (1000))), (1, .int (a0)), (2, .int (a1))]) hx hb dX10_owned_89 hl (k := 0) rfl ev21.symm (by decide) rfl (fun ls hl => ?_)
              refine lv_goto (tgt := 48) hx hb dX10_owned_92 (by decide) ?_
              exact ih48 (v21) (u2 Ia48 (1015) ((x4_48).toNatClampNeg) (Ia48 (1015) (x4_48).toNatClampNeg)) La48 _ _ ls hI hK (by first | omega | decide) (by omega) hM hS (lv_sub hl [0, 1, 2, 3, 4] rfl)
            · have hc19 := c19
              have q19 := q_eq hc19
              refine lv_iconst (v := (1)) hx hb dX10_owned_77 (by decide) ?_
              refine lv_goto (tgt := 88) hx hb dX10_owned_78 (by decide) ?_
              refine m_iast (1015) hx hb hE hM hS (hJ.2 15 (by decide)).1 rfl (vp_in_iff.mpr (by omega)) dX10_owned_88 (fun H locs I22 eI22 hM hS => ?_)
              subst eI22
              have hI := hI.putF (n := 1015) (k := ((x4_48).toNatClampNeg)) (v := 1) rfl
              have hK := hK.put (n := 1015) (k := ((x4_48).toNatClampNeg)) (v := 1) (by first | rfl | simp [inR])
              obtain ⟨v23, ev23⟩ : ∃ z : Int32, z = x4_48 + Int32.ofInt (1) := ⟨_, rfl⟩
              have tv23 := a_inc ev23 (by decide) (by omega) (by omega)
              refine lv_iinc (v := v23) (lv' := [(4, .int (v23)), (3, .int (r8)), (0, .ref (ad (1000))), (1, .int (a0)), (2, .int (a1))]) hx hb dX10_owned_89 hl (k := 0) rfl ev23.symm (by decide) rfl (fun ls hl => ?_)
              refine lv_goto (tgt := 48) hx hb dX10_owned_92 (by decide) ?_
              exact ih48 (v23) (u2 Ia48 (1015) ((x4_48).toNatClampNeg) (1)) La48 _ _ ls hI hK (by first | omega | decide) (by omega) hM hS (lv_sub hl [0, 1, 2, 3, 4] rfl)
      exact loop48 (_ + 1) (0) I9 L10 _ _ ls hI hK (by first | omega | decide) (Nat.lt_succ_self _) hM hS (lv_sub hl [0, 1, 2, 3, 4] rfl)
    · have hc5 := c5
      have q5 := xr4.f hc5
      refine lv_ldcw (v := (-1000000)) hx hb hown (hts _ tb_1730) dX10_owned_20 ?_
      exact m_iret hx hb hr hlocks hM hS (Nat.le_of_ble_eq_true rfl) (Nat.le_of_ble_eq_true rfl) ⟨_, _, rfl, hI, hK⟩ dX10_owned_23
theorem dX10_fairest_0 : decode cX10_fairest 0 = .ok (.iconst (-1), 1) := by decide +kernel
theorem dX10_fairest_1 : decode cX10_fairest 1 = .ok (.istore_n 1, 1) := by decide +kernel
theorem dX10_fairest_2 : decode cX10_fairest 2 = .ok (.iconst 0, 1) := by decide +kernel
theorem dX10_fairest_3 : decode cX10_fairest 3 = .ok (.istore_n 2, 1) := by decide +kernel
theorem dX10_fairest_4 : decode cX10_fairest 4 = .ok (.iload_n 2, 1) := by decide +kernel
theorem dX10_fairest_5 : decode cX10_fairest 5 = .ok (.iconst 2, 1) := by decide +kernel
theorem dX10_fairest_6 : decode cX10_fairest 6 = .ok (.if_icmp .ge 85, 3) := by decide +kernel
theorem dX10_fairest_9 : decode cX10_fairest 9 = .ok (.iload_n 1, 1) := by decide +kernel
theorem dX10_fairest_10 : decode cX10_fairest 10 = .ok (.iconst (-1), 1) := by decide +kernel
theorem dX10_fairest_11 : decode cX10_fairest 11 = .ok (.if_icmp .ne 80, 3) := by decide +kernel
theorem dX10_fairest_14 : decode cX10_fairest 14 = .ok (.iconst 0, 1) := by decide +kernel
theorem dX10_fairest_15 : decode cX10_fairest 15 = .ok (.istore_n 3, 1) := by decide +kernel
theorem dX10_fairest_16 : decode cX10_fairest 16 = .ok (.iload_n 3, 1) := by decide +kernel
theorem dX10_fairest_17 : decode cX10_fairest 17 = .ok (.aload_n 0, 1) := by decide +kernel
theorem dX10_fairest_18 : decode cX10_fairest 18 = .ok (.getfield 7, 3) := by decide +kernel
theorem dX10_fairest_21 : decode cX10_fairest 21 = .ok (.bipush 9, 2) := by decide +kernel
theorem dX10_fairest_23 : decode cX10_fairest 23 = .ok (.iaload, 1) := by decide +kernel
theorem dX10_fairest_24 : decode cX10_fairest 24 = .ok (.if_icmp .ge 61, 3) := by decide +kernel
theorem dX10_fairest_27 : decode cX10_fairest 27 = .ok (.iload_n 2, 1) := by decide +kernel
theorem dX10_fairest_28 : decode cX10_fairest 28 = .ok (.iconst 1, 1) := by decide +kernel
theorem dX10_fairest_29 : decode cX10_fairest 29 = .ok (.if_icmp .eq 12, 3) := by decide +kernel
theorem dX10_fairest_32 : decode cX10_fairest 32 = .ok (.aload_n 0, 1) := by decide +kernel
theorem dX10_fairest_33 : decode cX10_fairest 33 = .ok (.getfield 73, 3) := by decide +kernel
theorem dX10_fairest_36 : decode cX10_fairest 36 = .ok (.iload_n 3, 1) := by decide +kernel
theorem dX10_fairest_37 : decode cX10_fairest 37 = .ok (.iaload, 1) := by decide +kernel
theorem dX10_fairest_38 : decode cX10_fairest 38 = .ok (.ifCond .le 7, 3) := by decide +kernel
theorem dX10_fairest_41 : decode cX10_fairest 41 = .ok (.iconst 1, 1) := by decide +kernel
theorem dX10_fairest_42 : decode cX10_fairest 42 = .ok (.goto 4, 3) := by decide +kernel
theorem dX10_fairest_45 : decode cX10_fairest 45 = .ok (.iconst 0, 1) := by decide +kernel
theorem dX10_fairest_46 : decode cX10_fairest 46 = .ok (.istore 4, 2) := by decide +kernel
theorem dX10_fairest_48 : decode cX10_fairest 48 = .ok (.iload 4, 2) := by decide +kernel
theorem dX10_fairest_50 : decode cX10_fairest 50 = .ok (.ifCond .eq 27, 3) := by decide +kernel
theorem dX10_fairest_53 : decode cX10_fairest 53 = .ok (.iload_n 1, 1) := by decide +kernel
theorem dX10_fairest_54 : decode cX10_fairest 54 = .ok (.iconst (-1), 1) := by decide +kernel
theorem dX10_fairest_55 : decode cX10_fairest 55 = .ok (.if_icmp .eq 13, 3) := by decide +kernel
theorem dX10_fairest_58 : decode cX10_fairest 58 = .ok (.aload_n 0, 1) := by decide +kernel
theorem dX10_fairest_59 : decode cX10_fairest 59 = .ok (.getfield 133, 3) := by decide +kernel
theorem dX10_fairest_62 : decode cX10_fairest 62 = .ok (.iload_n 3, 1) := by decide +kernel
theorem dX10_fairest_63 : decode cX10_fairest 63 = .ok (.iaload, 1) := by decide +kernel
theorem dX10_fairest_64 : decode cX10_fairest 64 = .ok (.iload_n 1, 1) := by decide +kernel
theorem dX10_fairest_65 : decode cX10_fairest 65 = .ok (.if_icmp .ge 12, 3) := by decide +kernel
theorem dX10_fairest_68 : decode cX10_fairest 68 = .ok (.aload_n 0, 1) := by decide +kernel
theorem dX10_fairest_69 : decode cX10_fairest 69 = .ok (.getfield 133, 3) := by decide +kernel
theorem dX10_fairest_72 : decode cX10_fairest 72 = .ok (.iload_n 3, 1) := by decide +kernel
theorem dX10_fairest_73 : decode cX10_fairest 73 = .ok (.iaload, 1) := by decide +kernel
theorem dX10_fairest_74 : decode cX10_fairest 74 = .ok (.goto 4, 3) := by decide +kernel
theorem dX10_fairest_77 : decode cX10_fairest 77 = .ok (.iload_n 1, 1) := by decide +kernel
theorem dX10_fairest_78 : decode cX10_fairest 78 = .ok (.istore_n 1, 1) := by decide +kernel
theorem dX10_fairest_79 : decode cX10_fairest 79 = .ok (.iinc 3 1, 3) := by decide +kernel
theorem dX10_fairest_82 : decode cX10_fairest 82 = .ok (.goto (-66), 3) := by decide +kernel
theorem dX10_fairest_85 : decode cX10_fairest 85 = .ok (.iinc 2 1, 3) := by decide +kernel
theorem dX10_fairest_88 : decode cX10_fairest 88 = .ok (.goto (-84), 3) := by decide +kernel
theorem dX10_fairest_91 : decode cX10_fairest 91 = .ok (.iload_n 1, 1) := by decide +kernel
theorem dX10_fairest_92 : decode cX10_fairest 92 = .ok (.ireturn, 1) := by decide +kernel
theorem ce_X10_fairest : CeV RX10 yX10_fairest cX10_fairest 5 (some .int) 0 := ⟨tb_1755, tp_100, tb_11, tb_1756, rfl, by decide, by decide, by decide +kernel⟩
set_option maxHeartbeats 4000000 in
set_option maxRecDepth 20000 in
theorem V_X10_fairest (l : Launch) (D : va_G) (A : Nat → Prop) (ad : Nat → Nat) (ns : List Nat) (I : MI) (L : ML) (G : MG) (hJ : SGM ns G) (hI : INV I) : Met l yX10_fairest (wd yX10_fairest cX10_fairest 5 (some .int)) ({ frames := 0, cells := 0, slots := 0, locals := 0 }) (va_Pc [.ref (ad (1000))] (PM D A ad ns I L G)) (va_Qi (fun r u => u = (ad, ns, I, L, G) ∧ (True)) (BM D A) A) 0 0 A := by
  refine m_ofW (by decide) (Nat.le_of_ble_eq_true rfl) ?_
  intro p e s m below meth c ls args hC hE hM hA hS hl
  obtain ⟨hx, hb, hml, hown, hts, hr, hlocks, hin⟩ := hC
  have km1 : (-1 : Int32).toInt = -1 := by decide
  have k0 : (0 : Int32).toInt = 0 := by decide
  have k1 : (1 : Int32).toInt = 1 := by decide
  have k2 : (2 : Int32).toInt = 2 := by decide
  have k9 : (9 : Int32).toInt = 9 := by decide
  have hl : lv_has ls 5 [(0, .ref (ad (1000)))] := hl
  refine lv_iconst (v := (-1)) hx hb dX10_fairest_0 (by decide) ?_
  refine lv_istore_n (lv' := [(1, .int ((-1 : Int32))), (0, .ref (ad (1000)))]) hx hb dX10_fairest_1 rfl hl (by decide) rfl (fun ls hl => ?_)
  refine lv_iconst (v := (0)) hx hb dX10_fairest_2 (by decide) ?_
  refine lv_istore_n (lv' := [(2, .int (0)), (1, .int ((-1 : Int32))), (0, .ref (ad (1000)))]) hx hb dX10_fairest_3 rfl hl (by decide) rfl (fun ls hl => ?_)
  have loop4 : ∀ (n : Nat) (x2_4 : Int32) (x1_4 : Int32) (H : Heap) (locs : List Loc) (ls : Array Slot), (0 ≤ x2_4.toInt ∧ x2_4.toInt ≤ 2) → (2 - x2_4.toInt).toNat < n → Mem D A ad ns I L G H → va_S A s.heap H locs → lv_has ls 5 [(2, .int (x2_4)), (1, .int (x1_4)), (0, .ref (ad (1000)))] → W p l e ({ frames := 0, cells := 0, slots := 0, locals := 0 } : Room) s m args below meth c H locs 0 0 (MQ below (va_Qi (fun r u => u = (ad, ns, I, L, G) ∧ (True)) (BM D A) A) args s 0 0 A) (F0 m 4 ls []) := by
    intro n
    induction n with
    | zero =>
      intro x2_4 x1_4 H locs ls hr2_4 hmu
      exact absurd hmu (Nat.not_lt_zero _)
    | succ n ih4 =>
      intro x2_4 x1_4 H locs ls hr2_4 hmu4 hM hS hl
      refine lv_iload_n hx hb dX10_fairest_4 rfl (lv_at hl 0 rfl) ?_
      refine lv_iconst (v := (2)) hx hb dX10_fairest_5 (by decide) ?_
      refine lv_icmp_ge (tgt := 91) hx hb dX10_fairest_6 (by decide) (fun c1 => ?_) (fun c1 => ?_)
      · have hc1 := c1
        have q1 := q_le hc1
        refine lv_iload_n hx hb dX10_fairest_91 rfl (lv_at hl 1 rfl) ?_
        exact m_iret hx hb hr hlocks hM hS (Nat.le_of_ble_eq_true rfl) (Nat.le_of_ble_eq_true rfl) ⟨rfl, trivial⟩ dX10_fairest_92
      · have hc1 := c1
        have q1 := q_nle hc1
        refine lv_iload_n hx hb dX10_fairest_9 rfl (lv_at hl 1 rfl) ?_
        refine lv_iconst (v := (-1)) hx hb dX10_fairest_10 (by decide) ?_
        refine lv_icmp_ne (tgt := 91) hx hb dX10_fairest_11 (by decide) (fun c2 => ?_) (fun c2 => ?_)
        · have hc2 := c2
          have q2 := q_ne hc2
          refine lv_iload_n hx hb dX10_fairest_91 rfl (lv_at hl 1 rfl) ?_
          exact m_iret hx hb hr hlocks hM hS (Nat.le_of_ble_eq_true rfl) (Nat.le_of_ble_eq_true rfl) ⟨rfl, trivial⟩ dX10_fairest_92
        · have hc2 := c2
          have q2 := q_eq hc2
          refine lv_iconst (v := (0)) hx hb dX10_fairest_14 (by decide) ?_
          refine lv_istore_n (lv' := [(3, .int (0)), (2, .int (x2_4)), (1, .int (x1_4)), (0, .ref (ad (1000)))]) hx hb dX10_fairest_15 rfl hl (by decide) rfl (fun ls hl => ?_)
          have loop16 : ∀ (n : Nat) (x3_16 : Int32) (x1_16 : Int32) (H : Heap) (locs : List Loc) (ls : Array Slot), (0 ≤ x3_16.toInt ∧ x3_16.toInt ≤ 8) → (8 - x3_16.toInt).toNat < n → Mem D A ad ns I L G H → va_S A s.heap H locs → lv_has ls 5 [(3, .int (x3_16)), (2, .int (x2_4)), (1, .int (x1_16)), (0, .ref (ad (1000)))] → W p l e ({ frames := 0, cells := 0, slots := 0, locals := 0 } : Room) s m args below meth c H locs 0 0 (MQ below (va_Qi (fun r u => u = (ad, ns, I, L, G) ∧ (True)) (BM D A) A) args s 0 0 A) (F0 m 16 ls []) := by
            intro n
            induction n with
            | zero =>
              intro x3_16 x1_16 H locs ls hr3_16 hmu
              exact absurd hmu (Nat.not_lt_zero _)
            | succ n ih16 =>
              intro x3_16 x1_16 H locs ls hr3_16 hmu16 hM hS hl
              refine lv_iload_n hx hb dX10_fairest_16 rfl (lv_at hl 0 rfl) ?_
              refine lv_aload_n hx hb dX10_fairest_17 rfl (lv_at hl 3 rfl) ?_
              refine m_getr (1000) 1 (1001) hx hb hts hown hE oc10 hM hJ.1 rfl (by decide) rfl (hJ.2 1 (by decide)).2 (by decide) tb_1178 dX10_fairest_18 ?_
              refine lv_bipush (v := (9)) hx hb dX10_fairest_21 (by decide) ?_
              refine m_iald (1001) hx hb hE hM (hJ.2 1 (by decide)).1 rfl (vp_in_iff.mpr (by decide)) dX10_fairest_23 ?_
              rw [show (9 : Int32).toNatClampNeg = 9 from rfl]
              have g3 := hI.get (1001) 9 (lo := 0) (hi := 8) rfl
              refine lv_icmp_ge (tgt := 85) hx hb dX10_fairest_24 (by decide) (fun c4 => ?_) (fun c4 => ?_)
              · have hc4 := c4
                have q4 := q_le hc4
                obtain ⟨v5, ev5⟩ : ∃ z : Int32, z = x2_4 + Int32.ofInt (1) := ⟨_, rfl⟩
                have tv5 := a_inc ev5 (by decide) (by omega) (by omega)
                refine lv_iinc (v := v5) (lv' := [(2, .int (v5)), (3, .int (x3_16)), (1, .int (x1_16)), (0, .ref (ad (1000)))]) hx hb dX10_fairest_85 hl (k := 1) rfl ev5.symm (by decide) rfl (fun ls hl => ?_)
                refine lv_goto (tgt := 4) hx hb dX10_fairest_88 (by decide) ?_
                exact ih4 (v5) (x1_16) _ _ ls (by first | omega | decide) (by omega) hM hS (lv_sub hl [0, 2, 3] rfl)
              · have hc4 := c4
                have q4 := q_nle hc4
                refine lv_iload_n hx hb dX10_fairest_27 rfl (lv_at hl 1 rfl) ?_
                refine lv_iconst (v := (1)) hx hb dX10_fairest_28 (by decide) ?_
                refine lv_icmp_eq (tgt := 41) hx hb dX10_fairest_29 (by decide) (fun c6 => ?_) (fun c6 => ?_)
                · have hc6 := c6
                  have q6 := q_eq hc6
                  refine lv_iconst (v := (1)) hx hb dX10_fairest_41 (by decide) ?_
                  refine lv_goto (tgt := 46) hx hb dX10_fairest_42 (by decide) ?_
                  refine lv_istore (lv' := [(4, .int (1)), (3, .int (x3_16)), (2, .int (x2_4)), (1, .int (x1_16)), (0, .ref (ad (1000)))]) hx hb dX10_fairest_46 hl (by decide) rfl (fun ls hl => ?_)
                  refine lv_iload hx hb dX10_fairest_48 (lv_at hl 0 rfl) ?_
                  refine lv_if_eq (tgt := 77) hx hb dX10_fairest_50 (by decide) (fun c7 => ?_) (fun c7 => ?_)
                  · exact absurd c7 (by decide)
                  · have hc7 := c7
                    have q7 := q_ne hc7
                    refine lv_iload_n hx hb dX10_fairest_53 rfl (lv_at hl 3 rfl) ?_
                    refine lv_iconst (v := (-1)) hx hb dX10_fairest_54 (by decide) ?_
                    refine lv_icmp_eq (tgt := 68) hx hb dX10_fairest_55 (by decide) (fun c8 => ?_) (fun c8 => ?_)
                    · have hc8 := c8
                      have q8 := q_eq hc8
                      refine lv_aload_n hx hb dX10_fairest_68 rfl (lv_at hl 4 rfl) ?_
                      refine m_getr (1000) 50 (1050) hx hb hts hown hE oc10 hM hJ.1 rfl (by decide) rfl (hJ.2 50 (by decide)).2 (by decide) tb_1227 dX10_fairest_69 ?_
                      refine lv_iload_n hx hb dX10_fairest_72 rfl (lv_at hl 1 rfl) ?_
                      refine m_iald (1050) hx hb hE hM (hJ.2 50 (by decide)).1 rfl (vp_in_iff.mpr (by omega)) dX10_fairest_73 ?_
                      refine lv_goto (tgt := 78) hx hb dX10_fairest_74 (by decide) ?_
                      refine lv_istore_n (lv' := [(1, .int (I (1050) (x3_16).toNatClampNeg)), (4, .int (1)), (3, .int (x3_16)), (2, .int (x2_4)), (0, .ref (ad (1000)))]) hx hb dX10_fairest_78 rfl hl (by decide) rfl (fun ls hl => ?_)
                      obtain ⟨v9, ev9⟩ : ∃ z : Int32, z = x3_16 + Int32.ofInt (1) := ⟨_, rfl⟩
                      have tv9 := a_inc ev9 (by decide) (by omega) (by omega)
                      refine lv_iinc (v := v9) (lv' := [(3, .int (v9)), (1, .int (I (1050) (x3_16).toNatClampNeg)), (4, .int (1)), (2, .int (x2_4)), (0, .ref (ad (1000)))]) hx hb dX10_fairest_79 hl (k := 2) rfl ev9.symm (by decide) rfl (fun ls hl => ?_)
                      refine lv_goto (tgt := 16) hx hb dX10_fairest_82 (by decide) ?_
                      exact ih16 (v9) (I (1050) (x3_16).toNatClampNeg) _ _ ls (by first | omega | decide) (by omega) hM hS (lv_sub hl [0, 3, 1, 4] rfl)
                    · have hc8 := c8
                      have q8 := q_ne hc8
                      refine lv_aload_n hx hb dX10_fairest_58 rfl (lv_at hl 4 rfl) ?_
                      refine m_getr (1000) 50 (1050) hx hb hts hown hE oc10 hM hJ.1 rfl (by decide) rfl (hJ.2 50 (by decide)).2 (by decide) tb_1227 dX10_fairest_59 ?_
                      refine lv_iload_n hx hb dX10_fairest_62 rfl (lv_at hl 1 rfl) ?_
                      refine m_iald (1050) hx hb hE hM (hJ.2 50 (by decide)).1 rfl (vp_in_iff.mpr (by omega)) dX10_fairest_63 ?_
                      refine lv_iload_n hx hb dX10_fairest_64 rfl (lv_at hl 3 rfl) ?_
                      refine lv_icmp_ge (tgt := 77) hx hb dX10_fairest_65 (by decide) (fun c10 => ?_) (fun c10 => ?_)
                      · have hc10 := c10
                        have q10 := q_le hc10
                        refine lv_iload_n hx hb dX10_fairest_77 rfl (lv_at hl 3 rfl) ?_
                        refine lv_istore_n (lv' := [(1, .int (x1_16)), (4, .int (1)), (3, .int (x3_16)), (2, .int (x2_4)), (0, .ref (ad (1000)))]) hx hb dX10_fairest_78 rfl hl (by decide) rfl (fun ls hl => ?_)
                        obtain ⟨v11, ev11⟩ : ∃ z : Int32, z = x3_16 + Int32.ofInt (1) := ⟨_, rfl⟩
                        have tv11 := a_inc ev11 (by decide) (by omega) (by omega)
                        refine lv_iinc (v := v11) (lv' := [(3, .int (v11)), (1, .int (x1_16)), (4, .int (1)), (2, .int (x2_4)), (0, .ref (ad (1000)))]) hx hb dX10_fairest_79 hl (k := 2) rfl ev11.symm (by decide) rfl (fun ls hl => ?_)
                        refine lv_goto (tgt := 16) hx hb dX10_fairest_82 (by decide) ?_
                        exact ih16 (v11) (x1_16) _ _ ls (by first | omega | decide) (by omega) hM hS (lv_sub hl [0, 3, 1, 4] rfl)
                      · have hc10 := c10
                        have q10 := q_nle hc10
                        refine lv_aload_n hx hb dX10_fairest_68 rfl (lv_at hl 4 rfl) ?_
                        refine m_getr (1000) 50 (1050) hx hb hts hown hE oc10 hM hJ.1 rfl (by decide) rfl (hJ.2 50 (by decide)).2 (by decide) tb_1227 dX10_fairest_69 ?_
                        refine lv_iload_n hx hb dX10_fairest_72 rfl (lv_at hl 1 rfl) ?_
                        refine m_iald (1050) hx hb hE hM (hJ.2 50 (by decide)).1 rfl (vp_in_iff.mpr (by omega)) dX10_fairest_73 ?_
                        refine lv_goto (tgt := 78) hx hb dX10_fairest_74 (by decide) ?_
                        refine lv_istore_n (lv' := [(1, .int (I (1050) (x3_16).toNatClampNeg)), (4, .int (1)), (3, .int (x3_16)), (2, .int (x2_4)), (0, .ref (ad (1000)))]) hx hb dX10_fairest_78 rfl hl (by decide) rfl (fun ls hl => ?_)
                        obtain ⟨v12, ev12⟩ : ∃ z : Int32, z = x3_16 + Int32.ofInt (1) := ⟨_, rfl⟩
                        have tv12 := a_inc ev12 (by decide) (by omega) (by omega)
                        refine lv_iinc (v := v12) (lv' := [(3, .int (v12)), (1, .int (I (1050) (x3_16).toNatClampNeg)), (4, .int (1)), (2, .int (x2_4)), (0, .ref (ad (1000)))]) hx hb dX10_fairest_79 hl (k := 2) rfl ev12.symm (by decide) rfl (fun ls hl => ?_)
                        refine lv_goto (tgt := 16) hx hb dX10_fairest_82 (by decide) ?_
                        exact ih16 (v12) (I (1050) (x3_16).toNatClampNeg) _ _ ls (by first | omega | decide) (by omega) hM hS (lv_sub hl [0, 3, 1, 4] rfl)
                · have hc6 := c6
                  have q6 := q_ne hc6
                  refine lv_aload_n hx hb dX10_fairest_32 rfl (lv_at hl 3 rfl) ?_
                  refine m_getr (1000) 22 (1022) hx hb hts hown hE oc10 hM hJ.1 rfl (by decide) rfl (hJ.2 22 (by decide)).2 (by decide) tb_1199 dX10_fairest_33 ?_
                  refine lv_iload_n hx hb dX10_fairest_36 rfl (lv_at hl 0 rfl) ?_
                  refine m_iald (1022) hx hb hE hM (hJ.2 22 (by decide)).1 rfl (vp_in_iff.mpr (by omega)) dX10_fairest_37 ?_
                  refine lv_if_le (tgt := 45) hx hb dX10_fairest_38 (by decide) (fun c13 => ?_) (fun c13 => ?_)
                  · have hc13 := c13
                    have q13 := q_le hc13
                    refine lv_iconst (v := (0)) hx hb dX10_fairest_45 (by decide) ?_
                    refine lv_istore (lv' := [(4, .int (0)), (3, .int (x3_16)), (2, .int (x2_4)), (1, .int (x1_16)), (0, .ref (ad (1000)))]) hx hb dX10_fairest_46 hl (by decide) rfl (fun ls hl => ?_)
                    refine lv_iload hx hb dX10_fairest_48 (lv_at hl 0 rfl) ?_
                    refine lv_if_eq (tgt := 77) hx hb dX10_fairest_50 (by decide) (fun c14 => ?_) (fun c14 => ?_)
                    · have hc14 := c14
                      have q14 := q_eq hc14
                      refine lv_iload_n hx hb dX10_fairest_77 rfl (lv_at hl 3 rfl) ?_
                      refine lv_istore_n (lv' := [(1, .int (x1_16)), (4, .int (0)), (3, .int (x3_16)), (2, .int (x2_4)), (0, .ref (ad (1000)))]) hx hb dX10_fairest_78 rfl hl (by decide) rfl (fun ls hl => ?_)
                      obtain ⟨v15, ev15⟩ : ∃ z : Int32, z = x3_16 + Int32.ofInt (1) := ⟨_, rfl⟩
                      have tv15 := a_inc ev15 (by decide) (by omega) (by omega)
                      refine lv_iinc (v := v15) (lv' := [(3, .int (v15)), (1, .int (x1_16)), (4, .int (0)), (2, .int (x2_4)), (0, .ref (ad (1000)))]) hx hb dX10_fairest_79 hl (k := 2) rfl ev15.symm (by decide) rfl (fun ls hl => ?_)
                      refine lv_goto (tgt := 16) hx hb dX10_fairest_82 (by decide) ?_
                      exact ih16 (v15) (x1_16) _ _ ls (by first | omega | decide) (by omega) hM hS (lv_sub hl [0, 3, 1, 4] rfl)
                    · exact absurd c14 (by decide)
                  · have hc13 := c13
                    have q13 := q_nle hc13
                    refine lv_iconst (v := (1)) hx hb dX10_fairest_41 (by decide) ?_
                    refine lv_goto (tgt := 46) hx hb dX10_fairest_42 (by decide) ?_
                    refine lv_istore (lv' := [(4, .int (1)), (3, .int (x3_16)), (2, .int (x2_4)), (1, .int (x1_16)), (0, .ref (ad (1000)))]) hx hb dX10_fairest_46 hl (by decide) rfl (fun ls hl => ?_)
                    refine lv_iload hx hb dX10_fairest_48 (lv_at hl 0 rfl) ?_
                    refine lv_if_eq (tgt := 77) hx hb dX10_fairest_50 (by decide) (fun c16 => ?_) (fun c16 => ?_)
                    · exact absurd c16 (by decide)
                    · have hc16 := c16
                      have q16 := q_ne hc16
                      refine lv_iload_n hx hb dX10_fairest_53 rfl (lv_at hl 3 rfl) ?_
                      refine lv_iconst (v := (-1)) hx hb dX10_fairest_54 (by decide) ?_
                      refine lv_icmp_eq (tgt := 68) hx hb dX10_fairest_55 (by decide) (fun c17 => ?_) (fun c17 => ?_)
                      · have hc17 := c17
                        have q17 := q_eq hc17
                        refine lv_aload_n hx hb dX10_fairest_68 rfl (lv_at hl 4 rfl) ?_
                        refine m_getr (1000) 50 (1050) hx hb hts hown hE oc10 hM hJ.1 rfl (by decide) rfl (hJ.2 50 (by decide)).2 (by decide) tb_1227 dX10_fairest_69 ?_
                        refine lv_iload_n hx hb dX10_fairest_72 rfl (lv_at hl 1 rfl) ?_
                        refine m_iald (1050) hx hb hE hM (hJ.2 50 (by decide)).1 rfl (vp_in_iff.mpr (by omega)) dX10_fairest_73 ?_
                        refine lv_goto (tgt := 78) hx hb dX10_fairest_74 (by decide) ?_
                        refine lv_istore_n (lv' := [(1, .int (I (1050) (x3_16).toNatClampNeg)), (4, .int (1)), (3, .int (x3_16)), (2, .int (x2_4)), (0, .ref (ad (1000)))]) hx hb dX10_fairest_78 rfl hl (by decide) rfl (fun ls hl => ?_)
                        obtain ⟨v18, ev18⟩ : ∃ z : Int32, z = x3_16 + Int32.ofInt (1) := ⟨_, rfl⟩
                        have tv18 := a_inc ev18 (by decide) (by omega) (by omega)
                        refine lv_iinc (v := v18) (lv' := [(3, .int (v18)), (1, .int (I (1050) (x3_16).toNatClampNeg)), (4, .int (1)), (2, .int (x2_4)), (0, .ref (ad (1000)))]) hx hb dX10_fairest_79 hl (k := 2) rfl ev18.symm (by decide) rfl (fun ls hl => ?_)
                        refine lv_goto (tgt := 16) hx hb dX10_fairest_82 (by decide) ?_
                        exact ih16 (v18) (I (1050) (x3_16).toNatClampNeg) _ _ ls (by first | omega | decide) (by omega) hM hS (lv_sub hl [0, 3, 1, 4] rfl)
                      · have hc17 := c17
                        have q17 := q_ne hc17
                        refine lv_aload_n hx hb dX10_fairest_58 rfl (lv_at hl 4 rfl) ?_
                        refine m_getr (1000) 50 (1050) hx hb hts hown hE oc10 hM hJ.1 rfl (by decide) rfl (hJ.2 50 (by decide)).2 (by decide) tb_1227 dX10_fairest_59 ?_
                        refine lv_iload_n hx hb dX10_fairest_62 rfl (lv_at hl 1 rfl) ?_
                        refine m_iald (1050) hx hb hE hM (hJ.2 50 (by decide)).1 rfl (vp_in_iff.mpr (by omega)) dX10_fairest_63 ?_
                        refine lv_iload_n hx hb dX10_fairest_64 rfl (lv_at hl 3 rfl) ?_
                        refine lv_icmp_ge (tgt := 77) hx hb dX10_fairest_65 (by decide) (fun c19 => ?_) (fun c19 => ?_)
                        · have hc19 := c19
                          have q19 := q_le hc19
                          refine lv_iload_n hx hb dX10_fairest_77 rfl (lv_at hl 3 rfl) ?_
                          refine lv_istore_n (lv' := [(1, .int (x1_16)), (4, .int (1)), (3, .int (x3_16)), (2, .int (x2_4)), (0, .ref (ad (1000)))]) hx hb dX10_fairest_78 rfl hl (by decide) rfl (fun ls hl => ?_)
                          obtain ⟨v20, ev20⟩ : ∃ z : Int32, z = x3_16 + Int32.ofInt (1) := ⟨_, rfl⟩
                          have tv20 := a_inc ev20 (by decide) (by omega) (by omega)
                          refine lv_iinc (v := v20) (lv' := [(3, .int (v20)), (1, .int (x1_16)), (4, .int (1)), (2, .int (x2_4)), (0, .ref (ad (1000)))]) hx hb dX10_fairest_79 hl (k := 2) rfl ev20.symm (by decide) rfl (fun ls hl => ?_)
                          refine lv_goto (tgt := 16) hx hb dX10_fairest_82 (by decide) ?_
                          exact ih16 (v20) (x1_16) _ _ ls (by first | omega | decide) (by omega) hM hS (lv_sub hl [0, 3, 1, 4] rfl)
                        · have hc19 := c19
                          have q19 := q_nle hc19
                          refine lv_aload_n hx hb dX10_fairest_68 rfl (lv_at hl 4 rfl) ?_
                          refine m_getr (1000) 50 (1050) hx hb hts hown hE oc10 hM hJ.1 rfl (by decide) rfl (hJ.2 50 (by decide)).2 (by decide) tb_1227 dX10_fairest_69 ?_
                          refine lv_iload_n hx hb dX10_fairest_72 rfl (lv_at hl 1 rfl) ?_
                          refine m_iald (1050) hx hb hE hM (hJ.2 50 (by decide)).1 rfl (vp_in_iff.mpr (by omega)) dX10_fairest_73 ?_
                          refine lv_goto (tgt := 78) hx hb dX10_fairest_74 (by decide) ?_
                          refine lv_istore_n (lv' := [(1, .int (I (1050) (x3_16).toNatClampNeg)), (4, .int (1)), (3, .int (x3_16)), (2, .int (x2_4)), (0, .ref (ad (1000)))]) hx hb dX10_fairest_78 rfl hl (by decide) rfl (fun ls hl => ?_)
                          obtain ⟨v21, ev21⟩ : ∃ z : Int32, z = x3_16 + Int32.ofInt (1) := ⟨_, rfl⟩
                          have tv21 := a_inc ev21 (by decide) (by omega) (by omega)
                          refine lv_iinc (v := v21) (lv' := [(3, .int (v21)), (1, .int (I (1050) (x3_16).toNatClampNeg)), (4, .int (1)), (2, .int (x2_4)), (0, .ref (ad (1000)))]) hx hb dX10_fairest_79 hl (k := 2) rfl ev21.symm (by decide) rfl (fun ls hl => ?_)
                          refine lv_goto (tgt := 16) hx hb dX10_fairest_82 (by decide) ?_
                          exact ih16 (v21) (I (1050) (x3_16).toNatClampNeg) _ _ ls (by first | omega | decide) (by omega) hM hS (lv_sub hl [0, 3, 1, 4] rfl)
          exact loop16 (_ + 1) (0) (x1_4) _ _ ls (by first | omega | decide) (Nat.lt_succ_self _) hM hS (lv_sub hl [0, 1, 2, 3] rfl)
  exact loop4 (_ + 1) (0) ((-1 : Int32)) _ _ ls (by first | omega | decide) (Nat.lt_succ_self _) hM hS (lv_sub hl [0, 1, 2] rfl)
theorem dX10_isHalf_0 : decode cX10_isHalf 0 = .ok (.aload_n 0, 1) := by decide +kernel
theorem dX10_isHalf_1 : decode cX10_isHalf 1 = .ok (.iload_n 1, 1) := by decide +kernel
theorem dX10_isHalf_2 : decode cX10_isHalf 2 = .ok (.invokevirtual 404, 3) := by decide +kernel
theorem dX10_isHalf_5 : decode cX10_isHalf 5 = .ok (.iconst 1, 1) := by decide +kernel
theorem dX10_isHalf_6 : decode cX10_isHalf 6 = .ok (.istore_n 2, 1) := by decide +kernel
theorem dX10_isHalf_7 : decode cX10_isHalf 7 = .ok (.iconst 0, 1) := by decide +kernel
theorem dX10_isHalf_8 : decode cX10_isHalf 8 = .ok (.istore_n 3, 1) := by decide +kernel
theorem dX10_isHalf_9 : decode cX10_isHalf 9 = .ok (.iload_n 3, 1) := by decide +kernel
theorem dX10_isHalf_10 : decode cX10_isHalf 10 = .ok (.aload_n 0, 1) := by decide +kernel
theorem dX10_isHalf_11 : decode cX10_isHalf 11 = .ok (.getfield 7, 3) := by decide +kernel
theorem dX10_isHalf_14 : decode cX10_isHalf 14 = .ok (.bipush 9, 2) := by decide +kernel
theorem dX10_isHalf_16 : decode cX10_isHalf 16 = .ok (.iaload, 1) := by decide +kernel
theorem dX10_isHalf_17 : decode cX10_isHalf 17 = .ok (.if_icmp .ge 36, 3) := by decide +kernel
theorem dX10_isHalf_20 : decode cX10_isHalf 20 = .ok (.iload_n 2, 1) := by decide +kernel
theorem dX10_isHalf_21 : decode cX10_isHalf 21 = .ok (.ifCond .eq 24, 3) := by decide +kernel
theorem dX10_isHalf_24 : decode cX10_isHalf 24 = .ok (.aload_n 0, 1) := by decide +kernel
theorem dX10_isHalf_25 : decode cX10_isHalf 25 = .ok (.getfield 133, 3) := by decide +kernel
theorem dX10_isHalf_28 : decode cX10_isHalf 28 = .ok (.iload_n 3, 1) := by decide +kernel
theorem dX10_isHalf_29 : decode cX10_isHalf 29 = .ok (.iaload, 1) := by decide +kernel
theorem dX10_isHalf_30 : decode cX10_isHalf 30 = .ok (.aload_n 0, 1) := by decide +kernel
theorem dX10_isHalf_31 : decode cX10_isHalf 31 = .ok (.getfield 155, 3) := by decide +kernel
theorem dX10_isHalf_34 : decode cX10_isHalf 34 = .ok (.iload_n 3, 1) := by decide +kernel
theorem dX10_isHalf_35 : decode cX10_isHalf 35 = .ok (.iaload, 1) := by decide +kernel
theorem dX10_isHalf_36 : decode cX10_isHalf 36 = .ok (.iconst 2, 1) := by decide +kernel
theorem dX10_isHalf_37 : decode cX10_isHalf 37 = .ok (.idiv, 1) := by decide +kernel
theorem dX10_isHalf_38 : decode cX10_isHalf 38 = .ok (.if_icmp .lt 7, 3) := by decide +kernel
theorem dX10_isHalf_41 : decode cX10_isHalf 41 = .ok (.iconst 1, 1) := by decide +kernel
theorem dX10_isHalf_42 : decode cX10_isHalf 42 = .ok (.goto 4, 3) := by decide +kernel
theorem dX10_isHalf_45 : decode cX10_isHalf 45 = .ok (.iconst 0, 1) := by decide +kernel
theorem dX10_isHalf_46 : decode cX10_isHalf 46 = .ok (.istore_n 2, 1) := by decide +kernel
theorem dX10_isHalf_47 : decode cX10_isHalf 47 = .ok (.iinc 3 1, 3) := by decide +kernel
theorem dX10_isHalf_50 : decode cX10_isHalf 50 = .ok (.goto (-41), 3) := by decide +kernel
theorem dX10_isHalf_53 : decode cX10_isHalf 53 = .ok (.iload_n 2, 1) := by decide +kernel
theorem dX10_isHalf_54 : decode cX10_isHalf 54 = .ok (.ireturn, 1) := by decide +kernel
theorem ce_X10_isHalf : CeV RX10 yX10_isHalf cX10_isHalf 4 (some .boolean) 1 := ⟨tb_1771, tp_102, tb_11, tb_1772, rfl, by decide, by decide, by decide +kernel⟩
set_option maxHeartbeats 4000000 in
set_option maxRecDepth 20000 in
theorem V_X10_isHalf (l : Launch) (D : va_G) (A : Nat → Prop) (ad : Nat → Nat) (ns : List Nat) (I : MI) (L : ML) (G : MG) (a0 : Int32) (hJ : SGM ns G) (hI : INV I) (ha0 : 0 ≤ a0.toInt ∧ a0.toInt ≤ 23) : Met l yX10_isHalf (wd yX10_isHalf cX10_isHalf 4 (some .boolean)) ({ frames := 5, cells := 0, slots := 0, locals := 128 }) (va_Pc [.ref (ad (1000)), .int a0] (PM D A ad ns I L G)) (va_Qi (fun r u => ∃ I2 L2, u = (ad, ns, I2, L2, G) ∧ INV I2 ∧ Kp [(1045, 1051), (1058, 1059), (1061, 1063)] [(1000, 51), (1000, 52), (1000, 53), (1000, 54), (1000, 55), (1000, 56), (1000, 59), (1000, 63)] I I2 ∧ (0 ≤ r.toInt ∧ r.toInt ≤ 1)) (BM D A) A) 0 0 A := by
  refine m_ofW (by decide) (Nat.le_of_ble_eq_true rfl) ?_
  intro p e s m below meth c ls args hC hE hM hA hS hl
  obtain ⟨hx, hb, hml, hown, hts, hr, hlocks, hin⟩ := hC
  have k0 : (0 : Int32).toInt = 0 := by decide
  have k1 : (1 : Int32).toInt = 1 := by decide
  have k2 : (2 : Int32).toInt = 2 := by decide
  have k9 : (9 : Int32).toInt = 9 := by decide
  have hK : Kp [(1045, 1051), (1058, 1059), (1061, 1063)] [(1000, 51), (1000, 52), (1000, 53), (1000, 54), (1000, 55), (1000, 56), (1000, 59), (1000, 63)] I I := Kp.rf
  have hl : lv_has ls 4 [(0, .ref (ad (1000))), (1, .int (a0))] := hl
  refine lv_aload_n hx hb dX10_isHalf_0 rfl (lv_at hl 0 rfl) ?_
  refine lv_iload_n hx hb dX10_isHalf_1 rfl (lv_at hl 1 rfl) ?_
  refine m_callv (m_runV (1000) (As := [.int (a0)]) (rest := []) hx hb hml hown hts hE hM hS hA ce_X10_shines tb_1640 (V_X10_shines l D A ad ns I L G (a0) hJ hI (by first | omega | decide)) rfl rfl ⟨Nat.le_of_ble_eq_true rfl, Nat.le_of_ble_eq_true rfl⟩ hJ.1 rfl rfl (by decide) rfl hl.1 rfl (Nat.le_of_ble_eq_true rfl) dX10_isHalf_2 ⟨Nat.le_of_ble_eq_true rfl, Nat.le_of_ble_eq_true rfl⟩) hS (fun u H locs hw hM hS => ?_)
  obtain ⟨I1, L2, rfl, hI, hkI1⟩ := hw
  have hM : Mem D A ad ns I1 L2 G H := hM
  have hK := hK.trans hkI1 rfl
  refine lv_iconst (v := (1)) hx hb dX10_isHalf_5 (by decide) ?_
  refine lv_istore_n (lv' := [(2, .int (1)), (0, .ref (ad (1000))), (1, .int (a0))]) hx hb dX10_isHalf_6 rfl hl (by decide) rfl (fun ls hl => ?_)
  refine lv_iconst (v := (0)) hx hb dX10_isHalf_7 (by decide) ?_
  refine lv_istore_n (lv' := [(3, .int (0)), (2, .int (1)), (0, .ref (ad (1000))), (1, .int (a0))]) hx hb dX10_isHalf_8 rfl hl (by decide) rfl (fun ls hl => ?_)
  have loop9 : ∀ (n : Nat) (x3_9 : Int32) (x2_9 : Int32) (Ia9 : MI) (La9 : ML) (H : Heap) (locs : List Loc) (ls : Array Slot), INV Ia9 → Kp [(1045, 1051), (1058, 1059), (1061, 1063)] [(1000, 51), (1000, 52), (1000, 53), (1000, 54), (1000, 55), (1000, 56), (1000, 59), (1000, 63)] I Ia9 → (0 ≤ x3_9.toInt ∧ x3_9.toInt ≤ 8) → (0 ≤ x2_9.toInt ∧ x2_9.toInt ≤ 1) → (8 - x3_9.toInt).toNat < n → Mem D A ad ns Ia9 La9 G H → va_S A s.heap H locs → lv_has ls 4 [(3, .int (x3_9)), (2, .int (x2_9)), (0, .ref (ad (1000))), (1, .int (a0))] → W p l e ({ frames := 5, cells := 0, slots := 0, locals := 128 } : Room) s m args below meth c H locs 0 0 (MQ below (va_Qi (fun r u => ∃ I2 L2, u = (ad, ns, I2, L2, G) ∧ INV I2 ∧ Kp [(1045, 1051), (1058, 1059), (1061, 1063)] [(1000, 51), (1000, 52), (1000, 53), (1000, 54), (1000, 55), (1000, 56), (1000, 59), (1000, 63)] I I2 ∧ (0 ≤ r.toInt ∧ r.toInt ≤ 1)) (BM D A) A) args s 0 0 A) (F0 m 9 ls []) := by
    intro n
    induction n with
    | zero =>
      intro x3_9 x2_9 Ia9 La9 H locs ls hI hK hr3_9 hr2_9 hmu
      exact absurd hmu (Nat.not_lt_zero _)
    | succ n ih9 =>
      intro x3_9 x2_9 Ia9 La9 H locs ls hI hK hr3_9 hr2_9 hmu9 hM hS hl
      refine lv_iload_n hx hb dX10_isHalf_9 rfl (lv_at hl 0 rfl) ?_
      refine lv_aload_n hx hb dX10_isHalf_10 rfl (lv_at hl 2 rfl) ?_
      refine m_getr (1000) 1 (1001) hx hb hts hown hE oc10 hM hJ.1 rfl (by decide) rfl (hJ.2 1 (by decide)).2 (by decide) tb_1178 dX10_isHalf_11 ?_
      refine lv_bipush (v := (9)) hx hb dX10_isHalf_14 (by decide) ?_
      refine m_iald (1001) hx hb hE hM (hJ.2 1 (by decide)).1 rfl (vp_in_iff.mpr (by decide)) dX10_isHalf_16 ?_
      rw [show (9 : Int32).toNatClampNeg = 9 from rfl]
      have g3 := hI.get (1001) 9 (lo := 0) (hi := 8) rfl
      refine lv_icmp_ge (tgt := 53) hx hb dX10_isHalf_17 (by decide) (fun c4 => ?_) (fun c4 => ?_)
      · have hc4 := c4
        have q4 := q_le hc4
        refine lv_iload_n hx hb dX10_isHalf_53 rfl (lv_at hl 1 rfl) ?_
        exact m_zret hx hb hr (nar01 (by omega) (by omega)).1 hlocks hM hS (Nat.le_of_ble_eq_true rfl) (Nat.le_of_ble_eq_true rfl) ⟨_, _, rfl, hI, hK, (by first | omega | decide)⟩ dX10_isHalf_54
      · have hc4 := c4
        have q4 := q_nle hc4
        refine lv_iload_n hx hb dX10_isHalf_20 rfl (lv_at hl 1 rfl) ?_
        refine lv_if_eq (tgt := 45) hx hb dX10_isHalf_21 (by decide) (fun c5 => ?_) (fun c5 => ?_)
        · have hc5 := c5
          have q5 := q_eq hc5
          refine lv_iconst (v := (0)) hx hb dX10_isHalf_45 (by decide) ?_
          refine lv_istore_n (lv' := [(2, .int (0)), (3, .int (x3_9)), (0, .ref (ad (1000))), (1, .int (a0))]) hx hb dX10_isHalf_46 rfl hl (by decide) rfl (fun ls hl => ?_)
          obtain ⟨v6, ev6⟩ : ∃ z : Int32, z = x3_9 + Int32.ofInt (1) := ⟨_, rfl⟩
          have tv6 := a_inc ev6 (by decide) (by omega) (by omega)
          refine lv_iinc (v := v6) (lv' := [(3, .int (v6)), (2, .int (0)), (0, .ref (ad (1000))), (1, .int (a0))]) hx hb dX10_isHalf_47 hl (k := 1) rfl ev6.symm (by decide) rfl (fun ls hl => ?_)
          refine lv_goto (tgt := 9) hx hb dX10_isHalf_50 (by decide) ?_
          exact ih9 (v6) (0) Ia9 La9 _ _ ls hI hK (by first | omega | decide) (by first | omega | decide) (by omega) hM hS (lv_sub hl [0, 1, 2, 3] rfl)
        · have hc5 := c5
          have q5 := q_ne hc5
          refine lv_aload_n hx hb dX10_isHalf_24 rfl (lv_at hl 2 rfl) ?_
          refine m_getr (1000) 50 (1050) hx hb hts hown hE oc10 hM hJ.1 rfl (by decide) rfl (hJ.2 50 (by decide)).2 (by decide) tb_1227 dX10_isHalf_25 ?_
          refine lv_iload_n hx hb dX10_isHalf_28 rfl (lv_at hl 0 rfl) ?_
          refine m_iald (1050) hx hb hE hM (hJ.2 50 (by decide)).1 rfl (vp_in_iff.mpr (by omega)) dX10_isHalf_29 ?_
          refine lv_aload_n hx hb dX10_isHalf_30 rfl (lv_at hl 2 rfl) ?_
          refine m_getr (1000) 66 (1066) hx hb hts hown hE oc10 hM hJ.1 rfl (by decide) rfl (hJ.2 66 (by decide)).2 (by decide) tb_1243 dX10_isHalf_31 ?_
          refine lv_iload_n hx hb dX10_isHalf_34 rfl (lv_at hl 0 rfl) ?_
          refine m_iald (1066) hx hb hE hM (hJ.2 66 (by decide)).1 rfl (vp_in_iff.mpr (by omega)) dX10_isHalf_35 ?_
          refine lv_iconst (v := (2)) hx hb dX10_isHalf_36 (by decide) ?_
          refine lv_idiv hx hb dX10_isHalf_37 (by decide) ?_
          refine lv_topi (fun v7 ev7 => ?_)
          refine lv_icmp_lt (tgt := 45) hx hb dX10_isHalf_38 (by decide) (fun c8 => ?_) (fun c8 => ?_)
          · have hc8 := c8
            have q8 := q_lt hc8
            refine lv_iconst (v := (0)) hx hb dX10_isHalf_45 (by decide) ?_
            refine lv_istore_n (lv' := [(2, .int (0)), (3, .int (x3_9)), (0, .ref (ad (1000))), (1, .int (a0))]) hx hb dX10_isHalf_46 rfl hl (by decide) rfl (fun ls hl => ?_)
            obtain ⟨v9, ev9⟩ : ∃ z : Int32, z = x3_9 + Int32.ofInt (1) := ⟨_, rfl⟩
            have tv9 := a_inc ev9 (by decide) (by omega) (by omega)
            refine lv_iinc (v := v9) (lv' := [(3, .int (v9)), (2, .int (0)), (0, .ref (ad (1000))), (1, .int (a0))]) hx hb dX10_isHalf_47 hl (k := 1) rfl ev9.symm (by decide) rfl (fun ls hl => ?_)
            refine lv_goto (tgt := 9) hx hb dX10_isHalf_50 (by decide) ?_
            exact ih9 (v9) (0) Ia9 La9 _ _ ls hI hK (by first | omega | decide) (by first | omega | decide) (by omega) hM hS (lv_sub hl [0, 1, 2, 3] rfl)
          · have hc8 := c8
            have q8 := q_nlt hc8
            refine lv_iconst (v := (1)) hx hb dX10_isHalf_41 (by decide) ?_
            refine lv_goto (tgt := 46) hx hb dX10_isHalf_42 (by decide) ?_
            refine lv_istore_n (lv' := [(2, .int (1)), (3, .int (x3_9)), (0, .ref (ad (1000))), (1, .int (a0))]) hx hb dX10_isHalf_46 rfl hl (by decide) rfl (fun ls hl => ?_)
            obtain ⟨v10, ev10⟩ : ∃ z : Int32, z = x3_9 + Int32.ofInt (1) := ⟨_, rfl⟩
            have tv10 := a_inc ev10 (by decide) (by omega) (by omega)
            refine lv_iinc (v := v10) (lv' := [(3, .int (v10)), (2, .int (1)), (0, .ref (ad (1000))), (1, .int (a0))]) hx hb dX10_isHalf_47 hl (k := 1) rfl ev10.symm (by decide) rfl (fun ls hl => ?_)
            refine lv_goto (tgt := 9) hx hb dX10_isHalf_50 (by decide) ?_
            exact ih9 (v10) (1) Ia9 La9 _ _ ls hI hK (by first | omega | decide) (by first | omega | decide) (by omega) hM hS (lv_sub hl [0, 1, 2, 3] rfl)
  exact loop9 (_ + 1) (0) (1) I1 L2 _ _ ls hI hK (by first | omega | decide) (by first | omega | decide) (Nat.lt_succ_self _) hM hS (lv_sub hl [0, 1, 2, 3] rfl)
theorem dX10_isMended_0 : decode cX10_isMended 0 = .ok (.aload_n 0, 1) := by decide +kernel
theorem dX10_isMended_1 : decode cX10_isMended 1 = .ok (.getfield 176, 3) := by decide +kernel
theorem dX10_isMended_4 : decode cX10_isMended 4 = .ok (.iconst 0, 1) := by decide +kernel
theorem dX10_isMended_5 : decode cX10_isMended 5 = .ok (.iload_n 1, 1) := by decide +kernel
theorem dX10_isMended_6 : decode cX10_isMended 6 = .ok (.iastore, 1) := by decide +kernel
theorem dX10_isMended_7 : decode cX10_isMended 7 = .ok (.aload_n 0, 1) := by decide +kernel
theorem dX10_isMended_8 : decode cX10_isMended 8 = .ok (.getfield 176, 3) := by decide +kernel
theorem dX10_isMended_11 : decode cX10_isMended 11 = .ok (.iconst 1, 1) := by decide +kernel
theorem dX10_isMended_12 : decode cX10_isMended 12 = .ok (.iload_n 2, 1) := by decide +kernel
theorem dX10_isMended_13 : decode cX10_isMended 13 = .ok (.iastore, 1) := by decide +kernel
theorem dX10_isMended_14 : decode cX10_isMended 14 = .ok (.aload_n 0, 1) := by decide +kernel
theorem dX10_isMended_15 : decode cX10_isMended 15 = .ok (.getfield 176, 3) := by decide +kernel
theorem dX10_isMended_18 : decode cX10_isMended 18 = .ok (.iconst 2, 1) := by decide +kernel
theorem dX10_isMended_19 : decode cX10_isMended 19 = .ok (.iload_n 3, 1) := by decide +kernel
theorem dX10_isMended_20 : decode cX10_isMended 20 = .ok (.iastore, 1) := by decide +kernel
theorem dX10_isMended_21 : decode cX10_isMended 21 = .ok (.aload_n 0, 1) := by decide +kernel
theorem dX10_isMended_22 : decode cX10_isMended 22 = .ok (.getfield 176, 3) := by decide +kernel
theorem dX10_isMended_25 : decode cX10_isMended 25 = .ok (.iconst 3, 1) := by decide +kernel
theorem dX10_isMended_26 : decode cX10_isMended 26 = .ok (.iload 4, 2) := by decide +kernel
theorem dX10_isMended_28 : decode cX10_isMended 28 = .ok (.iastore, 1) := by decide +kernel
theorem dX10_isMended_29 : decode cX10_isMended 29 = .ok (.aload_n 0, 1) := by decide +kernel
theorem dX10_isMended_30 : decode cX10_isMended 30 = .ok (.getfield 176, 3) := by decide +kernel
theorem dX10_isMended_33 : decode cX10_isMended 33 = .ok (.iconst 4, 1) := by decide +kernel
theorem dX10_isMended_34 : decode cX10_isMended 34 = .ok (.iload 5, 2) := by decide +kernel
theorem dX10_isMended_36 : decode cX10_isMended 36 = .ok (.iastore, 1) := by decide +kernel
theorem dX10_isMended_37 : decode cX10_isMended 37 = .ok (.return_, 1) := by decide +kernel
theorem ce_X10_isMended : CeV RX10 yX10_isMended cX10_isMended 6 none 5 := ⟨tb_1767, tp_101, tb_11, tb_1768, rfl, by decide, by decide, by decide +kernel⟩
set_option maxHeartbeats 4000000 in
set_option maxRecDepth 20000 in
theorem V_X10_isMended (l : Launch) (D : va_G) (A : Nat → Prop) (ad : Nat → Nat) (ns : List Nat) (I : MI) (L : ML) (G : MG) (a0 : Int32) (a1 : Int32) (a2 : Int32) (a3 : Int32) (a4 : Int32) (hJ : SGM ns G) (hI : INV I) : Met l yX10_isMended (wd yX10_isMended cX10_isMended 6 none) ({ frames := 0, cells := 0, slots := 0, locals := 0 }) (va_Pc [.ref (ad (1000)), .int a0, .int a1, .int a2, .int a3, .int a4] (PM D A ad ns I L G)) (va_Qv (fun u => ∃ I2 L2, u = (ad, ns, I2, L2, G) ∧ INV I2 ∧ Kp [] [(1073, 0), (1073, 1), (1073, 2), (1073, 3), (1073, 4)] I I2) (BM D A) A) 0 0 A := by
  refine m_ofW (by decide) (Nat.le_of_ble_eq_true rfl) ?_
  intro p e s m below meth c ls args hC hE hM hA hS hl
  obtain ⟨hx, hb, hml, hown, hts, hr, hlocks, hin⟩ := hC
  have k0 : (0 : Int32).toInt = 0 := by decide
  have k1 : (1 : Int32).toInt = 1 := by decide
  have k2 : (2 : Int32).toInt = 2 := by decide
  have k3 : (3 : Int32).toInt = 3 := by decide
  have k4 : (4 : Int32).toInt = 4 := by decide
  have hK : Kp [] [(1073, 0), (1073, 1), (1073, 2), (1073, 3), (1073, 4)] I I := Kp.rf
  have hl : lv_has ls 6 [(0, .ref (ad (1000))), (1, .int (a0)), (2, .int (a1)), (3, .int (a2)), (4, .int (a3)), (5, .int (a4))] := hl
  refine lv_aload_n hx hb dX10_isMended_0 rfl (lv_at hl 0 rfl) ?_
  refine m_getr (1000) 73 (1073) hx hb hts hown hE oc10 hM hJ.1 rfl (by decide) rfl (hJ.2 73 (by decide)).2 (by decide) tb_1250 dX10_isMended_1 ?_
  refine lv_iconst (v := (0)) hx hb dX10_isMended_4 (by decide) ?_
  refine lv_iload_n hx hb dX10_isMended_5 rfl (lv_at hl 1 rfl) ?_
  refine m_iast (1073) hx hb hE hM hS (hJ.2 73 (by decide)).1 rfl (vp_in_iff.mpr (by decide)) dX10_isMended_6 (fun H locs I1 eI1 hM hS => ?_)
  rw [show (0 : Int32).toNatClampNeg = 0 from rfl] at eI1
  subst eI1
  have hI := hI.putF (n := 1073) (k := 0) (v := a0) rfl
  have hK := hK.put (n := 1073) (k := 0) (v := a0) (by first | rfl | simp [inR])
  refine lv_aload_n hx hb dX10_isMended_7 rfl (lv_at hl 0 rfl) ?_
  refine m_getr (1000) 73 (1073) hx hb hts hown hE oc10 hM hJ.1 rfl (by decide) rfl (hJ.2 73 (by decide)).2 (by decide) tb_1250 dX10_isMended_8 ?_
  refine lv_iconst (v := (1)) hx hb dX10_isMended_11 (by decide) ?_
  refine lv_iload_n hx hb dX10_isMended_12 rfl (lv_at hl 2 rfl) ?_
  refine m_iast (1073) hx hb hE hM hS (hJ.2 73 (by decide)).1 rfl (vp_in_iff.mpr (by decide)) dX10_isMended_13 (fun H locs I2 eI2 hM hS => ?_)
  rw [show (1 : Int32).toNatClampNeg = 1 from rfl] at eI2
  subst eI2
  have hI := hI.putF (n := 1073) (k := 1) (v := a1) rfl
  have hK := hK.put (n := 1073) (k := 1) (v := a1) (by first | rfl | simp [inR])
  refine lv_aload_n hx hb dX10_isMended_14 rfl (lv_at hl 0 rfl) ?_
  refine m_getr (1000) 73 (1073) hx hb hts hown hE oc10 hM hJ.1 rfl (by decide) rfl (hJ.2 73 (by decide)).2 (by decide) tb_1250 dX10_isMended_15 ?_
  refine lv_iconst (v := (2)) hx hb dX10_isMended_18 (by decide) ?_
  refine lv_iload_n hx hb dX10_isMended_19 rfl (lv_at hl 3 rfl) ?_
  refine m_iast (1073) hx hb hE hM hS (hJ.2 73 (by decide)).1 rfl (vp_in_iff.mpr (by decide)) dX10_isMended_20 (fun H locs I3 eI3 hM hS => ?_)
  rw [show (2 : Int32).toNatClampNeg = 2 from rfl] at eI3
  subst eI3
  have hI := hI.putF (n := 1073) (k := 2) (v := a2) rfl
  have hK := hK.put (n := 1073) (k := 2) (v := a2) (by first | rfl | simp [inR])
  refine lv_aload_n hx hb dX10_isMended_21 rfl (lv_at hl 0 rfl) ?_
  refine m_getr (1000) 73 (1073) hx hb hts hown hE oc10 hM hJ.1 rfl (by decide) rfl (hJ.2 73 (by decide)).2 (by decide) tb_1250 dX10_isMended_22 ?_
  refine lv_iconst (v := (3)) hx hb dX10_isMended_25 (by decide) ?_
  refine lv_iload hx hb dX10_isMended_26 (lv_at hl 4 rfl) ?_
  refine m_iast (1073) hx hb hE hM hS (hJ.2 73 (by decide)).1 rfl (vp_in_iff.mpr (by decide)) dX10_isMended_28 (fun H locs I4 eI4 hM hS => ?_)
  rw [show (3 : Int32).toNatClampNeg = 3 from rfl] at eI4
  subst eI4
  have hI := hI.putF (n := 1073) (k := 3) (v := a3) rfl
  have hK := hK.put (n := 1073) (k := 3) (v := a3) (by first | rfl | simp [inR])
  refine lv_aload_n hx hb dX10_isMended_29 rfl (lv_at hl 0 rfl) ?_
  refine m_getr (1000) 73 (1073) hx hb hts hown hE oc10 hM hJ.1 rfl (by decide) rfl (hJ.2 73 (by decide)).2 (by decide) tb_1250 dX10_isMended_30 ?_
  refine lv_iconst (v := (4)) hx hb dX10_isMended_33 (by decide) ?_
  refine lv_iload hx hb dX10_isMended_34 (lv_at hl 5 rfl) ?_
  refine m_iast (1073) hx hb hE hM hS (hJ.2 73 (by decide)).1 rfl (vp_in_iff.mpr (by decide)) dX10_isMended_36 (fun H locs I5 eI5 hM hS => ?_)
  rw [show (4 : Int32).toNatClampNeg = 4 from rfl] at eI5
  subst eI5
  have hI := hI.putF (n := 1073) (k := 4) (v := a4) rfl
  have hK := hK.put (n := 1073) (k := 4) (v := a4) (by first | rfl | simp [inR])
  exact m_vret hx hb hr hlocks hM hS (Nat.le_of_ble_eq_true rfl) (Nat.le_of_ble_eq_true rfl) ⟨_, _, rfl, hI, hK⟩ dX10_isMended_37
theorem dX10_mendsOne_0 : decode cX10_mendsOne 0 = .ok (.iconst 0, 1) := by decide +kernel
theorem dX10_mendsOne_1 : decode cX10_mendsOne 1 = .ok (.istore_n 2, 1) := by decide +kernel
theorem dX10_mendsOne_2 : decode cX10_mendsOne 2 = .ok (.iload_n 2, 1) := by decide +kernel
theorem dX10_mendsOne_3 : decode cX10_mendsOne 3 = .ok (.aload_n 0, 1) := by decide +kernel
theorem dX10_mendsOne_4 : decode cX10_mendsOne 4 = .ok (.getfield 7, 3) := by decide +kernel
theorem dX10_mendsOne_7 : decode cX10_mendsOne 7 = .ok (.bipush 8, 2) := by decide +kernel
theorem dX10_mendsOne_9 : decode cX10_mendsOne 9 = .ok (.iaload, 1) := by decide +kernel
theorem dX10_mendsOne_10 : decode cX10_mendsOne 10 = .ok (.if_icmp .ge 84, 3) := by decide +kernel
theorem dX10_mendsOne_13 : decode cX10_mendsOne 13 = .ok (.aload_n 0, 1) := by decide +kernel
theorem dX10_mendsOne_14 : decode cX10_mendsOne 14 = .ok (.getfield 34, 3) := by decide +kernel
theorem dX10_mendsOne_17 : decode cX10_mendsOne 17 = .ok (.iload_n 2, 1) := by decide +kernel
theorem dX10_mendsOne_18 : decode cX10_mendsOne 18 = .ok (.iaload, 1) := by decide +kernel
theorem dX10_mendsOne_19 : decode cX10_mendsOne 19 = .ok (.istore_n 3, 1) := by decide +kernel
theorem dX10_mendsOne_20 : decode cX10_mendsOne 20 = .ok (.iconst 0, 1) := by decide +kernel
theorem dX10_mendsOne_21 : decode cX10_mendsOne 21 = .ok (.istore 4, 2) := by decide +kernel
theorem dX10_mendsOne_23 : decode cX10_mendsOne 23 = .ok (.iload 4, 2) := by decide +kernel
theorem dX10_mendsOne_25 : decode cX10_mendsOne 25 = .ok (.bipush 8, 2) := by decide +kernel
theorem dX10_mendsOne_27 : decode cX10_mendsOne 27 = .ok (.if_icmp .ge 54, 3) := by decide +kernel
theorem dX10_mendsOne_30 : decode cX10_mendsOne 30 = .ok (.aload_n 0, 1) := by decide +kernel
theorem dX10_mendsOne_31 : decode cX10_mendsOne 31 = .ok (.getfield 52, 3) := by decide +kernel
theorem dX10_mendsOne_34 : decode cX10_mendsOne 34 = .ok (.iload_n 2, 1) := by decide +kernel
theorem dX10_mendsOne_35 : decode cX10_mendsOne 35 = .ok (.iaload, 1) := by decide +kernel
theorem dX10_mendsOne_36 : decode cX10_mendsOne 36 = .ok (.ifCond .ne 45, 3) := by decide +kernel
theorem dX10_mendsOne_39 : decode cX10_mendsOne 39 = .ok (.aload_n 0, 1) := by decide +kernel
theorem dX10_mendsOne_40 : decode cX10_mendsOne 40 = .ok (.getfield 34, 3) := by decide +kernel
theorem dX10_mendsOne_43 : decode cX10_mendsOne 43 = .ok (.iload_n 2, 1) := by decide +kernel
theorem dX10_mendsOne_44 : decode cX10_mendsOne 44 = .ok (.iload 4, 2) := by decide +kernel
theorem dX10_mendsOne_46 : decode cX10_mendsOne 46 = .ok (.iastore, 1) := by decide +kernel
theorem dX10_mendsOne_47 : decode cX10_mendsOne 47 = .ok (.iload 4, 2) := by decide +kernel
theorem dX10_mendsOne_49 : decode cX10_mendsOne 49 = .ok (.iload_n 3, 1) := by decide +kernel
theorem dX10_mendsOne_50 : decode cX10_mendsOne 50 = .ok (.if_icmp .eq 25, 3) := by decide +kernel
theorem dX10_mendsOne_53 : decode cX10_mendsOne 53 = .ok (.aload_n 0, 1) := by decide +kernel
theorem dX10_mendsOne_54 : decode cX10_mendsOne 54 = .ok (.iload_n 1, 1) := by decide +kernel
theorem dX10_mendsOne_55 : decode cX10_mendsOne 55 = .ok (.invokevirtual 504, 3) := by decide +kernel
theorem dX10_mendsOne_58 : decode cX10_mendsOne 58 = .ok (.ifCond .eq 17, 3) := by decide +kernel
theorem dX10_mendsOne_61 : decode cX10_mendsOne 61 = .ok (.aload_n 0, 1) := by decide +kernel
theorem dX10_mendsOne_62 : decode cX10_mendsOne 62 = .ok (.iconst 1, 1) := by decide +kernel
theorem dX10_mendsOne_63 : decode cX10_mendsOne 63 = .ok (.iload_n 2, 1) := by decide +kernel
theorem dX10_mendsOne_64 : decode cX10_mendsOne 64 = .ok (.iload 4, 2) := by decide +kernel
theorem dX10_mendsOne_66 : decode cX10_mendsOne 66 = .ok (.bipush (-2), 2) := by decide +kernel
theorem dX10_mendsOne_68 : decode cX10_mendsOne 68 = .ok (.bipush (-2), 2) := by decide +kernel
theorem dX10_mendsOne_70 : decode cX10_mendsOne 70 = .ok (.invokevirtual 507, 3) := by decide +kernel
theorem dX10_mendsOne_73 : decode cX10_mendsOne 73 = .ok (.iconst 1, 1) := by decide +kernel
theorem dX10_mendsOne_74 : decode cX10_mendsOne 74 = .ok (.ireturn, 1) := by decide +kernel
theorem dX10_mendsOne_75 : decode cX10_mendsOne 75 = .ok (.iinc 4 1, 3) := by decide +kernel
theorem dX10_mendsOne_78 : decode cX10_mendsOne 78 = .ok (.goto (-55), 3) := by decide +kernel
theorem dX10_mendsOne_81 : decode cX10_mendsOne 81 = .ok (.aload_n 0, 1) := by decide +kernel
theorem dX10_mendsOne_82 : decode cX10_mendsOne 82 = .ok (.getfield 34, 3) := by decide +kernel
theorem dX10_mendsOne_85 : decode cX10_mendsOne 85 = .ok (.iload_n 2, 1) := by decide +kernel
theorem dX10_mendsOne_86 : decode cX10_mendsOne 86 = .ok (.iload_n 3, 1) := by decide +kernel
theorem dX10_mendsOne_87 : decode cX10_mendsOne 87 = .ok (.iastore, 1) := by decide +kernel
theorem dX10_mendsOne_88 : decode cX10_mendsOne 88 = .ok (.iinc 2 1, 3) := by decide +kernel
theorem dX10_mendsOne_91 : decode cX10_mendsOne 91 = .ok (.goto (-89), 3) := by decide +kernel
theorem dX10_mendsOne_94 : decode cX10_mendsOne 94 = .ok (.iconst 0, 1) := by decide +kernel
theorem dX10_mendsOne_95 : decode cX10_mendsOne 95 = .ok (.ireturn, 1) := by decide +kernel
theorem ce_X10_mendsOne : CeV RX10 yX10_mendsOne cX10_mendsOne 5 (some .boolean) 1 := ⟨tb_1775, tp_103, tb_11, tb_1776, rfl, by decide, by decide, by decide +kernel⟩
set_option maxHeartbeats 4000000 in
set_option maxRecDepth 20000 in
theorem V_X10_mendsOne (l : Launch) (D : va_G) (A : Nat → Prop) (ad : Nat → Nat) (ns : List Nat) (I : MI) (L : ML) (G : MG) (a0 : Int32) (hJ : SGM ns G) (hI : INV I) (ha0 : 0 ≤ a0.toInt ∧ a0.toInt ≤ 23) : Met l yX10_mendsOne (wd yX10_mendsOne cX10_mendsOne 5 (some .boolean)) ({ frames := 6, cells := 0, slots := 0, locals := 151 }) (va_Pc [.ref (ad (1000)), .int a0] (PM D A ad ns I L G)) (va_Qi (fun r u => ∃ I2 L2, u = (ad, ns, I2, L2, G) ∧ INV I2 ∧ Kp [(1009, 1010), (1045, 1051), (1058, 1059), (1061, 1063)] [(1000, 51), (1000, 52), (1000, 53), (1000, 54), (1000, 55), (1000, 56), (1000, 59), (1000, 63), (1073, 0), (1073, 1), (1073, 2), (1073, 3), (1073, 4)] I I2 ∧ (0 ≤ r.toInt ∧ r.toInt ≤ 1)) (BM D A) A) 0 0 A := by
  refine m_ofW (by decide) (Nat.le_of_ble_eq_true rfl) ?_
  intro p e s m below meth c ls args hC hE hM hA hS hl
  obtain ⟨hx, hb, hml, hown, hts, hr, hlocks, hin⟩ := hC
  have km2 : (-2 : Int32).toInt = -2 := by decide
  have k0 : (0 : Int32).toInt = 0 := by decide
  have k1 : (1 : Int32).toInt = 1 := by decide
  have k8 : (8 : Int32).toInt = 8 := by decide
  have hK : Kp [(1009, 1010), (1045, 1051), (1058, 1059), (1061, 1063)] [(1000, 51), (1000, 52), (1000, 53), (1000, 54), (1000, 55), (1000, 56), (1000, 59), (1000, 63), (1073, 0), (1073, 1), (1073, 2), (1073, 3), (1073, 4)] I I := Kp.rf
  have hl : lv_has ls 5 [(0, .ref (ad (1000))), (1, .int (a0))] := hl
  refine lv_iconst (v := (0)) hx hb dX10_mendsOne_0 (by decide) ?_
  refine lv_istore_n (lv' := [(2, .int (0)), (0, .ref (ad (1000))), (1, .int (a0))]) hx hb dX10_mendsOne_1 rfl hl (by decide) rfl (fun ls hl => ?_)
  have loop2 : ∀ (n : Nat) (x2_2 : Int32) (Ia2 : MI) (La2 : ML) (H : Heap) (locs : List Loc) (ls : Array Slot), INV Ia2 → Kp [(1009, 1010), (1045, 1051), (1058, 1059), (1061, 1063)] [(1000, 51), (1000, 52), (1000, 53), (1000, 54), (1000, 55), (1000, 56), (1000, 59), (1000, 63), (1073, 0), (1073, 1), (1073, 2), (1073, 3), (1073, 4)] I Ia2 → (0 ≤ x2_2.toInt ∧ x2_2.toInt ≤ 24) → (24 - x2_2.toInt).toNat < n → Mem D A ad ns Ia2 La2 G H → va_S A s.heap H locs → lv_has ls 5 [(2, .int (x2_2)), (0, .ref (ad (1000))), (1, .int (a0))] → W p l e ({ frames := 6, cells := 0, slots := 0, locals := 151 } : Room) s m args below meth c H locs 0 0 (MQ below (va_Qi (fun r u => ∃ I2 L2, u = (ad, ns, I2, L2, G) ∧ INV I2 ∧ Kp [(1009, 1010), (1045, 1051), (1058, 1059), (1061, 1063)] [(1000, 51), (1000, 52), (1000, 53), (1000, 54), (1000, 55), (1000, 56), (1000, 59), (1000, 63), (1073, 0), (1073, 1), (1073, 2), (1073, 3), (1073, 4)] I I2 ∧ (0 ≤ r.toInt ∧ r.toInt ≤ 1)) (BM D A) A) args s 0 0 A) (F0 m 2 ls []) := by
    intro n
    induction n with
    | zero =>
      intro x2_2 Ia2 La2 H locs ls hI hK hr2_2 hmu
      exact absurd hmu (Nat.not_lt_zero _)
    | succ n ih2 =>
      intro x2_2 Ia2 La2 H locs ls hI hK hr2_2 hmu2 hM hS hl
      refine lv_iload_n hx hb dX10_mendsOne_2 rfl (lv_at hl 0 rfl) ?_
      refine lv_aload_n hx hb dX10_mendsOne_3 rfl (lv_at hl 1 rfl) ?_
      refine m_getr (1000) 1 (1001) hx hb hts hown hE oc10 hM hJ.1 rfl (by decide) rfl (hJ.2 1 (by decide)).2 (by decide) tb_1178 dX10_mendsOne_4 ?_
      refine lv_bipush (v := (8)) hx hb dX10_mendsOne_7 (by decide) ?_
      refine m_iald (1001) hx hb hE hM (hJ.2 1 (by decide)).1 rfl (vp_in_iff.mpr (by decide)) dX10_mendsOne_9 ?_
      rw [show (8 : Int32).toNatClampNeg = 8 from rfl]
      have g1 := hI.get (1001) 8 (lo := 0) (hi := 24) rfl
      refine lv_icmp_ge (tgt := 94) hx hb dX10_mendsOne_10 (by decide) (fun c2 => ?_) (fun c2 => ?_)
      · have hc2 := c2
        have q2 := q_le hc2
        refine lv_iconst (v := (0)) hx hb dX10_mendsOne_94 (by decide) ?_
        exact m_zret hx hb hr rfl hlocks hM hS (Nat.le_of_ble_eq_true rfl) (Nat.le_of_ble_eq_true rfl) ⟨_, _, rfl, hI, hK, (by first | omega | decide)⟩ dX10_mendsOne_95
      · have hc2 := c2
        have q2 := q_nle hc2
        refine lv_aload_n hx hb dX10_mendsOne_13 rfl (lv_at hl 1 rfl) ?_
        refine m_getr (1000) 9 (1009) hx hb hts hown hE oc10 hM hJ.1 rfl (by decide) rfl (hJ.2 9 (by decide)).2 (by decide) tb_1186 dX10_mendsOne_14 ?_
        refine lv_iload_n hx hb dX10_mendsOne_17 rfl (lv_at hl 0 rfl) ?_
        refine m_iald (1009) hx hb hE hM (hJ.2 9 (by decide)).1 rfl (vp_in_iff.mpr (by omega)) dX10_mendsOne_18 ?_
        refine lv_istore_n (lv' := [(3, .int (Ia2 (1009) (x2_2).toNatClampNeg)), (2, .int (x2_2)), (0, .ref (ad (1000))), (1, .int (a0))]) hx hb dX10_mendsOne_19 rfl hl (by decide) rfl (fun ls hl => ?_)
        refine lv_iconst (v := (0)) hx hb dX10_mendsOne_20 (by decide) ?_
        refine lv_istore (lv' := [(4, .int (0)), (3, .int (Ia2 (1009) (x2_2).toNatClampNeg)), (2, .int (x2_2)), (0, .ref (ad (1000))), (1, .int (a0))]) hx hb dX10_mendsOne_21 hl (by decide) rfl (fun ls hl => ?_)
        have loop23 : ∀ (n : Nat) (x4_23 : Int32) (Ia23 : MI) (La23 : ML) (H : Heap) (locs : List Loc) (ls : Array Slot), INV Ia23 → Kp [(1009, 1010), (1045, 1051), (1058, 1059), (1061, 1063)] [(1000, 51), (1000, 52), (1000, 53), (1000, 54), (1000, 55), (1000, 56), (1000, 59), (1000, 63), (1073, 0), (1073, 1), (1073, 2), (1073, 3), (1073, 4)] I Ia23 → (0 ≤ x4_23.toInt ∧ x4_23.toInt ≤ 8) → (8 - x4_23.toInt).toNat < n → Mem D A ad ns Ia23 La23 G H → va_S A s.heap H locs → lv_has ls 5 [(4, .int (x4_23)), (3, .int (Ia2 (1009) (x2_2).toNatClampNeg)), (2, .int (x2_2)), (0, .ref (ad (1000))), (1, .int (a0))] → W p l e ({ frames := 6, cells := 0, slots := 0, locals := 151 } : Room) s m args below meth c H locs 0 0 (MQ below (va_Qi (fun r u => ∃ I2 L2, u = (ad, ns, I2, L2, G) ∧ INV I2 ∧ Kp [(1009, 1010), (1045, 1051), (1058, 1059), (1061, 1063)] [(1000, 51), (1000, 52), (1000, 53), (1000, 54), (1000, 55), (1000, 56), (1000, 59), (1000, 63), (1073, 0), (1073, 1), (1073, 2), (1073, 3), (1073, 4)] I I2 ∧ (0 ≤ r.toInt ∧ r.toInt ≤ 1)) (BM D A) A) args s 0 0 A) (F0 m 23 ls []) := by
          intro n
          induction n with
          | zero =>
            intro x4_23 Ia23 La23 H locs ls hI hK hr4_23 hmu
            exact absurd hmu (Nat.not_lt_zero _)
          | succ n ih23 =>
            intro x4_23 Ia23 La23 H locs ls hI hK hr4_23 hmu23 hM hS hl
            refine lv_iload hx hb dX10_mendsOne_23 (lv_at hl 0 rfl) ?_
            refine lv_bipush (v := (8)) hx hb dX10_mendsOne_25 (by decide) ?_
            refine lv_icmp_ge (tgt := 81) hx hb dX10_mendsOne_27 (by decide) (fun c3 => ?_) (fun c3 => ?_)
            · have hc3 := c3
              have q3 := q_le hc3
              refine lv_aload_n hx hb dX10_mendsOne_81 rfl (lv_at hl 3 rfl) ?_
              refine m_getr (1000) 9 (1009) hx hb hts hown hE oc10 hM hJ.1 rfl (by decide) rfl (hJ.2 9 (by decide)).2 (by decide) tb_1186 dX10_mendsOne_82 ?_
              refine lv_iload_n hx hb dX10_mendsOne_85 rfl (lv_at hl 2 rfl) ?_
              refine lv_iload_n hx hb dX10_mendsOne_86 rfl (lv_at hl 1 rfl) ?_
              refine m_iast (1009) hx hb hE hM hS (hJ.2 9 (by decide)).1 rfl (vp_in_iff.mpr (by omega)) dX10_mendsOne_87 (fun H locs I4 eI4 hM hS => ?_)
              subst eI4
              have hI := hI.putF (n := 1009) (k := ((x2_2).toNatClampNeg)) (v := Ia2 (1009) (x2_2).toNatClampNeg) rfl
              have hK := hK.put (n := 1009) (k := ((x2_2).toNatClampNeg)) (v := Ia2 (1009) (x2_2).toNatClampNeg) (by first | rfl | simp [inR])
              obtain ⟨v5, ev5⟩ : ∃ z : Int32, z = x2_2 + Int32.ofInt (1) := ⟨_, rfl⟩
              have tv5 := a_inc ev5 (by decide) (by omega) (by omega)
              refine lv_iinc (v := v5) (lv' := [(2, .int (v5)), (4, .int (x4_23)), (3, .int (Ia2 (1009) (x2_2).toNatClampNeg)), (0, .ref (ad (1000))), (1, .int (a0))]) hx hb dX10_mendsOne_88 hl (k := 2) rfl ev5.symm (by decide) rfl (fun ls hl => ?_)
              refine lv_goto (tgt := 2) hx hb dX10_mendsOne_91 (by decide) ?_
              exact ih2 (v5) (u2 Ia23 (1009) ((x2_2).toNatClampNeg) (Ia2 (1009) (x2_2).toNatClampNeg)) La23 _ _ ls hI hK (by first | omega | decide) (by omega) hM hS (lv_sub hl [0, 3, 4] rfl)
            · have hc3 := c3
              have q3 := q_nle hc3
              refine lv_aload_n hx hb dX10_mendsOne_30 rfl (lv_at hl 3 rfl) ?_
              refine m_getr (1000) 15 (1015) hx hb hts hown hE oc10 hM hJ.1 rfl (by decide) rfl (hJ.2 15 (by decide)).2 (by decide) tb_1192 dX10_mendsOne_31 ?_
              refine lv_iload_n hx hb dX10_mendsOne_34 rfl (lv_at hl 2 rfl) ?_
              refine m_iald (1015) hx hb hE hM (hJ.2 15 (by decide)).1 rfl (vp_in_iff.mpr (by omega)) dX10_mendsOne_35 ?_
              refine lv_if_ne (tgt := 81) hx hb dX10_mendsOne_36 (by decide) (fun c6 => ?_) (fun c6 => ?_)
              · have hc6 := c6
                have q6 := q_ne hc6
                refine lv_aload_n hx hb dX10_mendsOne_81 rfl (lv_at hl 3 rfl) ?_
                refine m_getr (1000) 9 (1009) hx hb hts hown hE oc10 hM hJ.1 rfl (by decide) rfl (hJ.2 9 (by decide)).2 (by decide) tb_1186 dX10_mendsOne_82 ?_
                refine lv_iload_n hx hb dX10_mendsOne_85 rfl (lv_at hl 2 rfl) ?_
                refine lv_iload_n hx hb dX10_mendsOne_86 rfl (lv_at hl 1 rfl) ?_
                refine m_iast (1009) hx hb hE hM hS (hJ.2 9 (by decide)).1 rfl (vp_in_iff.mpr (by omega)) dX10_mendsOne_87 (fun H locs I7 eI7 hM hS => ?_)
                subst eI7
                have hI := hI.putF (n := 1009) (k := ((x2_2).toNatClampNeg)) (v := Ia2 (1009) (x2_2).toNatClampNeg) rfl
                have hK := hK.put (n := 1009) (k := ((x2_2).toNatClampNeg)) (v := Ia2 (1009) (x2_2).toNatClampNeg) (by first | rfl | simp [inR])
                obtain ⟨v8, ev8⟩ : ∃ z : Int32, z = x2_2 + Int32.ofInt (1) := ⟨_, rfl⟩
                have tv8 := a_inc ev8 (by decide) (by omega) (by omega)
                refine lv_iinc (v := v8) (lv' := [(2, .int (v8)), (4, .int (x4_23)), (3, .int (Ia2 (1009) (x2_2).toNatClampNeg)), (0, .ref (ad (1000))), (1, .int (a0))]) hx hb dX10_mendsOne_88 hl (k := 2) rfl ev8.symm (by decide) rfl (fun ls hl => ?_)
                refine lv_goto (tgt := 2) hx hb dX10_mendsOne_91 (by decide) ?_
                exact ih2 (v8) (u2 Ia23 (1009) ((x2_2).toNatClampNeg) (Ia2 (1009) (x2_2).toNatClampNeg)) La23 _ _ ls hI hK (by first | omega | decide) (by omega) hM hS (lv_sub hl [0, 3, 4] rfl)
              · have hc6 := c6
                have q6 := q_eq hc6
                refine lv_aload_n hx hb dX10_mendsOne_39 rfl (lv_at hl 3 rfl) ?_
                refine m_getr (1000) 9 (1009) hx hb hts hown hE oc10 hM hJ.1 rfl (by decide) rfl (hJ.2 9 (by decide)).2 (by decide) tb_1186 dX10_mendsOne_40 ?_
                refine lv_iload_n hx hb dX10_mendsOne_43 rfl (lv_at hl 2 rfl) ?_
                refine lv_iload hx hb dX10_mendsOne_44 (lv_at hl 0 rfl) ?_
                refine m_iast (1009) hx hb hE hM hS (hJ.2 9 (by decide)).1 rfl (vp_in_iff.mpr (by omega)) dX10_mendsOne_46 (fun H locs I9 eI9 hM hS => ?_)
                subst eI9
                have hI := hI.putF (n := 1009) (k := ((x2_2).toNatClampNeg)) (v := x4_23) rfl
                have hK := hK.put (n := 1009) (k := ((x2_2).toNatClampNeg)) (v := x4_23) (by first | rfl | simp [inR])
                refine lv_iload hx hb dX10_mendsOne_47 (lv_at hl 0 rfl) ?_
                refine lv_iload_n hx hb dX10_mendsOne_49 rfl (lv_at hl 1 rfl) ?_
                refine lv_icmp_eq (tgt := 75) hx hb dX10_mendsOne_50 (by decide) (fun c10 => ?_) (fun c10 => ?_)
                · have hc10 := c10
                  have q10 := q_eq hc10
                  obtain ⟨v11, ev11⟩ : ∃ z : Int32, z = x4_23 + Int32.ofInt (1) := ⟨_, rfl⟩
                  have tv11 := a_inc ev11 (by decide) (by omega) (by omega)
                  refine lv_iinc (v := v11) (lv' := [(4, .int (v11)), (3, .int (Ia2 (1009) (x2_2).toNatClampNeg)), (2, .int (x2_2)), (0, .ref (ad (1000))), (1, .int (a0))]) hx hb dX10_mendsOne_75 hl (k := 0) rfl ev11.symm (by decide) rfl (fun ls hl => ?_)
                  refine lv_goto (tgt := 23) hx hb dX10_mendsOne_78 (by decide) ?_
                  exact ih23 (v11) (u2 Ia23 (1009) ((x2_2).toNatClampNeg) (x4_23)) La23 _ _ ls hI hK (by first | omega | decide) (by omega) hM hS (lv_sub hl [0, 1, 2, 3, 4] rfl)
                · have hc10 := c10
                  have q10 := q_ne hc10
                  refine lv_aload_n hx hb dX10_mendsOne_53 rfl (lv_at hl 3 rfl) ?_
                  refine lv_iload_n hx hb dX10_mendsOne_54 rfl (lv_at hl 4 rfl) ?_
                  refine m_calli (m_runV (1000) (As := [.int (a0)]) (rest := []) hx hb hml hown hts hE hM hS hA ce_X10_isHalf tb_1769 (V_X10_isHalf l D A ad ns (u2 Ia23 (1009) ((x2_2).toNatClampNeg) (x4_23)) La23 G (a0) hJ hI (by first | omega | decide)) rfl rfl ⟨Nat.le_of_ble_eq_true rfl, Nat.le_of_ble_eq_true rfl⟩ hJ.1 rfl rfl (by decide) rfl hl.1 rfl (Nat.le_of_ble_eq_true rfl) dX10_mendsOne_55 ⟨Nat.le_of_ble_eq_true rfl, Nat.le_of_ble_eq_true rfl⟩) hS (fun r12 u H locs hw hM hS => ?_)
                  obtain ⟨I13, L14, rfl, hI, hkI13, xr12⟩ := hw
                  have hM : Mem D A ad ns I13 L14 G H := hM
                  have hK := hK.trans hkI13 rfl
                  refine lv_if_eq (tgt := 75) hx hb dX10_mendsOne_58 (by decide) (fun c15 => ?_) (fun c15 => ?_)
                  · have hc15 := c15
                    have q15 := q_eq hc15
                    obtain ⟨v16, ev16⟩ : ∃ z : Int32, z = x4_23 + Int32.ofInt (1) := ⟨_, rfl⟩
                    have tv16 := a_inc ev16 (by decide) (by omega) (by omega)
                    refine lv_iinc (v := v16) (lv' := [(4, .int (v16)), (3, .int (Ia2 (1009) (x2_2).toNatClampNeg)), (2, .int (x2_2)), (0, .ref (ad (1000))), (1, .int (a0))]) hx hb dX10_mendsOne_75 hl (k := 0) rfl ev16.symm (by decide) rfl (fun ls hl => ?_)
                    refine lv_goto (tgt := 23) hx hb dX10_mendsOne_78 (by decide) ?_
                    exact ih23 (v16) I13 L14 _ _ ls hI hK (by first | omega | decide) (by omega) hM hS (lv_sub hl [0, 1, 2, 3, 4] rfl)
                  · have hc15 := c15
                    have q15 := q_ne hc15
                    refine lv_aload_n hx hb dX10_mendsOne_61 rfl (lv_at hl 3 rfl) ?_
                    refine lv_iconst (v := (1)) hx hb dX10_mendsOne_62 (by decide) ?_
                    refine lv_iload_n hx hb dX10_mendsOne_63 rfl (lv_at hl 2 rfl) ?_
                    refine lv_iload hx hb dX10_mendsOne_64 (lv_at hl 0 rfl) ?_
                    refine lv_bipush (v := (-2)) hx hb dX10_mendsOne_66 (by decide) ?_
                    refine lv_bipush (v := (-2)) hx hb dX10_mendsOne_68 (by decide) ?_
                    refine m_callv (m_runV (1000) (As := [.int (1), .int (x2_2), .int (x4_23), .int ((-2 : Int32)), .int ((-2 : Int32))]) (rest := []) hx hb hml hown hts hE hM hS hA ce_X10_isMended tb_1765 (V_X10_isMended l D A ad ns I13 L14 G (1) (x2_2) (x4_23) ((-2 : Int32)) ((-2 : Int32)) hJ hI) rfl rfl ⟨Nat.le_of_ble_eq_true rfl, Nat.le_of_ble_eq_true rfl⟩ hJ.1 rfl rfl (by decide) rfl hl.1 rfl (Nat.le_of_ble_eq_true rfl) dX10_mendsOne_70 ⟨Nat.le_of_ble_eq_true rfl, Nat.le_of_ble_eq_true rfl⟩) hS (fun u H locs hw hM hS => ?_)
                    obtain ⟨I17, L18, rfl, hI, hkI17⟩ := hw
                    have hM : Mem D A ad ns I17 L18 G H := hM
                    have hK := hK.trans hkI17 rfl
                    refine lv_iconst (v := (1)) hx hb dX10_mendsOne_73 (by decide) ?_
                    exact m_zret hx hb hr rfl hlocks hM hS (Nat.le_of_ble_eq_true rfl) (Nat.le_of_ble_eq_true rfl) ⟨_, _, rfl, hI, hK, (by first | omega | decide)⟩ dX10_mendsOne_74
        exact loop23 (_ + 1) (0) Ia2 La2 _ _ ls hI hK (by first | omega | decide) (Nat.lt_succ_self _) hM hS (lv_sub hl [0, 1, 2, 3, 4] rfl)
  exact loop2 (_ + 1) (0) I L _ _ ls hI hK (by first | omega | decide) (Nat.lt_succ_self _) hM hS (lv_sub hl [0, 1, 2] rfl)
theorem dX10_mendsPair_0 : decode cX10_mendsPair 0 = .ok (.aload_n 0, 1) := by decide +kernel
theorem dX10_mendsPair_1 : decode cX10_mendsPair 1 = .ok (.getfield 34, 3) := by decide +kernel
theorem dX10_mendsPair_4 : decode cX10_mendsPair 4 = .ok (.iload_n 2, 1) := by decide +kernel
theorem dX10_mendsPair_5 : decode cX10_mendsPair 5 = .ok (.iaload, 1) := by decide +kernel
theorem dX10_mendsPair_6 : decode cX10_mendsPair 6 = .ok (.istore 4, 2) := by decide +kernel
theorem dX10_mendsPair_8 : decode cX10_mendsPair 8 = .ok (.aload_n 0, 1) := by decide +kernel
theorem dX10_mendsPair_9 : decode cX10_mendsPair 9 = .ok (.getfield 34, 3) := by decide +kernel
theorem dX10_mendsPair_12 : decode cX10_mendsPair 12 = .ok (.iload_n 3, 1) := by decide +kernel
theorem dX10_mendsPair_13 : decode cX10_mendsPair 13 = .ok (.iaload, 1) := by decide +kernel
theorem dX10_mendsPair_14 : decode cX10_mendsPair 14 = .ok (.istore 5, 2) := by decide +kernel
theorem dX10_mendsPair_16 : decode cX10_mendsPair 16 = .ok (.iconst 0, 1) := by decide +kernel
theorem dX10_mendsPair_17 : decode cX10_mendsPair 17 = .ok (.istore 6, 2) := by decide +kernel
theorem dX10_mendsPair_19 : decode cX10_mendsPair 19 = .ok (.iload 6, 2) := by decide +kernel
theorem dX10_mendsPair_21 : decode cX10_mendsPair 21 = .ok (.bipush 64, 2) := by decide +kernel
theorem dX10_mendsPair_23 : decode cX10_mendsPair 23 = .ok (.if_icmp .ge 82, 3) := by decide +kernel
theorem dX10_mendsPair_26 : decode cX10_mendsPair 26 = .ok (.aload_n 0, 1) := by decide +kernel
theorem dX10_mendsPair_27 : decode cX10_mendsPair 27 = .ok (.getfield 34, 3) := by decide +kernel
theorem dX10_mendsPair_30 : decode cX10_mendsPair 30 = .ok (.iload_n 2, 1) := by decide +kernel
theorem dX10_mendsPair_31 : decode cX10_mendsPair 31 = .ok (.iload 6, 2) := by decide +kernel
theorem dX10_mendsPair_33 : decode cX10_mendsPair 33 = .ok (.bipush 8, 2) := by decide +kernel
theorem dX10_mendsPair_35 : decode cX10_mendsPair 35 = .ok (.idiv, 1) := by decide +kernel
theorem dX10_mendsPair_36 : decode cX10_mendsPair 36 = .ok (.iastore, 1) := by decide +kernel
theorem dX10_mendsPair_37 : decode cX10_mendsPair 37 = .ok (.aload_n 0, 1) := by decide +kernel
theorem dX10_mendsPair_38 : decode cX10_mendsPair 38 = .ok (.getfield 34, 3) := by decide +kernel
theorem dX10_mendsPair_41 : decode cX10_mendsPair 41 = .ok (.iload_n 3, 1) := by decide +kernel
theorem dX10_mendsPair_42 : decode cX10_mendsPair 42 = .ok (.iload 6, 2) := by decide +kernel
theorem dX10_mendsPair_44 : decode cX10_mendsPair 44 = .ok (.bipush 8, 2) := by decide +kernel
theorem dX10_mendsPair_46 : decode cX10_mendsPair 46 = .ok (.irem, 1) := by decide +kernel
theorem dX10_mendsPair_47 : decode cX10_mendsPair 47 = .ok (.iastore, 1) := by decide +kernel
theorem dX10_mendsPair_48 : decode cX10_mendsPair 48 = .ok (.aload_n 0, 1) := by decide +kernel
theorem dX10_mendsPair_49 : decode cX10_mendsPair 49 = .ok (.getfield 34, 3) := by decide +kernel
theorem dX10_mendsPair_52 : decode cX10_mendsPair 52 = .ok (.iload_n 2, 1) := by decide +kernel
theorem dX10_mendsPair_53 : decode cX10_mendsPair 53 = .ok (.iaload, 1) := by decide +kernel
theorem dX10_mendsPair_54 : decode cX10_mendsPair 54 = .ok (.iload 4, 2) := by decide +kernel
theorem dX10_mendsPair_56 : decode cX10_mendsPair 56 = .ok (.if_icmp .eq 43, 3) := by decide +kernel
theorem dX10_mendsPair_59 : decode cX10_mendsPair 59 = .ok (.aload_n 0, 1) := by decide +kernel
theorem dX10_mendsPair_60 : decode cX10_mendsPair 60 = .ok (.getfield 34, 3) := by decide +kernel
theorem dX10_mendsPair_63 : decode cX10_mendsPair 63 = .ok (.iload_n 3, 1) := by decide +kernel
theorem dX10_mendsPair_64 : decode cX10_mendsPair 64 = .ok (.iaload, 1) := by decide +kernel
theorem dX10_mendsPair_65 : decode cX10_mendsPair 65 = .ok (.iload 5, 2) := by decide +kernel
theorem dX10_mendsPair_67 : decode cX10_mendsPair 67 = .ok (.if_icmp .eq 32, 3) := by decide +kernel
theorem dX10_mendsPair_70 : decode cX10_mendsPair 70 = .ok (.aload_n 0, 1) := by decide +kernel
theorem dX10_mendsPair_71 : decode cX10_mendsPair 71 = .ok (.iload_n 1, 1) := by decide +kernel
theorem dX10_mendsPair_72 : decode cX10_mendsPair 72 = .ok (.invokevirtual 504, 3) := by decide +kernel
theorem dX10_mendsPair_75 : decode cX10_mendsPair 75 = .ok (.ifCond .eq 24, 3) := by decide +kernel
theorem dX10_mendsPair_78 : decode cX10_mendsPair 78 = .ok (.aload_n 0, 1) := by decide +kernel
theorem dX10_mendsPair_79 : decode cX10_mendsPair 79 = .ok (.iconst 2, 1) := by decide +kernel
theorem dX10_mendsPair_80 : decode cX10_mendsPair 80 = .ok (.iload_n 2, 1) := by decide +kernel
theorem dX10_mendsPair_81 : decode cX10_mendsPair 81 = .ok (.aload_n 0, 1) := by decide +kernel
theorem dX10_mendsPair_82 : decode cX10_mendsPair 82 = .ok (.getfield 34, 3) := by decide +kernel
theorem dX10_mendsPair_85 : decode cX10_mendsPair 85 = .ok (.iload_n 2, 1) := by decide +kernel
theorem dX10_mendsPair_86 : decode cX10_mendsPair 86 = .ok (.iaload, 1) := by decide +kernel
theorem dX10_mendsPair_87 : decode cX10_mendsPair 87 = .ok (.iload_n 3, 1) := by decide +kernel
theorem dX10_mendsPair_88 : decode cX10_mendsPair 88 = .ok (.aload_n 0, 1) := by decide +kernel
theorem dX10_mendsPair_89 : decode cX10_mendsPair 89 = .ok (.getfield 34, 3) := by decide +kernel
theorem dX10_mendsPair_92 : decode cX10_mendsPair 92 = .ok (.iload_n 3, 1) := by decide +kernel
theorem dX10_mendsPair_93 : decode cX10_mendsPair 93 = .ok (.iaload, 1) := by decide +kernel
theorem dX10_mendsPair_94 : decode cX10_mendsPair 94 = .ok (.invokevirtual 507, 3) := by decide +kernel
theorem dX10_mendsPair_97 : decode cX10_mendsPair 97 = .ok (.iconst 1, 1) := by decide +kernel
theorem dX10_mendsPair_98 : decode cX10_mendsPair 98 = .ok (.ireturn, 1) := by decide +kernel
theorem dX10_mendsPair_99 : decode cX10_mendsPair 99 = .ok (.iinc 6 1, 3) := by decide +kernel
theorem dX10_mendsPair_102 : decode cX10_mendsPair 102 = .ok (.goto (-83), 3) := by decide +kernel
theorem dX10_mendsPair_105 : decode cX10_mendsPair 105 = .ok (.aload_n 0, 1) := by decide +kernel
theorem dX10_mendsPair_106 : decode cX10_mendsPair 106 = .ok (.getfield 34, 3) := by decide +kernel
theorem dX10_mendsPair_109 : decode cX10_mendsPair 109 = .ok (.iload_n 2, 1) := by decide +kernel
theorem dX10_mendsPair_110 : decode cX10_mendsPair 110 = .ok (.iload 4, 2) := by decide +kernel
theorem dX10_mendsPair_112 : decode cX10_mendsPair 112 = .ok (.iastore, 1) := by decide +kernel
theorem dX10_mendsPair_113 : decode cX10_mendsPair 113 = .ok (.aload_n 0, 1) := by decide +kernel
theorem dX10_mendsPair_114 : decode cX10_mendsPair 114 = .ok (.getfield 34, 3) := by decide +kernel
theorem dX10_mendsPair_117 : decode cX10_mendsPair 117 = .ok (.iload_n 3, 1) := by decide +kernel
theorem dX10_mendsPair_118 : decode cX10_mendsPair 118 = .ok (.iload 5, 2) := by decide +kernel
theorem dX10_mendsPair_120 : decode cX10_mendsPair 120 = .ok (.iastore, 1) := by decide +kernel
theorem dX10_mendsPair_121 : decode cX10_mendsPair 121 = .ok (.iconst 0, 1) := by decide +kernel
theorem dX10_mendsPair_122 : decode cX10_mendsPair 122 = .ok (.ireturn, 1) := by decide +kernel
theorem ce_X10_mendsPair : CeV RX10 yX10_mendsPair cX10_mendsPair 7 (some .boolean) 3 := ⟨tb_1783, tp_105, tb_11, tb_1784, rfl, by decide, by decide, by decide +kernel⟩
set_option maxHeartbeats 4000000 in
set_option maxRecDepth 20000 in
theorem V_X10_mendsPair (l : Launch) (D : va_G) (A : Nat → Prop) (ad : Nat → Nat) (ns : List Nat) (I : MI) (L : ML) (G : MG) (a0 : Int32) (a1 : Int32) (a2 : Int32) (hJ : SGM ns G) (hI : INV I) (ha0 : 0 ≤ a0.toInt ∧ a0.toInt ≤ 23) (ha1 : 0 ≤ a1.toInt ∧ a1.toInt ≤ 23) (ha2 : 0 ≤ a2.toInt ∧ a2.toInt ≤ 23) : Met l yX10_mendsPair (wd yX10_mendsPair cX10_mendsPair 7 (some .boolean)) ({ frames := 6, cells := 0, slots := 0, locals := 151 }) (va_Pc [.ref (ad (1000)), .int a0, .int a1, .int a2] (PM D A ad ns I L G)) (va_Qi (fun r u => ∃ I2 L2, u = (ad, ns, I2, L2, G) ∧ INV I2 ∧ Kp [(1009, 1010), (1045, 1051), (1058, 1059), (1061, 1063)] [(1000, 51), (1000, 52), (1000, 53), (1000, 54), (1000, 55), (1000, 56), (1000, 59), (1000, 63), (1073, 0), (1073, 1), (1073, 2), (1073, 3), (1073, 4)] I I2 ∧ (0 ≤ r.toInt ∧ r.toInt ≤ 1)) (BM D A) A) 0 0 A := by
  refine m_ofW (by decide) (Nat.le_of_ble_eq_true rfl) ?_
  intro p e s m below meth c ls args hC hE hM hA hS hl
  obtain ⟨hx, hb, hml, hown, hts, hr, hlocks, hin⟩ := hC
  have k0 : (0 : Int32).toInt = 0 := by decide
  have k1 : (1 : Int32).toInt = 1 := by decide
  have k2 : (2 : Int32).toInt = 2 := by decide
  have k8 : (8 : Int32).toInt = 8 := by decide
  have k64 : (64 : Int32).toInt = 64 := by decide
  have hK : Kp [(1009, 1010), (1045, 1051), (1058, 1059), (1061, 1063)] [(1000, 51), (1000, 52), (1000, 53), (1000, 54), (1000, 55), (1000, 56), (1000, 59), (1000, 63), (1073, 0), (1073, 1), (1073, 2), (1073, 3), (1073, 4)] I I := Kp.rf
  have hl : lv_has ls 7 [(0, .ref (ad (1000))), (1, .int (a0)), (2, .int (a1)), (3, .int (a2))] := hl
  refine lv_aload_n hx hb dX10_mendsPair_0 rfl (lv_at hl 0 rfl) ?_
  refine m_getr (1000) 9 (1009) hx hb hts hown hE oc10 hM hJ.1 rfl (by decide) rfl (hJ.2 9 (by decide)).2 (by decide) tb_1186 dX10_mendsPair_1 ?_
  refine lv_iload_n hx hb dX10_mendsPair_4 rfl (lv_at hl 2 rfl) ?_
  refine m_iald (1009) hx hb hE hM (hJ.2 9 (by decide)).1 rfl (vp_in_iff.mpr (by omega)) dX10_mendsPair_5 ?_
  refine lv_istore (lv' := [(4, .int (I (1009) (a1).toNatClampNeg)), (0, .ref (ad (1000))), (1, .int (a0)), (2, .int (a1)), (3, .int (a2))]) hx hb dX10_mendsPair_6 hl (by decide) rfl (fun ls hl => ?_)
  refine lv_aload_n hx hb dX10_mendsPair_8 rfl (lv_at hl 1 rfl) ?_
  refine m_getr (1000) 9 (1009) hx hb hts hown hE oc10 hM hJ.1 rfl (by decide) rfl (hJ.2 9 (by decide)).2 (by decide) tb_1186 dX10_mendsPair_9 ?_
  refine lv_iload_n hx hb dX10_mendsPair_12 rfl (lv_at hl 4 rfl) ?_
  refine m_iald (1009) hx hb hE hM (hJ.2 9 (by decide)).1 rfl (vp_in_iff.mpr (by omega)) dX10_mendsPair_13 ?_
  refine lv_istore (lv' := [(5, .int (I (1009) (a2).toNatClampNeg)), (4, .int (I (1009) (a1).toNatClampNeg)), (0, .ref (ad (1000))), (1, .int (a0)), (2, .int (a1)), (3, .int (a2))]) hx hb dX10_mendsPair_14 hl (by decide) rfl (fun ls hl => ?_)
  refine lv_iconst (v := (0)) hx hb dX10_mendsPair_16 (by decide) ?_
  refine lv_istore (lv' := [(6, .int (0)), (5, .int (I (1009) (a2).toNatClampNeg)), (4, .int (I (1009) (a1).toNatClampNeg)), (0, .ref (ad (1000))), (1, .int (a0)), (2, .int (a1)), (3, .int (a2))]) hx hb dX10_mendsPair_17 hl (by decide) rfl (fun ls hl => ?_)
  have loop19 : ∀ (n : Nat) (x6_19 : Int32) (Ia19 : MI) (La19 : ML) (H : Heap) (locs : List Loc) (ls : Array Slot), INV Ia19 → Kp [(1009, 1010), (1045, 1051), (1058, 1059), (1061, 1063)] [(1000, 51), (1000, 52), (1000, 53), (1000, 54), (1000, 55), (1000, 56), (1000, 59), (1000, 63), (1073, 0), (1073, 1), (1073, 2), (1073, 3), (1073, 4)] I Ia19 → (0 ≤ x6_19.toInt ∧ x6_19.toInt ≤ 64) → (64 - x6_19.toInt).toNat < n → Mem D A ad ns Ia19 La19 G H → va_S A s.heap H locs → lv_has ls 7 [(6, .int (x6_19)), (5, .int (I (1009) (a2).toNatClampNeg)), (4, .int (I (1009) (a1).toNatClampNeg)), (0, .ref (ad (1000))), (1, .int (a0)), (2, .int (a1)), (3, .int (a2))] → W p l e ({ frames := 6, cells := 0, slots := 0, locals := 151 } : Room) s m args below meth c H locs 0 0 (MQ below (va_Qi (fun r u => ∃ I2 L2, u = (ad, ns, I2, L2, G) ∧ INV I2 ∧ Kp [(1009, 1010), (1045, 1051), (1058, 1059), (1061, 1063)] [(1000, 51), (1000, 52), (1000, 53), (1000, 54), (1000, 55), (1000, 56), (1000, 59), (1000, 63), (1073, 0), (1073, 1), (1073, 2), (1073, 3), (1073, 4)] I I2 ∧ (0 ≤ r.toInt ∧ r.toInt ≤ 1)) (BM D A) A) args s 0 0 A) (F0 m 19 ls []) := by
    intro n
    induction n with
    | zero =>
      intro x6_19 Ia19 La19 H locs ls hI hK hr6_19 hmu
      exact absurd hmu (Nat.not_lt_zero _)
    | succ n ih19 =>
      intro x6_19 Ia19 La19 H locs ls hI hK hr6_19 hmu19 hM hS hl
      refine lv_iload hx hb dX10_mendsPair_19 (lv_at hl 0 rfl) ?_
      refine lv_bipush (v := (64)) hx hb dX10_mendsPair_21 (by decide) ?_
      refine lv_icmp_ge (tgt := 105) hx hb dX10_mendsPair_23 (by decide) (fun c1 => ?_) (fun c1 => ?_)
      · have hc1 := c1
        have q1 := q_le hc1
        refine lv_aload_n hx hb dX10_mendsPair_105 rfl (lv_at hl 3 rfl) ?_
        refine m_getr (1000) 9 (1009) hx hb hts hown hE oc10 hM hJ.1 rfl (by decide) rfl (hJ.2 9 (by decide)).2 (by decide) tb_1186 dX10_mendsPair_106 ?_
        refine lv_iload_n hx hb dX10_mendsPair_109 rfl (lv_at hl 5 rfl) ?_
        refine lv_iload hx hb dX10_mendsPair_110 (lv_at hl 2 rfl) ?_
        refine m_iast (1009) hx hb hE hM hS (hJ.2 9 (by decide)).1 rfl (vp_in_iff.mpr (by omega)) dX10_mendsPair_112 (fun H locs I2 eI2 hM hS => ?_)
        subst eI2
        have hI := hI.putF (n := 1009) (k := ((a1).toNatClampNeg)) (v := I (1009) (a1).toNatClampNeg) rfl
        have hK := hK.put (n := 1009) (k := ((a1).toNatClampNeg)) (v := I (1009) (a1).toNatClampNeg) (by first | rfl | simp [inR])
        refine lv_aload_n hx hb dX10_mendsPair_113 rfl (lv_at hl 3 rfl) ?_
        refine m_getr (1000) 9 (1009) hx hb hts hown hE oc10 hM hJ.1 rfl (by decide) rfl (hJ.2 9 (by decide)).2 (by decide) tb_1186 dX10_mendsPair_114 ?_
        refine lv_iload_n hx hb dX10_mendsPair_117 rfl (lv_at hl 6 rfl) ?_
        refine lv_iload hx hb dX10_mendsPair_118 (lv_at hl 1 rfl) ?_
        refine m_iast (1009) hx hb hE hM hS (hJ.2 9 (by decide)).1 rfl (vp_in_iff.mpr (by omega)) dX10_mendsPair_120 (fun H locs I3 eI3 hM hS => ?_)
        subst eI3
        have hI := hI.putF (n := 1009) (k := ((a2).toNatClampNeg)) (v := I (1009) (a2).toNatClampNeg) rfl
        have hK := hK.put (n := 1009) (k := ((a2).toNatClampNeg)) (v := I (1009) (a2).toNatClampNeg) (by first | rfl | simp [inR])
        refine lv_iconst (v := (0)) hx hb dX10_mendsPair_121 (by decide) ?_
        exact m_zret hx hb hr rfl hlocks hM hS (Nat.le_of_ble_eq_true rfl) (Nat.le_of_ble_eq_true rfl) ⟨_, _, rfl, hI, hK, (by first | omega | decide)⟩ dX10_mendsPair_122
      · have hc1 := c1
        have q1 := q_nle hc1
        refine lv_aload_n hx hb dX10_mendsPair_26 rfl (lv_at hl 3 rfl) ?_
        refine m_getr (1000) 9 (1009) hx hb hts hown hE oc10 hM hJ.1 rfl (by decide) rfl (hJ.2 9 (by decide)).2 (by decide) tb_1186 dX10_mendsPair_27 ?_
        refine lv_iload_n hx hb dX10_mendsPair_30 rfl (lv_at hl 5 rfl) ?_
        refine lv_iload hx hb dX10_mendsPair_31 (lv_at hl 0 rfl) ?_
        refine lv_bipush (v := (8)) hx hb dX10_mendsPair_33 (by decide) ?_
        refine lv_idiv hx hb dX10_mendsPair_35 (by decide) ?_
        refine lv_topi (fun v4 ev4 => ?_)
        have tv4 := a_div (c := 8) ev4 (by decide) (by decide) (by omega)
        refine m_iast (1009) hx hb hE hM hS (hJ.2 9 (by decide)).1 rfl (vp_in_iff.mpr (by omega)) dX10_mendsPair_36 (fun H locs I5 eI5 hM hS => ?_)
        subst eI5
        have hI := hI.putF (n := 1009) (k := ((a1).toNatClampNeg)) (v := v4) rfl
        have hK := hK.put (n := 1009) (k := ((a1).toNatClampNeg)) (v := v4) (by first | rfl | simp [inR])
        refine lv_aload_n hx hb dX10_mendsPair_37 rfl (lv_at hl 3 rfl) ?_
        refine m_getr (1000) 9 (1009) hx hb hts hown hE oc10 hM hJ.1 rfl (by decide) rfl (hJ.2 9 (by decide)).2 (by decide) tb_1186 dX10_mendsPair_38 ?_
        refine lv_iload_n hx hb dX10_mendsPair_41 rfl (lv_at hl 6 rfl) ?_
        refine lv_iload hx hb dX10_mendsPair_42 (lv_at hl 0 rfl) ?_
        refine lv_bipush (v := (8)) hx hb dX10_mendsPair_44 (by decide) ?_
        refine lv_irem hx hb dX10_mendsPair_46 (by decide) ?_
        refine lv_topi (fun v6 ev6 => ?_)
        have tv6 := a_rem (c := 8) ev6 (by decide) (by decide) (by omega)
        refine m_iast (1009) hx hb hE hM hS (hJ.2 9 (by decide)).1 rfl (vp_in_iff.mpr (by omega)) dX10_mendsPair_47 (fun H locs I7 eI7 hM hS => ?_)
        subst eI7
        have hI := hI.putF (n := 1009) (k := ((a2).toNatClampNeg)) (v := v6) rfl
        have hK := hK.put (n := 1009) (k := ((a2).toNatClampNeg)) (v := v6) (by first | rfl | simp [inR])
        refine lv_aload_n hx hb dX10_mendsPair_48 rfl (lv_at hl 3 rfl) ?_
        refine m_getr (1000) 9 (1009) hx hb hts hown hE oc10 hM hJ.1 rfl (by decide) rfl (hJ.2 9 (by decide)).2 (by decide) tb_1186 dX10_mendsPair_49 ?_
        refine lv_iload_n hx hb dX10_mendsPair_52 rfl (lv_at hl 5 rfl) ?_
        refine m_iald (1009) hx hb hE hM (hJ.2 9 (by decide)).1 rfl (vp_in_iff.mpr (by omega)) dX10_mendsPair_53 ?_
        refine lv_iload hx hb dX10_mendsPair_54 (lv_at hl 2 rfl) ?_
        refine lv_icmp_eq (tgt := 99) hx hb dX10_mendsPair_56 (by decide) (fun c8 => ?_) (fun c8 => ?_)
        · have hc8 := c8
          have q8 := q_eq hc8
          obtain ⟨v9, ev9⟩ : ∃ z : Int32, z = x6_19 + Int32.ofInt (1) := ⟨_, rfl⟩
          have tv9 := a_inc ev9 (by decide) (by omega) (by omega)
          refine lv_iinc (v := v9) (lv' := [(6, .int (v9)), (5, .int (I (1009) (a2).toNatClampNeg)), (4, .int (I (1009) (a1).toNatClampNeg)), (0, .ref (ad (1000))), (1, .int (a0)), (2, .int (a1)), (3, .int (a2))]) hx hb dX10_mendsPair_99 hl (k := 0) rfl ev9.symm (by decide) rfl (fun ls hl => ?_)
          refine lv_goto (tgt := 19) hx hb dX10_mendsPair_102 (by decide) ?_
          exact ih19 (v9) (u2 (u2 Ia19 (1009) ((a1).toNatClampNeg) (v4)) (1009) ((a2).toNatClampNeg) (v6)) La19 _ _ ls hI hK (by first | omega | decide) (by omega) hM hS (lv_sub hl [0, 1, 2, 3, 4, 5, 6] rfl)
        · have hc8 := c8
          have q8 := q_ne hc8
          refine lv_aload_n hx hb dX10_mendsPair_59 rfl (lv_at hl 3 rfl) ?_
          refine m_getr (1000) 9 (1009) hx hb hts hown hE oc10 hM hJ.1 rfl (by decide) rfl (hJ.2 9 (by decide)).2 (by decide) tb_1186 dX10_mendsPair_60 ?_
          refine lv_iload_n hx hb dX10_mendsPair_63 rfl (lv_at hl 6 rfl) ?_
          refine m_iald (1009) hx hb hE hM (hJ.2 9 (by decide)).1 rfl (vp_in_iff.mpr (by omega)) dX10_mendsPair_64 ?_
          have z10 : (u2 (u2 Ia19 (1009) ((a1).toNatClampNeg) (v4)) (1009) ((a2).toNatClampNeg) (v6)) (1009) (a2).toNatClampNeg = v6 := (show (u2 (u2 Ia19 (1009) ((a1).toNatClampNeg) (v4)) (1009) ((a2).toNatClampNeg) (v6)) (1009) ((a2).toNatClampNeg) = v6 from by simp [u2_v])
          rw [z10]
          refine lv_iload hx hb dX10_mendsPair_65 (lv_at hl 1 rfl) ?_
          refine lv_icmp_eq (tgt := 99) hx hb dX10_mendsPair_67 (by decide) (fun c11 => ?_) (fun c11 => ?_)
          · have hc11 := c11
            have q11 := q_eq hc11
            obtain ⟨v12, ev12⟩ : ∃ z : Int32, z = x6_19 + Int32.ofInt (1) := ⟨_, rfl⟩
            have tv12 := a_inc ev12 (by decide) (by omega) (by omega)
            refine lv_iinc (v := v12) (lv' := [(6, .int (v12)), (5, .int (I (1009) (a2).toNatClampNeg)), (4, .int (I (1009) (a1).toNatClampNeg)), (0, .ref (ad (1000))), (1, .int (a0)), (2, .int (a1)), (3, .int (a2))]) hx hb dX10_mendsPair_99 hl (k := 0) rfl ev12.symm (by decide) rfl (fun ls hl => ?_)
            refine lv_goto (tgt := 19) hx hb dX10_mendsPair_102 (by decide) ?_
            exact ih19 (v12) (u2 (u2 Ia19 (1009) ((a1).toNatClampNeg) (v4)) (1009) ((a2).toNatClampNeg) (v6)) La19 _ _ ls hI hK (by first | omega | decide) (by omega) hM hS (lv_sub hl [0, 1, 2, 3, 4, 5, 6] rfl)
          · have hc11 := c11
            have q11 := q_ne hc11
            refine lv_aload_n hx hb dX10_mendsPair_70 rfl (lv_at hl 3 rfl) ?_
            refine lv_iload_n hx hb dX10_mendsPair_71 rfl (lv_at hl 4 rfl) ?_
            refine m_calli (m_runV (1000) (As := [.int (a0)]) (rest := []) hx hb hml hown hts hE hM hS hA ce_X10_isHalf tb_1769 (V_X10_isHalf l D A ad ns (u2 (u2 Ia19 (1009) ((a1).toNatClampNeg) (v4)) (1009) ((a2).toNatClampNeg) (v6)) La19 G (a0) hJ hI (by first | omega | decide)) rfl rfl ⟨Nat.le_of_ble_eq_true rfl, Nat.le_of_ble_eq_true rfl⟩ hJ.1 rfl rfl (by decide) rfl hl.1 rfl (Nat.le_of_ble_eq_true rfl) dX10_mendsPair_72 ⟨Nat.le_of_ble_eq_true rfl, Nat.le_of_ble_eq_true rfl⟩) hS (fun r13 u H locs hw hM hS => ?_)
            obtain ⟨I14, L15, rfl, hI, hkI14, xr13⟩ := hw
            have hM : Mem D A ad ns I14 L15 G H := hM
            have hK := hK.trans hkI14 rfl
            refine lv_if_eq (tgt := 99) hx hb dX10_mendsPair_75 (by decide) (fun c16 => ?_) (fun c16 => ?_)
            · have hc16 := c16
              have q16 := q_eq hc16
              obtain ⟨v17, ev17⟩ : ∃ z : Int32, z = x6_19 + Int32.ofInt (1) := ⟨_, rfl⟩
              have tv17 := a_inc ev17 (by decide) (by omega) (by omega)
              refine lv_iinc (v := v17) (lv' := [(6, .int (v17)), (5, .int (I (1009) (a2).toNatClampNeg)), (4, .int (I (1009) (a1).toNatClampNeg)), (0, .ref (ad (1000))), (1, .int (a0)), (2, .int (a1)), (3, .int (a2))]) hx hb dX10_mendsPair_99 hl (k := 0) rfl ev17.symm (by decide) rfl (fun ls hl => ?_)
              refine lv_goto (tgt := 19) hx hb dX10_mendsPair_102 (by decide) ?_
              exact ih19 (v17) I14 L15 _ _ ls hI hK (by first | omega | decide) (by omega) hM hS (lv_sub hl [0, 1, 2, 3, 4, 5, 6] rfl)
            · have hc16 := c16
              have q16 := q_ne hc16
              refine lv_aload_n hx hb dX10_mendsPair_78 rfl (lv_at hl 3 rfl) ?_
              refine lv_iconst (v := (2)) hx hb dX10_mendsPair_79 (by decide) ?_
              refine lv_iload_n hx hb dX10_mendsPair_80 rfl (lv_at hl 5 rfl) ?_
              refine lv_aload_n hx hb dX10_mendsPair_81 rfl (lv_at hl 3 rfl) ?_
              refine m_getr (1000) 9 (1009) hx hb hts hown hE oc10 hM hJ.1 rfl (by decide) rfl (hJ.2 9 (by decide)).2 (by decide) tb_1186 dX10_mendsPair_82 ?_
              refine lv_iload_n hx hb dX10_mendsPair_85 rfl (lv_at hl 5 rfl) ?_
              refine m_iald (1009) hx hb hE hM (hJ.2 9 (by decide)).1 rfl (vp_in_iff.mpr (by omega)) dX10_mendsPair_86 ?_
              have z18 : I14 (1009) (a1).toNatClampNeg = (u2 (u2 Ia19 (1009) ((a1).toNatClampNeg) (v4)) (1009) ((a2).toNatClampNeg) (v6)) (1009) ((a1).toNatClampNeg) := (congrFun (hkI14.getA (1009) rfl) ((a1).toNatClampNeg))
              rw [z18]
              refine lv_iload_n hx hb dX10_mendsPair_87 rfl (lv_at hl 6 rfl) ?_
              refine lv_aload_n hx hb dX10_mendsPair_88 rfl (lv_at hl 3 rfl) ?_
              refine m_getr (1000) 9 (1009) hx hb hts hown hE oc10 hM hJ.1 rfl (by decide) rfl (hJ.2 9 (by decide)).2 (by decide) tb_1186 dX10_mendsPair_89 ?_
              refine lv_iload_n hx hb dX10_mendsPair_92 rfl (lv_at hl 6 rfl) ?_
              refine m_iald (1009) hx hb hE hM (hJ.2 9 (by decide)).1 rfl (vp_in_iff.mpr (by omega)) dX10_mendsPair_93 ?_
              have z19 : I14 (1009) (a2).toNatClampNeg = v6 := ((congrFun (hkI14.getA (1009) rfl) ((a2).toNatClampNeg))).trans (show (u2 (u2 Ia19 (1009) ((a1).toNatClampNeg) (v4)) (1009) ((a2).toNatClampNeg) (v6)) (1009) ((a2).toNatClampNeg) = v6 from by simp [u2_v])
              rw [z19]
              refine m_callv (m_runV (1000) (As := [.int (2), .int (a1), .int ((u2 (u2 Ia19 (1009) ((a1).toNatClampNeg) (v4)) (1009) ((a2).toNatClampNeg) (v6)) (1009) ((a1).toNatClampNeg)), .int (a2), .int (v6)]) (rest := []) hx hb hml hown hts hE hM hS hA ce_X10_isMended tb_1765 (V_X10_isMended l D A ad ns I14 L15 G (2) (a1) ((u2 (u2 Ia19 (1009) ((a1).toNatClampNeg) (v4)) (1009) ((a2).toNatClampNeg) (v6)) (1009) ((a1).toNatClampNeg)) (a2) (v6) hJ hI) rfl rfl ⟨Nat.le_of_ble_eq_true rfl, Nat.le_of_ble_eq_true rfl⟩ hJ.1 rfl rfl (by decide) rfl hl.1 rfl (Nat.le_of_ble_eq_true rfl) dX10_mendsPair_94 ⟨Nat.le_of_ble_eq_true rfl, Nat.le_of_ble_eq_true rfl⟩) hS (fun u H locs hw hM hS => ?_)
              obtain ⟨I20, L21, rfl, hI, hkI20⟩ := hw
              have hM : Mem D A ad ns I20 L21 G H := hM
              have hK := hK.trans hkI20 rfl
              refine lv_iconst (v := (1)) hx hb dX10_mendsPair_97 (by decide) ?_
              exact m_zret hx hb hr rfl hlocks hM hS (Nat.le_of_ble_eq_true rfl) (Nat.le_of_ble_eq_true rfl) ⟨_, _, rfl, hI, hK, (by first | omega | decide)⟩ dX10_mendsPair_98
  exact loop19 (_ + 1) (0) I L _ _ ls hI hK (by first | omega | decide) (Nat.lt_succ_self _) hM hS (lv_sub hl [0, 1, 2, 3, 4, 5, 6] rfl)
theorem dX10_mendsTwo_0 : decode cX10_mendsTwo 0 = .ok (.iconst 0, 1) := by decide +kernel
theorem dX10_mendsTwo_1 : decode cX10_mendsTwo 1 = .ok (.istore_n 2, 1) := by decide +kernel
theorem dX10_mendsTwo_2 : decode cX10_mendsTwo 2 = .ok (.iload_n 2, 1) := by decide +kernel
theorem dX10_mendsTwo_3 : decode cX10_mendsTwo 3 = .ok (.aload_n 0, 1) := by decide +kernel
theorem dX10_mendsTwo_4 : decode cX10_mendsTwo 4 = .ok (.getfield 7, 3) := by decide +kernel
theorem dX10_mendsTwo_7 : decode cX10_mendsTwo 7 = .ok (.bipush 8, 2) := by decide +kernel
theorem dX10_mendsTwo_9 : decode cX10_mendsTwo 9 = .ok (.iaload, 1) := by decide +kernel
theorem dX10_mendsTwo_10 : decode cX10_mendsTwo 10 = .ok (.if_icmp .ge 60, 3) := by decide +kernel
theorem dX10_mendsTwo_13 : decode cX10_mendsTwo 13 = .ok (.iload_n 2, 1) := by decide +kernel
theorem dX10_mendsTwo_14 : decode cX10_mendsTwo 14 = .ok (.iconst 1, 1) := by decide +kernel
theorem dX10_mendsTwo_15 : decode cX10_mendsTwo 15 = .ok (.iadd, 1) := by decide +kernel
theorem dX10_mendsTwo_16 : decode cX10_mendsTwo 16 = .ok (.istore_n 3, 1) := by decide +kernel
theorem dX10_mendsTwo_17 : decode cX10_mendsTwo 17 = .ok (.iload_n 3, 1) := by decide +kernel
theorem dX10_mendsTwo_18 : decode cX10_mendsTwo 18 = .ok (.aload_n 0, 1) := by decide +kernel
theorem dX10_mendsTwo_19 : decode cX10_mendsTwo 19 = .ok (.getfield 7, 3) := by decide +kernel
theorem dX10_mendsTwo_22 : decode cX10_mendsTwo 22 = .ok (.bipush 8, 2) := by decide +kernel
theorem dX10_mendsTwo_24 : decode cX10_mendsTwo 24 = .ok (.iaload, 1) := by decide +kernel
theorem dX10_mendsTwo_25 : decode cX10_mendsTwo 25 = .ok (.if_icmp .ge 39, 3) := by decide +kernel
theorem dX10_mendsTwo_28 : decode cX10_mendsTwo 28 = .ok (.aload_n 0, 1) := by decide +kernel
theorem dX10_mendsTwo_29 : decode cX10_mendsTwo 29 = .ok (.getfield 52, 3) := by decide +kernel
theorem dX10_mendsTwo_32 : decode cX10_mendsTwo 32 = .ok (.iload_n 2, 1) := by decide +kernel
theorem dX10_mendsTwo_33 : decode cX10_mendsTwo 33 = .ok (.iaload, 1) := by decide +kernel
theorem dX10_mendsTwo_34 : decode cX10_mendsTwo 34 = .ok (.ifCond .ne 24, 3) := by decide +kernel
theorem dX10_mendsTwo_37 : decode cX10_mendsTwo 37 = .ok (.aload_n 0, 1) := by decide +kernel
theorem dX10_mendsTwo_38 : decode cX10_mendsTwo 38 = .ok (.getfield 52, 3) := by decide +kernel
theorem dX10_mendsTwo_41 : decode cX10_mendsTwo 41 = .ok (.iload_n 3, 1) := by decide +kernel
theorem dX10_mendsTwo_42 : decode cX10_mendsTwo 42 = .ok (.iaload, 1) := by decide +kernel
theorem dX10_mendsTwo_43 : decode cX10_mendsTwo 43 = .ok (.ifCond .ne 15, 3) := by decide +kernel
theorem dX10_mendsTwo_46 : decode cX10_mendsTwo 46 = .ok (.aload_n 0, 1) := by decide +kernel
theorem dX10_mendsTwo_47 : decode cX10_mendsTwo 47 = .ok (.iload_n 1, 1) := by decide +kernel
theorem dX10_mendsTwo_48 : decode cX10_mendsTwo 48 = .ok (.iload_n 2, 1) := by decide +kernel
theorem dX10_mendsTwo_49 : decode cX10_mendsTwo 49 = .ok (.iload_n 3, 1) := by decide +kernel
theorem dX10_mendsTwo_50 : decode cX10_mendsTwo 50 = .ok (.invokevirtual 511, 3) := by decide +kernel
theorem dX10_mendsTwo_53 : decode cX10_mendsTwo 53 = .ok (.ifCond .eq 5, 3) := by decide +kernel
theorem dX10_mendsTwo_56 : decode cX10_mendsTwo 56 = .ok (.iconst 1, 1) := by decide +kernel
theorem dX10_mendsTwo_57 : decode cX10_mendsTwo 57 = .ok (.ireturn, 1) := by decide +kernel
theorem dX10_mendsTwo_58 : decode cX10_mendsTwo 58 = .ok (.iinc 3 1, 3) := by decide +kernel
theorem dX10_mendsTwo_61 : decode cX10_mendsTwo 61 = .ok (.goto (-44), 3) := by decide +kernel
theorem dX10_mendsTwo_64 : decode cX10_mendsTwo 64 = .ok (.iinc 2 1, 3) := by decide +kernel
theorem dX10_mendsTwo_67 : decode cX10_mendsTwo 67 = .ok (.goto (-65), 3) := by decide +kernel
theorem dX10_mendsTwo_70 : decode cX10_mendsTwo 70 = .ok (.iconst 0, 1) := by decide +kernel
theorem dX10_mendsTwo_71 : decode cX10_mendsTwo 71 = .ok (.ireturn, 1) := by decide +kernel
theorem ce_X10_mendsTwo : CeV RX10 yX10_mendsTwo cX10_mendsTwo 4 (some .boolean) 1 := ⟨tb_1779, tp_104, tb_11, tb_1780, rfl, by decide, by decide, by decide +kernel⟩
set_option maxHeartbeats 4000000 in
set_option maxRecDepth 20000 in
theorem V_X10_mendsTwo (l : Launch) (D : va_G) (A : Nat → Prop) (ad : Nat → Nat) (ns : List Nat) (I : MI) (L : ML) (G : MG) (a0 : Int32) (hJ : SGM ns G) (hI : INV I) (ha0 : 0 ≤ a0.toInt ∧ a0.toInt ≤ 23) : Met l yX10_mendsTwo (wd yX10_mendsTwo cX10_mendsTwo 4 (some .boolean)) ({ frames := 7, cells := 0, slots := 0, locals := 177 }) (va_Pc [.ref (ad (1000)), .int a0] (PM D A ad ns I L G)) (va_Qi (fun r u => ∃ I2 L2, u = (ad, ns, I2, L2, G) ∧ INV I2 ∧ Kp [(1009, 1010), (1045, 1051), (1058, 1059), (1061, 1063)] [(1000, 51), (1000, 52), (1000, 53), (1000, 54), (1000, 55), (1000, 56), (1000, 59), (1000, 63), (1073, 0), (1073, 1), (1073, 2), (1073, 3), (1073, 4)] I I2 ∧ (0 ≤ r.toInt ∧ r.toInt ≤ 1)) (BM D A) A) 0 0 A := by
  refine m_ofW (by decide) (Nat.le_of_ble_eq_true rfl) ?_
  intro p e s m below meth c ls args hC hE hM hA hS hl
  obtain ⟨hx, hb, hml, hown, hts, hr, hlocks, hin⟩ := hC
  have k0 : (0 : Int32).toInt = 0 := by decide
  have k1 : (1 : Int32).toInt = 1 := by decide
  have k8 : (8 : Int32).toInt = 8 := by decide
  have hK : Kp [(1009, 1010), (1045, 1051), (1058, 1059), (1061, 1063)] [(1000, 51), (1000, 52), (1000, 53), (1000, 54), (1000, 55), (1000, 56), (1000, 59), (1000, 63), (1073, 0), (1073, 1), (1073, 2), (1073, 3), (1073, 4)] I I := Kp.rf
  have hl : lv_has ls 4 [(0, .ref (ad (1000))), (1, .int (a0))] := hl
  refine lv_iconst (v := (0)) hx hb dX10_mendsTwo_0 (by decide) ?_
  refine lv_istore_n (lv' := [(2, .int (0)), (0, .ref (ad (1000))), (1, .int (a0))]) hx hb dX10_mendsTwo_1 rfl hl (by decide) rfl (fun ls hl => ?_)
  have loop2 : ∀ (n : Nat) (x2_2 : Int32) (Ia2 : MI) (La2 : ML) (H : Heap) (locs : List Loc) (ls : Array Slot), INV Ia2 → Kp [(1009, 1010), (1045, 1051), (1058, 1059), (1061, 1063)] [(1000, 51), (1000, 52), (1000, 53), (1000, 54), (1000, 55), (1000, 56), (1000, 59), (1000, 63), (1073, 0), (1073, 1), (1073, 2), (1073, 3), (1073, 4)] I Ia2 → (0 ≤ x2_2.toInt ∧ x2_2.toInt ≤ 24) → (24 - x2_2.toInt).toNat < n → Mem D A ad ns Ia2 La2 G H → va_S A s.heap H locs → lv_has ls 4 [(2, .int (x2_2)), (0, .ref (ad (1000))), (1, .int (a0))] → W p l e ({ frames := 7, cells := 0, slots := 0, locals := 177 } : Room) s m args below meth c H locs 0 0 (MQ below (va_Qi (fun r u => ∃ I2 L2, u = (ad, ns, I2, L2, G) ∧ INV I2 ∧ Kp [(1009, 1010), (1045, 1051), (1058, 1059), (1061, 1063)] [(1000, 51), (1000, 52), (1000, 53), (1000, 54), (1000, 55), (1000, 56), (1000, 59), (1000, 63), (1073, 0), (1073, 1), (1073, 2), (1073, 3), (1073, 4)] I I2 ∧ (0 ≤ r.toInt ∧ r.toInt ≤ 1)) (BM D A) A) args s 0 0 A) (F0 m 2 ls []) := by
    intro n
    induction n with
    | zero =>
      intro x2_2 Ia2 La2 H locs ls hI hK hr2_2 hmu
      exact absurd hmu (Nat.not_lt_zero _)
    | succ n ih2 =>
      intro x2_2 Ia2 La2 H locs ls hI hK hr2_2 hmu2 hM hS hl
      refine lv_iload_n hx hb dX10_mendsTwo_2 rfl (lv_at hl 0 rfl) ?_
      refine lv_aload_n hx hb dX10_mendsTwo_3 rfl (lv_at hl 1 rfl) ?_
      refine m_getr (1000) 1 (1001) hx hb hts hown hE oc10 hM hJ.1 rfl (by decide) rfl (hJ.2 1 (by decide)).2 (by decide) tb_1178 dX10_mendsTwo_4 ?_
      refine lv_bipush (v := (8)) hx hb dX10_mendsTwo_7 (by decide) ?_
      refine m_iald (1001) hx hb hE hM (hJ.2 1 (by decide)).1 rfl (vp_in_iff.mpr (by decide)) dX10_mendsTwo_9 ?_
      rw [show (8 : Int32).toNatClampNeg = 8 from rfl]
      have g1 := hI.get (1001) 8 (lo := 0) (hi := 24) rfl
      refine lv_icmp_ge (tgt := 70) hx hb dX10_mendsTwo_10 (by decide) (fun c2 => ?_) (fun c2 => ?_)
      · have hc2 := c2
        have q2 := q_le hc2
        refine lv_iconst (v := (0)) hx hb dX10_mendsTwo_70 (by decide) ?_
        exact m_zret hx hb hr rfl hlocks hM hS (Nat.le_of_ble_eq_true rfl) (Nat.le_of_ble_eq_true rfl) ⟨_, _, rfl, hI, hK, (by first | omega | decide)⟩ dX10_mendsTwo_71
      · have hc2 := c2
        have q2 := q_nle hc2
        refine lv_iload_n hx hb dX10_mendsTwo_13 rfl (lv_at hl 0 rfl) ?_
        refine lv_iconst (v := (1)) hx hb dX10_mendsTwo_14 (by decide) ?_
        refine lv_iadd hx hb dX10_mendsTwo_15 ?_
        refine lv_topi (fun v3 ev3 => ?_)
        have tv3 := a_add ev3 (by omega) (by omega)
        refine lv_istore_n (lv' := [(3, .int (v3)), (2, .int (x2_2)), (0, .ref (ad (1000))), (1, .int (a0))]) hx hb dX10_mendsTwo_16 rfl hl (by decide) rfl (fun ls hl => ?_)
        have loop17 : ∀ (n : Nat) (x3_17 : Int32) (Ia17 : MI) (La17 : ML) (H : Heap) (locs : List Loc) (ls : Array Slot), INV Ia17 → Kp [(1009, 1010), (1045, 1051), (1058, 1059), (1061, 1063)] [(1000, 51), (1000, 52), (1000, 53), (1000, 54), (1000, 55), (1000, 56), (1000, 59), (1000, 63), (1073, 0), (1073, 1), (1073, 2), (1073, 3), (1073, 4)] I Ia17 → (0 ≤ x3_17.toInt ∧ x3_17.toInt ≤ 24) → (24 - x3_17.toInt).toNat < n → Mem D A ad ns Ia17 La17 G H → va_S A s.heap H locs → lv_has ls 4 [(3, .int (x3_17)), (2, .int (x2_2)), (0, .ref (ad (1000))), (1, .int (a0))] → W p l e ({ frames := 7, cells := 0, slots := 0, locals := 177 } : Room) s m args below meth c H locs 0 0 (MQ below (va_Qi (fun r u => ∃ I2 L2, u = (ad, ns, I2, L2, G) ∧ INV I2 ∧ Kp [(1009, 1010), (1045, 1051), (1058, 1059), (1061, 1063)] [(1000, 51), (1000, 52), (1000, 53), (1000, 54), (1000, 55), (1000, 56), (1000, 59), (1000, 63), (1073, 0), (1073, 1), (1073, 2), (1073, 3), (1073, 4)] I I2 ∧ (0 ≤ r.toInt ∧ r.toInt ≤ 1)) (BM D A) A) args s 0 0 A) (F0 m 17 ls []) := by
          intro n
          induction n with
          | zero =>
            intro x3_17 Ia17 La17 H locs ls hI hK hr3_17 hmu
            exact absurd hmu (Nat.not_lt_zero _)
          | succ n ih17 =>
            intro x3_17 Ia17 La17 H locs ls hI hK hr3_17 hmu17 hM hS hl
            refine lv_iload_n hx hb dX10_mendsTwo_17 rfl (lv_at hl 0 rfl) ?_
            refine lv_aload_n hx hb dX10_mendsTwo_18 rfl (lv_at hl 2 rfl) ?_
            refine m_getr (1000) 1 (1001) hx hb hts hown hE oc10 hM hJ.1 rfl (by decide) rfl (hJ.2 1 (by decide)).2 (by decide) tb_1178 dX10_mendsTwo_19 ?_
            refine lv_bipush (v := (8)) hx hb dX10_mendsTwo_22 (by decide) ?_
            refine m_iald (1001) hx hb hE hM (hJ.2 1 (by decide)).1 rfl (vp_in_iff.mpr (by decide)) dX10_mendsTwo_24 ?_
            rw [show (8 : Int32).toNatClampNeg = 8 from rfl]
            have g4 := hI.get (1001) 8 (lo := 0) (hi := 24) rfl
            refine lv_icmp_ge (tgt := 64) hx hb dX10_mendsTwo_25 (by decide) (fun c5 => ?_) (fun c5 => ?_)
            · have hc5 := c5
              have q5 := q_le hc5
              obtain ⟨v6, ev6⟩ : ∃ z : Int32, z = x2_2 + Int32.ofInt (1) := ⟨_, rfl⟩
              have tv6 := a_inc ev6 (by decide) (by omega) (by omega)
              refine lv_iinc (v := v6) (lv' := [(2, .int (v6)), (3, .int (x3_17)), (0, .ref (ad (1000))), (1, .int (a0))]) hx hb dX10_mendsTwo_64 hl (k := 1) rfl ev6.symm (by decide) rfl (fun ls hl => ?_)
              refine lv_goto (tgt := 2) hx hb dX10_mendsTwo_67 (by decide) ?_
              exact ih2 (v6) Ia17 La17 _ _ ls hI hK (by first | omega | decide) (by omega) hM hS (lv_sub hl [0, 2, 3] rfl)
            · have hc5 := c5
              have q5 := q_nle hc5
              refine lv_aload_n hx hb dX10_mendsTwo_28 rfl (lv_at hl 2 rfl) ?_
              refine m_getr (1000) 15 (1015) hx hb hts hown hE oc10 hM hJ.1 rfl (by decide) rfl (hJ.2 15 (by decide)).2 (by decide) tb_1192 dX10_mendsTwo_29 ?_
              refine lv_iload_n hx hb dX10_mendsTwo_32 rfl (lv_at hl 1 rfl) ?_
              refine m_iald (1015) hx hb hE hM (hJ.2 15 (by decide)).1 rfl (vp_in_iff.mpr (by omega)) dX10_mendsTwo_33 ?_
              refine lv_if_ne (tgt := 58) hx hb dX10_mendsTwo_34 (by decide) (fun c7 => ?_) (fun c7 => ?_)
              · have hc7 := c7
                have q7 := q_ne hc7
                obtain ⟨v8, ev8⟩ : ∃ z : Int32, z = x3_17 + Int32.ofInt (1) := ⟨_, rfl⟩
                have tv8 := a_inc ev8 (by decide) (by omega) (by omega)
                refine lv_iinc (v := v8) (lv' := [(3, .int (v8)), (2, .int (x2_2)), (0, .ref (ad (1000))), (1, .int (a0))]) hx hb dX10_mendsTwo_58 hl (k := 0) rfl ev8.symm (by decide) rfl (fun ls hl => ?_)
                refine lv_goto (tgt := 17) hx hb dX10_mendsTwo_61 (by decide) ?_
                exact ih17 (v8) Ia17 La17 _ _ ls hI hK (by first | omega | decide) (by omega) hM hS (lv_sub hl [0, 1, 2, 3] rfl)
              · have hc7 := c7
                have q7 := q_eq hc7
                refine lv_aload_n hx hb dX10_mendsTwo_37 rfl (lv_at hl 2 rfl) ?_
                refine m_getr (1000) 15 (1015) hx hb hts hown hE oc10 hM hJ.1 rfl (by decide) rfl (hJ.2 15 (by decide)).2 (by decide) tb_1192 dX10_mendsTwo_38 ?_
                refine lv_iload_n hx hb dX10_mendsTwo_41 rfl (lv_at hl 0 rfl) ?_
                refine m_iald (1015) hx hb hE hM (hJ.2 15 (by decide)).1 rfl (vp_in_iff.mpr (by omega)) dX10_mendsTwo_42 ?_
                refine lv_if_ne (tgt := 58) hx hb dX10_mendsTwo_43 (by decide) (fun c9 => ?_) (fun c9 => ?_)
                · have hc9 := c9
                  have q9 := q_ne hc9
                  obtain ⟨v10, ev10⟩ : ∃ z : Int32, z = x3_17 + Int32.ofInt (1) := ⟨_, rfl⟩
                  have tv10 := a_inc ev10 (by decide) (by omega) (by omega)
                  refine lv_iinc (v := v10) (lv' := [(3, .int (v10)), (2, .int (x2_2)), (0, .ref (ad (1000))), (1, .int (a0))]) hx hb dX10_mendsTwo_58 hl (k := 0) rfl ev10.symm (by decide) rfl (fun ls hl => ?_)
                  refine lv_goto (tgt := 17) hx hb dX10_mendsTwo_61 (by decide) ?_
                  exact ih17 (v10) Ia17 La17 _ _ ls hI hK (by first | omega | decide) (by omega) hM hS (lv_sub hl [0, 1, 2, 3] rfl)
                · have hc9 := c9
                  have q9 := q_eq hc9
                  refine lv_aload_n hx hb dX10_mendsTwo_46 rfl (lv_at hl 2 rfl) ?_
                  refine lv_iload_n hx hb dX10_mendsTwo_47 rfl (lv_at hl 3 rfl) ?_
                  refine lv_iload_n hx hb dX10_mendsTwo_48 rfl (lv_at hl 1 rfl) ?_
                  refine lv_iload_n hx hb dX10_mendsTwo_49 rfl (lv_at hl 0 rfl) ?_
                  refine m_calli (m_runV (1000) (As := [.int (a0), .int (x2_2), .int (x3_17)]) (rest := []) hx hb hml hown hts hE hM hS hA ce_X10_mendsPair tb_1781 (V_X10_mendsPair l D A ad ns Ia17 La17 G (a0) (x2_2) (x3_17) hJ hI (by first | omega | decide) (by first | omega | decide) (by first | omega | decide)) rfl rfl ⟨Nat.le_of_ble_eq_true rfl, Nat.le_of_ble_eq_true rfl⟩ hJ.1 rfl rfl (by decide) rfl hl.1 rfl (Nat.le_of_ble_eq_true rfl) dX10_mendsTwo_50 ⟨Nat.le_of_ble_eq_true rfl, Nat.le_of_ble_eq_true rfl⟩) hS (fun r11 u H locs hw hM hS => ?_)
                  obtain ⟨I12, L13, rfl, hI, hkI12, xr11⟩ := hw
                  have hM : Mem D A ad ns I12 L13 G H := hM
                  have hK := hK.trans hkI12 rfl
                  refine lv_if_eq (tgt := 58) hx hb dX10_mendsTwo_53 (by decide) (fun c14 => ?_) (fun c14 => ?_)
                  · have hc14 := c14
                    have q14 := q_eq hc14
                    obtain ⟨v15, ev15⟩ : ∃ z : Int32, z = x3_17 + Int32.ofInt (1) := ⟨_, rfl⟩
                    have tv15 := a_inc ev15 (by decide) (by omega) (by omega)
                    refine lv_iinc (v := v15) (lv' := [(3, .int (v15)), (2, .int (x2_2)), (0, .ref (ad (1000))), (1, .int (a0))]) hx hb dX10_mendsTwo_58 hl (k := 0) rfl ev15.symm (by decide) rfl (fun ls hl => ?_)
                    refine lv_goto (tgt := 17) hx hb dX10_mendsTwo_61 (by decide) ?_
                    exact ih17 (v15) I12 L13 _ _ ls hI hK (by first | omega | decide) (by omega) hM hS (lv_sub hl [0, 1, 2, 3] rfl)
                  · have hc14 := c14
                    have q14 := q_ne hc14
                    refine lv_iconst (v := (1)) hx hb dX10_mendsTwo_56 (by decide) ?_
                    exact m_zret hx hb hr rfl hlocks hM hS (Nat.le_of_ble_eq_true rfl) (Nat.le_of_ble_eq_true rfl) ⟨_, _, rfl, hI, hK, (by first | omega | decide)⟩ dX10_mendsTwo_57
        exact loop17 (_ + 1) (v3) Ia2 La2 _ _ ls hI hK (by first | omega | decide) (Nat.lt_succ_self _) hM hS (lv_sub hl [0, 1, 2, 3] rfl)
  exact loop2 (_ + 1) (0) I L _ _ ls hI hK (by first | omega | decide) (Nat.lt_succ_self _) hM hS (lv_sub hl [0, 1, 2] rfl)
theorem dX10_mends_0 : decode cX10_mends 0 = .ok (.aload_n 0, 1) := by decide +kernel
theorem dX10_mends_1 : decode cX10_mends 1 = .ok (.iload_n 1, 1) := by decide +kernel
theorem dX10_mends_2 : decode cX10_mends 2 = .ok (.invokevirtual 472, 3) := by decide +kernel
theorem dX10_mends_5 : decode cX10_mends 5 = .ok (.ifCond .eq 23, 3) := by decide +kernel
theorem dX10_mends_8 : decode cX10_mends 8 = .ok (.aload_n 0, 1) := by decide +kernel
theorem dX10_mends_9 : decode cX10_mends 9 = .ok (.iload_n 2, 1) := by decide +kernel
theorem dX10_mends_10 : decode cX10_mends 10 = .ok (.invokevirtual 220, 3) := by decide +kernel
theorem dX10_mends_13 : decode cX10_mends 13 = .ok (.ifCond .eq 15, 3) := by decide +kernel
theorem dX10_mends_16 : decode cX10_mends 16 = .ok (.iload_n 3, 1) := by decide +kernel
theorem dX10_mends_17 : decode cX10_mends 17 = .ok (.i2l, 1) := by decide +kernel
theorem dX10_mends_18 : decode cX10_mends 18 = .ok (.lconst 0, 1) := by decide +kernel
theorem dX10_mends_19 : decode cX10_mends 19 = .ok (.ldc2_w 200, 3) := by decide +kernel
theorem dX10_mends_22 : decode cX10_mends 22 = .ok (.invokestatic 192, 3) := by decide +kernel
theorem dX10_mends_25 : decode cX10_mends 25 = .ok (.ifCond .ne 5, 3) := by decide +kernel
theorem dX10_mends_28 : decode cX10_mends 28 = .ok (.iconst (-1), 1) := by decide +kernel
theorem dX10_mends_29 : decode cX10_mends 29 = .ok (.ireturn, 1) := by decide +kernel
theorem dX10_mends_30 : decode cX10_mends 30 = .ok (.aload_n 0, 1) := by decide +kernel
theorem dX10_mends_31 : decode cX10_mends 31 = .ok (.iload_n 1, 1) := by decide +kernel
theorem dX10_mends_32 : decode cX10_mends 32 = .ok (.invokevirtual 404, 3) := by decide +kernel
theorem dX10_mends_35 : decode cX10_mends 35 = .ok (.aload_n 0, 1) := by decide +kernel
theorem dX10_mends_36 : decode cX10_mends 36 = .ok (.getfield 133, 3) := by decide +kernel
theorem dX10_mends_39 : decode cX10_mends 39 = .ok (.aload_n 0, 1) := by decide +kernel
theorem dX10_mends_40 : decode cX10_mends 40 = .ok (.getfield 155, 3) := by decide +kernel
theorem dX10_mends_43 : decode cX10_mends 43 = .ok (.invokestatic 483, 3) := by decide +kernel
theorem dX10_mends_46 : decode cX10_mends 46 = .ok (.aload_n 0, 1) := by decide +kernel
theorem dX10_mends_47 : decode cX10_mends 47 = .ok (.getfield 34, 3) := by decide +kernel
theorem dX10_mends_50 : decode cX10_mends 50 = .ok (.aload_n 0, 1) := by decide +kernel
theorem dX10_mends_51 : decode cX10_mends 51 = .ok (.getfield 158, 3) := by decide +kernel
theorem dX10_mends_54 : decode cX10_mends 54 = .ok (.invokestatic 483, 3) := by decide +kernel
theorem dX10_mends_57 : decode cX10_mends 57 = .ok (.aload_n 0, 1) := by decide +kernel
theorem dX10_mends_58 : decode cX10_mends 58 = .ok (.getfield 52, 3) := by decide +kernel
theorem dX10_mends_61 : decode cX10_mends 61 = .ok (.iload_n 2, 1) := by decide +kernel
theorem dX10_mends_62 : decode cX10_mends 62 = .ok (.iaload, 1) := by decide +kernel
theorem dX10_mends_63 : decode cX10_mends 63 = .ok (.istore 4, 2) := by decide +kernel
theorem dX10_mends_65 : decode cX10_mends 65 = .ok (.aload_n 0, 1) := by decide +kernel
theorem dX10_mends_66 : decode cX10_mends 66 = .ok (.getfield 52, 3) := by decide +kernel
theorem dX10_mends_69 : decode cX10_mends 69 = .ok (.iload_n 2, 1) := by decide +kernel
theorem dX10_mends_70 : decode cX10_mends 70 = .ok (.iconst 1, 1) := by decide +kernel
theorem dX10_mends_71 : decode cX10_mends 71 = .ok (.iastore, 1) := by decide +kernel
theorem dX10_mends_72 : decode cX10_mends 72 = .ok (.aload_n 0, 1) := by decide +kernel
theorem dX10_mends_73 : decode cX10_mends 73 = .ok (.bipush (-2), 2) := by decide +kernel
theorem dX10_mends_75 : decode cX10_mends 75 = .ok (.bipush (-2), 2) := by decide +kernel
theorem dX10_mends_77 : decode cX10_mends 77 = .ok (.bipush (-2), 2) := by decide +kernel
theorem dX10_mends_79 : decode cX10_mends 79 = .ok (.bipush (-2), 2) := by decide +kernel
theorem dX10_mends_81 : decode cX10_mends 81 = .ok (.bipush (-2), 2) := by decide +kernel
theorem dX10_mends_83 : decode cX10_mends 83 = .ok (.invokevirtual 507, 3) := by decide +kernel
theorem dX10_mends_86 : decode cX10_mends 86 = .ok (.aload_n 0, 1) := by decide +kernel
theorem dX10_mends_87 : decode cX10_mends 87 = .ok (.iload_n 1, 1) := by decide +kernel
theorem dX10_mends_88 : decode cX10_mends 88 = .ok (.invokevirtual 504, 3) := by decide +kernel
theorem dX10_mends_91 : decode cX10_mends 91 = .ok (.ifCond .eq 13, 3) := by decide +kernel
theorem dX10_mends_94 : decode cX10_mends 94 = .ok (.aload_n 0, 1) := by decide +kernel
theorem dX10_mends_95 : decode cX10_mends 95 = .ok (.getfield 176, 3) := by decide +kernel
theorem dX10_mends_98 : decode cX10_mends 98 = .ok (.iconst 0, 1) := by decide +kernel
theorem dX10_mends_99 : decode cX10_mends 99 = .ok (.iconst 0, 1) := by decide +kernel
theorem dX10_mends_100 : decode cX10_mends 100 = .ok (.iastore, 1) := by decide +kernel
theorem dX10_mends_101 : decode cX10_mends 101 = .ok (.goto 17, 3) := by decide +kernel
theorem dX10_mends_104 : decode cX10_mends 104 = .ok (.aload_n 0, 1) := by decide +kernel
theorem dX10_mends_105 : decode cX10_mends 105 = .ok (.iload_n 1, 1) := by decide +kernel
theorem dX10_mends_106 : decode cX10_mends 106 = .ok (.invokevirtual 515, 3) := by decide +kernel
theorem dX10_mends_109 : decode cX10_mends 109 = .ok (.ifCond .ne 9, 3) := by decide +kernel
theorem dX10_mends_112 : decode cX10_mends 112 = .ok (.aload_n 0, 1) := by decide +kernel
theorem dX10_mends_113 : decode cX10_mends 113 = .ok (.iload_n 1, 1) := by decide +kernel
theorem dX10_mends_114 : decode cX10_mends 114 = .ok (.invokevirtual 518, 3) := by decide +kernel
theorem dX10_mends_117 : decode cX10_mends 117 = .ok (.pop, 1) := by decide +kernel
theorem dX10_mends_118 : decode cX10_mends 118 = .ok (.aload_n 0, 1) := by decide +kernel
theorem dX10_mends_119 : decode cX10_mends 119 = .ok (.getfield 52, 3) := by decide +kernel
theorem dX10_mends_122 : decode cX10_mends 122 = .ok (.iload_n 2, 1) := by decide +kernel
theorem dX10_mends_123 : decode cX10_mends 123 = .ok (.iload 4, 2) := by decide +kernel
theorem dX10_mends_125 : decode cX10_mends 125 = .ok (.iastore, 1) := by decide +kernel
theorem dX10_mends_126 : decode cX10_mends 126 = .ok (.aload_n 0, 1) := by decide +kernel
theorem dX10_mends_127 : decode cX10_mends 127 = .ok (.getfield 158, 3) := by decide +kernel
theorem dX10_mends_130 : decode cX10_mends 130 = .ok (.aload_n 0, 1) := by decide +kernel
theorem dX10_mends_131 : decode cX10_mends 131 = .ok (.getfield 34, 3) := by decide +kernel
theorem dX10_mends_134 : decode cX10_mends 134 = .ok (.invokestatic 483, 3) := by decide +kernel
theorem dX10_mends_137 : decode cX10_mends 137 = .ok (.aload_n 0, 1) := by decide +kernel
theorem dX10_mends_138 : decode cX10_mends 138 = .ok (.getfield 176, 3) := by decide +kernel
theorem dX10_mends_141 : decode cX10_mends 141 = .ok (.iload_n 3, 1) := by decide +kernel
theorem dX10_mends_142 : decode cX10_mends 142 = .ok (.iaload, 1) := by decide +kernel
theorem dX10_mends_143 : decode cX10_mends 143 = .ok (.ireturn, 1) := by decide +kernel
theorem ce_X10_mends : CeV RX10 yX10_mends cX10_mends 5 (some .int) 3 := ⟨tb_1762, tb_1763, tb_11, tb_1764, rfl, by decide, by decide, by decide +kernel⟩
set_option maxHeartbeats 4000000 in
set_option maxRecDepth 20000 in
theorem V_X10_mends (l : Launch) (D : va_G) (A : Nat → Prop) (ad : Nat → Nat) (ns : List Nat) (I : MI) (L : ML) (G : MG) (a0 : Int32) (a1 : Int32) (a2 : Int32) (hJ : SGM ns G) (hI : INV I) : Met l yX10_mends (wd yX10_mends cX10_mends 5 (some .int)) ({ frames := 8, cells := 0, slots := 0, locals := 200 }) (va_Pc [.ref (ad (1000)), .int a0, .int a1, .int a2] (PM D A ad ns I L G)) (va_Qi (fun r u => ∃ I2 L2, u = (ad, ns, I2, L2, G) ∧ INV I2 ∧ Kp [(1009, 1010), (1015, 1016), (1045, 1051), (1058, 1059), (1061, 1063), (1066, 1068)] [(1000, 51), (1000, 52), (1000, 53), (1000, 54), (1000, 55), (1000, 56), (1000, 59), (1000, 63), (1073, 0), (1073, 1), (1073, 2), (1073, 3), (1073, 4)] I I2) (BM D A) A) 0 0 A := by
  refine m_ofW (by decide) (Nat.le_of_ble_eq_true rfl) ?_
  intro p e s m below meth c ls args hC hE hM hA hS hl
  obtain ⟨hx, hb, hml, hown, hts, hr, hlocks, hin⟩ := hC
  have km2 : (-2 : Int32).toInt = -2 := by decide
  have km1 : (-1 : Int32).toInt = -1 := by decide
  have k0 : (0 : Int32).toInt = 0 := by decide
  have k1 : (1 : Int32).toInt = 1 := by decide
  have kl0 : (0 : Int64).toInt = 0 := by decide
  have kl4 : (4 : Int64).toInt = 4 := by decide
  have hK : Kp [(1009, 1010), (1015, 1016), (1045, 1051), (1058, 1059), (1061, 1063), (1066, 1068)] [(1000, 51), (1000, 52), (1000, 53), (1000, 54), (1000, 55), (1000, 56), (1000, 59), (1000, 63), (1073, 0), (1073, 1), (1073, 2), (1073, 3), (1073, 4)] I I := Kp.rf
  have hl : lv_has ls 5 [(0, .ref (ad (1000))), (1, .int (a0)), (2, .int (a1)), (3, .int (a2))] := hl
  refine lv_aload_n hx hb dX10_mends_0 rfl (lv_at hl 0 rfl) ?_
  refine lv_iload_n hx hb dX10_mends_1 rfl (lv_at hl 1 rfl) ?_
  refine m_calli (m_runV (1000) (As := [.int (a0)]) (rest := []) hx hb hml hown hts hE hM hS hA ce_X10_isBright tb_1698 (V_X10_isBright l D A ad ns I L G (a0) hJ hI) rfl rfl ⟨Nat.le_of_ble_eq_true rfl, Nat.le_of_ble_eq_true rfl⟩ hJ.1 rfl rfl (by decide) rfl hl.1 rfl (Nat.le_of_ble_eq_true rfl) dX10_mends_2 ⟨Nat.le_of_ble_eq_true rfl, Nat.le_of_ble_eq_true rfl⟩) hS (fun r1 u H locs hw hM hS => ?_)
  obtain ⟨rfl, xr1⟩ := hw
  have hM : Mem D A ad ns I L G H := hM
  refine lv_if_eq (tgt := 28) hx hb dX10_mends_5 (by decide) (fun c2 => ?_) (fun c2 => ?_)
  · have hc2 := c2
    have q2 := q_eq hc2
    refine lv_iconst (v := (-1)) hx hb dX10_mends_28 (by decide) ?_
    exact m_iret hx hb hr hlocks hM hS (Nat.le_of_ble_eq_true rfl) (Nat.le_of_ble_eq_true rfl) ⟨_, _, rfl, hI, hK⟩ dX10_mends_29
  · have hc2 := c2
    have q2 := q_ne hc2
    refine lv_aload_n hx hb dX10_mends_8 rfl (lv_at hl 0 rfl) ?_
    refine lv_iload_n hx hb dX10_mends_9 rfl (lv_at hl 2 rfl) ?_
    refine m_calli (m_runV (1000) (As := [.int (a1)]) (rest := []) hx hb hml hown hts hE hM hS hA ce_X10_isMirror tb_1462 (V_X10_isMirror l D A ad ns I L G (a1) hJ hI) rfl rfl ⟨Nat.le_of_ble_eq_true rfl, Nat.le_of_ble_eq_true rfl⟩ hJ.1 rfl rfl (by decide) rfl hl.1 rfl (Nat.le_of_ble_eq_true rfl) dX10_mends_10 ⟨Nat.le_of_ble_eq_true rfl, Nat.le_of_ble_eq_true rfl⟩) hS (fun r3 u H locs hw hM hS => ?_)
    obtain ⟨rfl, xr3⟩ := hw
    have hM : Mem D A ad ns I L G H := hM
    have yr3 := bo01 xr3
    have g4 := hI.get 1001 8 (lo := 0) (hi := 24) rfl
    refine lv_if_eq (tgt := 28) hx hb dX10_mends_13 (by decide) (fun c5 => ?_) (fun c5 => ?_)
    · have hc5 := c5
      have q5 := xr3.f hc5
      refine lv_iconst (v := (-1)) hx hb dX10_mends_28 (by decide) ?_
      exact m_iret hx hb hr hlocks hM hS (Nat.le_of_ble_eq_true rfl) (Nat.le_of_ble_eq_true rfl) ⟨_, _, rfl, hI, hK⟩ dX10_mends_29
    · have hc5 := c5
      have q5 := xr3.t hc5
      refine lv_iload_n hx hb dX10_mends_16 rfl (lv_at hl 3 rfl) ?_
      refine lv_i2l hx hb dX10_mends_17 rfl ?_
      refine lv_topl (fun v6 ev6 => ?_)
      have tv6 := q_i2l ev6
      refine lv_lconst (v := 0) hx hb dX10_mends_18 (by decide) ?_
      refine lv_ldc2 (v := (4)) hx hb hown (hts _ tb_1423) dX10_mends_19 ?_
      refine m_calli (m_runS (As := [.long (v6), .long (0), .long ((4 : Int64))]) (rest := []) hx hb hml hown hts hE hM hS hA ce_X10_in tb_1425 (V_X10_in l D A ad ns I L G (v6) (0) ((4 : Int64)) hI) rfl rfl ⟨Nat.le_of_ble_eq_true rfl, Nat.le_of_ble_eq_true rfl⟩  rfl hl.1 rfl (Nat.le_of_ble_eq_true rfl) dX10_mends_22 ⟨Nat.le_of_ble_eq_true rfl, Nat.le_of_ble_eq_true rfl⟩) hS (fun r7 u H locs hw hM hS => ?_)
      obtain ⟨rfl, xr7⟩ := hw
      have hM : Mem D A ad ns I L G H := hM
      have yr7 := bo01 xr7
      refine lv_if_ne (tgt := 30) hx hb dX10_mends_25 (by decide) (fun c8 => ?_) (fun c8 => ?_)
      · have hc8 := c8
        have q8 := xr7.t hc8
        refine lv_aload_n hx hb dX10_mends_30 rfl (lv_at hl 0 rfl) ?_
        refine lv_iload_n hx hb dX10_mends_31 rfl (lv_at hl 1 rfl) ?_
        refine m_callv (m_runV (1000) (As := [.int (a0)]) (rest := []) hx hb hml hown hts hE hM hS hA ce_X10_shines tb_1640 (V_X10_shines l D A ad ns I L G (a0) hJ hI (by first | omega | decide)) rfl rfl ⟨Nat.le_of_ble_eq_true rfl, Nat.le_of_ble_eq_true rfl⟩ hJ.1 rfl rfl (by decide) rfl hl.1 rfl (Nat.le_of_ble_eq_true rfl) dX10_mends_32 ⟨Nat.le_of_ble_eq_true rfl, Nat.le_of_ble_eq_true rfl⟩) hS (fun u H locs hw hM hS => ?_)
        obtain ⟨I9, L10, rfl, hI, hkI9⟩ := hw
        have hM : Mem D A ad ns I9 L10 G H := hM
        have hK := hK.trans hkI9 rfl
        refine lv_aload_n hx hb dX10_mends_35 rfl (lv_at hl 0 rfl) ?_
        refine m_getr (1000) 50 (1050) hx hb hts hown hE oc10 hM hJ.1 rfl (by decide) rfl (hJ.2 50 (by decide)).2 (by decide) tb_1227 dX10_mends_36 ?_
        refine lv_aload_n hx hb dX10_mends_39 rfl (lv_at hl 0 rfl) ?_
        refine m_getr (1000) 66 (1066) hx hb hts hown hE oc10 hM hJ.1 rfl (by decide) rfl (hJ.2 66 (by decide)).2 (by decide) tb_1243 dX10_mends_40 ?_
        refine m_callv (m_runS (As := [.ref (ad (1050)), .ref (ad (1066))]) (rest := []) hx hb hml hown hts hE hM hS hA ce_X10_copy tb_1723 (V_X10_copy_1050_1066 l D A ad ns I9 L10 G hJ hI) rfl rfl ⟨Nat.le_of_ble_eq_true rfl, Nat.le_of_ble_eq_true rfl⟩  rfl hl.1 rfl (Nat.le_of_ble_eq_true rfl) dX10_mends_43 ⟨Nat.le_of_ble_eq_true rfl, Nat.le_of_ble_eq_true rfl⟩) hS (fun u H locs hw hM hS => ?_)
        obtain ⟨I11, L12, rfl, hI, hkI11⟩ := hw
        have hM : Mem D A ad ns I11 L12 G H := hM
        have hK := hK.trans hkI11 rfl
        refine lv_aload_n hx hb dX10_mends_46 rfl (lv_at hl 0 rfl) ?_
        refine m_getr (1000) 9 (1009) hx hb hts hown hE oc10 hM hJ.1 rfl (by decide) rfl (hJ.2 9 (by decide)).2 (by decide) tb_1186 dX10_mends_47 ?_
        refine lv_aload_n hx hb dX10_mends_50 rfl (lv_at hl 0 rfl) ?_
        refine m_getr (1000) 67 (1067) hx hb hts hown hE oc10 hM hJ.1 rfl (by decide) rfl (hJ.2 67 (by decide)).2 (by decide) tb_1244 dX10_mends_51 ?_
        refine m_callv (m_runS (As := [.ref (ad (1009)), .ref (ad (1067))]) (rest := []) hx hb hml hown hts hE hM hS hA ce_X10_copy tb_1723 (V_X10_copy_1009_1067 l D A ad ns I11 L12 G hJ hI) rfl rfl ⟨Nat.le_of_ble_eq_true rfl, Nat.le_of_ble_eq_true rfl⟩  rfl hl.1 rfl (Nat.le_of_ble_eq_true rfl) dX10_mends_54 ⟨Nat.le_of_ble_eq_true rfl, Nat.le_of_ble_eq_true rfl⟩) hS (fun u H locs hw hM hS => ?_)
        obtain ⟨I13, L14, rfl, hI, hkI13⟩ := hw
        have hM : Mem D A ad ns I13 L14 G H := hM
        have hK := hK.trans hkI13 rfl
        refine lv_aload_n hx hb dX10_mends_57 rfl (lv_at hl 0 rfl) ?_
        refine m_getr (1000) 15 (1015) hx hb hts hown hE oc10 hM hJ.1 rfl (by decide) rfl (hJ.2 15 (by decide)).2 (by decide) tb_1192 dX10_mends_58 ?_
        refine lv_iload_n hx hb dX10_mends_61 rfl (lv_at hl 2 rfl) ?_
        refine m_iald (1015) hx hb hE hM (hJ.2 15 (by decide)).1 rfl (vp_in_iff.mpr (by omega)) dX10_mends_62 ?_
        have z15 : I13 (1015) (a1).toNatClampNeg = I (1015) ((a1).toNatClampNeg) := (((congrFun (hkI13.getA (1015) rfl) ((a1).toNatClampNeg))).trans (congrFun (hkI11.getA (1015) rfl) ((a1).toNatClampNeg))).trans (congrFun (hkI9.getA (1015) rfl) ((a1).toNatClampNeg))
        rw [z15]
        refine lv_istore (lv' := [(4, .int (I (1015) ((a1).toNatClampNeg))), (0, .ref (ad (1000))), (1, .int (a0)), (2, .int (a1)), (3, .int (a2))]) hx hb dX10_mends_63 hl (by decide) rfl (fun ls hl => ?_)
        refine lv_aload_n hx hb dX10_mends_65 rfl (lv_at hl 1 rfl) ?_
        refine m_getr (1000) 15 (1015) hx hb hts hown hE oc10 hM hJ.1 rfl (by decide) rfl (hJ.2 15 (by decide)).2 (by decide) tb_1192 dX10_mends_66 ?_
        refine lv_iload_n hx hb dX10_mends_69 rfl (lv_at hl 3 rfl) ?_
        refine lv_iconst (v := (1)) hx hb dX10_mends_70 (by decide) ?_
        refine m_iast (1015) hx hb hE hM hS (hJ.2 15 (by decide)).1 rfl (vp_in_iff.mpr (by omega)) dX10_mends_71 (fun H locs I16 eI16 hM hS => ?_)
        subst eI16
        have hI := hI.putF (n := 1015) (k := ((a1).toNatClampNeg)) (v := 1) rfl
        have hK := hK.put (n := 1015) (k := ((a1).toNatClampNeg)) (v := 1) (by first | rfl | simp [inR])
        refine lv_aload_n hx hb dX10_mends_72 rfl (lv_at hl 1 rfl) ?_
        refine lv_bipush (v := (-2)) hx hb dX10_mends_73 (by decide) ?_
        refine lv_bipush (v := (-2)) hx hb dX10_mends_75 (by decide) ?_
        refine lv_bipush (v := (-2)) hx hb dX10_mends_77 (by decide) ?_
        refine lv_bipush (v := (-2)) hx hb dX10_mends_79 (by decide) ?_
        refine lv_bipush (v := (-2)) hx hb dX10_mends_81 (by decide) ?_
        refine m_callv (m_runV (1000) (As := [.int ((-2 : Int32)), .int ((-2 : Int32)), .int ((-2 : Int32)), .int ((-2 : Int32)), .int ((-2 : Int32))]) (rest := []) hx hb hml hown hts hE hM hS hA ce_X10_isMended tb_1765 (V_X10_isMended l D A ad ns (u2 I13 (1015) ((a1).toNatClampNeg) (1)) L14 G ((-2 : Int32)) ((-2 : Int32)) ((-2 : Int32)) ((-2 : Int32)) ((-2 : Int32)) hJ hI) rfl rfl ⟨Nat.le_of_ble_eq_true rfl, Nat.le_of_ble_eq_true rfl⟩ hJ.1 rfl rfl (by decide) rfl hl.1 rfl (Nat.le_of_ble_eq_true rfl) dX10_mends_83 ⟨Nat.le_of_ble_eq_true rfl, Nat.le_of_ble_eq_true rfl⟩) hS (fun u H locs hw hM hS => ?_)
        obtain ⟨I17, L18, rfl, hI, hkI17⟩ := hw
        have hM : Mem D A ad ns I17 L18 G H := hM
        have hK := hK.trans hkI17 rfl
        refine lv_aload_n hx hb dX10_mends_86 rfl (lv_at hl 1 rfl) ?_
        refine lv_iload_n hx hb dX10_mends_87 rfl (lv_at hl 2 rfl) ?_
        refine m_calli (m_runV (1000) (As := [.int (a0)]) (rest := []) hx hb hml hown hts hE hM hS hA ce_X10_isHalf tb_1769 (V_X10_isHalf l D A ad ns I17 L18 G (a0) hJ hI (by first | omega | decide)) rfl rfl ⟨Nat.le_of_ble_eq_true rfl, Nat.le_of_ble_eq_true rfl⟩ hJ.1 rfl rfl (by decide) rfl hl.1 rfl (Nat.le_of_ble_eq_true rfl) dX10_mends_88 ⟨Nat.le_of_ble_eq_true rfl, Nat.le_of_ble_eq_true rfl⟩) hS (fun r19 u H locs hw hM hS => ?_)
        obtain ⟨I20, L21, rfl, hI, hkI20, xr19⟩ := hw
        have hM : Mem D A ad ns I20 L21 G H := hM
        have hK := hK.trans hkI20 rfl
        refine lv_if_eq (tgt := 104) hx hb dX10_mends_91 (by decide) (fun c22 => ?_) (fun c22 => ?_)
        · have hc22 := c22
          have q22 := q_eq hc22
          refine lv_aload_n hx hb dX10_mends_104 rfl (lv_at hl 1 rfl) ?_
          refine lv_iload_n hx hb dX10_mends_105 rfl (lv_at hl 2 rfl) ?_
          refine m_calli (m_runV (1000) (As := [.int (a0)]) (rest := []) hx hb hml hown hts hE hM hS hA ce_X10_mendsOne tb_1773 (V_X10_mendsOne l D A ad ns I20 L21 G (a0) hJ hI (by first | omega | decide)) rfl rfl ⟨Nat.le_of_ble_eq_true rfl, Nat.le_of_ble_eq_true rfl⟩ hJ.1 rfl rfl (by decide) rfl hl.1 rfl (Nat.le_of_ble_eq_true rfl) dX10_mends_106 ⟨Nat.le_of_ble_eq_true rfl, Nat.le_of_ble_eq_true rfl⟩) hS (fun r23 u H locs hw hM hS => ?_)
          obtain ⟨I24, L25, rfl, hI, hkI24, xr23⟩ := hw
          have hM : Mem D A ad ns I24 L25 G H := hM
          have hK := hK.trans hkI24 rfl
          refine lv_if_ne (tgt := 118) hx hb dX10_mends_109 (by decide) (fun c26 => ?_) (fun c26 => ?_)
          · have hc26 := c26
            have q26 := q_ne hc26
            refine lv_aload_n hx hb dX10_mends_118 rfl (lv_at hl 1 rfl) ?_
            refine m_getr (1000) 15 (1015) hx hb hts hown hE oc10 hM hJ.1 rfl (by decide) rfl (hJ.2 15 (by decide)).2 (by decide) tb_1192 dX10_mends_119 ?_
            refine lv_iload_n hx hb dX10_mends_122 rfl (lv_at hl 3 rfl) ?_
            refine lv_iload hx hb dX10_mends_123 (lv_at hl 0 rfl) ?_
            refine m_iast (1015) hx hb hE hM hS (hJ.2 15 (by decide)).1 rfl (vp_in_iff.mpr (by omega)) dX10_mends_125 (fun H locs I27 eI27 hM hS => ?_)
            subst eI27
            have hI := hI.putF (n := 1015) (k := ((a1).toNatClampNeg)) (v := I (1015) ((a1).toNatClampNeg)) rfl
            have hK := hK.put (n := 1015) (k := ((a1).toNatClampNeg)) (v := I (1015) ((a1).toNatClampNeg)) (by first | rfl | simp [inR])
            refine lv_aload_n hx hb dX10_mends_126 rfl (lv_at hl 1 rfl) ?_
            refine m_getr (1000) 67 (1067) hx hb hts hown hE oc10 hM hJ.1 rfl (by decide) rfl (hJ.2 67 (by decide)).2 (by decide) tb_1244 dX10_mends_127 ?_
            refine lv_aload_n hx hb dX10_mends_130 rfl (lv_at hl 1 rfl) ?_
            refine m_getr (1000) 9 (1009) hx hb hts hown hE oc10 hM hJ.1 rfl (by decide) rfl (hJ.2 9 (by decide)).2 (by decide) tb_1186 dX10_mends_131 ?_
            refine m_callv (m_runS (As := [.ref (ad (1067)), .ref (ad (1009))]) (rest := []) hx hb hml hown hts hE hM hS hA ce_X10_copy tb_1723 (V_X10_copy_1067_1009 l D A ad ns (u2 I24 (1015) ((a1).toNatClampNeg) (I (1015) ((a1).toNatClampNeg))) L25 G hJ hI) rfl rfl ⟨Nat.le_of_ble_eq_true rfl, Nat.le_of_ble_eq_true rfl⟩  rfl hl.1 rfl (Nat.le_of_ble_eq_true rfl) dX10_mends_134 ⟨Nat.le_of_ble_eq_true rfl, Nat.le_of_ble_eq_true rfl⟩) hS (fun u H locs hw hM hS => ?_)
            obtain ⟨I28, L29, rfl, hI, hkI28⟩ := hw
            have hM : Mem D A ad ns I28 L29 G H := hM
            have hK := hK.trans hkI28 rfl
            refine lv_aload_n hx hb dX10_mends_137 rfl (lv_at hl 1 rfl) ?_
            refine m_getr (1000) 73 (1073) hx hb hts hown hE oc10 hM hJ.1 rfl (by decide) rfl (hJ.2 73 (by decide)).2 (by decide) tb_1250 dX10_mends_138 ?_
            refine lv_iload_n hx hb dX10_mends_141 rfl (lv_at hl 4 rfl) ?_
            refine m_iald (1073) hx hb hE hM (hJ.2 73 (by decide)).1 rfl (vp_in_iff.mpr (by omega)) dX10_mends_142 ?_
            have z30 : I28 (1073) (a2).toNatClampNeg = I24 (1073) ((a2).toNatClampNeg) := ((congrFun (hkI28.getA (1073) rfl) ((a2).toNatClampNeg))).trans (show (u2 I24 (1015) ((a1).toNatClampNeg) (I (1015) ((a1).toNatClampNeg))) (1073) ((a2).toNatClampNeg) = I24 (1073) ((a2).toNatClampNeg) from by simp [u2_v])
            rw [z30]
            exact m_iret hx hb hr hlocks hM hS (Nat.le_of_ble_eq_true rfl) (Nat.le_of_ble_eq_true rfl) ⟨_, _, rfl, hI, hK⟩ dX10_mends_143
          · have hc26 := c26
            have q26 := q_eq hc26
            refine lv_aload_n hx hb dX10_mends_112 rfl (lv_at hl 1 rfl) ?_
            refine lv_iload_n hx hb dX10_mends_113 rfl (lv_at hl 2 rfl) ?_
            refine m_calli (m_runV (1000) (As := [.int (a0)]) (rest := []) hx hb hml hown hts hE hM hS hA ce_X10_mendsTwo tb_1777 (V_X10_mendsTwo l D A ad ns I24 L25 G (a0) hJ hI (by first | omega | decide)) rfl rfl ⟨Nat.le_of_ble_eq_true rfl, Nat.le_of_ble_eq_true rfl⟩ hJ.1 rfl rfl (by decide) rfl hl.1 rfl (Nat.le_of_ble_eq_true rfl) dX10_mends_114 ⟨Nat.le_of_ble_eq_true rfl, Nat.le_of_ble_eq_true rfl⟩) hS (fun r31 u H locs hw hM hS => ?_)
            obtain ⟨I32, L33, rfl, hI, hkI32, xr31⟩ := hw
            have hM : Mem D A ad ns I32 L33 G H := hM
            have hK := hK.trans hkI32 rfl
            refine lv_pop hx hb dX10_mends_117 rfl ?_
            refine lv_aload_n hx hb dX10_mends_118 rfl (lv_at hl 1 rfl) ?_
            refine m_getr (1000) 15 (1015) hx hb hts hown hE oc10 hM hJ.1 rfl (by decide) rfl (hJ.2 15 (by decide)).2 (by decide) tb_1192 dX10_mends_119 ?_
            refine lv_iload_n hx hb dX10_mends_122 rfl (lv_at hl 3 rfl) ?_
            refine lv_iload hx hb dX10_mends_123 (lv_at hl 0 rfl) ?_
            refine m_iast (1015) hx hb hE hM hS (hJ.2 15 (by decide)).1 rfl (vp_in_iff.mpr (by omega)) dX10_mends_125 (fun H locs I34 eI34 hM hS => ?_)
            subst eI34
            have hI := hI.putF (n := 1015) (k := ((a1).toNatClampNeg)) (v := I (1015) ((a1).toNatClampNeg)) rfl
            have hK := hK.put (n := 1015) (k := ((a1).toNatClampNeg)) (v := I (1015) ((a1).toNatClampNeg)) (by first | rfl | simp [inR])
            refine lv_aload_n hx hb dX10_mends_126 rfl (lv_at hl 1 rfl) ?_
            refine m_getr (1000) 67 (1067) hx hb hts hown hE oc10 hM hJ.1 rfl (by decide) rfl (hJ.2 67 (by decide)).2 (by decide) tb_1244 dX10_mends_127 ?_
            refine lv_aload_n hx hb dX10_mends_130 rfl (lv_at hl 1 rfl) ?_
            refine m_getr (1000) 9 (1009) hx hb hts hown hE oc10 hM hJ.1 rfl (by decide) rfl (hJ.2 9 (by decide)).2 (by decide) tb_1186 dX10_mends_131 ?_
            refine m_callv (m_runS (As := [.ref (ad (1067)), .ref (ad (1009))]) (rest := []) hx hb hml hown hts hE hM hS hA ce_X10_copy tb_1723 (V_X10_copy_1067_1009 l D A ad ns (u2 I32 (1015) ((a1).toNatClampNeg) (I (1015) ((a1).toNatClampNeg))) L33 G hJ hI) rfl rfl ⟨Nat.le_of_ble_eq_true rfl, Nat.le_of_ble_eq_true rfl⟩  rfl hl.1 rfl (Nat.le_of_ble_eq_true rfl) dX10_mends_134 ⟨Nat.le_of_ble_eq_true rfl, Nat.le_of_ble_eq_true rfl⟩) hS (fun u H locs hw hM hS => ?_)
            obtain ⟨I35, L36, rfl, hI, hkI35⟩ := hw
            have hM : Mem D A ad ns I35 L36 G H := hM
            have hK := hK.trans hkI35 rfl
            refine lv_aload_n hx hb dX10_mends_137 rfl (lv_at hl 1 rfl) ?_
            refine m_getr (1000) 73 (1073) hx hb hts hown hE oc10 hM hJ.1 rfl (by decide) rfl (hJ.2 73 (by decide)).2 (by decide) tb_1250 dX10_mends_138 ?_
            refine lv_iload_n hx hb dX10_mends_141 rfl (lv_at hl 4 rfl) ?_
            refine m_iald (1073) hx hb hE hM (hJ.2 73 (by decide)).1 rfl (vp_in_iff.mpr (by omega)) dX10_mends_142 ?_
            have z37 : I35 (1073) (a2).toNatClampNeg = I32 (1073) ((a2).toNatClampNeg) := ((congrFun (hkI35.getA (1073) rfl) ((a2).toNatClampNeg))).trans (show (u2 I32 (1015) ((a1).toNatClampNeg) (I (1015) ((a1).toNatClampNeg))) (1073) ((a2).toNatClampNeg) = I32 (1073) ((a2).toNatClampNeg) from by simp [u2_v])
            rw [z37]
            exact m_iret hx hb hr hlocks hM hS (Nat.le_of_ble_eq_true rfl) (Nat.le_of_ble_eq_true rfl) ⟨_, _, rfl, hI, hK⟩ dX10_mends_143
        · have hc22 := c22
          have q22 := q_ne hc22
          refine lv_aload_n hx hb dX10_mends_94 rfl (lv_at hl 1 rfl) ?_
          refine m_getr (1000) 73 (1073) hx hb hts hown hE oc10 hM hJ.1 rfl (by decide) rfl (hJ.2 73 (by decide)).2 (by decide) tb_1250 dX10_mends_95 ?_
          refine lv_iconst (v := (0)) hx hb dX10_mends_98 (by decide) ?_
          refine lv_iconst (v := (0)) hx hb dX10_mends_99 (by decide) ?_
          refine m_iast (1073) hx hb hE hM hS (hJ.2 73 (by decide)).1 rfl (vp_in_iff.mpr (by decide)) dX10_mends_100 (fun H locs I38 eI38 hM hS => ?_)
          rw [show (0 : Int32).toNatClampNeg = 0 from rfl] at eI38
          subst eI38
          have hI := hI.putF (n := 1073) (k := 0) (v := 0) rfl
          have hK := hK.put (n := 1073) (k := 0) (v := 0) (by first | rfl | simp [inR])
          refine lv_goto (tgt := 118) hx hb dX10_mends_101 (by decide) ?_
          refine lv_aload_n hx hb dX10_mends_118 rfl (lv_at hl 1 rfl) ?_
          refine m_getr (1000) 15 (1015) hx hb hts hown hE oc10 hM hJ.1 rfl (by decide) rfl (hJ.2 15 (by decide)).2 (by decide) tb_1192 dX10_mends_119 ?_
          refine lv_iload_n hx hb dX10_mends_122 rfl (lv_at hl 3 rfl) ?_
          refine lv_iload hx hb dX10_mends_123 (lv_at hl 0 rfl) ?_
          refine m_iast (1015) hx hb hE hM hS (hJ.2 15 (by decide)).1 rfl (vp_in_iff.mpr (by omega)) dX10_mends_125 (fun H locs I39 eI39 hM hS => ?_)
          subst eI39
          have hI := hI.putF (n := 1015) (k := ((a1).toNatClampNeg)) (v := I (1015) ((a1).toNatClampNeg)) rfl
          have hK := hK.put (n := 1015) (k := ((a1).toNatClampNeg)) (v := I (1015) ((a1).toNatClampNeg)) (by first | rfl | simp [inR])
          refine lv_aload_n hx hb dX10_mends_126 rfl (lv_at hl 1 rfl) ?_
          refine m_getr (1000) 67 (1067) hx hb hts hown hE oc10 hM hJ.1 rfl (by decide) rfl (hJ.2 67 (by decide)).2 (by decide) tb_1244 dX10_mends_127 ?_
          refine lv_aload_n hx hb dX10_mends_130 rfl (lv_at hl 1 rfl) ?_
          refine m_getr (1000) 9 (1009) hx hb hts hown hE oc10 hM hJ.1 rfl (by decide) rfl (hJ.2 9 (by decide)).2 (by decide) tb_1186 dX10_mends_131 ?_
          refine m_callv (m_runS (As := [.ref (ad (1067)), .ref (ad (1009))]) (rest := []) hx hb hml hown hts hE hM hS hA ce_X10_copy tb_1723 (V_X10_copy_1067_1009 l D A ad ns (u2 (u2 I20 (1073) 0 (0)) (1015) ((a1).toNatClampNeg) (I (1015) ((a1).toNatClampNeg))) L21 G hJ hI) rfl rfl ⟨Nat.le_of_ble_eq_true rfl, Nat.le_of_ble_eq_true rfl⟩  rfl hl.1 rfl (Nat.le_of_ble_eq_true rfl) dX10_mends_134 ⟨Nat.le_of_ble_eq_true rfl, Nat.le_of_ble_eq_true rfl⟩) hS (fun u H locs hw hM hS => ?_)
          obtain ⟨I40, L41, rfl, hI, hkI40⟩ := hw
          have hM : Mem D A ad ns I40 L41 G H := hM
          have hK := hK.trans hkI40 rfl
          refine lv_aload_n hx hb dX10_mends_137 rfl (lv_at hl 1 rfl) ?_
          refine m_getr (1000) 73 (1073) hx hb hts hown hE oc10 hM hJ.1 rfl (by decide) rfl (hJ.2 73 (by decide)).2 (by decide) tb_1250 dX10_mends_138 ?_
          refine lv_iload_n hx hb dX10_mends_141 rfl (lv_at hl 4 rfl) ?_
          refine m_iald (1073) hx hb hE hM (hJ.2 73 (by decide)).1 rfl (vp_in_iff.mpr (by omega)) dX10_mends_142 ?_
          have z42 : I40 (1073) (a2).toNatClampNeg = (u2 I20 (1073) 0 (0)) (1073) ((a2).toNatClampNeg) := ((congrFun (hkI40.getA (1073) rfl) ((a2).toNatClampNeg))).trans (show (u2 (u2 I20 (1073) 0 (0)) (1015) ((a1).toNatClampNeg) (I (1015) ((a1).toNatClampNeg))) (1073) ((a2).toNatClampNeg) = (u2 I20 (1073) 0 (0)) (1073) ((a2).toNatClampNeg) from by simp [u2_v])
          rw [z42]
          exact m_iret hx hb hr hlocks hM hS (Nat.le_of_ble_eq_true rfl) (Nat.le_of_ble_eq_true rfl) ⟨_, _, rfl, hI, hK⟩ dX10_mends_143
      · have hc8 := c8
        have q8 := xr7.f hc8
        refine lv_iconst (v := (-1)) hx hb dX10_mends_28 (by decide) ?_
        exact m_iret hx hb hr hlocks hM hS (Nat.le_of_ble_eq_true rfl) (Nat.le_of_ble_eq_true rfl) ⟨_, _, rfl, hI, hK⟩ dX10_mends_29
theorem dX10_dusty_0 : decode cX10_dusty 0 = .ok (.aload_n 0, 1) := by decide +kernel
theorem dX10_dusty_1 : decode cX10_dusty 1 = .ok (.iload_n 1, 1) := by decide +kernel
theorem dX10_dusty_2 : decode cX10_dusty 2 = .ok (.invokevirtual 472, 3) := by decide +kernel
theorem dX10_dusty_5 : decode cX10_dusty 5 = .ok (.ifCond .eq 32, 3) := by decide +kernel
theorem dX10_dusty_8 : decode cX10_dusty 8 = .ok (.aload_n 0, 1) := by decide +kernel
theorem dX10_dusty_9 : decode cX10_dusty 9 = .ok (.iload_n 2, 1) := by decide +kernel
theorem dX10_dusty_10 : decode cX10_dusty 10 = .ok (.invokevirtual 220, 3) := by decide +kernel
theorem dX10_dusty_13 : decode cX10_dusty 13 = .ok (.ifCond .eq 24, 3) := by decide +kernel
theorem dX10_dusty_16 : decode cX10_dusty 16 = .ok (.aload_n 0, 1) := by decide +kernel
theorem dX10_dusty_17 : decode cX10_dusty 17 = .ok (.iload_n 3, 1) := by decide +kernel
theorem dX10_dusty_18 : decode cX10_dusty 18 = .ok (.invokevirtual 469, 3) := by decide +kernel
theorem dX10_dusty_21 : decode cX10_dusty 21 = .ok (.ifCond .eq 16, 3) := by decide +kernel
theorem dX10_dusty_24 : decode cX10_dusty 24 = .ok (.iload 4, 2) := by decide +kernel
theorem dX10_dusty_26 : decode cX10_dusty 26 = .ok (.i2l, 1) := by decide +kernel
theorem dX10_dusty_27 : decode cX10_dusty 27 = .ok (.lconst 0, 1) := by decide +kernel
theorem dX10_dusty_28 : decode cX10_dusty 28 = .ok (.ldc2_w 228, 3) := by decide +kernel
theorem dX10_dusty_31 : decode cX10_dusty 31 = .ok (.invokestatic 192, 3) := by decide +kernel
theorem dX10_dusty_34 : decode cX10_dusty 34 = .ok (.ifCond .ne 5, 3) := by decide +kernel
theorem dX10_dusty_37 : decode cX10_dusty 37 = .ok (.iconst (-1), 1) := by decide +kernel
theorem dX10_dusty_38 : decode cX10_dusty 38 = .ok (.ireturn, 1) := by decide +kernel
theorem dX10_dusty_39 : decode cX10_dusty 39 = .ok (.aload_n 0, 1) := by decide +kernel
theorem dX10_dusty_40 : decode cX10_dusty 40 = .ok (.getfield 49, 3) := by decide +kernel
theorem dX10_dusty_43 : decode cX10_dusty 43 = .ok (.iload_n 2, 1) := by decide +kernel
theorem dX10_dusty_44 : decode cX10_dusty 44 = .ok (.iaload, 1) := by decide +kernel
theorem dX10_dusty_45 : decode cX10_dusty 45 = .ok (.istore 5, 2) := by decide +kernel
theorem dX10_dusty_47 : decode cX10_dusty 47 = .ok (.bipush (-2), 2) := by decide +kernel
theorem dX10_dusty_49 : decode cX10_dusty 49 = .ok (.istore 6, 2) := by decide +kernel
theorem dX10_dusty_51 : decode cX10_dusty 51 = .ok (.iconst 0, 1) := by decide +kernel
theorem dX10_dusty_52 : decode cX10_dusty 52 = .ok (.istore 7, 2) := by decide +kernel
theorem dX10_dusty_54 : decode cX10_dusty 54 = .ok (.iload 7, 2) := by decide +kernel
theorem dX10_dusty_56 : decode cX10_dusty 56 = .ok (.sipush 1000, 3) := by decide +kernel
theorem dX10_dusty_59 : decode cX10_dusty 59 = .ok (.if_icmp .gt 49, 3) := by decide +kernel
theorem dX10_dusty_62 : decode cX10_dusty 62 = .ok (.iload 6, 2) := by decide +kernel
theorem dX10_dusty_64 : decode cX10_dusty 64 = .ok (.bipush (-2), 2) := by decide +kernel
theorem dX10_dusty_66 : decode cX10_dusty 66 = .ok (.if_icmp .ne 42, 3) := by decide +kernel
theorem dX10_dusty_69 : decode cX10_dusty 69 = .ok (.aload_n 0, 1) := by decide +kernel
theorem dX10_dusty_70 : decode cX10_dusty 70 = .ok (.getfield 49, 3) := by decide +kernel
theorem dX10_dusty_73 : decode cX10_dusty 73 = .ok (.iload_n 2, 1) := by decide +kernel
theorem dX10_dusty_74 : decode cX10_dusty 74 = .ok (.iload 7, 2) := by decide +kernel
theorem dX10_dusty_76 : decode cX10_dusty 76 = .ok (.iastore, 1) := by decide +kernel
theorem dX10_dusty_77 : decode cX10_dusty 77 = .ok (.aload_n 0, 1) := by decide +kernel
theorem dX10_dusty_78 : decode cX10_dusty 78 = .ok (.iload_n 1, 1) := by decide +kernel
theorem dX10_dusty_79 : decode cX10_dusty 79 = .ok (.invokevirtual 404, 3) := by decide +kernel
theorem dX10_dusty_82 : decode cX10_dusty 82 = .ok (.aload_n 0, 1) := by decide +kernel
theorem dX10_dusty_83 : decode cX10_dusty 83 = .ok (.getfield 133, 3) := by decide +kernel
theorem dX10_dusty_86 : decode cX10_dusty 86 = .ok (.iload_n 3, 1) := by decide +kernel
theorem dX10_dusty_87 : decode cX10_dusty 87 = .ok (.iaload, 1) := by decide +kernel
theorem dX10_dusty_88 : decode cX10_dusty 88 = .ok (.iload 4, 2) := by decide +kernel
theorem dX10_dusty_90 : decode cX10_dusty 90 = .ok (.if_icmp .gt 8, 3) := by decide +kernel
theorem dX10_dusty_93 : decode cX10_dusty 93 = .ok (.iload 7, 2) := by decide +kernel
theorem dX10_dusty_95 : decode cX10_dusty 95 = .ok (.goto 5, 3) := by decide +kernel
theorem dX10_dusty_98 : decode cX10_dusty 98 = .ok (.bipush (-2), 2) := by decide +kernel
theorem dX10_dusty_100 : decode cX10_dusty 100 = .ok (.istore 6, 2) := by decide +kernel
theorem dX10_dusty_102 : decode cX10_dusty 102 = .ok (.iinc 7 1, 3) := by decide +kernel
theorem dX10_dusty_105 : decode cX10_dusty 105 = .ok (.goto (-51), 3) := by decide +kernel
theorem dX10_dusty_108 : decode cX10_dusty 108 = .ok (.aload_n 0, 1) := by decide +kernel
theorem dX10_dusty_109 : decode cX10_dusty 109 = .ok (.getfield 49, 3) := by decide +kernel
theorem dX10_dusty_112 : decode cX10_dusty 112 = .ok (.iload_n 2, 1) := by decide +kernel
theorem dX10_dusty_113 : decode cX10_dusty 113 = .ok (.iload 5, 2) := by decide +kernel
theorem dX10_dusty_115 : decode cX10_dusty 115 = .ok (.iastore, 1) := by decide +kernel
theorem dX10_dusty_116 : decode cX10_dusty 116 = .ok (.iload 6, 2) := by decide +kernel
theorem dX10_dusty_118 : decode cX10_dusty 118 = .ok (.ireturn, 1) := by decide +kernel
theorem ce_X10_dusty : CeV RX10 yX10_dusty cX10_dusty 8 (some .int) 4 := ⟨tb_1799, tb_1800, tb_11, tb_1801, rfl, by decide, by decide, by decide +kernel⟩
set_option maxHeartbeats 4000000 in
set_option maxRecDepth 20000 in
theorem V_X10_dusty (l : Launch) (D : va_G) (A : Nat → Prop) (ad : Nat → Nat) (ns : List Nat) (I : MI) (L : ML) (G : MG) (a0 : Int32) (a1 : Int32) (a2 : Int32) (a3 : Int32) (hJ : SGM ns G) (hI : INV I) : Met l yX10_dusty (wd yX10_dusty cX10_dusty 8 (some .int)) ({ frames := 5, cells := 0, slots := 0, locals := 128 }) (va_Pc [.ref (ad (1000)), .int a0, .int a1, .int a2, .int a3] (PM D A ad ns I L G)) (va_Qi (fun r u => ∃ I2 L2, u = (ad, ns, I2, L2, G) ∧ INV I2 ∧ Kp [(1014, 1015), (1045, 1051), (1058, 1059), (1061, 1063)] [(1000, 51), (1000, 52), (1000, 53), (1000, 54), (1000, 55), (1000, 56), (1000, 59), (1000, 63)] I I2) (BM D A) A) 0 0 A := by
  refine m_ofW (by decide) (Nat.le_of_ble_eq_true rfl) ?_
  intro p e s m below meth c ls args hC hE hM hA hS hl
  obtain ⟨hx, hb, hml, hown, hts, hr, hlocks, hin⟩ := hC
  have km2 : (-2 : Int32).toInt = -2 := by decide
  have km1 : (-1 : Int32).toInt = -1 := by decide
  have k0 : (0 : Int32).toInt = 0 := by decide
  have k1000 : (1000 : Int32).toInt = 1000 := by decide
  have kl0 : (0 : Int64).toInt = 0 := by decide
  have kl9999999 : (9999999 : Int64).toInt = 9999999 := by decide
  have hK : Kp [(1014, 1015), (1045, 1051), (1058, 1059), (1061, 1063)] [(1000, 51), (1000, 52), (1000, 53), (1000, 54), (1000, 55), (1000, 56), (1000, 59), (1000, 63)] I I := Kp.rf
  have hl : lv_has ls 8 [(0, .ref (ad (1000))), (1, .int (a0)), (2, .int (a1)), (3, .int (a2)), (4, .int (a3))] := hl
  refine lv_aload_n hx hb dX10_dusty_0 rfl (lv_at hl 0 rfl) ?_
  refine lv_iload_n hx hb dX10_dusty_1 rfl (lv_at hl 1 rfl) ?_
  refine m_calli (m_runV (1000) (As := [.int (a0)]) (rest := []) hx hb hml hown hts hE hM hS hA ce_X10_isBright tb_1698 (V_X10_isBright l D A ad ns I L G (a0) hJ hI) rfl rfl ⟨Nat.le_of_ble_eq_true rfl, Nat.le_of_ble_eq_true rfl⟩ hJ.1 rfl rfl (by decide) rfl hl.1 rfl (Nat.le_of_ble_eq_true rfl) dX10_dusty_2 ⟨Nat.le_of_ble_eq_true rfl, Nat.le_of_ble_eq_true rfl⟩) hS (fun r1 u H locs hw hM hS => ?_)
  obtain ⟨rfl, xr1⟩ := hw
  have hM : Mem D A ad ns I L G H := hM
  refine lv_if_eq (tgt := 37) hx hb dX10_dusty_5 (by decide) (fun c2 => ?_) (fun c2 => ?_)
  · have hc2 := c2
    have q2 := q_eq hc2
    refine lv_iconst (v := (-1)) hx hb dX10_dusty_37 (by decide) ?_
    exact m_iret hx hb hr hlocks hM hS (Nat.le_of_ble_eq_true rfl) (Nat.le_of_ble_eq_true rfl) ⟨_, _, rfl, hI, hK⟩ dX10_dusty_38
  · have hc2 := c2
    have q2 := q_ne hc2
    refine lv_aload_n hx hb dX10_dusty_8 rfl (lv_at hl 0 rfl) ?_
    refine lv_iload_n hx hb dX10_dusty_9 rfl (lv_at hl 2 rfl) ?_
    refine m_calli (m_runV (1000) (As := [.int (a1)]) (rest := []) hx hb hml hown hts hE hM hS hA ce_X10_isMirror tb_1462 (V_X10_isMirror l D A ad ns I L G (a1) hJ hI) rfl rfl ⟨Nat.le_of_ble_eq_true rfl, Nat.le_of_ble_eq_true rfl⟩ hJ.1 rfl rfl (by decide) rfl hl.1 rfl (Nat.le_of_ble_eq_true rfl) dX10_dusty_10 ⟨Nat.le_of_ble_eq_true rfl, Nat.le_of_ble_eq_true rfl⟩) hS (fun r3 u H locs hw hM hS => ?_)
    obtain ⟨rfl, xr3⟩ := hw
    have hM : Mem D A ad ns I L G H := hM
    have yr3 := bo01 xr3
    have g4 := hI.get 1001 8 (lo := 0) (hi := 24) rfl
    refine lv_if_eq (tgt := 37) hx hb dX10_dusty_13 (by decide) (fun c5 => ?_) (fun c5 => ?_)
    · have hc5 := c5
      have q5 := xr3.f hc5
      refine lv_iconst (v := (-1)) hx hb dX10_dusty_37 (by decide) ?_
      exact m_iret hx hb hr hlocks hM hS (Nat.le_of_ble_eq_true rfl) (Nat.le_of_ble_eq_true rfl) ⟨_, _, rfl, hI, hK⟩ dX10_dusty_38
    · have hc5 := c5
      have q5 := xr3.t hc5
      refine lv_aload_n hx hb dX10_dusty_16 rfl (lv_at hl 0 rfl) ?_
      refine lv_iload_n hx hb dX10_dusty_17 rfl (lv_at hl 3 rfl) ?_
      refine m_calli (m_runV (1000) (As := [.int (a2)]) (rest := []) hx hb hml hown hts hE hM hS hA ce_X10_isYard tb_1686 (V_X10_isYard l D A ad ns I L G (a2) hJ hI) rfl rfl ⟨Nat.le_of_ble_eq_true rfl, Nat.le_of_ble_eq_true rfl⟩ hJ.1 rfl rfl (by decide) rfl hl.1 rfl (Nat.le_of_ble_eq_true rfl) dX10_dusty_18 ⟨Nat.le_of_ble_eq_true rfl, Nat.le_of_ble_eq_true rfl⟩) hS (fun r6 u H locs hw hM hS => ?_)
      obtain ⟨rfl, xr6⟩ := hw
      have hM : Mem D A ad ns I L G H := hM
      have yr6 := bo01 xr6
      have g7 := hI.get 1001 9 (lo := 0) (hi := 8) rfl
      refine lv_if_eq (tgt := 37) hx hb dX10_dusty_21 (by decide) (fun c8 => ?_) (fun c8 => ?_)
      · have hc8 := c8
        have q8 := xr6.f hc8
        refine lv_iconst (v := (-1)) hx hb dX10_dusty_37 (by decide) ?_
        exact m_iret hx hb hr hlocks hM hS (Nat.le_of_ble_eq_true rfl) (Nat.le_of_ble_eq_true rfl) ⟨_, _, rfl, hI, hK⟩ dX10_dusty_38
      · have hc8 := c8
        have q8 := xr6.t hc8
        refine lv_iload hx hb dX10_dusty_24 (lv_at hl 4 rfl) ?_
        refine lv_i2l hx hb dX10_dusty_26 rfl ?_
        refine lv_topl (fun v9 ev9 => ?_)
        have tv9 := q_i2l ev9
        refine lv_lconst (v := 0) hx hb dX10_dusty_27 (by decide) ?_
        refine lv_ldc2 (v := (9999999)) hx hb hown (hts _ tb_1472) dX10_dusty_28 ?_
        refine m_calli (m_runS (As := [.long (v9), .long (0), .long ((9999999 : Int64))]) (rest := []) hx hb hml hown hts hE hM hS hA ce_X10_in tb_1425 (V_X10_in l D A ad ns I L G (v9) (0) ((9999999 : Int64)) hI) rfl rfl ⟨Nat.le_of_ble_eq_true rfl, Nat.le_of_ble_eq_true rfl⟩  rfl hl.1 rfl (Nat.le_of_ble_eq_true rfl) dX10_dusty_31 ⟨Nat.le_of_ble_eq_true rfl, Nat.le_of_ble_eq_true rfl⟩) hS (fun r10 u H locs hw hM hS => ?_)
        obtain ⟨rfl, xr10⟩ := hw
        have hM : Mem D A ad ns I L G H := hM
        have yr10 := bo01 xr10
        refine lv_if_ne (tgt := 39) hx hb dX10_dusty_34 (by decide) (fun c11 => ?_) (fun c11 => ?_)
        · have hc11 := c11
          have q11 := xr10.t hc11
          refine lv_aload_n hx hb dX10_dusty_39 rfl (lv_at hl 0 rfl) ?_
          refine m_getr (1000) 14 (1014) hx hb hts hown hE oc10 hM hJ.1 rfl (by decide) rfl (hJ.2 14 (by decide)).2 (by decide) tb_1191 dX10_dusty_40 ?_
          refine lv_iload_n hx hb dX10_dusty_43 rfl (lv_at hl 2 rfl) ?_
          refine m_iald (1014) hx hb hE hM (hJ.2 14 (by decide)).1 rfl (vp_in_iff.mpr (by omega)) dX10_dusty_44 ?_
          refine lv_istore (lv' := [(5, .int (I (1014) (a1).toNatClampNeg)), (0, .ref (ad (1000))), (1, .int (a0)), (2, .int (a1)), (3, .int (a2)), (4, .int (a3))]) hx hb dX10_dusty_45 hl (by decide) rfl (fun ls hl => ?_)
          refine lv_bipush (v := (-2)) hx hb dX10_dusty_47 (by decide) ?_
          refine lv_istore (lv' := [(6, .int ((-2 : Int32))), (5, .int (I (1014) (a1).toNatClampNeg)), (0, .ref (ad (1000))), (1, .int (a0)), (2, .int (a1)), (3, .int (a2)), (4, .int (a3))]) hx hb dX10_dusty_49 hl (by decide) rfl (fun ls hl => ?_)
          refine lv_iconst (v := (0)) hx hb dX10_dusty_51 (by decide) ?_
          refine lv_istore (lv' := [(7, .int (0)), (6, .int ((-2 : Int32))), (5, .int (I (1014) (a1).toNatClampNeg)), (0, .ref (ad (1000))), (1, .int (a0)), (2, .int (a1)), (3, .int (a2)), (4, .int (a3))]) hx hb dX10_dusty_52 hl (by decide) rfl (fun ls hl => ?_)
          have loop54 : ∀ (n : Nat) (x7_54 : Int32) (x6_54 : Int32) (Ia54 : MI) (La54 : ML) (H : Heap) (locs : List Loc) (ls : Array Slot), INV Ia54 → Kp [(1014, 1015), (1045, 1051), (1058, 1059), (1061, 1063)] [(1000, 51), (1000, 52), (1000, 53), (1000, 54), (1000, 55), (1000, 56), (1000, 59), (1000, 63)] I Ia54 → (0 ≤ x7_54.toInt ∧ x7_54.toInt ≤ 1001) → (1001 - x7_54.toInt).toNat < n → Mem D A ad ns Ia54 La54 G H → va_S A s.heap H locs → lv_has ls 8 [(7, .int (x7_54)), (6, .int (x6_54)), (5, .int (I (1014) (a1).toNatClampNeg)), (0, .ref (ad (1000))), (1, .int (a0)), (2, .int (a1)), (3, .int (a2)), (4, .int (a3))] → W p l e ({ frames := 5, cells := 0, slots := 0, locals := 128 } : Room) s m args below meth c H locs 0 0 (MQ below (va_Qi (fun r u => ∃ I2 L2, u = (ad, ns, I2, L2, G) ∧ INV I2 ∧ Kp [(1014, 1015), (1045, 1051), (1058, 1059), (1061, 1063)] [(1000, 51), (1000, 52), (1000, 53), (1000, 54), (1000, 55), (1000, 56), (1000, 59), (1000, 63)] I I2) (BM D A) A) args s 0 0 A) (F0 m 54 ls []) := by
            intro n
            induction n with
            | zero =>
              intro x7_54 x6_54 Ia54 La54 H locs ls hI hK hr7_54 hmu
              exact absurd hmu (Nat.not_lt_zero _)
            | succ n ih54 =>
              intro x7_54 x6_54 Ia54 La54 H locs ls hI hK hr7_54 hmu54 hM hS hl
              refine lv_iload hx hb dX10_dusty_54 (lv_at hl 0 rfl) ?_
              refine lv_sipush (v := (1000)) hx hb dX10_dusty_56 (by decide) ?_
              refine lv_icmp_gt (tgt := 108) hx hb dX10_dusty_59 (by decide) (fun c12 => ?_) (fun c12 => ?_)
              · have hc12 := c12
                have q12 := q_lt hc12
                refine lv_aload_n hx hb dX10_dusty_108 rfl (lv_at hl 3 rfl) ?_
                refine m_getr (1000) 14 (1014) hx hb hts hown hE oc10 hM hJ.1 rfl (by decide) rfl (hJ.2 14 (by decide)).2 (by decide) tb_1191 dX10_dusty_109 ?_
                refine lv_iload_n hx hb dX10_dusty_112 rfl (lv_at hl 5 rfl) ?_
                refine lv_iload hx hb dX10_dusty_113 (lv_at hl 2 rfl) ?_
                refine m_iast (1014) hx hb hE hM hS (hJ.2 14 (by decide)).1 rfl (vp_in_iff.mpr (by omega)) dX10_dusty_115 (fun H locs I13 eI13 hM hS => ?_)
                subst eI13
                have hI := hI.putF (n := 1014) (k := ((a1).toNatClampNeg)) (v := I (1014) (a1).toNatClampNeg) rfl
                have hK := hK.put (n := 1014) (k := ((a1).toNatClampNeg)) (v := I (1014) (a1).toNatClampNeg) (by first | rfl | simp [inR])
                refine lv_iload hx hb dX10_dusty_116 (lv_at hl 1 rfl) ?_
                exact m_iret hx hb hr hlocks hM hS (Nat.le_of_ble_eq_true rfl) (Nat.le_of_ble_eq_true rfl) ⟨_, _, rfl, hI, hK⟩ dX10_dusty_118
              · have hc12 := c12
                have q12 := q_nlt hc12
                refine lv_iload hx hb dX10_dusty_62 (lv_at hl 1 rfl) ?_
                refine lv_bipush (v := (-2)) hx hb dX10_dusty_64 (by decide) ?_
                refine lv_icmp_ne (tgt := 108) hx hb dX10_dusty_66 (by decide) (fun c14 => ?_) (fun c14 => ?_)
                · have hc14 := c14
                  have q14 := q_ne hc14
                  refine lv_aload_n hx hb dX10_dusty_108 rfl (lv_at hl 3 rfl) ?_
                  refine m_getr (1000) 14 (1014) hx hb hts hown hE oc10 hM hJ.1 rfl (by decide) rfl (hJ.2 14 (by decide)).2 (by decide) tb_1191 dX10_dusty_109 ?_
                  refine lv_iload_n hx hb dX10_dusty_112 rfl (lv_at hl 5 rfl) ?_
                  refine lv_iload hx hb dX10_dusty_113 (lv_at hl 2 rfl) ?_
                  refine m_iast (1014) hx hb hE hM hS (hJ.2 14 (by decide)).1 rfl (vp_in_iff.mpr (by omega)) dX10_dusty_115 (fun H locs I15 eI15 hM hS => ?_)
                  subst eI15
                  have hI := hI.putF (n := 1014) (k := ((a1).toNatClampNeg)) (v := I (1014) (a1).toNatClampNeg) rfl
                  have hK := hK.put (n := 1014) (k := ((a1).toNatClampNeg)) (v := I (1014) (a1).toNatClampNeg) (by first | rfl | simp [inR])
                  refine lv_iload hx hb dX10_dusty_116 (lv_at hl 1 rfl) ?_
                  exact m_iret hx hb hr hlocks hM hS (Nat.le_of_ble_eq_true rfl) (Nat.le_of_ble_eq_true rfl) ⟨_, _, rfl, hI, hK⟩ dX10_dusty_118
                · have hc14 := c14
                  have q14 := q_eq hc14
                  refine lv_aload_n hx hb dX10_dusty_69 rfl (lv_at hl 3 rfl) ?_
                  refine m_getr (1000) 14 (1014) hx hb hts hown hE oc10 hM hJ.1 rfl (by decide) rfl (hJ.2 14 (by decide)).2 (by decide) tb_1191 dX10_dusty_70 ?_
                  refine lv_iload_n hx hb dX10_dusty_73 rfl (lv_at hl 5 rfl) ?_
                  refine lv_iload hx hb dX10_dusty_74 (lv_at hl 0 rfl) ?_
                  refine m_iast (1014) hx hb hE hM hS (hJ.2 14 (by decide)).1 rfl (vp_in_iff.mpr (by omega)) dX10_dusty_76 (fun H locs I16 eI16 hM hS => ?_)
                  subst eI16
                  have hI := hI.putF (n := 1014) (k := ((a1).toNatClampNeg)) (v := x7_54) rfl
                  have hK := hK.put (n := 1014) (k := ((a1).toNatClampNeg)) (v := x7_54) (by first | rfl | simp [inR])
                  refine lv_aload_n hx hb dX10_dusty_77 rfl (lv_at hl 3 rfl) ?_
                  refine lv_iload_n hx hb dX10_dusty_78 rfl (lv_at hl 4 rfl) ?_
                  refine m_callv (m_runV (1000) (As := [.int (a0)]) (rest := []) hx hb hml hown hts hE hM hS hA ce_X10_shines tb_1640 (V_X10_shines l D A ad ns (u2 Ia54 (1014) ((a1).toNatClampNeg) (x7_54)) La54 G (a0) hJ hI (by first | omega | decide)) rfl rfl ⟨Nat.le_of_ble_eq_true rfl, Nat.le_of_ble_eq_true rfl⟩ hJ.1 rfl rfl (by decide) rfl hl.1 rfl (Nat.le_of_ble_eq_true rfl) dX10_dusty_79 ⟨Nat.le_of_ble_eq_true rfl, Nat.le_of_ble_eq_true rfl⟩) hS (fun u H locs hw hM hS => ?_)
                  obtain ⟨I17, L18, rfl, hI, hkI17⟩ := hw
                  have hM : Mem D A ad ns I17 L18 G H := hM
                  have hK := hK.trans hkI17 rfl
                  refine lv_aload_n hx hb dX10_dusty_82 rfl (lv_at hl 3 rfl) ?_
                  refine m_getr (1000) 50 (1050) hx hb hts hown hE oc10 hM hJ.1 rfl (by decide) rfl (hJ.2 50 (by decide)).2 (by decide) tb_1227 dX10_dusty_83 ?_
                  refine lv_iload_n hx hb dX10_dusty_86 rfl (lv_at hl 6 rfl) ?_
                  refine m_iald (1050) hx hb hE hM (hJ.2 50 (by decide)).1 rfl (vp_in_iff.mpr (by omega)) dX10_dusty_87 ?_
                  refine lv_iload hx hb dX10_dusty_88 (lv_at hl 7 rfl) ?_
                  refine lv_icmp_gt (tgt := 98) hx hb dX10_dusty_90 (by decide) (fun c19 => ?_) (fun c19 => ?_)
                  · have hc19 := c19
                    have q19 := q_lt hc19
                    refine lv_bipush (v := (-2)) hx hb dX10_dusty_98 (by decide) ?_
                    refine lv_istore (lv' := [(6, .int ((-2 : Int32))), (7, .int (x7_54)), (5, .int (I (1014) (a1).toNatClampNeg)), (0, .ref (ad (1000))), (1, .int (a0)), (2, .int (a1)), (3, .int (a2)), (4, .int (a3))]) hx hb dX10_dusty_100 hl (by decide) rfl (fun ls hl => ?_)
                    obtain ⟨v20, ev20⟩ : ∃ z : Int32, z = x7_54 + Int32.ofInt (1) := ⟨_, rfl⟩
                    have tv20 := a_inc ev20 (by decide) (by omega) (by omega)
                    refine lv_iinc (v := v20) (lv' := [(7, .int (v20)), (6, .int ((-2 : Int32))), (5, .int (I (1014) (a1).toNatClampNeg)), (0, .ref (ad (1000))), (1, .int (a0)), (2, .int (a1)), (3, .int (a2)), (4, .int (a3))]) hx hb dX10_dusty_102 hl (k := 1) rfl ev20.symm (by decide) rfl (fun ls hl => ?_)
                    refine lv_goto (tgt := 54) hx hb dX10_dusty_105 (by decide) ?_
                    exact ih54 (v20) ((-2 : Int32)) I17 L18 _ _ ls hI hK (by first | omega | decide) (by omega) hM hS (lv_sub hl [0, 1, 2, 3, 4, 5, 6, 7] rfl)
                  · have hc19 := c19
                    have q19 := q_nlt hc19
                    refine lv_iload hx hb dX10_dusty_93 (lv_at hl 0 rfl) ?_
                    refine lv_goto (tgt := 100) hx hb dX10_dusty_95 (by decide) ?_
                    refine lv_istore (lv' := [(6, .int (x7_54)), (7, .int (x7_54)), (5, .int (I (1014) (a1).toNatClampNeg)), (0, .ref (ad (1000))), (1, .int (a0)), (2, .int (a1)), (3, .int (a2)), (4, .int (a3))]) hx hb dX10_dusty_100 hl (by decide) rfl (fun ls hl => ?_)
                    obtain ⟨v21, ev21⟩ : ∃ z : Int32, z = x7_54 + Int32.ofInt (1) := ⟨_, rfl⟩
                    have tv21 := a_inc ev21 (by decide) (by omega) (by omega)
                    refine lv_iinc (v := v21) (lv' := [(7, .int (v21)), (6, .int (x7_54)), (5, .int (I (1014) (a1).toNatClampNeg)), (0, .ref (ad (1000))), (1, .int (a0)), (2, .int (a1)), (3, .int (a2)), (4, .int (a3))]) hx hb dX10_dusty_102 hl (k := 1) rfl ev21.symm (by decide) rfl (fun ls hl => ?_)
                    refine lv_goto (tgt := 54) hx hb dX10_dusty_105 (by decide) ?_
                    exact ih54 (v21) (x7_54) I17 L18 _ _ ls hI hK (by first | omega | decide) (by omega) hM hS (lv_sub hl [0, 1, 2, 3, 4, 5, 6, 7] rfl)
          exact loop54 (_ + 1) (0) ((-2 : Int32)) I L _ _ ls hI hK (by first | omega | decide) (Nat.lt_succ_self _) hM hS (lv_sub hl [0, 1, 2, 3, 4, 5, 6, 7] rfl)
        · have hc11 := c11
          have q11 := xr10.f hc11
          refine lv_iconst (v := (-1)) hx hb dX10_dusty_37 (by decide) ?_
          exact m_iret hx hb hr hlocks hM hS (Nat.le_of_ble_eq_true rfl) (Nat.le_of_ble_eq_true rfl) ⟨_, _, rfl, hI, hK⟩ dX10_dusty_38
theorem dX10_keeps_0 : decode cX10_keeps 0 = .ok (.aload_n 0, 1) := by decide +kernel
theorem dX10_keeps_1 : decode cX10_keeps 1 = .ok (.getfield 34, 3) := by decide +kernel
theorem dX10_keeps_4 : decode cX10_keeps 4 = .ok (.aload_n 0, 1) := by decide +kernel
theorem dX10_keeps_5 : decode cX10_keeps 5 = .ok (.getfield 158, 3) := by decide +kernel
theorem dX10_keeps_8 : decode cX10_keeps 8 = .ok (.invokestatic 483, 3) := by decide +kernel
theorem dX10_keeps_11 : decode cX10_keeps 11 = .ok (.aload_n 0, 1) := by decide +kernel
theorem dX10_keeps_12 : decode cX10_keeps 12 = .ok (.getfield 49, 3) := by decide +kernel
theorem dX10_keeps_15 : decode cX10_keeps 15 = .ok (.aload_n 0, 1) := by decide +kernel
theorem dX10_keeps_16 : decode cX10_keeps 16 = .ok (.getfield 164, 3) := by decide +kernel
theorem dX10_keeps_19 : decode cX10_keeps 19 = .ok (.invokestatic 483, 3) := by decide +kernel
theorem dX10_keeps_22 : decode cX10_keeps 22 = .ok (.aload_n 0, 1) := by decide +kernel
theorem dX10_keeps_23 : decode cX10_keeps 23 = .ok (.getfield 76, 3) := by decide +kernel
theorem dX10_keeps_26 : decode cX10_keeps 26 = .ok (.aload_n 0, 1) := by decide +kernel
theorem dX10_keeps_27 : decode cX10_keeps 27 = .ok (.getfield 167, 3) := by decide +kernel
theorem dX10_keeps_30 : decode cX10_keeps 30 = .ok (.invokestatic 483, 3) := by decide +kernel
theorem dX10_keeps_33 : decode cX10_keeps 33 = .ok (.aload_n 0, 1) := by decide +kernel
theorem dX10_keeps_34 : decode cX10_keeps 34 = .ok (.aload_n 0, 1) := by decide +kernel
theorem dX10_keeps_35 : decode cX10_keeps 35 = .ok (.getfield 7, 3) := by decide +kernel
theorem dX10_keeps_38 : decode cX10_keeps 38 = .ok (.bipush 6, 2) := by decide +kernel
theorem dX10_keeps_40 : decode cX10_keeps 40 = .ok (.iaload, 1) := by decide +kernel
theorem dX10_keeps_41 : decode cX10_keeps 41 = .ok (.putfield 526, 3) := by decide +kernel
theorem dX10_keeps_44 : decode cX10_keeps 44 = .ok (.aload_n 0, 1) := by decide +kernel
theorem dX10_keeps_45 : decode cX10_keeps 45 = .ok (.aload_n 0, 1) := by decide +kernel
theorem dX10_keeps_46 : decode cX10_keeps 46 = .ok (.getfield 7, 3) := by decide +kernel
theorem dX10_keeps_49 : decode cX10_keeps 49 = .ok (.iconst 5, 1) := by decide +kernel
theorem dX10_keeps_50 : decode cX10_keeps 50 = .ok (.iaload, 1) := by decide +kernel
theorem dX10_keeps_51 : decode cX10_keeps 51 = .ok (.putfield 529, 3) := by decide +kernel
theorem dX10_keeps_54 : decode cX10_keeps 54 = .ok (.return_, 1) := by decide +kernel
theorem ce_X10_keeps : CeV RX10 yX10_keeps cX10_keeps 1 none 0 := ⟨tb_1808, tp_107, tb_11, tb_1809, rfl, by decide, by decide, by decide +kernel⟩
theorem dX10_putsBack_0 : decode cX10_putsBack 0 = .ok (.aload_n 0, 1) := by decide +kernel
theorem dX10_putsBack_1 : decode cX10_putsBack 1 = .ok (.getfield 158, 3) := by decide +kernel
theorem dX10_putsBack_4 : decode cX10_putsBack 4 = .ok (.aload_n 0, 1) := by decide +kernel
theorem dX10_putsBack_5 : decode cX10_putsBack 5 = .ok (.getfield 34, 3) := by decide +kernel
theorem dX10_putsBack_8 : decode cX10_putsBack 8 = .ok (.invokestatic 483, 3) := by decide +kernel
theorem dX10_putsBack_11 : decode cX10_putsBack 11 = .ok (.aload_n 0, 1) := by decide +kernel
theorem dX10_putsBack_12 : decode cX10_putsBack 12 = .ok (.getfield 164, 3) := by decide +kernel
theorem dX10_putsBack_15 : decode cX10_putsBack 15 = .ok (.aload_n 0, 1) := by decide +kernel
theorem dX10_putsBack_16 : decode cX10_putsBack 16 = .ok (.getfield 49, 3) := by decide +kernel
theorem dX10_putsBack_19 : decode cX10_putsBack 19 = .ok (.invokestatic 483, 3) := by decide +kernel
theorem dX10_putsBack_22 : decode cX10_putsBack 22 = .ok (.aload_n 0, 1) := by decide +kernel
theorem dX10_putsBack_23 : decode cX10_putsBack 23 = .ok (.getfield 167, 3) := by decide +kernel
theorem dX10_putsBack_26 : decode cX10_putsBack 26 = .ok (.aload_n 0, 1) := by decide +kernel
theorem dX10_putsBack_27 : decode cX10_putsBack 27 = .ok (.getfield 76, 3) := by decide +kernel
theorem dX10_putsBack_30 : decode cX10_putsBack 30 = .ok (.invokestatic 483, 3) := by decide +kernel
theorem dX10_putsBack_33 : decode cX10_putsBack 33 = .ok (.aload_n 0, 1) := by decide +kernel
theorem dX10_putsBack_34 : decode cX10_putsBack 34 = .ok (.getfield 7, 3) := by decide +kernel
theorem dX10_putsBack_37 : decode cX10_putsBack 37 = .ok (.bipush 6, 2) := by decide +kernel
theorem dX10_putsBack_39 : decode cX10_putsBack 39 = .ok (.aload_n 0, 1) := by decide +kernel
theorem dX10_putsBack_40 : decode cX10_putsBack 40 = .ok (.getfield 526, 3) := by decide +kernel
theorem dX10_putsBack_43 : decode cX10_putsBack 43 = .ok (.iastore, 1) := by decide +kernel
theorem dX10_putsBack_44 : decode cX10_putsBack 44 = .ok (.aload_n 0, 1) := by decide +kernel
theorem dX10_putsBack_45 : decode cX10_putsBack 45 = .ok (.getfield 7, 3) := by decide +kernel
theorem dX10_putsBack_48 : decode cX10_putsBack 48 = .ok (.iconst 5, 1) := by decide +kernel
theorem dX10_putsBack_49 : decode cX10_putsBack 49 = .ok (.aload_n 0, 1) := by decide +kernel
theorem dX10_putsBack_50 : decode cX10_putsBack 50 = .ok (.getfield 529, 3) := by decide +kernel
theorem dX10_putsBack_53 : decode cX10_putsBack 53 = .ok (.iastore, 1) := by decide +kernel
theorem dX10_putsBack_54 : decode cX10_putsBack 54 = .ok (.return_, 1) := by decide +kernel
theorem ce_X10_putsBack : CeV RX10 yX10_putsBack cX10_putsBack 1 none 0 := ⟨tb_1812, tp_108, tb_11, tb_1813, rfl, by decide, by decide, by decide +kernel⟩
