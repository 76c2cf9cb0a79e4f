theorem dX2_gotByYard_0 : decode cX2_gotByYard 0 = .ok (.iload_n 1, 1) := by decide +kernel
theorem dX2_gotByYard_1 : decode cX2_gotByYard 1 = .ok (.iconst 0, 1) := by decide +kernel
theorem dX2_gotByYard_2 : decode cX2_gotByYard 2 = .ok (.bipush 7, 2) := by decide +kernel
theorem dX2_gotByYard_4 : decode cX2_gotByYard 4 = .ok (.invokestatic 131, 3) := by decide +kernel
theorem dX2_gotByYard_7 : decode cX2_gotByYard 7 = .ok (.ifCond .eq 13, 3) := by decide +kernel
theorem dX2_gotByYard_10 : decode cX2_gotByYard 10 = .ok (.aload_n 0, 1) := by decide +kernel
theorem dX2_gotByYard_11 : decode cX2_gotByYard 11 = .ok (.getfield 9, 3) := by decide +kernel
theorem dX2_gotByYard_14 : decode cX2_gotByYard 14 = .ok (.iload_n 1, 1) := by decide +kernel
theorem dX2_gotByYard_15 : decode cX2_gotByYard 15 = .ok (.iaload, 1) := by decide +kernel
theorem dX2_gotByYard_16 : decode cX2_gotByYard 16 = .ok (.i2l, 1) := by decide +kernel
theorem dX2_gotByYard_17 : decode cX2_gotByYard 17 = .ok (.goto 4, 3) := by decide +kernel
theorem dX2_gotByYard_20 : decode cX2_gotByYard 20 = .ok (.lconst 0, 1) := by decide +kernel
theorem dX2_gotByYard_21 : decode cX2_gotByYard 21 = .ok (.lreturn, 1) := by decide +kernel
theorem ce_X2_gotByYard : CeV RX2 yX2_gotByYard cX2_gotByYard 2 (some .long) 1 := ⟨tb_778, tp_27, tb_4, tb_779, rfl, by decide, by decide, by decide +kernel⟩
theorem dX2_joinTruth_0 : decode cX2_joinTruth 0 = .ok (.iload_n 0, 1) := by decide +kernel
theorem dX2_joinTruth_1 : decode cX2_joinTruth 1 = .ok (.tableswitch 117 (-24) (-19) #[99, 87, 75, 63, 51, 39], 39) := by decide +kernel
theorem dX2_joinTruth_40 : decode cX2_joinTruth 40 = .ok (.lload_n 1, 1) := by decide +kernel
theorem dX2_joinTruth_41 : decode cX2_joinTruth 41 = .ok (.lload_n 3, 1) := by decide +kernel
theorem dX2_joinTruth_42 : decode cX2_joinTruth 42 = .ok (.lcmp, 1) := by decide +kernel
theorem dX2_joinTruth_43 : decode cX2_joinTruth 43 = .ok (.ifCond .ge 7, 3) := by decide +kernel
theorem dX2_joinTruth_46 : decode cX2_joinTruth 46 = .ok (.iconst 1, 1) := by decide +kernel
theorem dX2_joinTruth_47 : decode cX2_joinTruth 47 = .ok (.goto 4, 3) := by decide +kernel
theorem dX2_joinTruth_50 : decode cX2_joinTruth 50 = .ok (.iconst 0, 1) := by decide +kernel
theorem dX2_joinTruth_51 : decode cX2_joinTruth 51 = .ok (.ireturn, 1) := by decide +kernel
theorem dX2_joinTruth_52 : decode cX2_joinTruth 52 = .ok (.lload_n 1, 1) := by decide +kernel
theorem dX2_joinTruth_53 : decode cX2_joinTruth 53 = .ok (.lload_n 3, 1) := by decide +kernel
theorem dX2_joinTruth_54 : decode cX2_joinTruth 54 = .ok (.lcmp, 1) := by decide +kernel
theorem dX2_joinTruth_55 : decode cX2_joinTruth 55 = .ok (.ifCond .gt 7, 3) := by decide +kernel
theorem dX2_joinTruth_58 : decode cX2_joinTruth 58 = .ok (.iconst 1, 1) := by decide +kernel
theorem dX2_joinTruth_59 : decode cX2_joinTruth 59 = .ok (.goto 4, 3) := by decide +kernel
theorem dX2_joinTruth_62 : decode cX2_joinTruth 62 = .ok (.iconst 0, 1) := by decide +kernel
theorem dX2_joinTruth_63 : decode cX2_joinTruth 63 = .ok (.ireturn, 1) := by decide +kernel
theorem dX2_joinTruth_64 : decode cX2_joinTruth 64 = .ok (.lload_n 1, 1) := by decide +kernel
theorem dX2_joinTruth_65 : decode cX2_joinTruth 65 = .ok (.lload_n 3, 1) := by decide +kernel
theorem dX2_joinTruth_66 : decode cX2_joinTruth 66 = .ok (.lcmp, 1) := by decide +kernel
theorem dX2_joinTruth_67 : decode cX2_joinTruth 67 = .ok (.ifCond .ne 7, 3) := by decide +kernel
theorem dX2_joinTruth_70 : decode cX2_joinTruth 70 = .ok (.iconst 1, 1) := by decide +kernel
theorem dX2_joinTruth_71 : decode cX2_joinTruth 71 = .ok (.goto 4, 3) := by decide +kernel
theorem dX2_joinTruth_74 : decode cX2_joinTruth 74 = .ok (.iconst 0, 1) := by decide +kernel
theorem dX2_joinTruth_75 : decode cX2_joinTruth 75 = .ok (.ireturn, 1) := by decide +kernel
theorem dX2_joinTruth_76 : decode cX2_joinTruth 76 = .ok (.lload_n 1, 1) := by decide +kernel
theorem dX2_joinTruth_77 : decode cX2_joinTruth 77 = .ok (.lload_n 3, 1) := by decide +kernel
theorem dX2_joinTruth_78 : decode cX2_joinTruth 78 = .ok (.lcmp, 1) := by decide +kernel
theorem dX2_joinTruth_79 : decode cX2_joinTruth 79 = .ok (.ifCond .lt 7, 3) := by decide +kernel
theorem dX2_joinTruth_82 : decode cX2_joinTruth 82 = .ok (.iconst 1, 1) := by decide +kernel
theorem dX2_joinTruth_83 : decode cX2_joinTruth 83 = .ok (.goto 4, 3) := by decide +kernel
theorem dX2_joinTruth_86 : decode cX2_joinTruth 86 = .ok (.iconst 0, 1) := by decide +kernel
theorem dX2_joinTruth_87 : decode cX2_joinTruth 87 = .ok (.ireturn, 1) := by decide +kernel
theorem dX2_joinTruth_88 : decode cX2_joinTruth 88 = .ok (.lload_n 1, 1) := by decide +kernel
theorem dX2_joinTruth_89 : decode cX2_joinTruth 89 = .ok (.lload_n 3, 1) := by decide +kernel
theorem dX2_joinTruth_90 : decode cX2_joinTruth 90 = .ok (.lcmp, 1) := by decide +kernel
theorem dX2_joinTruth_91 : decode cX2_joinTruth 91 = .ok (.ifCond .le 7, 3) := by decide +kernel
theorem dX2_joinTruth_94 : decode cX2_joinTruth 94 = .ok (.iconst 1, 1) := by decide +kernel
theorem dX2_joinTruth_95 : decode cX2_joinTruth 95 = .ok (.goto 4, 3) := by decide +kernel
theorem dX2_joinTruth_98 : decode cX2_joinTruth 98 = .ok (.iconst 0, 1) := by decide +kernel
theorem dX2_joinTruth_99 : decode cX2_joinTruth 99 = .ok (.ireturn, 1) := by decide +kernel
theorem dX2_joinTruth_100 : decode cX2_joinTruth 100 = .ok (.lload_n 1, 1) := by decide +kernel
theorem dX2_joinTruth_101 : decode cX2_joinTruth 101 = .ok (.lconst 0, 1) := by decide +kernel
theorem dX2_joinTruth_102 : decode cX2_joinTruth 102 = .ok (.lcmp, 1) := by decide +kernel
theorem dX2_joinTruth_103 : decode cX2_joinTruth 103 = .ok (.ifCond .eq 13, 3) := by decide +kernel
theorem dX2_joinTruth_106 : decode cX2_joinTruth 106 = .ok (.lload_n 3, 1) := by decide +kernel
theorem dX2_joinTruth_107 : decode cX2_joinTruth 107 = .ok (.lconst 0, 1) := by decide +kernel
theorem dX2_joinTruth_108 : decode cX2_joinTruth 108 = .ok (.lcmp, 1) := by decide +kernel
theorem dX2_joinTruth_109 : decode cX2_joinTruth 109 = .ok (.ifCond .eq 7, 3) := by decide +kernel
theorem dX2_joinTruth_112 : decode cX2_joinTruth 112 = .ok (.iconst 1, 1) := by decide +kernel
theorem dX2_joinTruth_113 : decode cX2_joinTruth 113 = .ok (.goto 4, 3) := by decide +kernel
theorem dX2_joinTruth_116 : decode cX2_joinTruth 116 = .ok (.iconst 0, 1) := by decide +kernel
theorem dX2_joinTruth_117 : decode cX2_joinTruth 117 = .ok (.ireturn, 1) := by decide +kernel
theorem dX2_joinTruth_118 : decode cX2_joinTruth 118 = .ok (.lload_n 1, 1) := by decide +kernel
theorem dX2_joinTruth_119 : decode cX2_joinTruth 119 = .ok (.lconst 0, 1) := by decide +kernel
theorem dX2_joinTruth_120 : decode cX2_joinTruth 120 = .ok (.lcmp, 1) := by decide +kernel
theorem dX2_joinTruth_121 : decode cX2_joinTruth 121 = .ok (.ifCond .ne 9, 3) := by decide +kernel
theorem dX2_joinTruth_124 : decode cX2_joinTruth 124 = .ok (.lload_n 3, 1) := by decide +kernel
theorem dX2_joinTruth_125 : decode cX2_joinTruth 125 = .ok (.lconst 0, 1) := by decide +kernel
theorem dX2_joinTruth_126 : decode cX2_joinTruth 126 = .ok (.lcmp, 1) := by decide +kernel
theorem dX2_joinTruth_127 : decode cX2_joinTruth 127 = .ok (.ifCond .eq 7, 3) := by decide +kernel
theorem dX2_joinTruth_130 : decode cX2_joinTruth 130 = .ok (.iconst 1, 1) := by decide +kernel
theorem dX2_joinTruth_131 : decode cX2_joinTruth 131 = .ok (.goto 4, 3) := by decide +kernel
theorem dX2_joinTruth_134 : decode cX2_joinTruth 134 = .ok (.iconst 0, 1) := by decide +kernel
theorem dX2_joinTruth_135 : decode cX2_joinTruth 135 = .ok (.ireturn, 1) := by decide +kernel
theorem ce_X2_joinTruth : CeS yX2_joinTruth cX2_joinTruth 5 (some .boolean) 3 := ⟨tb_785, tb_4, tb_786, by decide, by decide, by decide +kernel⟩
theorem dX2_join_0 : decode cX2_join 0 = .ok (.iload_n 0, 1) := by decide +kernel
theorem dX2_join_1 : decode cX2_join 1 = .ok (.tableswitch 57 (-18) (-15) #[43, 39, 35, 31], 31) := by decide +kernel
theorem dX2_join_32 : decode cX2_join 32 = .ok (.lload_n 1, 1) := by decide +kernel
theorem dX2_join_33 : decode cX2_join 33 = .ok (.lload_n 3, 1) := by decide +kernel
theorem dX2_join_34 : decode cX2_join 34 = .ok (.ladd, 1) := by decide +kernel
theorem dX2_join_35 : decode cX2_join 35 = .ok (.lreturn, 1) := by decide +kernel
theorem dX2_join_36 : decode cX2_join 36 = .ok (.lload_n 1, 1) := by decide +kernel
theorem dX2_join_37 : decode cX2_join 37 = .ok (.lload_n 3, 1) := by decide +kernel
theorem dX2_join_38 : decode cX2_join 38 = .ok (.lsub, 1) := by decide +kernel
theorem dX2_join_39 : decode cX2_join 39 = .ok (.lreturn, 1) := by decide +kernel
theorem dX2_join_40 : decode cX2_join 40 = .ok (.lload_n 1, 1) := by decide +kernel
theorem dX2_join_41 : decode cX2_join 41 = .ok (.lload_n 3, 1) := by decide +kernel
theorem dX2_join_42 : decode cX2_join 42 = .ok (.lmul, 1) := by decide +kernel
theorem dX2_join_43 : decode cX2_join 43 = .ok (.lreturn, 1) := by decide +kernel
theorem dX2_join_44 : decode cX2_join 44 = .ok (.lload_n 3, 1) := by decide +kernel
theorem dX2_join_45 : decode cX2_join 45 = .ok (.lconst 0, 1) := by decide +kernel
theorem dX2_join_46 : decode cX2_join 46 = .ok (.lcmp, 1) := by decide +kernel
theorem dX2_join_47 : decode cX2_join 47 = .ok (.ifCond .ne 7, 3) := by decide +kernel
theorem dX2_join_50 : decode cX2_join 50 = .ok (.lconst 0, 1) := by decide +kernel
theorem dX2_join_51 : decode cX2_join 51 = .ok (.goto 6, 3) := by decide +kernel
theorem dX2_join_54 : decode cX2_join 54 = .ok (.lload_n 1, 1) := by decide +kernel
theorem dX2_join_55 : decode cX2_join 55 = .ok (.lload_n 3, 1) := by decide +kernel
theorem dX2_join_56 : decode cX2_join 56 = .ok (.ldiv, 1) := by decide +kernel
theorem dX2_join_57 : decode cX2_join 57 = .ok (.lreturn, 1) := by decide +kernel
theorem dX2_join_58 : decode cX2_join 58 = .ok (.iload_n 0, 1) := by decide +kernel
theorem dX2_join_59 : decode cX2_join 59 = .ok (.lload_n 1, 1) := by decide +kernel
theorem dX2_join_60 : decode cX2_join 60 = .ok (.lload_n 3, 1) := by decide +kernel
theorem dX2_join_61 : decode cX2_join 61 = .ok (.invokestatic 135, 3) := by decide +kernel
theorem dX2_join_64 : decode cX2_join 64 = .ok (.ifCond .eq 7, 3) := by decide +kernel
theorem dX2_join_67 : decode cX2_join 67 = .ok (.lconst 1, 1) := by decide +kernel
theorem dX2_join_68 : decode cX2_join 68 = .ok (.goto 4, 3) := by decide +kernel
theorem dX2_join_71 : decode cX2_join 71 = .ok (.lconst 0, 1) := by decide +kernel
theorem dX2_join_72 : decode cX2_join 72 = .ok (.lreturn, 1) := by decide +kernel
theorem ce_X2_join : CeS yX2_join cX2_join 5 (some .long) 3 := ⟨tb_782, tb_4, tb_783, by decide, by decide, by decide +kernel⟩
theorem dX2_addToday_0 : decode cX2_addToday 0 = .ok (.iconst 0, 1) := by decide +kernel
theorem dX2_addToday_1 : decode cX2_addToday 1 = .ok (.istore_n 1, 1) := by decide +kernel
theorem dX2_addToday_2 : decode cX2_addToday 2 = .ok (.iload_n 1, 1) := by decide +kernel
theorem dX2_addToday_3 : decode cX2_addToday 3 = .ok (.bipush 8, 2) := by decide +kernel
theorem dX2_addToday_5 : decode cX2_addToday 5 = .ok (.if_icmp .ge 27, 3) := by decide +kernel
theorem dX2_addToday_8 : decode cX2_addToday 8 = .ok (.aload_n 0, 1) := by decide +kernel
theorem dX2_addToday_9 : decode cX2_addToday 9 = .ok (.getfield 9, 3) := by decide +kernel
theorem dX2_addToday_12 : decode cX2_addToday 12 = .ok (.iload_n 1, 1) := by decide +kernel
theorem dX2_addToday_13 : decode cX2_addToday 13 = .ok (.dup2, 1) := by decide +kernel
theorem dX2_addToday_14 : decode cX2_addToday 14 = .ok (.iaload, 1) := by decide +kernel
theorem dX2_addToday_15 : decode cX2_addToday 15 = .ok (.aload_n 0, 1) := by decide +kernel
theorem dX2_addToday_16 : decode cX2_addToday 16 = .ok (.getfield 19, 3) := by decide +kernel
theorem dX2_addToday_19 : decode cX2_addToday 19 = .ok (.getfield 94, 3) := by decide +kernel
theorem dX2_addToday_22 : decode cX2_addToday 22 = .ok (.iload_n 1, 1) := by decide +kernel
theorem dX2_addToday_23 : decode cX2_addToday 23 = .ok (.iaload, 1) := by decide +kernel
theorem dX2_addToday_24 : decode cX2_addToday 24 = .ok (.iadd, 1) := by decide +kernel
theorem dX2_addToday_25 : decode cX2_addToday 25 = .ok (.iastore, 1) := by decide +kernel
theorem dX2_addToday_26 : decode cX2_addToday 26 = .ok (.iinc 1 1, 3) := by decide +kernel
theorem dX2_addToday_29 : decode cX2_addToday 29 = .ok (.goto (-27), 3) := by decide +kernel
theorem dX2_addToday_32 : decode cX2_addToday 32 = .ok (.return_, 1) := by decide +kernel
theorem ce_X2_addToday : CeV RX2 yX2_addToday cX2_addToday 2 none 0 := ⟨tb_874, tp_35, tb_4, tb_875, rfl, by decide, by decide, by decide +kernel⟩
theorem dX2_wordValue_0 : decode cX2_wordValue 0 = .ok (.iload_n 2, 1) := by decide +kernel
theorem dX2_wordValue_1 : decode cX2_wordValue 1 = .ok (.tableswitch 88 (-5) (-1) #[61, 53, 47, 41, 35], 35) := by decide +kernel
theorem dX2_wordValue_36 : decode cX2_wordValue 36 = .ok (.aload_n 0, 1) := by decide +kernel
theorem dX2_wordValue_37 : decode cX2_wordValue 37 = .ok (.getfield 29, 3) := by decide +kernel
theorem dX2_wordValue_40 : decode cX2_wordValue 40 = .ok (.i2l, 1) := by decide +kernel
theorem dX2_wordValue_41 : decode cX2_wordValue 41 = .ok (.lreturn, 1) := by decide +kernel
theorem dX2_wordValue_42 : decode cX2_wordValue 42 = .ok (.aload_n 1, 1) := by decide +kernel
theorem dX2_wordValue_43 : decode cX2_wordValue 43 = .ok (.getfield 111, 3) := by decide +kernel
theorem dX2_wordValue_46 : decode cX2_wordValue 46 = .ok (.i2l, 1) := by decide +kernel
theorem dX2_wordValue_47 : decode cX2_wordValue 47 = .ok (.lreturn, 1) := by decide +kernel
theorem dX2_wordValue_48 : decode cX2_wordValue 48 = .ok (.aload_n 1, 1) := by decide +kernel
theorem dX2_wordValue_49 : decode cX2_wordValue 49 = .ok (.getfield 114, 3) := by decide +kernel
theorem dX2_wordValue_52 : decode cX2_wordValue 52 = .ok (.i2l, 1) := by decide +kernel
theorem dX2_wordValue_53 : decode cX2_wordValue 53 = .ok (.lreturn, 1) := by decide +kernel
theorem dX2_wordValue_54 : decode cX2_wordValue 54 = .ok (.aload_n 1, 1) := by decide +kernel
theorem dX2_wordValue_55 : decode cX2_wordValue 55 = .ok (.iload_n 3, 1) := by decide +kernel
theorem dX2_wordValue_56 : decode cX2_wordValue 56 = .ok (.iconst 2, 1) := by decide +kernel
theorem dX2_wordValue_57 : decode cX2_wordValue 57 = .ok (.invokevirtual 117, 3) := by decide +kernel
theorem dX2_wordValue_60 : decode cX2_wordValue 60 = .ok (.i2l, 1) := by decide +kernel
theorem dX2_wordValue_61 : decode cX2_wordValue 61 = .ok (.lreturn, 1) := by decide +kernel
theorem dX2_wordValue_62 : decode cX2_wordValue 62 = .ok (.aload_n 1, 1) := by decide +kernel
theorem dX2_wordValue_63 : decode cX2_wordValue 63 = .ok (.aload_n 0, 1) := by decide +kernel
theorem dX2_wordValue_64 : decode cX2_wordValue 64 = .ok (.getfield 29, 3) := by decide +kernel
theorem dX2_wordValue_67 : decode cX2_wordValue 67 = .ok (.invokevirtual 37, 3) := by decide +kernel
theorem dX2_wordValue_70 : decode cX2_wordValue 70 = .ok (.ifCond .eq 15, 3) := by decide +kernel
theorem dX2_wordValue_73 : decode cX2_wordValue 73 = .ok (.aload_n 1, 1) := by decide +kernel
theorem dX2_wordValue_74 : decode cX2_wordValue 74 = .ok (.aload_n 0, 1) := by decide +kernel
theorem dX2_wordValue_75 : decode cX2_wordValue 75 = .ok (.getfield 29, 3) := by decide +kernel
theorem dX2_wordValue_78 : decode cX2_wordValue 78 = .ok (.invokevirtual 121, 3) := by decide +kernel
theorem dX2_wordValue_81 : decode cX2_wordValue 81 = .ok (.i2l, 1) := by decide +kernel
theorem dX2_wordValue_82 : decode cX2_wordValue 82 = .ok (.goto 6, 3) := by decide +kernel
theorem dX2_wordValue_85 : decode cX2_wordValue 85 = .ok (.ldc2_w 125, 3) := by decide +kernel
theorem dX2_wordValue_88 : decode cX2_wordValue 88 = .ok (.lreturn, 1) := by decide +kernel
theorem dX2_wordValue_89 : decode cX2_wordValue 89 = .ok (.aload_n 0, 1) := by decide +kernel
theorem dX2_wordValue_90 : decode cX2_wordValue 90 = .ok (.bipush (-6), 2) := by decide +kernel
theorem dX2_wordValue_92 : decode cX2_wordValue 92 = .ok (.iload_n 2, 1) := by decide +kernel
theorem dX2_wordValue_93 : decode cX2_wordValue 93 = .ok (.isub, 1) := by decide +kernel
theorem dX2_wordValue_94 : decode cX2_wordValue 94 = .ok (.invokevirtual 127, 3) := by decide +kernel
theorem dX2_wordValue_97 : decode cX2_wordValue 97 = .ok (.lreturn, 1) := by decide +kernel
theorem ce_X2_wordValue : CeV RX2 yX2_wordValue cX2_wordValue 4 (some .long) 3 := ⟨tb_764, tp_26, tb_4, tb_765, rfl, by decide, by decide, by decide +kernel⟩
theorem dX2_valueOf_0 : decode cX2_valueOf 0 = .ok (.iconst 0, 1) := by decide +kernel
theorem dX2_valueOf_1 : decode cX2_valueOf 1 = .ok (.istore 6, 2) := by decide +kernel
theorem dX2_valueOf_3 : decode cX2_valueOf 3 = .ok (.iload_n 3, 1) := by decide +kernel
theorem dX2_valueOf_4 : decode cX2_valueOf 4 = .ok (.istore 7, 2) := by decide +kernel
theorem dX2_valueOf_6 : decode cX2_valueOf 6 = .ok (.iload 7, 2) := by decide +kernel
theorem dX2_valueOf_8 : decode cX2_valueOf 8 = .ok (.iload 4, 2) := by decide +kernel
theorem dX2_valueOf_10 : decode cX2_valueOf 10 = .ok (.if_icmp .ge 140, 3) := by decide +kernel
theorem dX2_valueOf_13 : decode cX2_valueOf 13 = .ok (.aload_n 2, 1) := by decide +kernel
theorem dX2_valueOf_14 : decode cX2_valueOf 14 = .ok (.getfield 100, 3) := by decide +kernel
theorem dX2_valueOf_17 : decode cX2_valueOf 17 = .ok (.iload 7, 2) := by decide +kernel
theorem dX2_valueOf_19 : decode cX2_valueOf 19 = .ok (.iaload, 1) := by decide +kernel
theorem dX2_valueOf_20 : decode cX2_valueOf 20 = .ok (.istore 8, 2) := by decide +kernel
theorem dX2_valueOf_22 : decode cX2_valueOf 22 = .ok (.iload 8, 2) := by decide +kernel
theorem dX2_valueOf_24 : decode cX2_valueOf 24 = .ok (.bipush (-14), 2) := by decide +kernel
theorem dX2_valueOf_26 : decode cX2_valueOf 26 = .ok (.if_icmp .le 43, 3) := by decide +kernel
theorem dX2_valueOf_29 : decode cX2_valueOf 29 = .ok (.iload 6, 2) := by decide +kernel
theorem dX2_valueOf_31 : decode cX2_valueOf 31 = .ok (.bipush 64, 2) := by decide +kernel
theorem dX2_valueOf_33 : decode cX2_valueOf 33 = .ok (.if_icmp .ge 36, 3) := by decide +kernel
theorem dX2_valueOf_36 : decode cX2_valueOf 36 = .ok (.aload_n 0, 1) := by decide +kernel
theorem dX2_valueOf_37 : decode cX2_valueOf 37 = .ok (.getfield 15, 3) := by decide +kernel
theorem dX2_valueOf_40 : decode cX2_valueOf 40 = .ok (.iload 6, 2) := by decide +kernel
theorem dX2_valueOf_42 : decode cX2_valueOf 42 = .ok (.iload 8, 2) := by decide +kernel
theorem dX2_valueOf_44 : decode cX2_valueOf 44 = .ok (.ifCond .lt 9, 3) := by decide +kernel
theorem dX2_valueOf_47 : decode cX2_valueOf 47 = .ok (.iload 8, 2) := by decide +kernel
theorem dX2_valueOf_49 : decode cX2_valueOf 49 = .ok (.i2l, 1) := by decide +kernel
theorem dX2_valueOf_50 : decode cX2_valueOf 50 = .ok (.goto 12, 3) := by decide +kernel
theorem dX2_valueOf_53 : decode cX2_valueOf 53 = .ok (.aload_n 0, 1) := by decide +kernel
theorem dX2_valueOf_54 : decode cX2_valueOf 54 = .ok (.aload_n 1, 1) := by decide +kernel
theorem dX2_valueOf_55 : decode cX2_valueOf 55 = .ok (.iload 8, 2) := by decide +kernel
theorem dX2_valueOf_57 : decode cX2_valueOf 57 = .ok (.iload 5, 2) := by decide +kernel
theorem dX2_valueOf_59 : decode cX2_valueOf 59 = .ok (.invokevirtual 103, 3) := by decide +kernel
theorem dX2_valueOf_62 : decode cX2_valueOf 62 = .ok (.lastore, 1) := by decide +kernel
theorem dX2_valueOf_63 : decode cX2_valueOf 63 = .ok (.iinc 6 1, 3) := by decide +kernel
theorem dX2_valueOf_66 : decode cX2_valueOf 66 = .ok (.goto 78, 3) := by decide +kernel
theorem dX2_valueOf_69 : decode cX2_valueOf 69 = .ok (.iload 8, 2) := by decide +kernel
theorem dX2_valueOf_71 : decode cX2_valueOf 71 = .ok (.bipush (-14), 2) := by decide +kernel
theorem dX2_valueOf_73 : decode cX2_valueOf 73 = .ok (.if_icmp .ne 32, 3) := by decide +kernel
theorem dX2_valueOf_76 : decode cX2_valueOf 76 = .ok (.iload 6, 2) := by decide +kernel
theorem dX2_valueOf_78 : decode cX2_valueOf 78 = .ok (.iconst 1, 1) := by decide +kernel
theorem dX2_valueOf_79 : decode cX2_valueOf 79 = .ok (.if_icmp .lt 26, 3) := by decide +kernel
theorem dX2_valueOf_82 : decode cX2_valueOf 82 = .ok (.aload_n 0, 1) := by decide +kernel
theorem dX2_valueOf_83 : decode cX2_valueOf 83 = .ok (.getfield 15, 3) := by decide +kernel
theorem dX2_valueOf_86 : decode cX2_valueOf 86 = .ok (.iload 6, 2) := by decide +kernel
theorem dX2_valueOf_88 : decode cX2_valueOf 88 = .ok (.iconst 1, 1) := by decide +kernel
theorem dX2_valueOf_89 : decode cX2_valueOf 89 = .ok (.isub, 1) := by decide +kernel
theorem dX2_valueOf_90 : decode cX2_valueOf 90 = .ok (.lconst 1, 1) := by decide +kernel
theorem dX2_valueOf_91 : decode cX2_valueOf 91 = .ok (.aload_n 0, 1) := by decide +kernel
theorem dX2_valueOf_92 : decode cX2_valueOf 92 = .ok (.getfield 15, 3) := by decide +kernel
theorem dX2_valueOf_95 : decode cX2_valueOf 95 = .ok (.iload 6, 2) := by decide +kernel
theorem dX2_valueOf_97 : decode cX2_valueOf 97 = .ok (.iconst 1, 1) := by decide +kernel
theorem dX2_valueOf_98 : decode cX2_valueOf 98 = .ok (.isub, 1) := by decide +kernel
theorem dX2_valueOf_99 : decode cX2_valueOf 99 = .ok (.laload, 1) := by decide +kernel
theorem dX2_valueOf_100 : decode cX2_valueOf 100 = .ok (.lsub, 1) := by decide +kernel
theorem dX2_valueOf_101 : decode cX2_valueOf 101 = .ok (.lastore, 1) := by decide +kernel
theorem dX2_valueOf_102 : decode cX2_valueOf 102 = .ok (.goto 42, 3) := by decide +kernel
theorem dX2_valueOf_105 : decode cX2_valueOf 105 = .ok (.iload 6, 2) := by decide +kernel
theorem dX2_valueOf_107 : decode cX2_valueOf 107 = .ok (.iconst 2, 1) := by decide +kernel
theorem dX2_valueOf_108 : decode cX2_valueOf 108 = .ok (.if_icmp .lt 36, 3) := by decide +kernel
theorem dX2_valueOf_111 : decode cX2_valueOf 111 = .ok (.iinc 6 (-1), 3) := by decide +kernel
theorem dX2_valueOf_114 : decode cX2_valueOf 114 = .ok (.aload_n 0, 1) := by decide +kernel
theorem dX2_valueOf_115 : decode cX2_valueOf 115 = .ok (.getfield 15, 3) := by decide +kernel
theorem dX2_valueOf_118 : decode cX2_valueOf 118 = .ok (.iload 6, 2) := by decide +kernel
theorem dX2_valueOf_120 : decode cX2_valueOf 120 = .ok (.iconst 1, 1) := by decide +kernel
theorem dX2_valueOf_121 : decode cX2_valueOf 121 = .ok (.isub, 1) := by decide +kernel
theorem dX2_valueOf_122 : decode cX2_valueOf 122 = .ok (.iload 8, 2) := by decide +kernel
theorem dX2_valueOf_124 : decode cX2_valueOf 124 = .ok (.aload_n 0, 1) := by decide +kernel
theorem dX2_valueOf_125 : decode cX2_valueOf 125 = .ok (.getfield 15, 3) := by decide +kernel
theorem dX2_valueOf_128 : decode cX2_valueOf 128 = .ok (.iload 6, 2) := by decide +kernel
theorem dX2_valueOf_130 : decode cX2_valueOf 130 = .ok (.iconst 1, 1) := by decide +kernel
theorem dX2_valueOf_131 : decode cX2_valueOf 131 = .ok (.isub, 1) := by decide +kernel
theorem dX2_valueOf_132 : decode cX2_valueOf 132 = .ok (.laload, 1) := by decide +kernel
theorem dX2_valueOf_133 : decode cX2_valueOf 133 = .ok (.aload_n 0, 1) := by decide +kernel
theorem dX2_valueOf_134 : decode cX2_valueOf 134 = .ok (.getfield 15, 3) := by decide +kernel
theorem dX2_valueOf_137 : decode cX2_valueOf 137 = .ok (.iload 6, 2) := by decide +kernel
theorem dX2_valueOf_139 : decode cX2_valueOf 139 = .ok (.laload, 1) := by decide +kernel
theorem dX2_valueOf_140 : decode cX2_valueOf 140 = .ok (.invokestatic 107, 3) := by decide +kernel
theorem dX2_valueOf_143 : decode cX2_valueOf 143 = .ok (.lastore, 1) := by decide +kernel
theorem dX2_valueOf_144 : decode cX2_valueOf 144 = .ok (.iinc 7 1, 3) := by decide +kernel
theorem dX2_valueOf_147 : decode cX2_valueOf 147 = .ok (.goto (-141), 3) := by decide +kernel
theorem dX2_valueOf_150 : decode cX2_valueOf 150 = .ok (.iload 6, 2) := by decide +kernel
theorem dX2_valueOf_152 : decode cX2_valueOf 152 = .ok (.iconst 1, 1) := by decide +kernel
theorem dX2_valueOf_153 : decode cX2_valueOf 153 = .ok (.if_icmp .lt 12, 3) := by decide +kernel
theorem dX2_valueOf_156 : decode cX2_valueOf 156 = .ok (.aload_n 0, 1) := by decide +kernel
theorem dX2_valueOf_157 : decode cX2_valueOf 157 = .ok (.getfield 15, 3) := by decide +kernel
theorem dX2_valueOf_160 : decode cX2_valueOf 160 = .ok (.iconst 0, 1) := by decide +kernel
theorem dX2_valueOf_161 : decode cX2_valueOf 161 = .ok (.laload, 1) := by decide +kernel
theorem dX2_valueOf_162 : decode cX2_valueOf 162 = .ok (.goto 4, 3) := by decide +kernel
theorem dX2_valueOf_165 : decode cX2_valueOf 165 = .ok (.lconst 0, 1) := by decide +kernel
theorem dX2_valueOf_166 : decode cX2_valueOf 166 = .ok (.lreturn, 1) := by decide +kernel
theorem ce_X2_valueOf : CeV RX2 yX2_valueOf cX2_valueOf 9 (some .long) 5 := ⟨tb_760, tp_25, tb_4, tb_761, rfl, by decide, by decide, by decide +kernel⟩
theorem dX2_holds_0 : decode cX2_holds 0 = .ok (.aload_n 2, 1) := by decide +kernel
theorem dX2_holds_1 : decode cX2_holds 1 = .ok (.getfield 81, 3) := by decide +kernel
theorem dX2_holds_4 : decode cX2_holds 4 = .ok (.iload_n 3, 1) := by decide +kernel
theorem dX2_holds_5 : decode cX2_holds 5 = .ok (.iaload, 1) := by decide +kernel
theorem dX2_holds_6 : decode cX2_holds 6 = .ok (.istore 4, 2) := by decide +kernel
theorem dX2_holds_8 : decode cX2_holds 8 = .ok (.aload_n 2, 1) := by decide +kernel
theorem dX2_holds_9 : decode cX2_holds 9 = .ok (.getfield 97, 3) := by decide +kernel
theorem dX2_holds_12 : decode cX2_holds 12 = .ok (.iload_n 3, 1) := by decide +kernel
theorem dX2_holds_13 : decode cX2_holds 13 = .ok (.iaload, 1) := by decide +kernel
theorem dX2_holds_14 : decode cX2_holds 14 = .ok (.istore 5, 2) := by decide +kernel
theorem dX2_holds_16 : decode cX2_holds 16 = .ok (.iload 4, 2) := by decide +kernel
theorem dX2_holds_18 : decode cX2_holds 18 = .ok (.iload 5, 2) := by decide +kernel
theorem dX2_holds_20 : decode cX2_holds 20 = .ok (.if_icmp .eq 24, 3) := by decide +kernel
theorem dX2_holds_23 : decode cX2_holds 23 = .ok (.aload_n 0, 1) := by decide +kernel
theorem dX2_holds_24 : decode cX2_holds 24 = .ok (.aload_n 1, 1) := by decide +kernel
theorem dX2_holds_25 : decode cX2_holds 25 = .ok (.aload_n 2, 1) := by decide +kernel
theorem dX2_holds_26 : decode cX2_holds 26 = .ok (.iload 4, 2) := by decide +kernel
theorem dX2_holds_28 : decode cX2_holds 28 = .ok (.iload 5, 2) := by decide +kernel
theorem dX2_holds_30 : decode cX2_holds 30 = .ok (.aload_n 2, 1) := by decide +kernel
theorem dX2_holds_31 : decode cX2_holds 31 = .ok (.getfield 68, 3) := by decide +kernel
theorem dX2_holds_34 : decode cX2_holds 34 = .ok (.iload_n 3, 1) := by decide +kernel
theorem dX2_holds_35 : decode cX2_holds 35 = .ok (.iaload, 1) := by decide +kernel
theorem dX2_holds_36 : decode cX2_holds 36 = .ok (.invokevirtual 84, 3) := by decide +kernel
theorem dX2_holds_39 : decode cX2_holds 39 = .ok (.lconst 0, 1) := by decide +kernel
theorem dX2_holds_40 : decode cX2_holds 40 = .ok (.lcmp, 1) := by decide +kernel
theorem dX2_holds_41 : decode cX2_holds 41 = .ok (.ifCond .eq 7, 3) := by decide +kernel
theorem dX2_holds_44 : decode cX2_holds 44 = .ok (.iconst 1, 1) := by decide +kernel
theorem dX2_holds_45 : decode cX2_holds 45 = .ok (.goto 4, 3) := by decide +kernel
theorem dX2_holds_48 : decode cX2_holds 48 = .ok (.iconst 0, 1) := by decide +kernel
theorem dX2_holds_49 : decode cX2_holds 49 = .ok (.ireturn, 1) := by decide +kernel
theorem ce_X2_holds : CeV RX2 yX2_holds cX2_holds 6 (some .boolean) 3 := ⟨tb_756, tp_24, tb_4, tb_757, rfl, by decide, by decide, by decide +kernel⟩
theorem dX2_turnMirrors_0 : decode cX2_turnMirrors 0 = .ok (.iconst 0, 1) := by decide +kernel
theorem dX2_turnMirrors_1 : decode cX2_turnMirrors 1 = .ok (.istore_n 3, 1) := by decide +kernel
theorem dX2_turnMirrors_2 : decode cX2_turnMirrors 2 = .ok (.iconst 0, 1) := by decide +kernel
theorem dX2_turnMirrors_3 : decode cX2_turnMirrors 3 = .ok (.istore 4, 2) := by decide +kernel
theorem dX2_turnMirrors_5 : decode cX2_turnMirrors 5 = .ok (.iload 4, 2) := by decide +kernel
theorem dX2_turnMirrors_7 : decode cX2_turnMirrors 7 = .ok (.aload_n 2, 1) := by decide +kernel
theorem dX2_turnMirrors_8 : decode cX2_turnMirrors 8 = .ok (.getfield 63, 3) := by decide +kernel
theorem dX2_turnMirrors_11 : decode cX2_turnMirrors 11 = .ok (.if_icmp .ge 91, 3) := by decide +kernel
theorem dX2_turnMirrors_14 : decode cX2_turnMirrors 14 = .ok (.aload_n 2, 1) := by decide +kernel
theorem dX2_turnMirrors_15 : decode cX2_turnMirrors 15 = .ok (.getfield 68, 3) := by decide +kernel
theorem dX2_turnMirrors_18 : decode cX2_turnMirrors 18 = .ok (.iload 4, 2) := by decide +kernel
theorem dX2_turnMirrors_20 : decode cX2_turnMirrors 20 = .ok (.iaload, 1) := by decide +kernel
theorem dX2_turnMirrors_21 : decode cX2_turnMirrors 21 = .ok (.istore 5, 2) := by decide +kernel
theorem dX2_turnMirrors_23 : decode cX2_turnMirrors 23 = .ok (.aload_n 1, 1) := by decide +kernel
theorem dX2_turnMirrors_24 : decode cX2_turnMirrors 24 = .ok (.iload 5, 2) := by decide +kernel
theorem dX2_turnMirrors_26 : decode cX2_turnMirrors 26 = .ok (.invokevirtual 71, 3) := by decide +kernel
theorem dX2_turnMirrors_29 : decode cX2_turnMirrors 29 = .ok (.ifCond .eq 67, 3) := by decide +kernel
theorem dX2_turnMirrors_32 : decode cX2_turnMirrors 32 = .ok (.iload_n 3, 1) := by decide +kernel
theorem dX2_turnMirrors_33 : decode cX2_turnMirrors 33 = .ok (.iload 5, 2) := by decide +kernel
theorem dX2_turnMirrors_35 : decode cX2_turnMirrors 35 = .ok (.ishr, 1) := by decide +kernel
theorem dX2_turnMirrors_36 : decode cX2_turnMirrors 36 = .ok (.iconst 1, 1) := by decide +kernel
theorem dX2_turnMirrors_37 : decode cX2_turnMirrors 37 = .ok (.iand, 1) := by decide +kernel
theorem dX2_turnMirrors_38 : decode cX2_turnMirrors 38 = .ok (.ifCond .ne 58, 3) := by decide +kernel
theorem dX2_turnMirrors_41 : decode cX2_turnMirrors 41 = .ok (.aload_n 0, 1) := by decide +kernel
theorem dX2_turnMirrors_42 : decode cX2_turnMirrors 42 = .ok (.aload_n 1, 1) := by decide +kernel
theorem dX2_turnMirrors_43 : decode cX2_turnMirrors 43 = .ok (.aload_n 2, 1) := by decide +kernel
theorem dX2_turnMirrors_44 : decode cX2_turnMirrors 44 = .ok (.iload 4, 2) := by decide +kernel
theorem dX2_turnMirrors_46 : decode cX2_turnMirrors 46 = .ok (.invokevirtual 74, 3) := by decide +kernel
theorem dX2_turnMirrors_49 : decode cX2_turnMirrors 49 = .ok (.ifCond .eq 47, 3) := by decide +kernel
theorem dX2_turnMirrors_52 : decode cX2_turnMirrors 52 = .ok (.aload_n 0, 1) := by decide +kernel
theorem dX2_turnMirrors_53 : decode cX2_turnMirrors 53 = .ok (.aload_n 1, 1) := by decide +kernel
theorem dX2_turnMirrors_54 : decode cX2_turnMirrors 54 = .ok (.aload_n 2, 1) := by decide +kernel
theorem dX2_turnMirrors_55 : decode cX2_turnMirrors 55 = .ok (.aload_n 2, 1) := by decide +kernel
theorem dX2_turnMirrors_56 : decode cX2_turnMirrors 56 = .ok (.getfield 78, 3) := by decide +kernel
theorem dX2_turnMirrors_59 : decode cX2_turnMirrors 59 = .ok (.iload 4, 2) := by decide +kernel
theorem dX2_turnMirrors_61 : decode cX2_turnMirrors 61 = .ok (.iaload, 1) := by decide +kernel
theorem dX2_turnMirrors_62 : decode cX2_turnMirrors 62 = .ok (.aload_n 2, 1) := by decide +kernel
theorem dX2_turnMirrors_63 : decode cX2_turnMirrors 63 = .ok (.getfield 81, 3) := by decide +kernel
theorem dX2_turnMirrors_66 : decode cX2_turnMirrors 66 = .ok (.iload 4, 2) := by decide +kernel
theorem dX2_turnMirrors_68 : decode cX2_turnMirrors 68 = .ok (.iaload, 1) := by decide +kernel
theorem dX2_turnMirrors_69 : decode cX2_turnMirrors 69 = .ok (.iload 5, 2) := by decide +kernel
theorem dX2_turnMirrors_71 : decode cX2_turnMirrors 71 = .ok (.invokevirtual 84, 3) := by decide +kernel
theorem dX2_turnMirrors_74 : decode cX2_turnMirrors 74 = .ok (.lstore 6, 2) := by decide +kernel
theorem dX2_turnMirrors_76 : decode cX2_turnMirrors 76 = .ok (.aload_n 1, 1) := by decide +kernel
theorem dX2_turnMirrors_77 : decode cX2_turnMirrors 77 = .ok (.iload 5, 2) := by decide +kernel
theorem dX2_turnMirrors_79 : decode cX2_turnMirrors 79 = .ok (.lload 6, 2) := by decide +kernel
theorem dX2_turnMirrors_81 : decode cX2_turnMirrors 81 = .ok (.ldc2_w 88, 3) := by decide +kernel
theorem dX2_turnMirrors_84 : decode cX2_turnMirrors 84 = .ok (.land, 1) := by decide +kernel
theorem dX2_turnMirrors_85 : decode cX2_turnMirrors 85 = .ok (.l2i, 1) := by decide +kernel
theorem dX2_turnMirrors_86 : decode cX2_turnMirrors 86 = .ok (.invokevirtual 90, 3) := by decide +kernel
theorem dX2_turnMirrors_89 : decode cX2_turnMirrors 89 = .ok (.iload_n 3, 1) := by decide +kernel
theorem dX2_turnMirrors_90 : decode cX2_turnMirrors 90 = .ok (.iconst 1, 1) := by decide +kernel
theorem dX2_turnMirrors_91 : decode cX2_turnMirrors 91 = .ok (.iload 5, 2) := by decide +kernel
theorem dX2_turnMirrors_93 : decode cX2_turnMirrors 93 = .ok (.ishl, 1) := by decide +kernel
theorem dX2_turnMirrors_94 : decode cX2_turnMirrors 94 = .ok (.ior, 1) := by decide +kernel
theorem dX2_turnMirrors_95 : decode cX2_turnMirrors 95 = .ok (.istore_n 3, 1) := by decide +kernel
theorem dX2_turnMirrors_96 : decode cX2_turnMirrors 96 = .ok (.iinc 4 1, 3) := by decide +kernel
theorem dX2_turnMirrors_99 : decode cX2_turnMirrors 99 = .ok (.goto (-94), 3) := by decide +kernel
theorem dX2_turnMirrors_102 : decode cX2_turnMirrors 102 = .ok (.return_, 1) := by decide +kernel
theorem ce_X2_turnMirrors : CeV RX2 yX2_turnMirrors cX2_turnMirrors 8 none 2 := ⟨tb_751, tp_23, tb_4, tb_752, rfl, by decide, by decide, by decide +kernel⟩
theorem dX2_passDay_0 : decode cX2_passDay 0 = .ok (.aload_n 0, 1) := by decide +kernel
theorem dX2_passDay_1 : decode cX2_passDay 1 = .ok (.getfield 9, 3) := by decide +kernel
theorem dX2_passDay_4 : decode cX2_passDay 4 = .ok (.iconst 0, 1) := by decide +kernel
theorem dX2_passDay_5 : decode cX2_passDay 5 = .ok (.invokestatic 23, 3) := by decide +kernel
theorem dX2_passDay_8 : decode cX2_passDay 8 = .ok (.iconst 0, 1) := by decide +kernel
theorem dX2_passDay_9 : decode cX2_passDay 9 = .ok (.istore 4, 2) := by decide +kernel
theorem dX2_passDay_11 : decode cX2_passDay 11 = .ok (.iconst 0, 1) := by decide +kernel
theorem dX2_passDay_12 : decode cX2_passDay 12 = .ok (.istore 5, 2) := by decide +kernel
theorem dX2_passDay_14 : decode cX2_passDay 14 = .ok (.iload 5, 2) := by decide +kernel
theorem dX2_passDay_16 : decode cX2_passDay 16 = .ok (.bipush 24, 2) := by decide +kernel
theorem dX2_passDay_18 : decode cX2_passDay 18 = .ok (.if_icmp .ge 84, 3) := by decide +kernel
theorem dX2_passDay_21 : decode cX2_passDay 21 = .ok (.aload_n 0, 1) := by decide +kernel
theorem dX2_passDay_22 : decode cX2_passDay 22 = .ok (.iload 5, 2) := by decide +kernel
theorem dX2_passDay_24 : decode cX2_passDay 24 = .ok (.putfield 29, 3) := by decide +kernel
theorem dX2_passDay_27 : decode cX2_passDay 27 = .ok (.aload_n 0, 1) := by decide +kernel
theorem dX2_passDay_28 : decode cX2_passDay 28 = .ok (.aload_n 1, 1) := by decide +kernel
theorem dX2_passDay_29 : decode cX2_passDay 29 = .ok (.aload_n 2, 1) := by decide +kernel
theorem dX2_passDay_30 : decode cX2_passDay 30 = .ok (.invokevirtual 33, 3) := by decide +kernel
theorem dX2_passDay_33 : decode cX2_passDay 33 = .ok (.aload_n 1, 1) := by decide +kernel
theorem dX2_passDay_34 : decode cX2_passDay 34 = .ok (.iload 5, 2) := by decide +kernel
theorem dX2_passDay_36 : decode cX2_passDay 36 = .ok (.invokevirtual 37, 3) := by decide +kernel
theorem dX2_passDay_39 : decode cX2_passDay 39 = .ok (.ifCond .eq 57, 3) := by decide +kernel
theorem dX2_passDay_42 : decode cX2_passDay 42 = .ok (.iload_n 3, 1) := by decide +kernel
theorem dX2_passDay_43 : decode cX2_passDay 43 = .ok (.ifCond .eq 39, 3) := by decide +kernel
theorem dX2_passDay_46 : decode cX2_passDay 46 = .ok (.aload_n 0, 1) := by decide +kernel
theorem dX2_passDay_47 : decode cX2_passDay 47 = .ok (.getfield 19, 3) := by decide +kernel
theorem dX2_passDay_50 : decode cX2_passDay 50 = .ok (.aload_n 1, 1) := by decide +kernel
theorem dX2_passDay_51 : decode cX2_passDay 51 = .ok (.iload 5, 2) := by decide +kernel
theorem dX2_passDay_53 : decode cX2_passDay 53 = .ok (.invokevirtual 43, 3) := by decide +kernel
theorem dX2_passDay_56 : decode cX2_passDay 56 = .ok (.iload 4, 2) := by decide +kernel
theorem dX2_passDay_58 : decode cX2_passDay 58 = .ok (.aload_n 0, 1) := by decide +kernel
theorem dX2_passDay_59 : decode cX2_passDay 59 = .ok (.getfield 19, 3) := by decide +kernel
theorem dX2_passDay_62 : decode cX2_passDay 62 = .ok (.aload_n 1, 1) := by decide +kernel
theorem dX2_passDay_63 : decode cX2_passDay 63 = .ok (.invokevirtual 49, 3) := by decide +kernel
theorem dX2_passDay_66 : decode cX2_passDay 66 = .ok (.bipush (-2), 2) := by decide +kernel
theorem dX2_passDay_68 : decode cX2_passDay 68 = .ok (.if_icmp .ne 7, 3) := by decide +kernel
theorem dX2_passDay_71 : decode cX2_passDay 71 = .ok (.iconst 0, 1) := by decide +kernel
theorem dX2_passDay_72 : decode cX2_passDay 72 = .ok (.goto 4, 3) := by decide +kernel
theorem dX2_passDay_75 : decode cX2_passDay 75 = .ok (.iconst 1, 1) := by decide +kernel
theorem dX2_passDay_76 : decode cX2_passDay 76 = .ok (.iadd, 1) := by decide +kernel
theorem dX2_passDay_77 : decode cX2_passDay 77 = .ok (.istore 4, 2) := by decide +kernel
theorem dX2_passDay_79 : decode cX2_passDay 79 = .ok (.goto 13, 3) := by decide +kernel
theorem dX2_passDay_82 : decode cX2_passDay 82 = .ok (.aload_n 0, 1) := by decide +kernel
theorem dX2_passDay_83 : decode cX2_passDay 83 = .ok (.getfield 19, 3) := by decide +kernel
theorem dX2_passDay_86 : decode cX2_passDay 86 = .ok (.aload_n 1, 1) := by decide +kernel
theorem dX2_passDay_87 : decode cX2_passDay 87 = .ok (.iload 5, 2) := by decide +kernel
theorem dX2_passDay_89 : decode cX2_passDay 89 = .ok (.invokevirtual 53, 3) := by decide +kernel
theorem dX2_passDay_92 : decode cX2_passDay 92 = .ok (.aload_n 0, 1) := by decide +kernel
theorem dX2_passDay_93 : decode cX2_passDay 93 = .ok (.invokevirtual 56, 3) := by decide +kernel
theorem dX2_passDay_96 : decode cX2_passDay 96 = .ok (.iinc 5 1, 3) := by decide +kernel
theorem dX2_passDay_99 : decode cX2_passDay 99 = .ok (.goto (-85), 3) := by decide +kernel
theorem dX2_passDay_102 : decode cX2_passDay 102 = .ok (.aload_n 1, 1) := by decide +kernel
theorem dX2_passDay_103 : decode cX2_passDay 103 = .ok (.aload_n 0, 1) := by decide +kernel
theorem dX2_passDay_104 : decode cX2_passDay 104 = .ok (.getfield 9, 3) := by decide +kernel
theorem dX2_passDay_107 : decode cX2_passDay 107 = .ok (.invokevirtual 59, 3) := by decide +kernel
theorem dX2_passDay_110 : decode cX2_passDay 110 = .ok (.iload 4, 2) := by decide +kernel
theorem dX2_passDay_112 : decode cX2_passDay 112 = .ok (.ireturn, 1) := by decide +kernel
theorem ce_X2_passDay : CeV RX2 yX2_passDay cX2_passDay 6 (some .int) 3 := ⟨tb_745, tb_746, tb_4, tb_747, rfl, by decide, by decide, by decide +kernel⟩
