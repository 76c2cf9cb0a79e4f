theorem dX9_findLaw_0 : decode cX9_findLaw 0 = .ok (.iload_n 1, 1) := by decide +kernel
theorem dX9_findLaw_1 : decode cX9_findLaw 1 = .ok (.iconst 0, 1) := by decide +kernel
theorem dX9_findLaw_2 : decode cX9_findLaw 2 = .ok (.aload_n 0, 1) := by decide +kernel
theorem dX9_findLaw_3 : decode cX9_findLaw 3 = .ok (.getfield 179, 3) := by decide +kernel
theorem dX9_findLaw_6 : decode cX9_findLaw 6 = .ok (.iconst 1, 1) := by decide +kernel
theorem dX9_findLaw_7 : decode cX9_findLaw 7 = .ok (.isub, 1) := by decide +kernel
theorem dX9_findLaw_8 : decode cX9_findLaw 8 = .ok (.invokestatic 95, 3) := by decide +kernel
theorem dX9_findLaw_11 : decode cX9_findLaw 11 = .ok (.ifCond .eq 12, 3) := by decide +kernel
theorem dX9_findLaw_14 : decode cX9_findLaw 14 = .ok (.aload_n 0, 1) := by decide +kernel
theorem dX9_findLaw_15 : decode cX9_findLaw 15 = .ok (.getfield 78, 3) := by decide +kernel
theorem dX9_findLaw_18 : decode cX9_findLaw 18 = .ok (.iload_n 1, 1) := by decide +kernel
theorem dX9_findLaw_19 : decode cX9_findLaw 19 = .ok (.aaload, 1) := by decide +kernel
theorem dX9_findLaw_20 : decode cX9_findLaw 20 = .ok (.goto 4, 3) := by decide +kernel
theorem dX9_findLaw_23 : decode cX9_findLaw 23 = .ok (.aconst_null, 1) := by decide +kernel
theorem dX9_findLaw_24 : decode cX9_findLaw 24 = .ok (.areturn, 1) := by decide +kernel
theorem ce_X9_findLaw : CeV RX9 yX9_findLaw cX9_findLaw 2 (some (.object "OneSunbeam$Law")) 1 := ⟨tb_742, tp_22, tb_1, tb_743, rfl, by decide, by decide, by decide +kernel⟩
theorem dX9_days_0 : decode cX9_days 0 = .ok (.aload_n 0, 1) := by decide +kernel
theorem dX9_days_1 : decode cX9_days 1 = .ok (.iload_n 1, 1) := by decide +kernel
theorem dX9_days_2 : decode cX9_days 2 = .ok (.invokevirtual 186, 3) := by decide +kernel
theorem dX9_days_5 : decode cX9_days 5 = .ok (.astore_n 3, 1) := by decide +kernel
theorem dX9_days_6 : decode cX9_days 6 = .ok (.aload_n 3, 1) := by decide +kernel
theorem dX9_days_7 : decode cX9_days 7 = .ok (.ifnull 38, 3) := by decide +kernel
theorem dX9_days_10 : decode cX9_days 10 = .ok (.aload_n 0, 1) := by decide +kernel
theorem dX9_days_11 : decode cX9_days 11 = .ok (.getfield 10, 3) := by decide +kernel
theorem dX9_days_14 : decode cX9_days 14 = .ok (.invokevirtual 111, 3) := by decide +kernel
theorem dX9_days_17 : decode cX9_days 17 = .ok (.ifCond .eq 28, 3) := by decide +kernel
theorem dX9_days_20 : decode cX9_days 20 = .ok (.iload_n 2, 1) := by decide +kernel
theorem dX9_days_21 : decode cX9_days 21 = .ok (.iconst 1, 1) := by decide +kernel
theorem dX9_days_22 : decode cX9_days 22 = .ok (.bipush 30, 2) := by decide +kernel
theorem dX9_days_24 : decode cX9_days 24 = .ok (.invokestatic 95, 3) := by decide +kernel
theorem dX9_days_27 : decode cX9_days 27 = .ok (.ifCond .eq 18, 3) := by decide +kernel
theorem dX9_days_30 : decode cX9_days 30 = .ok (.aload_n 0, 1) := by decide +kernel
theorem dX9_days_31 : decode cX9_days 31 = .ok (.getfield 10, 3) := by decide +kernel
theorem dX9_days_34 : decode cX9_days 34 = .ok (.getfield 190, 3) := by decide +kernel
theorem dX9_days_37 : decode cX9_days 37 = .ok (.sipush 9999, 3) := by decide +kernel
theorem dX9_days_40 : decode cX9_days 40 = .ok (.iload_n 2, 1) := by decide +kernel
theorem dX9_days_41 : decode cX9_days 41 = .ok (.isub, 1) := by decide +kernel
theorem dX9_days_42 : decode cX9_days 42 = .ok (.if_icmp .le 5, 3) := by decide +kernel
theorem dX9_days_45 : decode cX9_days 45 = .ok (.iconst (-1), 1) := by decide +kernel
theorem dX9_days_46 : decode cX9_days 46 = .ok (.ireturn, 1) := by decide +kernel
theorem dX9_days_47 : decode cX9_days 47 = .ok (.iconst 0, 1) := by decide +kernel
theorem dX9_days_48 : decode cX9_days 48 = .ok (.istore 4, 2) := by decide +kernel
theorem dX9_days_50 : decode cX9_days 50 = .ok (.iload 4, 2) := by decide +kernel
theorem dX9_days_52 : decode cX9_days 52 = .ok (.iload_n 2, 1) := by decide +kernel
theorem dX9_days_53 : decode cX9_days 53 = .ok (.if_icmp .ge 23, 3) := by decide +kernel
theorem dX9_days_56 : decode cX9_days 56 = .ok (.aload_n 0, 1) := by decide +kernel
theorem dX9_days_57 : decode cX9_days 57 = .ok (.getfield 35, 3) := by decide +kernel
theorem dX9_days_60 : decode cX9_days 60 = .ok (.aload_n 0, 1) := by decide +kernel
theorem dX9_days_61 : decode cX9_days 61 = .ok (.getfield 10, 3) := by decide +kernel
theorem dX9_days_64 : decode cX9_days 64 = .ok (.aload_n 3, 1) := by decide +kernel
theorem dX9_days_65 : decode cX9_days 65 = .ok (.iconst 0, 1) := by decide +kernel
theorem dX9_days_66 : decode cX9_days 66 = .ok (.invokevirtual 193, 3) := by decide +kernel
theorem dX9_days_69 : decode cX9_days 69 = .ok (.pop, 1) := by decide +kernel
theorem dX9_days_70 : decode cX9_days 70 = .ok (.iinc 4 1, 3) := by decide +kernel
theorem dX9_days_73 : decode cX9_days 73 = .ok (.goto (-23), 3) := by decide +kernel
theorem dX9_days_76 : decode cX9_days 76 = .ok (.aload_n 0, 1) := by decide +kernel
theorem dX9_days_77 : decode cX9_days 77 = .ok (.getfield 10, 3) := by decide +kernel
theorem dX9_days_80 : decode cX9_days 80 = .ok (.invokevirtual 197, 3) := by decide +kernel
theorem dX9_days_83 : decode cX9_days 83 = .ok (.ireturn, 1) := by decide +kernel
theorem ce_X9_days : CeV RX9 yX9_days cX9_days 5 (some .int) 2 := ⟨tb_737, tb_738, tb_1, tb_739, rfl, by decide, by decide, by decide +kernel⟩
theorem dX9_dark_0 : decode cX9_dark 0 = .ok (.aload_n 0, 1) := by decide +kernel
theorem dX9_dark_1 : decode cX9_dark 1 = .ok (.iload_n 1, 1) := by decide +kernel
theorem dX9_dark_2 : decode cX9_dark 2 = .ok (.invokevirtual 186, 3) := by decide +kernel
theorem dX9_dark_5 : decode cX9_dark 5 = .ok (.astore 4, 2) := by decide +kernel
theorem dX9_dark_7 : decode cX9_dark 7 = .ok (.aload 4, 2) := by decide +kernel
theorem dX9_dark_9 : decode cX9_dark 9 = .ok (.ifnull 18, 3) := by decide +kernel
theorem dX9_dark_12 : decode cX9_dark 12 = .ok (.aload_n 0, 1) := by decide +kernel
theorem dX9_dark_13 : decode cX9_dark 13 = .ok (.getfield 10, 3) := by decide +kernel
theorem dX9_dark_16 : decode cX9_dark 16 = .ok (.iload_n 2, 1) := by decide +kernel
theorem dX9_dark_17 : decode cX9_dark 17 = .ok (.invokevirtual 204, 3) := by decide +kernel
theorem dX9_dark_20 : decode cX9_dark 20 = .ok (.ifCond .eq 7, 3) := by decide +kernel
theorem dX9_dark_23 : decode cX9_dark 23 = .ok (.iload_n 3, 1) := by decide +kernel
theorem dX9_dark_24 : decode cX9_dark 24 = .ok (.ifCond .ge 5, 3) := by decide +kernel
theorem dX9_dark_27 : decode cX9_dark 27 = .ok (.iconst (-1), 1) := by decide +kernel
theorem dX9_dark_28 : decode cX9_dark 28 = .ok (.ireturn, 1) := by decide +kernel
theorem dX9_dark_29 : decode cX9_dark 29 = .ok (.iconst 0, 1) := by decide +kernel
theorem dX9_dark_30 : decode cX9_dark 30 = .ok (.istore 5, 2) := by decide +kernel
theorem dX9_dark_32 : decode cX9_dark 32 = .ok (.iconst 0, 1) := by decide +kernel
theorem dX9_dark_33 : decode cX9_dark 33 = .ok (.istore 6, 2) := by decide +kernel
theorem dX9_dark_35 : decode cX9_dark 35 = .ok (.iload 6, 2) := by decide +kernel
theorem dX9_dark_37 : decode cX9_dark 37 = .ok (.bipush 12, 2) := by decide +kernel
theorem dX9_dark_39 : decode cX9_dark 39 = .ok (.if_icmp .ge 66, 3) := by decide +kernel
theorem dX9_dark_42 : decode cX9_dark 42 = .ok (.aload_n 0, 1) := by decide +kernel
theorem dX9_dark_43 : decode cX9_dark 43 = .ok (.getfield 16, 3) := by decide +kernel
theorem dX9_dark_46 : decode cX9_dark 46 = .ok (.aload_n 0, 1) := by decide +kernel
theorem dX9_dark_47 : decode cX9_dark 47 = .ok (.getfield 10, 3) := by decide +kernel
theorem dX9_dark_50 : decode cX9_dark 50 = .ok (.invokevirtual 320, 3) := by decide +kernel
theorem dX9_dark_53 : decode cX9_dark 53 = .ok (.aload_n 0, 1) := by decide +kernel
theorem dX9_dark_54 : decode cX9_dark 54 = .ok (.getfield 16, 3) := by decide +kernel
theorem dX9_dark_57 : decode cX9_dark 57 = .ok (.iload 6, 2) := by decide +kernel
theorem dX9_dark_59 : decode cX9_dark 59 = .ok (.putfield 166, 3) := by decide +kernel
theorem dX9_dark_62 : decode cX9_dark 62 = .ok (.aload_n 0, 1) := by decide +kernel
theorem dX9_dark_63 : decode cX9_dark 63 = .ok (.getfield 35, 3) := by decide +kernel
theorem dX9_dark_66 : decode cX9_dark 66 = .ok (.aload_n 0, 1) := by decide +kernel
theorem dX9_dark_67 : decode cX9_dark 67 = .ok (.getfield 16, 3) := by decide +kernel
theorem dX9_dark_70 : decode cX9_dark 70 = .ok (.aload 4, 2) := by decide +kernel
theorem dX9_dark_72 : decode cX9_dark 72 = .ok (.iconst 0, 1) := by decide +kernel
theorem dX9_dark_73 : decode cX9_dark 73 = .ok (.invokevirtual 193, 3) := by decide +kernel
theorem dX9_dark_76 : decode cX9_dark 76 = .ok (.pop, 1) := by decide +kernel
theorem dX9_dark_77 : decode cX9_dark 77 = .ok (.aload_n 0, 1) := by decide +kernel
theorem dX9_dark_78 : decode cX9_dark 78 = .ok (.getfield 16, 3) := by decide +kernel
theorem dX9_dark_81 : decode cX9_dark 81 = .ok (.iload_n 2, 1) := by decide +kernel
theorem dX9_dark_82 : decode cX9_dark 82 = .ok (.iconst 0, 1) := by decide +kernel
theorem dX9_dark_83 : decode cX9_dark 83 = .ok (.invokevirtual 207, 3) := by decide +kernel
theorem dX9_dark_86 : decode cX9_dark 86 = .ok (.iload_n 3, 1) := by decide +kernel
theorem dX9_dark_87 : decode cX9_dark 87 = .ok (.if_icmp .ge 12, 3) := by decide +kernel
theorem dX9_dark_90 : decode cX9_dark 90 = .ok (.iload 5, 2) := by decide +kernel
theorem dX9_dark_92 : decode cX9_dark 92 = .ok (.iconst 1, 1) := by decide +kernel
theorem dX9_dark_93 : decode cX9_dark 93 = .ok (.iload 6, 2) := by decide +kernel
theorem dX9_dark_95 : decode cX9_dark 95 = .ok (.ishl, 1) := by decide +kernel
theorem dX9_dark_96 : decode cX9_dark 96 = .ok (.ior, 1) := by decide +kernel
theorem dX9_dark_97 : decode cX9_dark 97 = .ok (.istore 5, 2) := by decide +kernel
theorem dX9_dark_99 : decode cX9_dark 99 = .ok (.iinc 6 1, 3) := by decide +kernel
theorem dX9_dark_102 : decode cX9_dark 102 = .ok (.goto (-67), 3) := by decide +kernel
theorem dX9_dark_105 : decode cX9_dark 105 = .ok (.iload 5, 2) := by decide +kernel
theorem dX9_dark_107 : decode cX9_dark 107 = .ok (.ireturn, 1) := by decide +kernel
theorem ce_X9_dark : CeV RX9 yX9_dark cX9_dark 7 (some .int) 3 := ⟨tb_1144, tb_1145, tb_1, tb_1146, rfl, by decide, by decide, by decide +kernel⟩
theorem dX9_ahead_0 : decode cX9_ahead 0 = .ok (.aload_n 0, 1) := by decide +kernel
theorem dX9_ahead_1 : decode cX9_ahead 1 = .ok (.iload_n 1, 1) := by decide +kernel
theorem dX9_ahead_2 : decode cX9_ahead 2 = .ok (.invokevirtual 186, 3) := by decide +kernel
theorem dX9_ahead_5 : decode cX9_ahead 5 = .ok (.astore 4, 2) := by decide +kernel
theorem dX9_ahead_7 : decode cX9_ahead 7 = .ok (.aload 4, 2) := by decide +kernel
theorem dX9_ahead_9 : decode cX9_ahead 9 = .ok (.ifnull 23, 3) := by decide +kernel
theorem dX9_ahead_12 : decode cX9_ahead 12 = .ok (.aload_n 0, 1) := by decide +kernel
theorem dX9_ahead_13 : decode cX9_ahead 13 = .ok (.getfield 10, 3) := by decide +kernel
theorem dX9_ahead_16 : decode cX9_ahead 16 = .ok (.invokevirtual 111, 3) := by decide +kernel
theorem dX9_ahead_19 : decode cX9_ahead 19 = .ok (.ifCond .eq 13, 3) := by decide +kernel
theorem dX9_ahead_22 : decode cX9_ahead 22 = .ok (.iload_n 2, 1) := by decide +kernel
theorem dX9_ahead_23 : decode cX9_ahead 23 = .ok (.iconst 1, 1) := by decide +kernel
theorem dX9_ahead_24 : decode cX9_ahead 24 = .ok (.bipush 10, 2) := by decide +kernel
theorem dX9_ahead_26 : decode cX9_ahead 26 = .ok (.invokestatic 95, 3) := by decide +kernel
theorem dX9_ahead_29 : decode cX9_ahead 29 = .ok (.ifCond .ne 6, 3) := by decide +kernel
theorem dX9_ahead_32 : decode cX9_ahead 32 = .ok (.bipush (-3), 2) := by decide +kernel
theorem dX9_ahead_34 : decode cX9_ahead 34 = .ok (.ireturn, 1) := by decide +kernel
theorem dX9_ahead_35 : decode cX9_ahead 35 = .ok (.iload_n 3, 1) := by decide +kernel
theorem dX9_ahead_36 : decode cX9_ahead 36 = .ok (.bipush (-2), 2) := by decide +kernel
theorem dX9_ahead_38 : decode cX9_ahead 38 = .ok (.aload_n 0, 1) := by decide +kernel
theorem dX9_ahead_39 : decode cX9_ahead 39 = .ok (.getfield 10, 3) := by decide +kernel
theorem dX9_ahead_42 : decode cX9_ahead 42 = .ok (.getfield 152, 3) := by decide +kernel
theorem dX9_ahead_45 : decode cX9_ahead 45 = .ok (.iconst 1, 1) := by decide +kernel
theorem dX9_ahead_46 : decode cX9_ahead 46 = .ok (.isub, 1) := by decide +kernel
theorem dX9_ahead_47 : decode cX9_ahead 47 = .ok (.invokestatic 95, 3) := by decide +kernel
theorem dX9_ahead_50 : decode cX9_ahead 50 = .ok (.ifCond .ne 6, 3) := by decide +kernel
theorem dX9_ahead_53 : decode cX9_ahead 53 = .ok (.bipush (-3), 2) := by decide +kernel
theorem dX9_ahead_55 : decode cX9_ahead 55 = .ok (.ireturn, 1) := by decide +kernel
theorem dX9_ahead_56 : decode cX9_ahead 56 = .ok (.aload_n 0, 1) := by decide +kernel
theorem dX9_ahead_57 : decode cX9_ahead 57 = .ok (.getfield 16, 3) := by decide +kernel
theorem dX9_ahead_60 : decode cX9_ahead 60 = .ok (.aload_n 0, 1) := by decide +kernel
theorem dX9_ahead_61 : decode cX9_ahead 61 = .ok (.getfield 10, 3) := by decide +kernel
theorem dX9_ahead_64 : decode cX9_ahead 64 = .ok (.invokevirtual 320, 3) := by decide +kernel
theorem dX9_ahead_67 : decode cX9_ahead 67 = .ok (.iconst 0, 1) := by decide +kernel
theorem dX9_ahead_68 : decode cX9_ahead 68 = .ok (.istore 5, 2) := by decide +kernel
theorem dX9_ahead_70 : decode cX9_ahead 70 = .ok (.iconst 0, 1) := by decide +kernel
theorem dX9_ahead_71 : decode cX9_ahead 71 = .ok (.istore 6, 2) := by decide +kernel
theorem dX9_ahead_73 : decode cX9_ahead 73 = .ok (.iload 6, 2) := by decide +kernel
theorem dX9_ahead_75 : decode cX9_ahead 75 = .ok (.iload_n 2, 1) := by decide +kernel
theorem dX9_ahead_76 : decode cX9_ahead 76 = .ok (.if_icmp .ge 37, 3) := by decide +kernel
theorem dX9_ahead_79 : decode cX9_ahead 79 = .ok (.iload 5, 2) := by decide +kernel
theorem dX9_ahead_81 : decode cX9_ahead 81 = .ok (.aload_n 0, 1) := by decide +kernel
theorem dX9_ahead_82 : decode cX9_ahead 82 = .ok (.getfield 35, 3) := by decide +kernel
theorem dX9_ahead_85 : decode cX9_ahead 85 = .ok (.aload_n 0, 1) := by decide +kernel
theorem dX9_ahead_86 : decode cX9_ahead 86 = .ok (.getfield 16, 3) := by decide +kernel
theorem dX9_ahead_89 : decode cX9_ahead 89 = .ok (.aload 4, 2) := by decide +kernel
theorem dX9_ahead_91 : decode cX9_ahead 91 = .ok (.iload_n 3, 1) := by decide +kernel
theorem dX9_ahead_92 : decode cX9_ahead 92 = .ok (.iconst (-1), 1) := by decide +kernel
theorem dX9_ahead_93 : decode cX9_ahead 93 = .ok (.if_icmp .ne 7, 3) := by decide +kernel
theorem dX9_ahead_96 : decode cX9_ahead 96 = .ok (.iconst 1, 1) := by decide +kernel
theorem dX9_ahead_97 : decode cX9_ahead 97 = .ok (.goto 4, 3) := by decide +kernel
theorem dX9_ahead_100 : decode cX9_ahead 100 = .ok (.iconst 0, 1) := by decide +kernel
theorem dX9_ahead_101 : decode cX9_ahead 101 = .ok (.invokevirtual 193, 3) := by decide +kernel
theorem dX9_ahead_104 : decode cX9_ahead 104 = .ok (.iadd, 1) := by decide +kernel
theorem dX9_ahead_105 : decode cX9_ahead 105 = .ok (.istore 5, 2) := by decide +kernel
theorem dX9_ahead_107 : decode cX9_ahead 107 = .ok (.iinc 6 1, 3) := by decide +kernel
theorem dX9_ahead_110 : decode cX9_ahead 110 = .ok (.goto (-37), 3) := by decide +kernel
theorem dX9_ahead_113 : decode cX9_ahead 113 = .ok (.iload_n 3, 1) := by decide +kernel
theorem dX9_ahead_114 : decode cX9_ahead 114 = .ok (.bipush (-2), 2) := by decide +kernel
theorem dX9_ahead_116 : decode cX9_ahead 116 = .ok (.if_icmp .ne 11, 3) := by decide +kernel
theorem dX9_ahead_119 : decode cX9_ahead 119 = .ok (.aload_n 0, 1) := by decide +kernel
theorem dX9_ahead_120 : decode cX9_ahead 120 = .ok (.getfield 16, 3) := by decide +kernel
theorem dX9_ahead_123 : decode cX9_ahead 123 = .ok (.invokevirtual 197, 3) := by decide +kernel
theorem dX9_ahead_126 : decode cX9_ahead 126 = .ok (.ireturn, 1) := by decide +kernel
theorem dX9_ahead_127 : decode cX9_ahead 127 = .ok (.iload_n 3, 1) := by decide +kernel
theorem dX9_ahead_128 : decode cX9_ahead 128 = .ok (.iconst (-1), 1) := by decide +kernel
theorem dX9_ahead_129 : decode cX9_ahead 129 = .ok (.if_icmp .ne 8, 3) := by decide +kernel
theorem dX9_ahead_132 : decode cX9_ahead 132 = .ok (.iload 5, 2) := by decide +kernel
theorem dX9_ahead_134 : decode cX9_ahead 134 = .ok (.goto 12, 3) := by decide +kernel
theorem dX9_ahead_137 : decode cX9_ahead 137 = .ok (.aload_n 0, 1) := by decide +kernel
theorem dX9_ahead_138 : decode cX9_ahead 138 = .ok (.getfield 16, 3) := by decide +kernel
theorem dX9_ahead_141 : decode cX9_ahead 141 = .ok (.iload_n 3, 1) := by decide +kernel
theorem dX9_ahead_142 : decode cX9_ahead 142 = .ok (.iconst 0, 1) := by decide +kernel
theorem dX9_ahead_143 : decode cX9_ahead 143 = .ok (.invokevirtual 207, 3) := by decide +kernel
theorem dX9_ahead_146 : decode cX9_ahead 146 = .ok (.ireturn, 1) := by decide +kernel
theorem ce_X9_ahead : CeV RX9 yX9_ahead cX9_ahead 7 (some .int) 3 := ⟨tb_1153, tb_1154, tb_1, tb_1155, rfl, by decide, by decide, by decide +kernel⟩
theorem begin_inv {I : MI} {w h x y a : Int32} (hI : INV I) (hT : okT w h x y a) : INV (beginI I 100 w h x y a) := by
  obtain ⟨h1, h2, h3, h4, h5, h6, h7, h8, h9, h10⟩ := hT
  have hI := hI.put (n := 100) (k := 0) (v := w) (lo := 0) (hi := 24) rfl (by first | omega | decide)
  have hI := hI.put (n := 100) (k := 1) (v := h) (lo := 0) (hi := 24) rfl (by first | omega | decide)
  have hI := hI.put (n := 100) (k := 2) (v := x) (lo := 0) (hi := 23) rfl (by first | omega | decide)
  have hI := hI.put (n := 100) (k := 3) (v := y) (lo := 0) (hi := 23) rfl (by first | omega | decide)
  have hI := hI.putF (n := 100) (k := 4) (v := a) rfl
  have hI := hI.put (n := 100) (k := 5) (v := 0) (lo := 0) (hi := 11) rfl (by first | omega | decide)
  have hI := hI.putF (n := 100) (k := 6) (v := 0) rfl
  have hI := hI.putF (n := 100) (k := 7) (v := 0) rfl
  have hI := hI.put (n := 100) (k := 8) (v := 0) (lo := 0) (hi := 24) rfl (by first | omega | decide)
  have hI := hI.put (n := 100) (k := 9) (v := 0) (lo := 0) (hi := 8) rfl (by first | omega | decide)
  have hI := hI.fill (x := 101) (N := 576) (v := 0) (fun k _ => (by decide : (-2147483648 : Int) ≤ (0 : Int32).toInt ∧ (0 : Int32).toInt ≤ (2147483647 : Int)))
  have hI := hI.fill (x := 102) (N := 576) (v := (-1)) (fun k _ => (by decide : (-2147483648 : Int) ≤ ((-1) : Int32).toInt ∧ ((-1) : Int32).toInt ≤ (2147483647 : Int)))
  have hI := hI.fill (x := 103) (N := 576) (v := (-1)) (fun k _ => (by decide : (-1 : Int) ≤ ((-1) : Int32).toInt ∧ ((-1) : Int32).toInt ≤ (23 : Int)))
  have hI := hI.fill (x := 104) (N := 576) (v := (-1)) (fun k _ => (by decide : (-1 : Int) ≤ ((-1) : Int32).toInt ∧ ((-1) : Int32).toInt ≤ (7 : Int)))
  have hI := hI.fill (x := 105) (N := 288) (v := (-1)) (fun k _ => (by decide : (-1 : Int) ≤ ((-1) : Int32).toInt ∧ ((-1) : Int32).toInt ≤ (7 : Int)))
  have hI := hI.fill (x := 106) (N := 288) (v := 0) (fun k _ => (by decide : (-2147483648 : Int) ≤ (0 : Int32).toInt ∧ (0 : Int32).toInt ≤ (2147483647 : Int)))
  exact hI
theorem begin_kp {I : MI} {w h x y a : Int32} : Kp [(100, 107)] [] I (beginI I 100 w h x y a) := by
  intro n k h1 h2
  have hn : ¬ (100 ≤ n ∧ n < 107) := fun hh => by rw [inR_of (100, 107) (by simp) hh] at h1; cases h1
  simp only [beginI, fillI, u2_v]
  simp [show n ≠ 100 from by omega, show n ≠ 101 from by omega, show n ≠ 102 from by omega, show n ≠ 103 from by omega, show n ≠ 104 from by omega, show n ≠ 105 from by omega, show n ≠ 106 from by omega]
theorem dX9_town_0 : decode cX9_town 0 = .ok (.iload_n 1, 1) := by decide +kernel
theorem dX9_town_1 : decode cX9_town 1 = .ok (.iconst 4, 1) := by decide +kernel
theorem dX9_town_2 : decode cX9_town 2 = .ok (.bipush 24, 2) := by decide +kernel
theorem dX9_town_4 : decode cX9_town 4 = .ok (.invokestatic 95, 3) := by decide +kernel
theorem dX9_town_7 : decode cX9_town 7 = .ok (.ifCond .eq 13, 3) := by decide +kernel
theorem dX9_town_10 : decode cX9_town 10 = .ok (.iload_n 2, 1) := by decide +kernel
theorem dX9_town_11 : decode cX9_town 11 = .ok (.iconst 4, 1) := by decide +kernel
theorem dX9_town_12 : decode cX9_town 12 = .ok (.bipush 24, 2) := by decide +kernel
theorem dX9_town_14 : decode cX9_town 14 = .ok (.invokestatic 95, 3) := by decide +kernel
theorem dX9_town_17 : decode cX9_town 17 = .ok (.ifCond .ne 5, 3) := by decide +kernel
theorem dX9_town_20 : decode cX9_town 20 = .ok (.iconst 0, 1) := by decide +kernel
theorem dX9_town_21 : decode cX9_town 21 = .ok (.ireturn, 1) := by decide +kernel
theorem dX9_town_22 : decode cX9_town 22 = .ok (.iload_n 3, 1) := by decide +kernel
theorem dX9_town_23 : decode cX9_town 23 = .ok (.iconst 0, 1) := by decide +kernel
theorem dX9_town_24 : decode cX9_town 24 = .ok (.iload_n 1, 1) := by decide +kernel
theorem dX9_town_25 : decode cX9_town 25 = .ok (.iconst 1, 1) := by decide +kernel
theorem dX9_town_26 : decode cX9_town 26 = .ok (.isub, 1) := by decide +kernel
theorem dX9_town_27 : decode cX9_town 27 = .ok (.invokestatic 95, 3) := by decide +kernel
theorem dX9_town_30 : decode cX9_town 30 = .ok (.ifCond .eq 27, 3) := by decide +kernel
theorem dX9_town_33 : decode cX9_town 33 = .ok (.iload 4, 2) := by decide +kernel
theorem dX9_town_35 : decode cX9_town 35 = .ok (.iconst 0, 1) := by decide +kernel
theorem dX9_town_36 : decode cX9_town 36 = .ok (.iload_n 2, 1) := by decide +kernel
theorem dX9_town_37 : decode cX9_town 37 = .ok (.iconst 1, 1) := by decide +kernel
theorem dX9_town_38 : decode cX9_town 38 = .ok (.isub, 1) := by decide +kernel
theorem dX9_town_39 : decode cX9_town 39 = .ok (.invokestatic 95, 3) := by decide +kernel
theorem dX9_town_42 : decode cX9_town 42 = .ok (.ifCond .eq 15, 3) := by decide +kernel
theorem dX9_town_45 : decode cX9_town 45 = .ok (.iload 5, 2) := by decide +kernel
theorem dX9_town_47 : decode cX9_town 47 = .ok (.iconst 0, 1) := by decide +kernel
theorem dX9_town_48 : decode cX9_town 48 = .ok (.sipush 1000, 3) := by decide +kernel
theorem dX9_town_51 : decode cX9_town 51 = .ok (.invokestatic 95, 3) := by decide +kernel
theorem dX9_town_54 : decode cX9_town 54 = .ok (.ifCond .ne 5, 3) := by decide +kernel
theorem dX9_town_57 : decode cX9_town 57 = .ok (.iconst 0, 1) := by decide +kernel
theorem dX9_town_58 : decode cX9_town 58 = .ok (.ireturn, 1) := by decide +kernel
theorem dX9_town_59 : decode cX9_town 59 = .ok (.aload_n 0, 1) := by decide +kernel
theorem dX9_town_60 : decode cX9_town 60 = .ok (.getfield 10, 3) := by decide +kernel
theorem dX9_town_63 : decode cX9_town 63 = .ok (.iload_n 1, 1) := by decide +kernel
theorem dX9_town_64 : decode cX9_town 64 = .ok (.iload_n 2, 1) := by decide +kernel
theorem dX9_town_65 : decode cX9_town 65 = .ok (.iload_n 3, 1) := by decide +kernel
theorem dX9_town_66 : decode cX9_town 66 = .ok (.iload 4, 2) := by decide +kernel
theorem dX9_town_68 : decode cX9_town 68 = .ok (.iload 5, 2) := by decide +kernel
theorem dX9_town_70 : decode cX9_town 70 = .ok (.invokevirtual 99, 3) := by decide +kernel
theorem dX9_town_73 : decode cX9_town 73 = .ok (.iconst 1, 1) := by decide +kernel
theorem dX9_town_74 : decode cX9_town 74 = .ok (.ireturn, 1) := by decide +kernel
theorem ce_X9_town : CeV RX9 yX9_town cX9_town 6 (some .boolean) 5 := ⟨tb_448, tb_449, tb_1, tb_450, rfl, by decide, by decide, by decide +kernel⟩
def IMS (ns : List Nat) (G : MG) : Prop := ∀ k, k < 4 → G 1 k = 0 ∨ (G 1 k = 120 + 10 * k ∧ TOK ns G (120 + 10 * k))
theorem dX9_back_0 : decode cX9_back 0 = .ok (.iload_n 1, 1) := by decide +kernel
theorem dX9_back_1 : decode cX9_back 1 = .ok (.iconst 0, 1) := by decide +kernel
theorem dX9_back_2 : decode cX9_back 2 = .ok (.iconst 3, 1) := by decide +kernel
theorem dX9_back_3 : decode cX9_back 3 = .ok (.invokestatic 95, 3) := by decide +kernel
theorem dX9_back_6 : decode cX9_back 6 = .ok (.ifCond .ne 5, 3) := by decide +kernel
theorem dX9_back_9 : decode cX9_back 9 = .ok (.iconst (-1), 1) := by decide +kernel
theorem dX9_back_10 : decode cX9_back 10 = .ok (.ireturn, 1) := by decide +kernel
theorem dX9_back_11 : decode cX9_back 11 = .ok (.aload_n 0, 1) := by decide +kernel
theorem dX9_back_12 : decode cX9_back 12 = .ok (.getfield 19, 3) := by decide +kernel
theorem dX9_back_15 : decode cX9_back 15 = .ok (.iload_n 1, 1) := by decide +kernel
theorem dX9_back_16 : decode cX9_back 16 = .ok (.aaload, 1) := by decide +kernel
theorem dX9_back_17 : decode cX9_back 17 = .ok (.astore_n 2, 1) := by decide +kernel
theorem dX9_back_18 : decode cX9_back 18 = .ok (.aload_n 2, 1) := by decide +kernel
theorem dX9_back_19 : decode cX9_back 19 = .ok (.ifnonnull 5, 3) := by decide +kernel
theorem dX9_back_22 : decode cX9_back 22 = .ok (.iconst (-1), 1) := by decide +kernel
theorem dX9_back_23 : decode cX9_back 23 = .ok (.ireturn, 1) := by decide +kernel
theorem dX9_back_24 : decode cX9_back 24 = .ok (.aload_n 0, 1) := by decide +kernel
theorem dX9_back_25 : decode cX9_back 25 = .ok (.getfield 10, 3) := by decide +kernel
theorem dX9_back_28 : decode cX9_back 28 = .ok (.aload_n 2, 1) := by decide +kernel
theorem dX9_back_29 : decode cX9_back 29 = .ok (.invokevirtual 320, 3) := by decide +kernel
theorem dX9_back_32 : decode cX9_back 32 = .ok (.aload_n 0, 1) := by decide +kernel
theorem dX9_back_33 : decode cX9_back 33 = .ok (.getfield 10, 3) := by decide +kernel
theorem dX9_back_36 : decode cX9_back 36 = .ok (.getfield 190, 3) := by decide +kernel
theorem dX9_back_39 : decode cX9_back 39 = .ok (.ireturn, 1) := by decide +kernel
theorem ce_X9_back : CeV RX9 yX9_back cX9_back 3 (some .int) 1 := ⟨tb_1169, tb_1170, tb_1, tb_1171, rfl, by decide, by decide, by decide +kernel⟩
