theorem dX4_read_0 : decode cX4_read 0 = .ok (.aload_n 1, 1) := by decide +kernel
theorem dX4_read_1 : decode cX4_read 1 = .ok (.iconst 0, 1) := by decide +kernel
theorem dX4_read_2 : decode cX4_read 2 = .ok (.aload_n 0, 1) := by decide +kernel
theorem dX4_read_3 : decode cX4_read 3 = .ok (.getfield 9, 3) := by decide +kernel
theorem dX4_read_6 : decode cX4_read 6 = .ok (.iconst 0, 1) := by decide +kernel
theorem dX4_read_7 : decode cX4_read 7 = .ok (.iload_n 2, 1) := by decide +kernel
theorem dX4_read_8 : decode cX4_read 8 = .ok (.invokestatic 19, 3) := by decide +kernel
theorem dX4_read_11 : decode cX4_read 11 = .ok (.aload_n 0, 1) := by decide +kernel
theorem dX4_read_12 : decode cX4_read 12 = .ok (.iload_n 2, 1) := by decide +kernel
theorem dX4_read_13 : decode cX4_read 13 = .ok (.putfield 25, 3) := by decide +kernel
theorem dX4_read_16 : decode cX4_read 16 = .ok (.aload_n 0, 1) := by decide +kernel
theorem dX4_read_17 : decode cX4_read 17 = .ok (.iconst 0, 1) := by decide +kernel
theorem dX4_read_18 : decode cX4_read 18 = .ok (.putfield 29, 3) := by decide +kernel
theorem dX4_read_21 : decode cX4_read 21 = .ok (.aload_n 0, 1) := by decide +kernel
theorem dX4_read_22 : decode cX4_read 22 = .ok (.iconst 0, 1) := by decide +kernel
theorem dX4_read_23 : decode cX4_read 23 = .ok (.putfield 32, 3) := by decide +kernel
theorem dX4_read_26 : decode cX4_read 26 = .ok (.aload_n 0, 1) := by decide +kernel
theorem dX4_read_27 : decode cX4_read 27 = .ok (.iconst 0, 1) := by decide +kernel
theorem dX4_read_28 : decode cX4_read 28 = .ok (.putfield 35, 3) := by decide +kernel
theorem dX4_read_31 : decode cX4_read 31 = .ok (.aload_n 0, 1) := by decide +kernel
theorem dX4_read_32 : decode cX4_read 32 = .ok (.iconst 0, 1) := by decide +kernel
theorem dX4_read_33 : decode cX4_read 33 = .ok (.putfield 38, 3) := by decide +kernel
theorem dX4_read_36 : decode cX4_read 36 = .ok (.aload_n 0, 1) := by decide +kernel
theorem dX4_read_37 : decode cX4_read 37 = .ok (.iconst 0, 1) := by decide +kernel
theorem dX4_read_38 : decode cX4_read 38 = .ok (.putfield 41, 3) := by decide +kernel
theorem dX4_read_41 : decode cX4_read 41 = .ok (.aload_n 0, 1) := by decide +kernel
theorem dX4_read_42 : decode cX4_read 42 = .ok (.iconst 0, 1) := by decide +kernel
theorem dX4_read_43 : decode cX4_read 43 = .ok (.putfield 44, 3) := by decide +kernel
theorem dX4_read_46 : decode cX4_read 46 = .ok (.aload_n 0, 1) := by decide +kernel
theorem dX4_read_47 : decode cX4_read 47 = .ok (.iconst 0, 1) := by decide +kernel
theorem dX4_read_48 : decode cX4_read 48 = .ok (.putfield 47, 3) := by decide +kernel
theorem dX4_read_51 : decode cX4_read 51 = .ok (.aload_n 0, 1) := by decide +kernel
theorem dX4_read_52 : decode cX4_read 52 = .ok (.aload_n 3, 1) := by decide +kernel
theorem dX4_read_53 : decode cX4_read 53 = .ok (.putfield 50, 3) := by decide +kernel
theorem dX4_read_56 : decode cX4_read 56 = .ok (.aload_n 0, 1) := by decide +kernel
theorem dX4_read_57 : decode cX4_read 57 = .ok (.getfield 50, 3) := by decide +kernel
theorem dX4_read_60 : decode cX4_read 60 = .ok (.invokevirtual 54, 3) := by decide +kernel
theorem dX4_read_63 : decode cX4_read 63 = .ok (.iconst 0, 1) := by decide +kernel
theorem dX4_read_64 : decode cX4_read 64 = .ok (.istore 4, 2) := by decide +kernel
theorem dX4_read_66 : decode cX4_read 66 = .ok (.iload 4, 2) := by decide +kernel
theorem dX4_read_68 : decode cX4_read 68 = .ok (.sipush 400, 3) := by decide +kernel
theorem dX4_read_71 : decode cX4_read 71 = .ok (.if_icmp .gt 45, 3) := by decide +kernel
theorem dX4_read_74 : decode cX4_read 74 = .ok (.aload_n 0, 1) := by decide +kernel
theorem dX4_read_75 : decode cX4_read 75 = .ok (.getfield 47, 3) := by decide +kernel
theorem dX4_read_78 : decode cX4_read 78 = .ok (.iconst 5, 1) := by decide +kernel
theorem dX4_read_79 : decode cX4_read 79 = .ok (.if_icmp .eq 37, 3) := by decide +kernel
theorem dX4_read_82 : decode cX4_read 82 = .ok (.aload_n 0, 1) := by decide +kernel
theorem dX4_read_83 : decode cX4_read 83 = .ok (.getfield 44, 3) := by decide +kernel
theorem dX4_read_86 : decode cX4_read 86 = .ok (.ifCond .ne 30, 3) := by decide +kernel
theorem dX4_read_89 : decode cX4_read 89 = .ok (.aload_n 0, 1) := by decide +kernel
theorem dX4_read_90 : decode cX4_read 90 = .ok (.invokevirtual 59, 3) := by decide +kernel
theorem dX4_read_93 : decode cX4_read 93 = .ok (.aload_n 0, 1) := by decide +kernel
theorem dX4_read_94 : decode cX4_read 94 = .ok (.invokevirtual 62, 3) := by decide +kernel
theorem dX4_read_97 : decode cX4_read 97 = .ok (.aload_n 0, 1) := by decide +kernel
theorem dX4_read_98 : decode cX4_read 98 = .ok (.dup, 1) := by decide +kernel
theorem dX4_read_99 : decode cX4_read 99 = .ok (.getfield 29, 3) := by decide +kernel
theorem dX4_read_102 : decode cX4_read 102 = .ok (.aload_n 0, 1) := by decide +kernel
theorem dX4_read_103 : decode cX4_read 103 = .ok (.getfield 65, 3) := by decide +kernel
theorem dX4_read_106 : decode cX4_read 106 = .ok (.iadd, 1) := by decide +kernel
theorem dX4_read_107 : decode cX4_read 107 = .ok (.putfield 29, 3) := by decide +kernel
theorem dX4_read_110 : decode cX4_read 110 = .ok (.iinc 4 1, 3) := by decide +kernel
theorem dX4_read_113 : decode cX4_read 113 = .ok (.goto (-47), 3) := by decide +kernel
theorem dX4_read_116 : decode cX4_read 116 = .ok (.aload_n 0, 1) := by decide +kernel
theorem dX4_read_117 : decode cX4_read 117 = .ok (.getfield 44, 3) := by decide +kernel
theorem dX4_read_120 : decode cX4_read 120 = .ok (.ireturn, 1) := by decide +kernel
theorem ce_X4_read : CeV RX4 yX4_read cX4_read 5 (some .int) 3 := ⟨tb_563, tb_564, tb_9, tb_565, rfl, by decide, by decide, by decide +kernel⟩
theorem dJ6_bitCount_0f7a4_0 : decode cJ6_bitCount_0f7a4 0 = .ok (.iload_n 0, 1) := by decide +kernel
theorem dJ6_bitCount_0f7a4_1 : decode cJ6_bitCount_0f7a4 1 = .ok (.iload_n 0, 1) := by decide +kernel
theorem dJ6_bitCount_0f7a4_2 : decode cJ6_bitCount_0f7a4 2 = .ok (.iconst 1, 1) := by decide +kernel
theorem dJ6_bitCount_0f7a4_3 : decode cJ6_bitCount_0f7a4 3 = .ok (.iushr, 1) := by decide +kernel
theorem dJ6_bitCount_0f7a4_4 : decode cJ6_bitCount_0f7a4 4 = .ok (.ldc_w 265, 3) := by decide +kernel
theorem dJ6_bitCount_0f7a4_7 : decode cJ6_bitCount_0f7a4 7 = .ok (.iand, 1) := by decide +kernel
theorem dJ6_bitCount_0f7a4_8 : decode cJ6_bitCount_0f7a4 8 = .ok (.isub, 1) := by decide +kernel
theorem dJ6_bitCount_0f7a4_9 : decode cJ6_bitCount_0f7a4 9 = .ok (.istore_n 0, 1) := by decide +kernel
theorem dJ6_bitCount_0f7a4_10 : decode cJ6_bitCount_0f7a4 10 = .ok (.iload_n 0, 1) := by decide +kernel
theorem dJ6_bitCount_0f7a4_11 : decode cJ6_bitCount_0f7a4 11 = .ok (.ldc_w 266, 3) := by decide +kernel
theorem dJ6_bitCount_0f7a4_14 : decode cJ6_bitCount_0f7a4 14 = .ok (.iand, 1) := by decide +kernel
theorem dJ6_bitCount_0f7a4_15 : decode cJ6_bitCount_0f7a4 15 = .ok (.iload_n 0, 1) := by decide +kernel
theorem dJ6_bitCount_0f7a4_16 : decode cJ6_bitCount_0f7a4 16 = .ok (.iconst 2, 1) := by decide +kernel
theorem dJ6_bitCount_0f7a4_17 : decode cJ6_bitCount_0f7a4 17 = .ok (.iushr, 1) := by decide +kernel
theorem dJ6_bitCount_0f7a4_18 : decode cJ6_bitCount_0f7a4 18 = .ok (.ldc_w 266, 3) := by decide +kernel
theorem dJ6_bitCount_0f7a4_21 : decode cJ6_bitCount_0f7a4 21 = .ok (.iand, 1) := by decide +kernel
theorem dJ6_bitCount_0f7a4_22 : decode cJ6_bitCount_0f7a4 22 = .ok (.iadd, 1) := by decide +kernel
theorem dJ6_bitCount_0f7a4_23 : decode cJ6_bitCount_0f7a4 23 = .ok (.istore_n 0, 1) := by decide +kernel
theorem dJ6_bitCount_0f7a4_24 : decode cJ6_bitCount_0f7a4 24 = .ok (.iload_n 0, 1) := by decide +kernel
theorem dJ6_bitCount_0f7a4_25 : decode cJ6_bitCount_0f7a4 25 = .ok (.iload_n 0, 1) := by decide +kernel
theorem dJ6_bitCount_0f7a4_26 : decode cJ6_bitCount_0f7a4 26 = .ok (.iconst 4, 1) := by decide +kernel
theorem dJ6_bitCount_0f7a4_27 : decode cJ6_bitCount_0f7a4 27 = .ok (.iushr, 1) := by decide +kernel
theorem dJ6_bitCount_0f7a4_28 : decode cJ6_bitCount_0f7a4 28 = .ok (.iadd, 1) := by decide +kernel
theorem dJ6_bitCount_0f7a4_29 : decode cJ6_bitCount_0f7a4 29 = .ok (.ldc_w 267, 3) := by decide +kernel
theorem dJ6_bitCount_0f7a4_32 : decode cJ6_bitCount_0f7a4 32 = .ok (.iand, 1) := by decide +kernel
theorem dJ6_bitCount_0f7a4_33 : decode cJ6_bitCount_0f7a4 33 = .ok (.istore_n 0, 1) := by decide +kernel
theorem dJ6_bitCount_0f7a4_34 : decode cJ6_bitCount_0f7a4 34 = .ok (.iload_n 0, 1) := by decide +kernel
theorem dJ6_bitCount_0f7a4_35 : decode cJ6_bitCount_0f7a4 35 = .ok (.iload_n 0, 1) := by decide +kernel
theorem dJ6_bitCount_0f7a4_36 : decode cJ6_bitCount_0f7a4 36 = .ok (.bipush 8, 2) := by decide +kernel
theorem dJ6_bitCount_0f7a4_38 : decode cJ6_bitCount_0f7a4 38 = .ok (.iushr, 1) := by decide +kernel
theorem dJ6_bitCount_0f7a4_39 : decode cJ6_bitCount_0f7a4 39 = .ok (.iadd, 1) := by decide +kernel
theorem dJ6_bitCount_0f7a4_40 : decode cJ6_bitCount_0f7a4 40 = .ok (.istore_n 0, 1) := by decide +kernel
theorem dJ6_bitCount_0f7a4_41 : decode cJ6_bitCount_0f7a4 41 = .ok (.iload_n 0, 1) := by decide +kernel
theorem dJ6_bitCount_0f7a4_42 : decode cJ6_bitCount_0f7a4 42 = .ok (.iload_n 0, 1) := by decide +kernel
theorem dJ6_bitCount_0f7a4_43 : decode cJ6_bitCount_0f7a4 43 = .ok (.bipush 16, 2) := by decide +kernel
theorem dJ6_bitCount_0f7a4_45 : decode cJ6_bitCount_0f7a4 45 = .ok (.iushr, 1) := by decide +kernel
theorem dJ6_bitCount_0f7a4_46 : decode cJ6_bitCount_0f7a4 46 = .ok (.iadd, 1) := by decide +kernel
theorem dJ6_bitCount_0f7a4_47 : decode cJ6_bitCount_0f7a4 47 = .ok (.istore_n 0, 1) := by decide +kernel
theorem dJ6_bitCount_0f7a4_48 : decode cJ6_bitCount_0f7a4 48 = .ok (.iload_n 0, 1) := by decide +kernel
theorem dJ6_bitCount_0f7a4_49 : decode cJ6_bitCount_0f7a4 49 = .ok (.bipush 63, 2) := by decide +kernel
theorem dJ6_bitCount_0f7a4_51 : decode cJ6_bitCount_0f7a4 51 = .ok (.iand, 1) := by decide +kernel
theorem dJ6_bitCount_0f7a4_52 : decode cJ6_bitCount_0f7a4 52 = .ok (.ireturn, 1) := by decide +kernel
theorem ce_J6_bitCount_0f7a4 : CeS yJ6_bitCount_0f7a4 cJ6_bitCount_0f7a4 1 (some .int) 1 := ⟨tb_961, tb_19, tb_962, by decide, by decide, by decide +kernel⟩
set_option maxHeartbeats 4000000 in
set_option maxRecDepth 20000 in
theorem V_J6_bitCount_0f7a4 (l : Launch) (D : va_G) (A : Nat → Prop) (ad : Nat → Nat) (ns : List Nat) (I : MI) (L : ML) (G : MG) (a0 : Int32) (hI : INV I) : Met l yJ6_bitCount_0f7a4 (wd yJ6_bitCount_0f7a4 cJ6_bitCount_0f7a4 1 (some .int)) ({ frames := 0, cells := 0, slots := 0, locals := 0 }) (va_Pc [.int a0] (PM D A ad ns I L G)) (va_Qi (fun r u => u = (ad, ns, I, L, G) ∧ (True)) (BM D A) A) 0 0 A := by
  refine m_ofW (by decide) (Nat.le_of_ble_eq_true rfl) ?_
  intro p e s m below meth c ls args hC hE hM hA hS hl
  obtain ⟨hx, hb, hml, hown, hts, hr, hlocks, hin⟩ := hC
  have k0 : (0 : Int32).toInt = 0 := by decide
  have k1 : (1 : Int32).toInt = 1 := by decide
  have k2 : (2 : Int32).toInt = 2 := by decide
  have k4 : (4 : Int32).toInt = 4 := by decide
  have k8 : (8 : Int32).toInt = 8 := by decide
  have k16 : (16 : Int32).toInt = 16 := by decide
  have k63 : (63 : Int32).toInt = 63 := by decide
  have k252645135 : (252645135 : Int32).toInt = 252645135 := by decide
  have k858993459 : (858993459 : Int32).toInt = 858993459 := by decide
  have k1431655765 : (1431655765 : Int32).toInt = 1431655765 := by decide
  have hl : lv_has ls 1 [(0, .int (a0))] := hl
  refine lv_iload_n hx hb dJ6_bitCount_0f7a4_0 rfl (lv_at hl 0 rfl) ?_
  refine lv_iload_n hx hb dJ6_bitCount_0f7a4_1 rfl (lv_at hl 0 rfl) ?_
  refine lv_iconst (v := (1)) hx hb dJ6_bitCount_0f7a4_2 (by decide) ?_
  refine lv_iushr hx hb dJ6_bitCount_0f7a4_3 rfl ?_
  refine lv_topi (fun v1 ev1 => ?_)
  refine lv_ldcw (v := (1431655765)) hx hb hown (hts _ tb_963) dJ6_bitCount_0f7a4_4 ?_
  refine lv_iand hx hb dJ6_bitCount_0f7a4_7 ?_
  refine lv_topi (fun v2 ev2 => ?_)
  have tv2 := a_and (c := 1431655765) ev2 (by decide) (by decide)
  refine lv_isub hx hb dJ6_bitCount_0f7a4_8 ?_
  refine lv_topi (fun v3 ev3 => ?_)
  refine lv_istore_n (lv' := [(0, .int (v3))]) hx hb dJ6_bitCount_0f7a4_9 rfl hl (by decide) rfl (fun ls hl => ?_)
  refine lv_iload_n hx hb dJ6_bitCount_0f7a4_10 rfl (lv_at hl 0 rfl) ?_
  refine lv_ldcw (v := (858993459)) hx hb hown (hts _ tb_964) dJ6_bitCount_0f7a4_11 ?_
  refine lv_iand hx hb dJ6_bitCount_0f7a4_14 ?_
  refine lv_topi (fun v4 ev4 => ?_)
  have tv4 := a_and (c := 858993459) ev4 (by decide) (by decide)
  refine lv_iload_n hx hb dJ6_bitCount_0f7a4_15 rfl (lv_at hl 0 rfl) ?_
  refine lv_iconst (v := (2)) hx hb dJ6_bitCount_0f7a4_16 (by decide) ?_
  refine lv_iushr hx hb dJ6_bitCount_0f7a4_17 rfl ?_
  refine lv_topi (fun v5 ev5 => ?_)
  refine lv_ldcw (v := (858993459)) hx hb hown (hts _ tb_964) dJ6_bitCount_0f7a4_18 ?_
  refine lv_iand hx hb dJ6_bitCount_0f7a4_21 ?_
  refine lv_topi (fun v6 ev6 => ?_)
  have tv6 := a_and (c := 858993459) ev6 (by decide) (by decide)
  refine lv_iadd hx hb dJ6_bitCount_0f7a4_22 ?_
  refine lv_topi (fun v7 ev7 => ?_)
  have tv7 := a_add ev7 (by omega) (by omega)
  refine lv_istore_n (lv' := [(0, .int (v7))]) hx hb dJ6_bitCount_0f7a4_23 rfl hl (by decide) rfl (fun ls hl => ?_)
  refine lv_iload_n hx hb dJ6_bitCount_0f7a4_24 rfl (lv_at hl 0 rfl) ?_
  refine lv_iload_n hx hb dJ6_bitCount_0f7a4_25 rfl (lv_at hl 0 rfl) ?_
  refine lv_iconst (v := (4)) hx hb dJ6_bitCount_0f7a4_26 (by decide) ?_
  refine lv_iushr hx hb dJ6_bitCount_0f7a4_27 rfl ?_
  refine lv_topi (fun v8 ev8 => ?_)
  refine lv_iadd hx hb dJ6_bitCount_0f7a4_28 ?_
  refine lv_topi (fun v9 ev9 => ?_)
  refine lv_ldcw (v := (252645135)) hx hb hown (hts _ tb_965) dJ6_bitCount_0f7a4_29 ?_
  refine lv_iand hx hb dJ6_bitCount_0f7a4_32 ?_
  refine lv_topi (fun v10 ev10 => ?_)
  have tv10 := a_and (c := 252645135) ev10 (by decide) (by decide)
  refine lv_istore_n (lv' := [(0, .int (v10))]) hx hb dJ6_bitCount_0f7a4_33 rfl hl (by decide) rfl (fun ls hl => ?_)
  refine lv_iload_n hx hb dJ6_bitCount_0f7a4_34 rfl (lv_at hl 0 rfl) ?_
  refine lv_iload_n hx hb dJ6_bitCount_0f7a4_35 rfl (lv_at hl 0 rfl) ?_
  refine lv_bipush (v := (8)) hx hb dJ6_bitCount_0f7a4_36 (by decide) ?_
  refine lv_iushr hx hb dJ6_bitCount_0f7a4_38 rfl ?_
  refine lv_topi (fun v11 ev11 => ?_)
  refine lv_iadd hx hb dJ6_bitCount_0f7a4_39 ?_
  refine lv_topi (fun v12 ev12 => ?_)
  refine lv_istore_n (lv' := [(0, .int (v12))]) hx hb dJ6_bitCount_0f7a4_40 rfl hl (by decide) rfl (fun ls hl => ?_)
  refine lv_iload_n hx hb dJ6_bitCount_0f7a4_41 rfl (lv_at hl 0 rfl) ?_
  refine lv_iload_n hx hb dJ6_bitCount_0f7a4_42 rfl (lv_at hl 0 rfl) ?_
  refine lv_bipush (v := (16)) hx hb dJ6_bitCount_0f7a4_43 (by decide) ?_
  refine lv_iushr hx hb dJ6_bitCount_0f7a4_45 rfl ?_
  refine lv_topi (fun v13 ev13 => ?_)
  refine lv_iadd hx hb dJ6_bitCount_0f7a4_46 ?_
  refine lv_topi (fun v14 ev14 => ?_)
  refine lv_istore_n (lv' := [(0, .int (v14))]) hx hb dJ6_bitCount_0f7a4_47 rfl hl (by decide) rfl (fun ls hl => ?_)
  refine lv_iload_n hx hb dJ6_bitCount_0f7a4_48 rfl (lv_at hl 0 rfl) ?_
  refine lv_bipush (v := (63)) hx hb dJ6_bitCount_0f7a4_49 (by decide) ?_
  refine lv_iand hx hb dJ6_bitCount_0f7a4_51 ?_
  refine lv_topi (fun v15 ev15 => ?_)
  have tv15 := a_and (c := 63) ev15 (by decide) (by decide)
  exact m_iret hx hb hr hlocks hM hS (Nat.le_of_ble_eq_true rfl) (Nat.le_of_ble_eq_true rfl) ⟨rfl, trivial⟩ dJ6_bitCount_0f7a4_52
theorem dX9_changeMirror_0 : decode cX9_changeMirror 0 = .ok (.iload 4, 2) := by decide +kernel
theorem dX9_changeMirror_2 : decode cX9_changeMirror 2 = .ok (.ifCond .ne 6, 3) := by decide +kernel
theorem dX9_changeMirror_5 : decode cX9_changeMirror 5 = .ok (.bipush (-2), 2) := by decide +kernel
theorem dX9_changeMirror_7 : decode cX9_changeMirror 7 = .ok (.ireturn, 1) := by decide +kernel
theorem dX9_changeMirror_8 : decode cX9_changeMirror 8 = .ok (.aload_n 0, 1) := by decide +kernel
theorem dX9_changeMirror_9 : decode cX9_changeMirror 9 = .ok (.getfield 10, 3) := by decide +kernel
theorem dX9_changeMirror_12 : decode cX9_changeMirror 12 = .ok (.iload_n 1, 1) := by decide +kernel
theorem dX9_changeMirror_13 : decode cX9_changeMirror 13 = .ok (.iload_n 2, 1) := by decide +kernel
theorem dX9_changeMirror_14 : decode cX9_changeMirror 14 = .ok (.invokevirtual 201, 3) := by decide +kernel
theorem dX9_changeMirror_17 : decode cX9_changeMirror 17 = .ok (.istore 5, 2) := by decide +kernel
theorem dX9_changeMirror_19 : decode cX9_changeMirror 19 = .ok (.aload_n 0, 1) := by decide +kernel
theorem dX9_changeMirror_20 : decode cX9_changeMirror 20 = .ok (.getfield 10, 3) := by decide +kernel
theorem dX9_changeMirror_23 : decode cX9_changeMirror 23 = .ok (.iload_n 1, 1) := by decide +kernel
theorem dX9_changeMirror_24 : decode cX9_changeMirror 24 = .ok (.iload_n 2, 1) := by decide +kernel
theorem dX9_changeMirror_25 : decode cX9_changeMirror 25 = .ok (.iload_n 3, 1) := by decide +kernel
theorem dX9_changeMirror_26 : decode cX9_changeMirror 26 = .ok (.invokevirtual 140, 3) := by decide +kernel
theorem dX9_changeMirror_29 : decode cX9_changeMirror 29 = .ok (.iload 5, 2) := by decide +kernel
theorem dX9_changeMirror_31 : decode cX9_changeMirror 31 = .ok (.ireturn, 1) := by decide +kernel
theorem ce_X9_changeMirror : CeV RX9 yX9_changeMirror cX9_changeMirror 6 (some .int) 4 := ⟨tb_514, tp_0, tb_1, tb_515, rfl, by decide, by decide, by decide +kernel⟩
theorem dX9_isPlaceOfSet_0 : decode cX9_isPlaceOfSet 0 = .ok (.iload_n 1, 1) := by decide +kernel
theorem dX9_isPlaceOfSet_1 : decode cX9_isPlaceOfSet 1 = .ok (.invokestatic 327, 3) := by decide +kernel
theorem dX9_isPlaceOfSet_4 : decode cX9_isPlaceOfSet 4 = .ok (.istore_n 3, 1) := by decide +kernel
theorem dX9_isPlaceOfSet_5 : decode cX9_isPlaceOfSet 5 = .ok (.iload_n 1, 1) := by decide +kernel
theorem dX9_isPlaceOfSet_6 : decode cX9_isPlaceOfSet 6 = .ok (.aload_n 0, 1) := by decide +kernel
theorem dX9_isPlaceOfSet_7 : decode cX9_isPlaceOfSet 7 = .ok (.getfield 10, 3) := by decide +kernel
theorem dX9_isPlaceOfSet_10 : decode cX9_isPlaceOfSet 10 = .ok (.getfield 133, 3) := by decide +kernel
theorem dX9_isPlaceOfSet_13 : decode cX9_isPlaceOfSet 13 = .ok (.iushr, 1) := by decide +kernel
theorem dX9_isPlaceOfSet_14 : decode cX9_isPlaceOfSet 14 = .ok (.ifCond .ne 27, 3) := by decide +kernel
theorem dX9_isPlaceOfSet_17 : decode cX9_isPlaceOfSet 17 = .ok (.iload_n 3, 1) := by decide +kernel
theorem dX9_isPlaceOfSet_18 : decode cX9_isPlaceOfSet 18 = .ok (.iconst 1, 1) := by decide +kernel
theorem dX9_isPlaceOfSet_19 : decode cX9_isPlaceOfSet 19 = .ok (.iconst 4, 1) := by decide +kernel
theorem dX9_isPlaceOfSet_20 : decode cX9_isPlaceOfSet 20 = .ok (.invokestatic 95, 3) := by decide +kernel
theorem dX9_isPlaceOfSet_23 : decode cX9_isPlaceOfSet 23 = .ok (.ifCond .eq 18, 3) := by decide +kernel
theorem dX9_isPlaceOfSet_26 : decode cX9_isPlaceOfSet 26 = .ok (.iload_n 2, 1) := by decide +kernel
theorem dX9_isPlaceOfSet_27 : decode cX9_isPlaceOfSet 27 = .ok (.iconst (-1), 1) := by decide +kernel
theorem dX9_isPlaceOfSet_28 : decode cX9_isPlaceOfSet 28 = .ok (.iload_n 3, 1) := by decide +kernel
theorem dX9_isPlaceOfSet_29 : decode cX9_isPlaceOfSet 29 = .ok (.iconst 1, 1) := by decide +kernel
theorem dX9_isPlaceOfSet_30 : decode cX9_isPlaceOfSet 30 = .ok (.isub, 1) := by decide +kernel
theorem dX9_isPlaceOfSet_31 : decode cX9_isPlaceOfSet 31 = .ok (.invokestatic 95, 3) := by decide +kernel
theorem dX9_isPlaceOfSet_34 : decode cX9_isPlaceOfSet 34 = .ok (.ifCond .eq 7, 3) := by decide +kernel
theorem dX9_isPlaceOfSet_37 : decode cX9_isPlaceOfSet 37 = .ok (.iconst 1, 1) := by decide +kernel
theorem dX9_isPlaceOfSet_38 : decode cX9_isPlaceOfSet 38 = .ok (.goto 4, 3) := by decide +kernel
theorem dX9_isPlaceOfSet_41 : decode cX9_isPlaceOfSet 41 = .ok (.iconst 0, 1) := by decide +kernel
theorem dX9_isPlaceOfSet_42 : decode cX9_isPlaceOfSet 42 = .ok (.ireturn, 1) := by decide +kernel
theorem ce_X9_isPlaceOfSet : CeV RX9 yX9_isPlaceOfSet cX9_isPlaceOfSet 4 (some .boolean) 2 := ⟨tb_958, tp_37, tb_1, tb_959, rfl, by decide, by decide, by decide +kernel⟩
set_option maxHeartbeats 4000000 in
set_option maxRecDepth 20000 in
theorem V_X9_isPlaceOfSet (l : Launch) (D : va_G) (A : Nat → Prop) (ad : Nat → Nat) (ns : List Nat) (I : MI) (L : ML) (G : MG) (a0 : Int32) (a1 : Int32) (hG : SGC ns G) (hI : INV I) : Met l yX9_isPlaceOfSet (wd yX9_isPlaceOfSet cX9_isPlaceOfSet 4 (some .boolean)) ({ frames := 1, cells := 0, slots := 0, locals := 22 }) (va_Pc [.ref (ad (0)), .int a0, .int a1] (PM D A ad ns I L G)) (va_Qi (fun r u => u = (ad, ns, I, L, G) ∧ (0 ≤ r.toInt ∧ r.toInt ≤ 1)) (BM D A) A) 0 0 A := by
  refine m_ofW (by decide) (Nat.le_of_ble_eq_true rfl) ?_
  intro p e s m below meth c ls args hC hE hM hA hS hl
  obtain ⟨hx, hb, hml, hown, hts, hr, hlocks, hin⟩ := hC
  have km1 : (-1 : Int32).toInt = -1 := by decide
  have k0 : (0 : Int32).toInt = 0 := by decide
  have k1 : (1 : Int32).toInt = 1 := by decide
  have k4 : (4 : Int32).toInt = 4 := by decide
  have hl : lv_has ls 4 [(0, .ref (ad (0))), (1, .int (a0)), (2, .int (a1))] := hl
  refine lv_iload_n hx hb dX9_isPlaceOfSet_0 rfl (lv_at hl 1 rfl) ?_
  refine m_calli (m_runS (As := [.int (a0)]) (rest := []) hx hb hml hown hts hE hM hS hA ce_J6_bitCount_0f7a4 tb_960 (V_J6_bitCount_0f7a4 l D A ad ns I L G (a0) hI) rfl rfl ⟨Nat.le_of_ble_eq_true rfl, Nat.le_of_ble_eq_true rfl⟩  rfl hl.1 rfl (Nat.le_of_ble_eq_true rfl) dX9_isPlaceOfSet_1 ⟨Nat.le_of_ble_eq_true rfl, Nat.le_of_ble_eq_true rfl⟩) hS (fun r1 u H locs hw hM hS => ?_)
  obtain ⟨rfl, xr1⟩ := hw
  have hM : Mem D A ad ns I L G H := hM
  refine lv_istore_n (lv' := [(3, .int (r1)), (0, .ref (ad (0))), (1, .int (a0)), (2, .int (a1))]) hx hb dX9_isPlaceOfSet_4 rfl hl (by decide) rfl (fun ls hl => ?_)
  refine lv_iload_n hx hb dX9_isPlaceOfSet_5 rfl (lv_at hl 2 rfl) ?_
  refine lv_aload_n hx hb dX9_isPlaceOfSet_6 rfl (lv_at hl 1 rfl) ?_
  refine m_getr (0) 0 (100) hx hb hts hown hE oc9 hM (hG.1 0 (by decide)) rfl (by decide) rfl (hG.2 (0, 0, 100) (by decide)) (by decide) tb_398 dX9_isPlaceOfSet_7 ?_
  refine m_geti (100) 8 hx hb hts hown hE oc8 hM (hG.1 100 (by decide)) rfl (by decide) rfl tb_62 dX9_isPlaceOfSet_10 ?_
  have g2 := hI.get (100) 8 (lo := 0) (hi := 24) rfl
  refine lv_iushr hx hb dX9_isPlaceOfSet_13 rfl ?_
  refine lv_topi (fun v3 ev3 => ?_)
  refine lv_if_ne (tgt := 41) hx hb dX9_isPlaceOfSet_14 (by decide) (fun c4 => ?_) (fun c4 => ?_)
  · have hc4 := c4
    have q4 := q_ne hc4
    refine lv_iconst (v := (0)) hx hb dX9_isPlaceOfSet_41 (by decide) ?_
    exact m_zret hx hb hr rfl hlocks hM hS (Nat.le_of_ble_eq_true rfl) (Nat.le_of_ble_eq_true rfl) ⟨rfl, (by first | omega | decide)⟩ dX9_isPlaceOfSet_42
  · have hc4 := c4
    have q4 := q_eq hc4
    refine lv_iload_n hx hb dX9_isPlaceOfSet_17 rfl (lv_at hl 0 rfl) ?_
    refine lv_iconst (v := (1)) hx hb dX9_isPlaceOfSet_18 (by decide) ?_
    refine lv_iconst (v := (4)) hx hb dX9_isPlaceOfSet_19 (by decide) ?_
    refine m_calli (m_runS (As := [.int (r1), .int (1), .int (4)]) (rest := []) hx hb hml hown hts hE hM hS hA ce_X9_isWithin tb_451 (V_X9_isWithin l D A ad ns I L G (r1) (1) (4) hI) rfl rfl ⟨Nat.le_of_ble_eq_true rfl, Nat.le_of_ble_eq_true rfl⟩  rfl hl.1 rfl (Nat.le_of_ble_eq_true rfl) dX9_isPlaceOfSet_20 ⟨Nat.le_of_ble_eq_true rfl, Nat.le_of_ble_eq_true rfl⟩) hS (fun r5 u H locs hw hM hS => ?_)
    obtain ⟨rfl, xr5⟩ := hw
    have hM : Mem D A ad ns I L G H := hM
    have yr5 := bo01 xr5
    refine lv_if_eq (tgt := 41) hx hb dX9_isPlaceOfSet_23 (by decide) (fun c6 => ?_) (fun c6 => ?_)
    · have hc6 := c6
      have q6 := xr5.f hc6
      refine lv_iconst (v := (0)) hx hb dX9_isPlaceOfSet_41 (by decide) ?_
      exact m_zret hx hb hr rfl hlocks hM hS (Nat.le_of_ble_eq_true rfl) (Nat.le_of_ble_eq_true rfl) ⟨rfl, (by first | omega | decide)⟩ dX9_isPlaceOfSet_42
    · have hc6 := c6
      have q6 := xr5.t hc6
      refine lv_iload_n hx hb dX9_isPlaceOfSet_26 rfl (lv_at hl 3 rfl) ?_
      refine lv_iconst (v := (-1)) hx hb dX9_isPlaceOfSet_27 (by decide) ?_
      refine lv_iload_n hx hb dX9_isPlaceOfSet_28 rfl (lv_at hl 0 rfl) ?_
      refine lv_iconst (v := (1)) hx hb dX9_isPlaceOfSet_29 (by decide) ?_
      refine lv_isub hx hb dX9_isPlaceOfSet_30 ?_
      refine lv_topi (fun v7 ev7 => ?_)
      have tv7 := a_sub ev7 (by omega) (by omega)
      refine m_calli (m_runS (As := [.int (a1), .int ((-1 : Int32)), .int (v7)]) (rest := []) hx hb hml hown hts hE hM hS hA ce_X9_isWithin tb_451 (V_X9_isWithin l D A ad ns I L G (a1) ((-1 : Int32)) (v7) hI) rfl rfl ⟨Nat.le_of_ble_eq_true rfl, Nat.le_of_ble_eq_true rfl⟩  rfl hl.1 rfl (Nat.le_of_ble_eq_true rfl) dX9_isPlaceOfSet_31 ⟨Nat.le_of_ble_eq_true rfl, Nat.le_of_ble_eq_true rfl⟩) hS (fun r8 u H locs hw hM hS => ?_)
      obtain ⟨rfl, xr8⟩ := hw
      have hM : Mem D A ad ns I L G H := hM
      have yr8 := bo01 xr8
      refine lv_if_eq (tgt := 41) hx hb dX9_isPlaceOfSet_34 (by decide) (fun c9 => ?_) (fun c9 => ?_)
      · have hc9 := c9
        have q9 := xr8.f hc9
        refine lv_iconst (v := (0)) hx hb dX9_isPlaceOfSet_41 (by decide) ?_
        exact m_zret hx hb hr rfl hlocks hM hS (Nat.le_of_ble_eq_true rfl) (Nat.le_of_ble_eq_true rfl) ⟨rfl, (by first | omega | decide)⟩ dX9_isPlaceOfSet_42
      · have hc9 := c9
        have q9 := xr8.t hc9
        refine lv_iconst (v := (1)) hx hb dX9_isPlaceOfSet_37 (by decide) ?_
        refine lv_goto (tgt := 42) hx hb dX9_isPlaceOfSet_38 (by decide) ?_
        exact m_zret hx hb hr rfl hlocks hM hS (Nat.le_of_ble_eq_true rfl) (Nat.le_of_ble_eq_true rfl) ⟨rfl, (by first | omega | decide)⟩ dX9_isPlaceOfSet_42
theorem dX9_worthOfSet_0 : decode cX9_worthOfSet 0 = .ok (.aload_n 0, 1) := by decide +kernel
theorem dX9_worthOfSet_1 : decode cX9_worthOfSet 1 = .ok (.getfield 26, 3) := by decide +kernel
theorem dX9_worthOfSet_4 : decode cX9_worthOfSet 4 = .ok (.aload_n 0, 1) := by decide +kernel
theorem dX9_worthOfSet_5 : decode cX9_worthOfSet 5 = .ok (.getfield 10, 3) := by decide +kernel
theorem dX9_worthOfSet_8 : decode cX9_worthOfSet 8 = .ok (.iload_n 1, 1) := by decide +kernel
theorem dX9_worthOfSet_9 : decode cX9_worthOfSet 9 = .ok (.invokevirtual 219, 3) := by decide +kernel
theorem dX9_worthOfSet_12 : decode cX9_worthOfSet 12 = .ok (.aload_n 0, 1) := by decide +kernel
theorem dX9_worthOfSet_13 : decode cX9_worthOfSet 13 = .ok (.getfield 26, 3) := by decide +kernel
theorem dX9_worthOfSet_16 : decode cX9_worthOfSet 16 = .ok (.invokevirtual 229, 3) := by decide +kernel
theorem dX9_worthOfSet_19 : decode cX9_worthOfSet 19 = .ok (.istore_n 3, 1) := by decide +kernel
theorem dX9_worthOfSet_20 : decode cX9_worthOfSet 20 = .ok (.iload_n 2, 1) := by decide +kernel
theorem dX9_worthOfSet_21 : decode cX9_worthOfSet 21 = .ok (.aload_n 0, 1) := by decide +kernel
theorem dX9_worthOfSet_22 : decode cX9_worthOfSet 22 = .ok (.getfield 10, 3) := by decide +kernel
theorem dX9_worthOfSet_25 : decode cX9_worthOfSet 25 = .ok (.bipush 8, 2) := by decide +kernel
theorem dX9_worthOfSet_27 : decode cX9_worthOfSet 27 = .ok (.iconst 0, 1) := by decide +kernel
theorem dX9_worthOfSet_28 : decode cX9_worthOfSet 28 = .ok (.invokevirtual 264, 3) := by decide +kernel
theorem dX9_worthOfSet_31 : decode cX9_worthOfSet 31 = .ok (.iand, 1) := by decide +kernel
theorem dX9_worthOfSet_32 : decode cX9_worthOfSet 32 = .ok (.istore 4, 2) := by decide +kernel
theorem dX9_worthOfSet_34 : decode cX9_worthOfSet 34 = .ok (.aload_n 0, 1) := by decide +kernel
theorem dX9_worthOfSet_35 : decode cX9_worthOfSet 35 = .ok (.getfield 10, 3) := by decide +kernel
theorem dX9_worthOfSet_38 : decode cX9_worthOfSet 38 = .ok (.iload 4, 2) := by decide +kernel
theorem dX9_worthOfSet_40 : decode cX9_worthOfSet 40 = .ok (.iconst 1, 1) := by decide +kernel
theorem dX9_worthOfSet_41 : decode cX9_worthOfSet 41 = .ok (.invokevirtual 332, 3) := by decide +kernel
theorem dX9_worthOfSet_44 : decode cX9_worthOfSet 44 = .ok (.aload_n 0, 1) := by decide +kernel
theorem dX9_worthOfSet_45 : decode cX9_worthOfSet 45 = .ok (.getfield 26, 3) := by decide +kernel
theorem dX9_worthOfSet_48 : decode cX9_worthOfSet 48 = .ok (.aload_n 0, 1) := by decide +kernel
theorem dX9_worthOfSet_49 : decode cX9_worthOfSet 49 = .ok (.getfield 10, 3) := by decide +kernel
theorem dX9_worthOfSet_52 : decode cX9_worthOfSet 52 = .ok (.iload_n 1, 1) := by decide +kernel
theorem dX9_worthOfSet_53 : decode cX9_worthOfSet 53 = .ok (.invokevirtual 219, 3) := by decide +kernel
theorem dX9_worthOfSet_56 : decode cX9_worthOfSet 56 = .ok (.aload_n 0, 1) := by decide +kernel
theorem dX9_worthOfSet_57 : decode cX9_worthOfSet 57 = .ok (.getfield 10, 3) := by decide +kernel
theorem dX9_worthOfSet_60 : decode cX9_worthOfSet 60 = .ok (.iload 4, 2) := by decide +kernel
theorem dX9_worthOfSet_62 : decode cX9_worthOfSet 62 = .ok (.iconst 0, 1) := by decide +kernel
theorem dX9_worthOfSet_63 : decode cX9_worthOfSet 63 = .ok (.invokevirtual 332, 3) := by decide +kernel
theorem dX9_worthOfSet_66 : decode cX9_worthOfSet 66 = .ok (.iload_n 3, 1) := by decide +kernel
theorem dX9_worthOfSet_67 : decode cX9_worthOfSet 67 = .ok (.aload_n 0, 1) := by decide +kernel
theorem dX9_worthOfSet_68 : decode cX9_worthOfSet 68 = .ok (.getfield 26, 3) := by decide +kernel
theorem dX9_worthOfSet_71 : decode cX9_worthOfSet 71 = .ok (.invokevirtual 229, 3) := by decide +kernel
theorem dX9_worthOfSet_74 : decode cX9_worthOfSet 74 = .ok (.isub, 1) := by decide +kernel
theorem dX9_worthOfSet_75 : decode cX9_worthOfSet 75 = .ok (.ireturn, 1) := by decide +kernel
theorem ce_X9_worthOfSet : CeV RX9 yX9_worthOfSet cX9_worthOfSet 5 (some .int) 2 := ⟨tb_938, tp_36, tb_1, tb_939, rfl, by decide, by decide, by decide +kernel⟩
theorem dX9_getWithDust_0 : decode cX9_getWithDust 0 = .ok (.aload_n 0, 1) := by decide +kernel
theorem dX9_getWithDust_1 : decode cX9_getWithDust 1 = .ok (.getfield 10, 3) := by decide +kernel
theorem dX9_getWithDust_4 : decode cX9_getWithDust 4 = .ok (.iload_n 2, 1) := by decide +kernel
theorem dX9_getWithDust_5 : decode cX9_getWithDust 5 = .ok (.bipush 7, 2) := by decide +kernel
theorem dX9_getWithDust_7 : decode cX9_getWithDust 7 = .ok (.iload 4, 2) := by decide +kernel
theorem dX9_getWithDust_9 : decode cX9_getWithDust 9 = .ok (.invokevirtual 140, 3) := by decide +kernel
theorem dX9_getWithDust_12 : decode cX9_getWithDust 12 = .ok (.aload_n 0, 1) := by decide +kernel
theorem dX9_getWithDust_13 : decode cX9_getWithDust 13 = .ok (.getfield 26, 3) := by decide +kernel
theorem dX9_getWithDust_16 : decode cX9_getWithDust 16 = .ok (.aload_n 0, 1) := by decide +kernel
theorem dX9_getWithDust_17 : decode cX9_getWithDust 17 = .ok (.getfield 10, 3) := by decide +kernel
theorem dX9_getWithDust_20 : decode cX9_getWithDust 20 = .ok (.iload_n 1, 1) := by decide +kernel
theorem dX9_getWithDust_21 : decode cX9_getWithDust 21 = .ok (.invokevirtual 219, 3) := by decide +kernel
theorem dX9_getWithDust_24 : decode cX9_getWithDust 24 = .ok (.aload_n 0, 1) := by decide +kernel
theorem dX9_getWithDust_25 : decode cX9_getWithDust 25 = .ok (.getfield 26, 3) := by decide +kernel
theorem dX9_getWithDust_28 : decode cX9_getWithDust 28 = .ok (.getfield 223, 3) := by decide +kernel
theorem dX9_getWithDust_31 : decode cX9_getWithDust 31 = .ok (.iload_n 3, 1) := by decide +kernel
theorem dX9_getWithDust_32 : decode cX9_getWithDust 32 = .ok (.iaload, 1) := by decide +kernel
theorem dX9_getWithDust_33 : decode cX9_getWithDust 33 = .ok (.ireturn, 1) := by decide +kernel
theorem ce_X9_getWithDust : CeV RX9 yX9_getWithDust cX9_getWithDust 5 (some .int) 4 := ⟨tb_1132, tp_52, tb_1, tb_1133, rfl, by decide, by decide, by decide +kernel⟩
theorem dX9_leastDustOneByOne_0 : decode cX9_leastDustOneByOne 0 = .ok (.iconst 1, 1) := by decide +kernel
theorem dX9_leastDustOneByOne_1 : decode cX9_leastDustOneByOne 1 = .ok (.istore 5, 2) := by decide +kernel
theorem dX9_leastDustOneByOne_3 : decode cX9_leastDustOneByOne 3 = .ok (.iload 5, 2) := by decide +kernel
theorem dX9_leastDustOneByOne_5 : decode cX9_leastDustOneByOne 5 = .ok (.sipush 1000, 3) := by decide +kernel
theorem dX9_leastDustOneByOne_8 : decode cX9_leastDustOneByOne 8 = .ok (.if_icmp .gt 26, 3) := by decide +kernel
theorem dX9_leastDustOneByOne_11 : decode cX9_leastDustOneByOne 11 = .ok (.aload_n 0, 1) := by decide +kernel
theorem dX9_leastDustOneByOne_12 : decode cX9_leastDustOneByOne 12 = .ok (.iload_n 1, 1) := by decide +kernel
theorem dX9_leastDustOneByOne_13 : decode cX9_leastDustOneByOne 13 = .ok (.iload_n 2, 1) := by decide +kernel
theorem dX9_leastDustOneByOne_14 : decode cX9_leastDustOneByOne 14 = .ok (.iload_n 3, 1) := by decide +kernel
theorem dX9_leastDustOneByOne_15 : decode cX9_leastDustOneByOne 15 = .ok (.iload 5, 2) := by decide +kernel
theorem dX9_leastDustOneByOne_17 : decode cX9_leastDustOneByOne 17 = .ok (.invokevirtual 335, 3) := by decide +kernel
theorem dX9_leastDustOneByOne_20 : decode cX9_leastDustOneByOne 20 = .ok (.iload 4, 2) := by decide +kernel
theorem dX9_leastDustOneByOne_22 : decode cX9_leastDustOneByOne 22 = .ok (.if_icmp .gt 6, 3) := by decide +kernel
theorem dX9_leastDustOneByOne_25 : decode cX9_leastDustOneByOne 25 = .ok (.iload 5, 2) := by decide +kernel
theorem dX9_leastDustOneByOne_27 : decode cX9_leastDustOneByOne 27 = .ok (.ireturn, 1) := by decide +kernel
theorem dX9_leastDustOneByOne_28 : decode cX9_leastDustOneByOne 28 = .ok (.iinc 5 1, 3) := by decide +kernel
theorem dX9_leastDustOneByOne_31 : decode cX9_leastDustOneByOne 31 = .ok (.goto (-28), 3) := by decide +kernel
theorem dX9_leastDustOneByOne_34 : decode cX9_leastDustOneByOne 34 = .ok (.bipush (-2), 2) := by decide +kernel
theorem dX9_leastDustOneByOne_36 : decode cX9_leastDustOneByOne 36 = .ok (.ireturn, 1) := by decide +kernel
theorem ce_X9_leastDustOneByOne : CeV RX9 yX9_leastDustOneByOne cX9_leastDustOneByOne 6 (some .int) 4 := ⟨tb_1137, tp_53, tb_1, tb_1138, rfl, by decide, by decide, by decide +kernel⟩
theorem dX9_leastDustByHalves_0 : decode cX9_leastDustByHalves 0 = .ok (.aload_n 0, 1) := by decide +kernel
theorem dX9_leastDustByHalves_1 : decode cX9_leastDustByHalves 1 = .ok (.iload_n 1, 1) := by decide +kernel
theorem dX9_leastDustByHalves_2 : decode cX9_leastDustByHalves 2 = .ok (.iload_n 2, 1) := by decide +kernel
theorem dX9_leastDustByHalves_3 : decode cX9_leastDustByHalves 3 = .ok (.iload_n 3, 1) := by decide +kernel
theorem dX9_leastDustByHalves_4 : decode cX9_leastDustByHalves 4 = .ok (.sipush 1000, 3) := by decide +kernel
theorem dX9_leastDustByHalves_7 : decode cX9_leastDustByHalves 7 = .ok (.invokevirtual 335, 3) := by decide +kernel
theorem dX9_leastDustByHalves_10 : decode cX9_leastDustByHalves 10 = .ok (.iload 4, 2) := by decide +kernel
theorem dX9_leastDustByHalves_12 : decode cX9_leastDustByHalves 12 = .ok (.if_icmp .le 6, 3) := by decide +kernel
theorem dX9_leastDustByHalves_15 : decode cX9_leastDustByHalves 15 = .ok (.bipush (-2), 2) := by decide +kernel
theorem dX9_leastDustByHalves_17 : decode cX9_leastDustByHalves 17 = .ok (.ireturn, 1) := by decide +kernel
theorem dX9_leastDustByHalves_18 : decode cX9_leastDustByHalves 18 = .ok (.iconst 0, 1) := by decide +kernel
theorem dX9_leastDustByHalves_19 : decode cX9_leastDustByHalves 19 = .ok (.istore 5, 2) := by decide +kernel
theorem dX9_leastDustByHalves_21 : decode cX9_leastDustByHalves 21 = .ok (.sipush 1000, 3) := by decide +kernel
theorem dX9_leastDustByHalves_24 : decode cX9_leastDustByHalves 24 = .ok (.istore 6, 2) := by decide +kernel
theorem dX9_leastDustByHalves_26 : decode cX9_leastDustByHalves 26 = .ok (.iconst 0, 1) := by decide +kernel
theorem dX9_leastDustByHalves_27 : decode cX9_leastDustByHalves 27 = .ok (.istore 7, 2) := by decide +kernel
theorem dX9_leastDustByHalves_29 : decode cX9_leastDustByHalves 29 = .ok (.iload 6, 2) := by decide +kernel
theorem dX9_leastDustByHalves_31 : decode cX9_leastDustByHalves 31 = .ok (.iload 5, 2) := by decide +kernel
theorem dX9_leastDustByHalves_33 : decode cX9_leastDustByHalves 33 = .ok (.isub, 1) := by decide +kernel
theorem dX9_leastDustByHalves_34 : decode cX9_leastDustByHalves 34 = .ok (.iconst 1, 1) := by decide +kernel
theorem dX9_leastDustByHalves_35 : decode cX9_leastDustByHalves 35 = .ok (.if_icmp .le 51, 3) := by decide +kernel
theorem dX9_leastDustByHalves_38 : decode cX9_leastDustByHalves 38 = .ok (.iload 7, 2) := by decide +kernel
theorem dX9_leastDustByHalves_40 : decode cX9_leastDustByHalves 40 = .ok (.sipush 1000, 3) := by decide +kernel
theorem dX9_leastDustByHalves_43 : decode cX9_leastDustByHalves 43 = .ok (.if_icmp .ge 43, 3) := by decide +kernel
theorem dX9_leastDustByHalves_46 : decode cX9_leastDustByHalves 46 = .ok (.iload 5, 2) := by decide +kernel
theorem dX9_leastDustByHalves_48 : decode cX9_leastDustByHalves 48 = .ok (.iload 6, 2) := by decide +kernel
theorem dX9_leastDustByHalves_50 : decode cX9_leastDustByHalves 50 = .ok (.iadd, 1) := by decide +kernel
theorem dX9_leastDustByHalves_51 : decode cX9_leastDustByHalves 51 = .ok (.iconst 2, 1) := by decide +kernel
theorem dX9_leastDustByHalves_52 : decode cX9_leastDustByHalves 52 = .ok (.idiv, 1) := by decide +kernel
theorem dX9_leastDustByHalves_53 : decode cX9_leastDustByHalves 53 = .ok (.istore 8, 2) := by decide +kernel
theorem dX9_leastDustByHalves_55 : decode cX9_leastDustByHalves 55 = .ok (.aload_n 0, 1) := by decide +kernel
theorem dX9_leastDustByHalves_56 : decode cX9_leastDustByHalves 56 = .ok (.iload_n 1, 1) := by decide +kernel
theorem dX9_leastDustByHalves_57 : decode cX9_leastDustByHalves 57 = .ok (.iload_n 2, 1) := by decide +kernel
theorem dX9_leastDustByHalves_58 : decode cX9_leastDustByHalves 58 = .ok (.iload_n 3, 1) := by decide +kernel
theorem dX9_leastDustByHalves_59 : decode cX9_leastDustByHalves 59 = .ok (.iload 8, 2) := by decide +kernel
theorem dX9_leastDustByHalves_61 : decode cX9_leastDustByHalves 61 = .ok (.invokevirtual 335, 3) := by decide +kernel
theorem dX9_leastDustByHalves_64 : decode cX9_leastDustByHalves 64 = .ok (.iload 4, 2) := by decide +kernel
theorem dX9_leastDustByHalves_66 : decode cX9_leastDustByHalves 66 = .ok (.if_icmp .gt 10, 3) := by decide +kernel
theorem dX9_leastDustByHalves_69 : decode cX9_leastDustByHalves 69 = .ok (.iload 8, 2) := by decide +kernel
theorem dX9_leastDustByHalves_71 : decode cX9_leastDustByHalves 71 = .ok (.istore 6, 2) := by decide +kernel
theorem dX9_leastDustByHalves_73 : decode cX9_leastDustByHalves 73 = .ok (.goto 7, 3) := by decide +kernel
theorem dX9_leastDustByHalves_76 : decode cX9_leastDustByHalves 76 = .ok (.iload 8, 2) := by decide +kernel
theorem dX9_leastDustByHalves_78 : decode cX9_leastDustByHalves 78 = .ok (.istore 5, 2) := by decide +kernel
theorem dX9_leastDustByHalves_80 : decode cX9_leastDustByHalves 80 = .ok (.iinc 7 1, 3) := by decide +kernel
theorem dX9_leastDustByHalves_83 : decode cX9_leastDustByHalves 83 = .ok (.goto (-54), 3) := by decide +kernel
theorem dX9_leastDustByHalves_86 : decode cX9_leastDustByHalves 86 = .ok (.iload 6, 2) := by decide +kernel
theorem dX9_leastDustByHalves_88 : decode cX9_leastDustByHalves 88 = .ok (.ireturn, 1) := by decide +kernel
theorem ce_X9_leastDustByHalves : CeV RX9 yX9_leastDustByHalves cX9_leastDustByHalves 9 (some .int) 4 := ⟨tb_1141, tp_54, tb_1, tb_1142, rfl, by decide, by decide, by decide +kernel⟩
theorem dX9_leastDust_0 : decode cX9_leastDust 0 = .ok (.aload_n 0, 1) := by decide +kernel
theorem dX9_leastDust_1 : decode cX9_leastDust 1 = .ok (.iload_n 1, 1) := by decide +kernel
theorem dX9_leastDust_2 : decode cX9_leastDust 2 = .ok (.iload_n 2, 1) := by decide +kernel
theorem dX9_leastDust_3 : decode cX9_leastDust 3 = .ok (.iload_n 3, 1) := by decide +kernel
theorem dX9_leastDust_4 : decode cX9_leastDust 4 = .ok (.iconst 0, 1) := by decide +kernel
theorem dX9_leastDust_5 : decode cX9_leastDust 5 = .ok (.invokevirtual 335, 3) := by decide +kernel
theorem dX9_leastDust_8 : decode cX9_leastDust 8 = .ok (.iload 4, 2) := by decide +kernel
theorem dX9_leastDust_10 : decode cX9_leastDust 10 = .ok (.if_icmp .gt 5, 3) := by decide +kernel
theorem dX9_leastDust_13 : decode cX9_leastDust 13 = .ok (.iconst 0, 1) := by decide +kernel
theorem dX9_leastDust_14 : decode cX9_leastDust 14 = .ok (.ireturn, 1) := by decide +kernel
theorem dX9_leastDust_15 : decode cX9_leastDust 15 = .ok (.aload_n 0, 1) := by decide +kernel
theorem dX9_leastDust_16 : decode cX9_leastDust 16 = .ok (.getfield 26, 3) := by decide +kernel
theorem dX9_leastDust_19 : decode cX9_leastDust 19 = .ok (.iload_n 2, 1) := by decide +kernel
theorem dX9_leastDust_20 : decode cX9_leastDust 20 = .ok (.invokevirtual 338, 3) := by decide +kernel
theorem dX9_leastDust_23 : decode cX9_leastDust 23 = .ok (.ifCond .ne 6, 3) := by decide +kernel
theorem dX9_leastDust_26 : decode cX9_leastDust 26 = .ok (.bipush (-2), 2) := by decide +kernel
theorem dX9_leastDust_28 : decode cX9_leastDust 28 = .ok (.ireturn, 1) := by decide +kernel
theorem dX9_leastDust_29 : decode cX9_leastDust 29 = .ok (.aload_n 0, 1) := by decide +kernel
theorem dX9_leastDust_30 : decode cX9_leastDust 30 = .ok (.getfield 26, 3) := by decide +kernel
theorem dX9_leastDust_33 : decode cX9_leastDust 33 = .ok (.getfield 341, 3) := by decide +kernel
theorem dX9_leastDust_36 : decode cX9_leastDust 36 = .ok (.ifCond .eq 15, 3) := by decide +kernel
theorem dX9_leastDust_39 : decode cX9_leastDust 39 = .ok (.aload_n 0, 1) := by decide +kernel
theorem dX9_leastDust_40 : decode cX9_leastDust 40 = .ok (.iload_n 1, 1) := by decide +kernel
theorem dX9_leastDust_41 : decode cX9_leastDust 41 = .ok (.iload_n 2, 1) := by decide +kernel
theorem dX9_leastDust_42 : decode cX9_leastDust 42 = .ok (.iload_n 3, 1) := by decide +kernel
theorem dX9_leastDust_43 : decode cX9_leastDust 43 = .ok (.iload 4, 2) := by decide +kernel
theorem dX9_leastDust_45 : decode cX9_leastDust 45 = .ok (.invokevirtual 345, 3) := by decide +kernel
theorem dX9_leastDust_48 : decode cX9_leastDust 48 = .ok (.goto 12, 3) := by decide +kernel
theorem dX9_leastDust_51 : decode cX9_leastDust 51 = .ok (.aload_n 0, 1) := by decide +kernel
theorem dX9_leastDust_52 : decode cX9_leastDust 52 = .ok (.iload_n 1, 1) := by decide +kernel
theorem dX9_leastDust_53 : decode cX9_leastDust 53 = .ok (.iload_n 2, 1) := by decide +kernel
theorem dX9_leastDust_54 : decode cX9_leastDust 54 = .ok (.iload_n 3, 1) := by decide +kernel
theorem dX9_leastDust_55 : decode cX9_leastDust 55 = .ok (.iload 4, 2) := by decide +kernel
theorem dX9_leastDust_57 : decode cX9_leastDust 57 = .ok (.invokevirtual 348, 3) := by decide +kernel
theorem dX9_leastDust_60 : decode cX9_leastDust 60 = .ok (.ireturn, 1) := by decide +kernel
theorem ce_X9_leastDust : CeV RX9 yX9_leastDust cX9_leastDust 5 (some .int) 4 := ⟨tb_1128, tp_51, tb_1, tb_1129, rfl, by decide, by decide, by decide +kernel⟩
theorem dX9_countOfTown_0 : decode cX9_countOfTown 0 = .ok (.iload_n 1, 1) := by decide +kernel
theorem dX9_countOfTown_1 : decode cX9_countOfTown 1 = .ok (.tableswitch 111 0 7 #[47, 55, 63, 71, 79, 87, 95, 103], 47) := by decide +kernel
theorem dX9_countOfTown_48 : decode cX9_countOfTown 48 = .ok (.aload_n 0, 1) := by decide +kernel
theorem dX9_countOfTown_49 : decode cX9_countOfTown 49 = .ok (.getfield 10, 3) := by decide +kernel
theorem dX9_countOfTown_52 : decode cX9_countOfTown 52 = .ok (.getfield 351, 3) := by decide +kernel
theorem dX9_countOfTown_55 : decode cX9_countOfTown 55 = .ok (.ireturn, 1) := by decide +kernel
theorem dX9_countOfTown_56 : decode cX9_countOfTown 56 = .ok (.aload_n 0, 1) := by decide +kernel
theorem dX9_countOfTown_57 : decode cX9_countOfTown 57 = .ok (.getfield 10, 3) := by decide +kernel
theorem dX9_countOfTown_60 : decode cX9_countOfTown 60 = .ok (.getfield 354, 3) := by decide +kernel
theorem dX9_countOfTown_63 : decode cX9_countOfTown 63 = .ok (.ireturn, 1) := by decide +kernel
theorem dX9_countOfTown_64 : decode cX9_countOfTown 64 = .ok (.aload_n 0, 1) := by decide +kernel
theorem dX9_countOfTown_65 : decode cX9_countOfTown 65 = .ok (.getfield 10, 3) := by decide +kernel
theorem dX9_countOfTown_68 : decode cX9_countOfTown 68 = .ok (.getfield 133, 3) := by decide +kernel
theorem dX9_countOfTown_71 : decode cX9_countOfTown 71 = .ok (.ireturn, 1) := by decide +kernel
theorem dX9_countOfTown_72 : decode cX9_countOfTown 72 = .ok (.aload_n 0, 1) := by decide +kernel
theorem dX9_countOfTown_73 : decode cX9_countOfTown 73 = .ok (.getfield 10, 3) := by decide +kernel
theorem dX9_countOfTown_76 : decode cX9_countOfTown 76 = .ok (.getfield 152, 3) := by decide +kernel
theorem dX9_countOfTown_79 : decode cX9_countOfTown 79 = .ok (.ireturn, 1) := by decide +kernel
theorem dX9_countOfTown_80 : decode cX9_countOfTown 80 = .ok (.aload_n 0, 1) := by decide +kernel
theorem dX9_countOfTown_81 : decode cX9_countOfTown 81 = .ok (.getfield 10, 3) := by decide +kernel
theorem dX9_countOfTown_84 : decode cX9_countOfTown 84 = .ok (.getfield 166, 3) := by decide +kernel
theorem dX9_countOfTown_87 : decode cX9_countOfTown 87 = .ok (.ireturn, 1) := by decide +kernel
theorem dX9_countOfTown_88 : decode cX9_countOfTown 88 = .ok (.aload_n 0, 1) := by decide +kernel
theorem dX9_countOfTown_89 : decode cX9_countOfTown 89 = .ok (.getfield 10, 3) := by decide +kernel
theorem dX9_countOfTown_92 : decode cX9_countOfTown 92 = .ok (.getfield 190, 3) := by decide +kernel
theorem dX9_countOfTown_95 : decode cX9_countOfTown 95 = .ok (.ireturn, 1) := by decide +kernel
theorem dX9_countOfTown_96 : decode cX9_countOfTown 96 = .ok (.aload_n 0, 1) := by decide +kernel
theorem dX9_countOfTown_97 : decode cX9_countOfTown 97 = .ok (.getfield 10, 3) := by decide +kernel
theorem dX9_countOfTown_100 : decode cX9_countOfTown 100 = .ok (.invokevirtual 197, 3) := by decide +kernel
theorem dX9_countOfTown_103 : decode cX9_countOfTown 103 = .ok (.ireturn, 1) := by decide +kernel
theorem dX9_countOfTown_104 : decode cX9_countOfTown 104 = .ok (.aload_n 0, 1) := by decide +kernel
theorem dX9_countOfTown_105 : decode cX9_countOfTown 105 = .ok (.getfield 10, 3) := by decide +kernel
theorem dX9_countOfTown_108 : decode cX9_countOfTown 108 = .ok (.getfield 169, 3) := by decide +kernel
theorem dX9_countOfTown_111 : decode cX9_countOfTown 111 = .ok (.ireturn, 1) := by decide +kernel
theorem dX9_countOfTown_112 : decode cX9_countOfTown 112 = .ok (.iconst (-1), 1) := by decide +kernel
theorem dX9_countOfTown_113 : decode cX9_countOfTown 113 = .ok (.ireturn, 1) := by decide +kernel
theorem ce_X9_countOfTown : CeV RX9 yX9_countOfTown cX9_countOfTown 2 (some .int) 1 := ⟨tb_1162, tp_55, tb_1, tb_1163, rfl, by decide, by decide, by decide +kernel⟩
theorem dX8_copyFrom_0 : decode cX8_copyFrom 0 = .ok (.aload_n 0, 1) := by decide +kernel
theorem dX8_copyFrom_1 : decode cX8_copyFrom 1 = .ok (.aload_n 1, 1) := by decide +kernel
theorem dX8_copyFrom_2 : decode cX8_copyFrom 2 = .ok (.getfield 36, 3) := by decide +kernel
theorem dX8_copyFrom_5 : decode cX8_copyFrom 5 = .ok (.putfield 36, 3) := by decide +kernel
theorem dX8_copyFrom_8 : decode cX8_copyFrom 8 = .ok (.aload_n 0, 1) := by decide +kernel
theorem dX8_copyFrom_9 : decode cX8_copyFrom 9 = .ok (.aload_n 1, 1) := by decide +kernel
theorem dX8_copyFrom_10 : decode cX8_copyFrom 10 = .ok (.getfield 40, 3) := by decide +kernel
theorem dX8_copyFrom_13 : decode cX8_copyFrom 13 = .ok (.putfield 40, 3) := by decide +kernel
theorem dX8_copyFrom_16 : decode cX8_copyFrom 16 = .ok (.aload_n 0, 1) := by decide +kernel
theorem dX8_copyFrom_17 : decode cX8_copyFrom 17 = .ok (.aload_n 1, 1) := by decide +kernel
theorem dX8_copyFrom_18 : decode cX8_copyFrom 18 = .ok (.getfield 43, 3) := by decide +kernel
theorem dX8_copyFrom_21 : decode cX8_copyFrom 21 = .ok (.putfield 43, 3) := by decide +kernel
theorem dX8_copyFrom_24 : decode cX8_copyFrom 24 = .ok (.aload_n 0, 1) := by decide +kernel
theorem dX8_copyFrom_25 : decode cX8_copyFrom 25 = .ok (.aload_n 1, 1) := by decide +kernel
theorem dX8_copyFrom_26 : decode cX8_copyFrom 26 = .ok (.getfield 46, 3) := by decide +kernel
theorem dX8_copyFrom_29 : decode cX8_copyFrom 29 = .ok (.putfield 46, 3) := by decide +kernel
theorem dX8_copyFrom_32 : decode cX8_copyFrom 32 = .ok (.aload_n 0, 1) := by decide +kernel
theorem dX8_copyFrom_33 : decode cX8_copyFrom 33 = .ok (.aload_n 1, 1) := by decide +kernel
theorem dX8_copyFrom_34 : decode cX8_copyFrom 34 = .ok (.getfield 49, 3) := by decide +kernel
theorem dX8_copyFrom_37 : decode cX8_copyFrom 37 = .ok (.putfield 49, 3) := by decide +kernel
theorem dX8_copyFrom_40 : decode cX8_copyFrom 40 = .ok (.aload_n 0, 1) := by decide +kernel
theorem dX8_copyFrom_41 : decode cX8_copyFrom 41 = .ok (.aload_n 1, 1) := by decide +kernel
theorem dX8_copyFrom_42 : decode cX8_copyFrom 42 = .ok (.getfield 52, 3) := by decide +kernel
theorem dX8_copyFrom_45 : decode cX8_copyFrom 45 = .ok (.putfield 52, 3) := by decide +kernel
theorem dX8_copyFrom_48 : decode cX8_copyFrom 48 = .ok (.aload_n 0, 1) := by decide +kernel
theorem dX8_copyFrom_49 : decode cX8_copyFrom 49 = .ok (.aload_n 1, 1) := by decide +kernel
theorem dX8_copyFrom_50 : decode cX8_copyFrom 50 = .ok (.getfield 55, 3) := by decide +kernel
theorem dX8_copyFrom_53 : decode cX8_copyFrom 53 = .ok (.putfield 55, 3) := by decide +kernel
theorem dX8_copyFrom_56 : decode cX8_copyFrom 56 = .ok (.aload_n 0, 1) := by decide +kernel
theorem dX8_copyFrom_57 : decode cX8_copyFrom 57 = .ok (.aload_n 1, 1) := by decide +kernel
theorem dX8_copyFrom_58 : decode cX8_copyFrom 58 = .ok (.getfield 58, 3) := by decide +kernel
theorem dX8_copyFrom_61 : decode cX8_copyFrom 61 = .ok (.putfield 58, 3) := by decide +kernel
theorem dX8_copyFrom_64 : decode cX8_copyFrom 64 = .ok (.aload_n 0, 1) := by decide +kernel
theorem dX8_copyFrom_65 : decode cX8_copyFrom 65 = .ok (.aload_n 1, 1) := by decide +kernel
theorem dX8_copyFrom_66 : decode cX8_copyFrom 66 = .ok (.getfield 61, 3) := by decide +kernel
theorem dX8_copyFrom_69 : decode cX8_copyFrom 69 = .ok (.putfield 61, 3) := by decide +kernel
theorem dX8_copyFrom_72 : decode cX8_copyFrom 72 = .ok (.aload_n 0, 1) := by decide +kernel
theorem dX8_copyFrom_73 : decode cX8_copyFrom 73 = .ok (.aload_n 1, 1) := by decide +kernel
theorem dX8_copyFrom_74 : decode cX8_copyFrom 74 = .ok (.getfield 64, 3) := by decide +kernel
theorem dX8_copyFrom_77 : decode cX8_copyFrom 77 = .ok (.putfield 64, 3) := by decide +kernel
theorem dX8_copyFrom_80 : decode cX8_copyFrom 80 = .ok (.aload_n 1, 1) := by decide +kernel
theorem dX8_copyFrom_81 : decode cX8_copyFrom 81 = .ok (.getfield 9, 3) := by decide +kernel
theorem dX8_copyFrom_84 : decode cX8_copyFrom 84 = .ok (.iconst 0, 1) := by decide +kernel
theorem dX8_copyFrom_85 : decode cX8_copyFrom 85 = .ok (.aload_n 0, 1) := by decide +kernel
theorem dX8_copyFrom_86 : decode cX8_copyFrom 86 = .ok (.getfield 9, 3) := by decide +kernel
theorem dX8_copyFrom_89 : decode cX8_copyFrom 89 = .ok (.iconst 0, 1) := by decide +kernel
theorem dX8_copyFrom_90 : decode cX8_copyFrom 90 = .ok (.sipush 576, 3) := by decide +kernel
theorem dX8_copyFrom_93 : decode cX8_copyFrom 93 = .ok (.invokestatic 73, 3) := by decide +kernel
theorem dX8_copyFrom_96 : decode cX8_copyFrom 96 = .ok (.aload_n 1, 1) := by decide +kernel
theorem dX8_copyFrom_97 : decode cX8_copyFrom 97 = .ok (.getfield 15, 3) := by decide +kernel
theorem dX8_copyFrom_100 : decode cX8_copyFrom 100 = .ok (.iconst 0, 1) := by decide +kernel
theorem dX8_copyFrom_101 : decode cX8_copyFrom 101 = .ok (.aload_n 0, 1) := by decide +kernel
theorem dX8_copyFrom_102 : decode cX8_copyFrom 102 = .ok (.getfield 15, 3) := by decide +kernel
theorem dX8_copyFrom_105 : decode cX8_copyFrom 105 = .ok (.iconst 0, 1) := by decide +kernel
theorem dX8_copyFrom_106 : decode cX8_copyFrom 106 = .ok (.sipush 576, 3) := by decide +kernel
theorem dX8_copyFrom_109 : decode cX8_copyFrom 109 = .ok (.invokestatic 73, 3) := by decide +kernel
theorem dX8_copyFrom_112 : decode cX8_copyFrom 112 = .ok (.aload_n 1, 1) := by decide +kernel
theorem dX8_copyFrom_113 : decode cX8_copyFrom 113 = .ok (.getfield 18, 3) := by decide +kernel
theorem dX8_copyFrom_116 : decode cX8_copyFrom 116 = .ok (.iconst 0, 1) := by decide +kernel
theorem dX8_copyFrom_117 : decode cX8_copyFrom 117 = .ok (.aload_n 0, 1) := by decide +kernel
theorem dX8_copyFrom_118 : decode cX8_copyFrom 118 = .ok (.getfield 18, 3) := by decide +kernel
theorem dX8_copyFrom_121 : decode cX8_copyFrom 121 = .ok (.iconst 0, 1) := by decide +kernel
theorem dX8_copyFrom_122 : decode cX8_copyFrom 122 = .ok (.sipush 576, 3) := by decide +kernel
theorem dX8_copyFrom_125 : decode cX8_copyFrom 125 = .ok (.invokestatic 73, 3) := by decide +kernel
theorem dX8_copyFrom_128 : decode cX8_copyFrom 128 = .ok (.aload_n 1, 1) := by decide +kernel
theorem dX8_copyFrom_129 : decode cX8_copyFrom 129 = .ok (.getfield 21, 3) := by decide +kernel
theorem dX8_copyFrom_132 : decode cX8_copyFrom 132 = .ok (.iconst 0, 1) := by decide +kernel
theorem dX8_copyFrom_133 : decode cX8_copyFrom 133 = .ok (.aload_n 0, 1) := by decide +kernel
theorem dX8_copyFrom_134 : decode cX8_copyFrom 134 = .ok (.getfield 21, 3) := by decide +kernel
theorem dX8_copyFrom_137 : decode cX8_copyFrom 137 = .ok (.iconst 0, 1) := by decide +kernel
theorem dX8_copyFrom_138 : decode cX8_copyFrom 138 = .ok (.sipush 576, 3) := by decide +kernel
theorem dX8_copyFrom_141 : decode cX8_copyFrom 141 = .ok (.invokestatic 73, 3) := by decide +kernel
theorem dX8_copyFrom_144 : decode cX8_copyFrom 144 = .ok (.aload_n 1, 1) := by decide +kernel
theorem dX8_copyFrom_145 : decode cX8_copyFrom 145 = .ok (.getfield 24, 3) := by decide +kernel
theorem dX8_copyFrom_148 : decode cX8_copyFrom 148 = .ok (.iconst 0, 1) := by decide +kernel
theorem dX8_copyFrom_149 : decode cX8_copyFrom 149 = .ok (.aload_n 0, 1) := by decide +kernel
theorem dX8_copyFrom_150 : decode cX8_copyFrom 150 = .ok (.getfield 24, 3) := by decide +kernel
theorem dX8_copyFrom_153 : decode cX8_copyFrom 153 = .ok (.iconst 0, 1) := by decide +kernel
theorem dX8_copyFrom_154 : decode cX8_copyFrom 154 = .ok (.sipush 288, 3) := by decide +kernel
theorem dX8_copyFrom_157 : decode cX8_copyFrom 157 = .ok (.invokestatic 73, 3) := by decide +kernel
theorem dX8_copyFrom_160 : decode cX8_copyFrom 160 = .ok (.aload_n 1, 1) := by decide +kernel
theorem dX8_copyFrom_161 : decode cX8_copyFrom 161 = .ok (.getfield 27, 3) := by decide +kernel
theorem dX8_copyFrom_164 : decode cX8_copyFrom 164 = .ok (.iconst 0, 1) := by decide +kernel
theorem dX8_copyFrom_165 : decode cX8_copyFrom 165 = .ok (.aload_n 0, 1) := by decide +kernel
theorem dX8_copyFrom_166 : decode cX8_copyFrom 166 = .ok (.getfield 27, 3) := by decide +kernel
theorem dX8_copyFrom_169 : decode cX8_copyFrom 169 = .ok (.iconst 0, 1) := by decide +kernel
theorem dX8_copyFrom_170 : decode cX8_copyFrom 170 = .ok (.sipush 288, 3) := by decide +kernel
theorem dX8_copyFrom_173 : decode cX8_copyFrom 173 = .ok (.invokestatic 73, 3) := by decide +kernel
theorem dX8_copyFrom_176 : decode cX8_copyFrom 176 = .ok (.aload_n 1, 1) := by decide +kernel
theorem dX8_copyFrom_177 : decode cX8_copyFrom 177 = .ok (.getfield 30, 3) := by decide +kernel
theorem dX8_copyFrom_180 : decode cX8_copyFrom 180 = .ok (.iconst 0, 1) := by decide +kernel
theorem dX8_copyFrom_181 : decode cX8_copyFrom 181 = .ok (.aload_n 0, 1) := by decide +kernel
theorem dX8_copyFrom_182 : decode cX8_copyFrom 182 = .ok (.getfield 30, 3) := by decide +kernel
theorem dX8_copyFrom_185 : decode cX8_copyFrom 185 = .ok (.iconst 0, 1) := by decide +kernel
theorem dX8_copyFrom_186 : decode cX8_copyFrom 186 = .ok (.sipush 240, 3) := by decide +kernel
theorem dX8_copyFrom_189 : decode cX8_copyFrom 189 = .ok (.invokestatic 73, 3) := by decide +kernel
theorem dX8_copyFrom_192 : decode cX8_copyFrom 192 = .ok (.aload_n 1, 1) := by decide +kernel
theorem dX8_copyFrom_193 : decode cX8_copyFrom 193 = .ok (.getfield 33, 3) := by decide +kernel
theorem dX8_copyFrom_196 : decode cX8_copyFrom 196 = .ok (.iconst 0, 1) := by decide +kernel
theorem dX8_copyFrom_197 : decode cX8_copyFrom 197 = .ok (.aload_n 0, 1) := by decide +kernel
theorem dX8_copyFrom_198 : decode cX8_copyFrom 198 = .ok (.getfield 33, 3) := by decide +kernel
theorem dX8_copyFrom_201 : decode cX8_copyFrom 201 = .ok (.iconst 0, 1) := by decide +kernel
theorem dX8_copyFrom_202 : decode cX8_copyFrom 202 = .ok (.bipush 56, 2) := by decide +kernel
theorem dX8_copyFrom_204 : decode cX8_copyFrom 204 = .ok (.invokestatic 73, 3) := by decide +kernel
theorem dX8_copyFrom_207 : decode cX8_copyFrom 207 = .ok (.return_, 1) := by decide +kernel
theorem ce_X8_copyFrom : CeV RX8 yX8_copyFrom cX8_copyFrom 2 none 1 := ⟨tb_1148, tb_1149, tb_2, tb_1150, rfl, by decide, by decide, by decide +kernel⟩
theorem dX9_rock_0 : decode cX9_rock 0 = .ok (.aload_n 0, 1) := by decide +kernel
theorem dX9_rock_1 : decode cX9_rock 1 = .ok (.getfield 10, 3) := by decide +kernel
theorem dX9_rock_4 : decode cX9_rock 4 = .ok (.iload_n 1, 1) := by decide +kernel
theorem dX9_rock_5 : decode cX9_rock 5 = .ok (.iload_n 2, 1) := by decide +kernel
theorem dX9_rock_6 : decode cX9_rock 6 = .ok (.iload_n 3, 1) := by decide +kernel
theorem dX9_rock_7 : decode cX9_rock 7 = .ok (.iload 4, 2) := by decide +kernel
theorem dX9_rock_9 : decode cX9_rock 9 = .ok (.invokevirtual 103, 3) := by decide +kernel
theorem dX9_rock_12 : decode cX9_rock 12 = .ok (.ifCond .ne 5, 3) := by decide +kernel
theorem dX9_rock_15 : decode cX9_rock 15 = .ok (.iconst (-1), 1) := by decide +kernel
theorem dX9_rock_16 : decode cX9_rock 16 = .ok (.ireturn, 1) := by decide +kernel
theorem dX9_rock_17 : decode cX9_rock 17 = .ok (.aload_n 0, 1) := by decide +kernel
theorem dX9_rock_18 : decode cX9_rock 18 = .ok (.getfield 10, 3) := by decide +kernel
theorem dX9_rock_21 : decode cX9_rock 21 = .ok (.iload_n 1, 1) := by decide +kernel
theorem dX9_rock_22 : decode cX9_rock 22 = .ok (.iload_n 2, 1) := by decide +kernel
theorem dX9_rock_23 : decode cX9_rock 23 = .ok (.iload_n 3, 1) := by decide +kernel
theorem dX9_rock_24 : decode cX9_rock 24 = .ok (.iload 4, 2) := by decide +kernel
theorem dX9_rock_26 : decode cX9_rock 26 = .ok (.iload 5, 2) := by decide +kernel
theorem dX9_rock_28 : decode cX9_rock 28 = .ok (.ifCond .eq 7, 3) := by decide +kernel
theorem dX9_rock_31 : decode cX9_rock 31 = .ok (.iconst 1, 1) := by decide +kernel
theorem dX9_rock_32 : decode cX9_rock 32 = .ok (.goto 4, 3) := by decide +kernel
theorem dX9_rock_35 : decode cX9_rock 35 = .ok (.iconst 0, 1) := by decide +kernel
theorem dX9_rock_36 : decode cX9_rock 36 = .ok (.invokevirtual 107, 3) := by decide +kernel
theorem dX9_rock_39 : decode cX9_rock 39 = .ok (.ireturn, 1) := by decide +kernel
theorem ce_X9_rock : CeV RX9 yX9_rock cX9_rock 6 (some .int) 5 := ⟨tb_462, tb_463, tb_1, tb_464, rfl, by decide, by decide, by decide +kernel⟩
theorem dX9_sun_0 : decode cX9_sun 0 = .ok (.aload_n 0, 1) := by decide +kernel
theorem dX9_sun_1 : decode cX9_sun 1 = .ok (.getfield 10, 3) := by decide +kernel
theorem dX9_sun_4 : decode cX9_sun 4 = .ok (.invokevirtual 111, 3) := by decide +kernel
theorem dX9_sun_7 : decode cX9_sun 7 = .ok (.ifCond .eq 23, 3) := by decide +kernel
theorem dX9_sun_10 : decode cX9_sun 10 = .ok (.iload_n 1, 1) := by decide +kernel
theorem dX9_sun_11 : decode cX9_sun 11 = .ok (.iconst 0, 1) := by decide +kernel
theorem dX9_sun_12 : decode cX9_sun 12 = .ok (.bipush 11, 2) := by decide +kernel
theorem dX9_sun_14 : decode cX9_sun 14 = .ok (.invokestatic 95, 3) := by decide +kernel
theorem dX9_sun_17 : decode cX9_sun 17 = .ok (.ifCond .eq 13, 3) := by decide +kernel
theorem dX9_sun_20 : decode cX9_sun 20 = .ok (.iload_n 2, 1) := by decide +kernel
theorem dX9_sun_21 : decode cX9_sun 21 = .ok (.iconst 0, 1) := by decide +kernel
theorem dX9_sun_22 : decode cX9_sun 22 = .ok (.bipush 23, 2) := by decide +kernel
theorem dX9_sun_24 : decode cX9_sun 24 = .ok (.invokestatic 95, 3) := by decide +kernel
theorem dX9_sun_27 : decode cX9_sun 27 = .ok (.ifCond .ne 5, 3) := by decide +kernel
theorem dX9_sun_30 : decode cX9_sun 30 = .ok (.iconst 0, 1) := by decide +kernel
theorem dX9_sun_31 : decode cX9_sun 31 = .ok (.ireturn, 1) := by decide +kernel
theorem dX9_sun_32 : decode cX9_sun 32 = .ok (.iload_n 3, 1) := by decide +kernel
theorem dX9_sun_33 : decode cX9_sun 33 = .ok (.iconst (-1), 1) := by decide +kernel
theorem dX9_sun_34 : decode cX9_sun 34 = .ok (.if_icmp .ne 12, 3) := by decide +kernel
theorem dX9_sun_37 : decode cX9_sun 37 = .ok (.iload 4, 2) := by decide +kernel
theorem dX9_sun_39 : decode cX9_sun 39 = .ok (.ifCond .ne 7, 3) := by decide +kernel
theorem dX9_sun_42 : decode cX9_sun 42 = .ok (.iconst 1, 1) := by decide +kernel
theorem dX9_sun_43 : decode cX9_sun 43 = .ok (.goto 4, 3) := by decide +kernel
theorem dX9_sun_46 : decode cX9_sun 46 = .ok (.iconst 0, 1) := by decide +kernel
theorem dX9_sun_47 : decode cX9_sun 47 = .ok (.istore 5, 2) := by decide +kernel
theorem dX9_sun_49 : decode cX9_sun 49 = .ok (.iload 5, 2) := by decide +kernel
theorem dX9_sun_51 : decode cX9_sun 51 = .ok (.ifCond .ne 26, 3) := by decide +kernel
theorem dX9_sun_54 : decode cX9_sun 54 = .ok (.iload_n 3, 1) := by decide +kernel
theorem dX9_sun_55 : decode cX9_sun 55 = .ok (.iconst 0, 1) := by decide +kernel
theorem dX9_sun_56 : decode cX9_sun 56 = .ok (.bipush 7, 2) := by decide +kernel
theorem dX9_sun_58 : decode cX9_sun 58 = .ok (.invokestatic 95, 3) := by decide +kernel
theorem dX9_sun_61 : decode cX9_sun 61 = .ok (.ifCond .eq 14, 3) := by decide +kernel
theorem dX9_sun_64 : decode cX9_sun 64 = .ok (.iload 4, 2) := by decide +kernel
theorem dX9_sun_66 : decode cX9_sun 66 = .ok (.iconst 0, 1) := by decide +kernel
theorem dX9_sun_67 : decode cX9_sun 67 = .ok (.ldc 115, 2) := by decide +kernel
theorem dX9_sun_69 : decode cX9_sun 69 = .ok (.invokestatic 95, 3) := by decide +kernel
theorem dX9_sun_72 : decode cX9_sun 72 = .ok (.ifCond .ne 5, 3) := by decide +kernel
theorem dX9_sun_75 : decode cX9_sun 75 = .ok (.iconst 0, 1) := by decide +kernel
theorem dX9_sun_76 : decode cX9_sun 76 = .ok (.ireturn, 1) := by decide +kernel
theorem dX9_sun_77 : decode cX9_sun 77 = .ok (.aload_n 0, 1) := by decide +kernel
theorem dX9_sun_78 : decode cX9_sun 78 = .ok (.getfield 10, 3) := by decide +kernel
theorem dX9_sun_81 : decode cX9_sun 81 = .ok (.getfield 116, 3) := by decide +kernel
theorem dX9_sun_84 : decode cX9_sun 84 = .ok (.iload_n 1, 1) := by decide +kernel
theorem dX9_sun_85 : decode cX9_sun 85 = .ok (.bipush 24, 2) := by decide +kernel
theorem dX9_sun_87 : decode cX9_sun 87 = .ok (.imul, 1) := by decide +kernel
theorem dX9_sun_88 : decode cX9_sun 88 = .ok (.iload_n 2, 1) := by decide +kernel
theorem dX9_sun_89 : decode cX9_sun 89 = .ok (.iadd, 1) := by decide +kernel
theorem dX9_sun_90 : decode cX9_sun 90 = .ok (.iload_n 3, 1) := by decide +kernel
theorem dX9_sun_91 : decode cX9_sun 91 = .ok (.iastore, 1) := by decide +kernel
theorem dX9_sun_92 : decode cX9_sun 92 = .ok (.aload_n 0, 1) := by decide +kernel
theorem dX9_sun_93 : decode cX9_sun 93 = .ok (.getfield 10, 3) := by decide +kernel
theorem dX9_sun_96 : decode cX9_sun 96 = .ok (.getfield 119, 3) := by decide +kernel
theorem dX9_sun_99 : decode cX9_sun 99 = .ok (.iload_n 1, 1) := by decide +kernel
theorem dX9_sun_100 : decode cX9_sun 100 = .ok (.bipush 24, 2) := by decide +kernel
theorem dX9_sun_102 : decode cX9_sun 102 = .ok (.imul, 1) := by decide +kernel
theorem dX9_sun_103 : decode cX9_sun 103 = .ok (.iload_n 2, 1) := by decide +kernel
theorem dX9_sun_104 : decode cX9_sun 104 = .ok (.iadd, 1) := by decide +kernel
theorem dX9_sun_105 : decode cX9_sun 105 = .ok (.iload 4, 2) := by decide +kernel
theorem dX9_sun_107 : decode cX9_sun 107 = .ok (.iastore, 1) := by decide +kernel
theorem dX9_sun_108 : decode cX9_sun 108 = .ok (.iconst 1, 1) := by decide +kernel
theorem dX9_sun_109 : decode cX9_sun 109 = .ok (.ireturn, 1) := by decide +kernel
theorem ce_X9_sun : CeV RX9 yX9_sun cX9_sun 6 (some .boolean) 4 := ⟨tb_481, tb_482, tb_1, tb_483, rfl, by decide, by decide, by decide +kernel⟩
theorem dX9_mirror_0 : decode cX9_mirror 0 = .ok (.aload_n 0, 1) := by decide +kernel
theorem dX9_mirror_1 : decode cX9_mirror 1 = .ok (.getfield 10, 3) := by decide +kernel
theorem dX9_mirror_4 : decode cX9_mirror 4 = .ok (.iload_n 1, 1) := by decide +kernel
theorem dX9_mirror_5 : decode cX9_mirror 5 = .ok (.iload_n 2, 1) := by decide +kernel
theorem dX9_mirror_6 : decode cX9_mirror 6 = .ok (.invokevirtual 122, 3) := by decide +kernel
theorem dX9_mirror_9 : decode cX9_mirror 9 = .ok (.ifCond .eq 32, 3) := by decide +kernel
theorem dX9_mirror_12 : decode cX9_mirror 12 = .ok (.aload_n 0, 1) := by decide +kernel
theorem dX9_mirror_13 : decode cX9_mirror 13 = .ok (.getfield 10, 3) := by decide +kernel
theorem dX9_mirror_16 : decode cX9_mirror 16 = .ok (.getfield 126, 3) := by decide +kernel
theorem dX9_mirror_19 : decode cX9_mirror 19 = .ok (.iload_n 1, 1) := by decide +kernel
theorem dX9_mirror_20 : decode cX9_mirror 20 = .ok (.iload_n 2, 1) := by decide +kernel
theorem dX9_mirror_21 : decode cX9_mirror 21 = .ok (.invokestatic 129, 3) := by decide +kernel
theorem dX9_mirror_24 : decode cX9_mirror 24 = .ok (.iaload, 1) := by decide +kernel
theorem dX9_mirror_25 : decode cX9_mirror 25 = .ok (.iconst (-1), 1) := by decide +kernel
theorem dX9_mirror_26 : decode cX9_mirror 26 = .ok (.if_icmp .ne 15, 3) := by decide +kernel
theorem dX9_mirror_29 : decode cX9_mirror 29 = .ok (.aload_n 0, 1) := by decide +kernel
theorem dX9_mirror_30 : decode cX9_mirror 30 = .ok (.getfield 10, 3) := by decide +kernel
theorem dX9_mirror_33 : decode cX9_mirror 33 = .ok (.getfield 133, 3) := by decide +kernel
theorem dX9_mirror_36 : decode cX9_mirror 36 = .ok (.bipush 24, 2) := by decide +kernel
theorem dX9_mirror_38 : decode cX9_mirror 38 = .ok (.if_icmp .lt 5, 3) := by decide +kernel
theorem dX9_mirror_41 : decode cX9_mirror 41 = .ok (.iconst (-1), 1) := by decide +kernel
theorem dX9_mirror_42 : decode cX9_mirror 42 = .ok (.ireturn, 1) := by decide +kernel
theorem dX9_mirror_43 : decode cX9_mirror 43 = .ok (.iload_n 3, 1) := by decide +kernel
theorem dX9_mirror_44 : decode cX9_mirror 44 = .ok (.iconst 0, 1) := by decide +kernel
theorem dX9_mirror_45 : decode cX9_mirror 45 = .ok (.bipush 7, 2) := by decide +kernel
theorem dX9_mirror_47 : decode cX9_mirror 47 = .ok (.invokestatic 95, 3) := by decide +kernel
theorem dX9_mirror_50 : decode cX9_mirror 50 = .ok (.ifCond .eq 48, 3) := by decide +kernel
theorem dX9_mirror_53 : decode cX9_mirror 53 = .ok (.iload 4, 2) := by decide +kernel
theorem dX9_mirror_55 : decode cX9_mirror 55 = .ok (.iconst 0, 1) := by decide +kernel
theorem dX9_mirror_56 : decode cX9_mirror 56 = .ok (.sipush 1000, 3) := by decide +kernel
theorem dX9_mirror_59 : decode cX9_mirror 59 = .ok (.invokestatic 95, 3) := by decide +kernel
theorem dX9_mirror_62 : decode cX9_mirror 62 = .ok (.ifCond .eq 36, 3) := by decide +kernel
theorem dX9_mirror_65 : decode cX9_mirror 65 = .ok (.iload 5, 2) := by decide +kernel
theorem dX9_mirror_67 : decode cX9_mirror 67 = .ok (.iconst 0, 1) := by decide +kernel
theorem dX9_mirror_68 : decode cX9_mirror 68 = .ok (.sipush 1000, 3) := by decide +kernel
theorem dX9_mirror_71 : decode cX9_mirror 71 = .ok (.invokestatic 95, 3) := by decide +kernel
theorem dX9_mirror_74 : decode cX9_mirror 74 = .ok (.ifCond .eq 24, 3) := by decide +kernel
theorem dX9_mirror_77 : decode cX9_mirror 77 = .ok (.iload 6, 2) := by decide +kernel
theorem dX9_mirror_79 : decode cX9_mirror 79 = .ok (.iconst 0, 1) := by decide +kernel
theorem dX9_mirror_80 : decode cX9_mirror 80 = .ok (.iconst 4, 1) := by decide +kernel
theorem dX9_mirror_81 : decode cX9_mirror 81 = .ok (.invokestatic 95, 3) := by decide +kernel
theorem dX9_mirror_84 : decode cX9_mirror 84 = .ok (.ifCond .eq 14, 3) := by decide +kernel
theorem dX9_mirror_87 : decode cX9_mirror 87 = .ok (.iload 7, 2) := by decide +kernel
theorem dX9_mirror_89 : decode cX9_mirror 89 = .ok (.iconst 0, 1) := by decide +kernel
theorem dX9_mirror_90 : decode cX9_mirror 90 = .ok (.bipush 9, 2) := by decide +kernel
theorem dX9_mirror_92 : decode cX9_mirror 92 = .ok (.invokestatic 95, 3) := by decide +kernel
theorem dX9_mirror_95 : decode cX9_mirror 95 = .ok (.ifCond .ne 5, 3) := by decide +kernel
theorem dX9_mirror_98 : decode cX9_mirror 98 = .ok (.iconst (-1), 1) := by decide +kernel
theorem dX9_mirror_99 : decode cX9_mirror 99 = .ok (.ireturn, 1) := by decide +kernel
theorem dX9_mirror_100 : decode cX9_mirror 100 = .ok (.aload_n 0, 1) := by decide +kernel
theorem dX9_mirror_101 : decode cX9_mirror 101 = .ok (.getfield 10, 3) := by decide +kernel
theorem dX9_mirror_104 : decode cX9_mirror 104 = .ok (.iload_n 1, 1) := by decide +kernel
theorem dX9_mirror_105 : decode cX9_mirror 105 = .ok (.iload_n 2, 1) := by decide +kernel
theorem dX9_mirror_106 : decode cX9_mirror 106 = .ok (.invokevirtual 137, 3) := by decide +kernel
theorem dX9_mirror_109 : decode cX9_mirror 109 = .ok (.istore 8, 2) := by decide +kernel
theorem dX9_mirror_111 : decode cX9_mirror 111 = .ok (.aload_n 0, 1) := by decide +kernel
theorem dX9_mirror_112 : decode cX9_mirror 112 = .ok (.getfield 10, 3) := by decide +kernel
theorem dX9_mirror_115 : decode cX9_mirror 115 = .ok (.iload 8, 2) := by decide +kernel
theorem dX9_mirror_117 : decode cX9_mirror 117 = .ok (.iconst 2, 1) := by decide +kernel
theorem dX9_mirror_118 : decode cX9_mirror 118 = .ok (.iload_n 3, 1) := by decide +kernel
theorem dX9_mirror_119 : decode cX9_mirror 119 = .ok (.invokevirtual 140, 3) := by decide +kernel
theorem dX9_mirror_122 : decode cX9_mirror 122 = .ok (.aload_n 0, 1) := by decide +kernel
theorem dX9_mirror_123 : decode cX9_mirror 123 = .ok (.getfield 10, 3) := by decide +kernel
theorem dX9_mirror_126 : decode cX9_mirror 126 = .ok (.iload 8, 2) := by decide +kernel
theorem dX9_mirror_128 : decode cX9_mirror 128 = .ok (.iconst 3, 1) := by decide +kernel
theorem dX9_mirror_129 : decode cX9_mirror 129 = .ok (.iload 4, 2) := by decide +kernel
theorem dX9_mirror_131 : decode cX9_mirror 131 = .ok (.invokevirtual 140, 3) := by decide +kernel
theorem dX9_mirror_134 : decode cX9_mirror 134 = .ok (.aload_n 0, 1) := by decide +kernel
theorem dX9_mirror_135 : decode cX9_mirror 135 = .ok (.getfield 10, 3) := by decide +kernel
theorem dX9_mirror_138 : decode cX9_mirror 138 = .ok (.iload 8, 2) := by decide +kernel
theorem dX9_mirror_140 : decode cX9_mirror 140 = .ok (.iconst 4, 1) := by decide +kernel
theorem dX9_mirror_141 : decode cX9_mirror 141 = .ok (.iload 5, 2) := by decide +kernel
theorem dX9_mirror_143 : decode cX9_mirror 143 = .ok (.invokevirtual 140, 3) := by decide +kernel
theorem dX9_mirror_146 : decode cX9_mirror 146 = .ok (.aload_n 0, 1) := by decide +kernel
theorem dX9_mirror_147 : decode cX9_mirror 147 = .ok (.getfield 10, 3) := by decide +kernel
theorem dX9_mirror_150 : decode cX9_mirror 150 = .ok (.iload 8, 2) := by decide +kernel
theorem dX9_mirror_152 : decode cX9_mirror 152 = .ok (.iconst 5, 1) := by decide +kernel
theorem dX9_mirror_153 : decode cX9_mirror 153 = .ok (.iload 6, 2) := by decide +kernel
theorem dX9_mirror_155 : decode cX9_mirror 155 = .ok (.invokevirtual 140, 3) := by decide +kernel
theorem dX9_mirror_158 : decode cX9_mirror 158 = .ok (.aload_n 0, 1) := by decide +kernel
theorem dX9_mirror_159 : decode cX9_mirror 159 = .ok (.getfield 10, 3) := by decide +kernel
theorem dX9_mirror_162 : decode cX9_mirror 162 = .ok (.iload 8, 2) := by decide +kernel
theorem dX9_mirror_164 : decode cX9_mirror 164 = .ok (.bipush 6, 2) := by decide +kernel
theorem dX9_mirror_166 : decode cX9_mirror 166 = .ok (.iload 7, 2) := by decide +kernel
theorem dX9_mirror_168 : decode cX9_mirror 168 = .ok (.invokevirtual 140, 3) := by decide +kernel
theorem dX9_mirror_171 : decode cX9_mirror 171 = .ok (.iload 8, 2) := by decide +kernel
theorem dX9_mirror_173 : decode cX9_mirror 173 = .ok (.ireturn, 1) := by decide +kernel
theorem ce_X9_mirror : CeV RX9 yX9_mirror cX9_mirror 9 (some .int) 7 := ⟨tb_490, tb_491, tb_1, tb_492, rfl, by decide, by decide, by decide +kernel⟩
theorem dX9_sets_0 : decode cX9_sets 0 = .ok (.aload_n 0, 1) := by decide +kernel
theorem dX9_sets_1 : decode cX9_sets 1 = .ok (.getfield 10, 3) := by decide +kernel
theorem dX9_sets_4 : decode cX9_sets 4 = .ok (.iload_n 1, 1) := by decide +kernel
theorem dX9_sets_5 : decode cX9_sets 5 = .ok (.invokevirtual 144, 3) := by decide +kernel
theorem dX9_sets_8 : decode cX9_sets 8 = .ok (.ifCond .ne 6, 3) := by decide +kernel
theorem dX9_sets_11 : decode cX9_sets 11 = .ok (.bipush (-2), 2) := by decide +kernel
theorem dX9_sets_13 : decode cX9_sets 13 = .ok (.ireturn, 1) := by decide +kernel
theorem dX9_sets_14 : decode cX9_sets 14 = .ok (.iload_n 2, 1) := by decide +kernel
theorem dX9_sets_15 : decode cX9_sets 15 = .ok (.tableswitch 92 0 3 #[29, 44, 61, 76], 29) := by decide +kernel
theorem dX9_sets_44 : decode cX9_sets 44 = .ok (.aload_n 0, 1) := by decide +kernel
theorem dX9_sets_45 : decode cX9_sets 45 = .ok (.iload_n 1, 1) := by decide +kernel
theorem dX9_sets_46 : decode cX9_sets 46 = .ok (.iconst 2, 1) := by decide +kernel
theorem dX9_sets_47 : decode cX9_sets 47 = .ok (.iload_n 3, 1) := by decide +kernel
theorem dX9_sets_48 : decode cX9_sets 48 = .ok (.iload_n 3, 1) := by decide +kernel
theorem dX9_sets_49 : decode cX9_sets 49 = .ok (.iconst 0, 1) := by decide +kernel
theorem dX9_sets_50 : decode cX9_sets 50 = .ok (.bipush 7, 2) := by decide +kernel
theorem dX9_sets_52 : decode cX9_sets 52 = .ok (.invokestatic 95, 3) := by decide +kernel
theorem dX9_sets_55 : decode cX9_sets 55 = .ok (.invokevirtual 148, 3) := by decide +kernel
theorem dX9_sets_58 : decode cX9_sets 58 = .ok (.ireturn, 1) := by decide +kernel
theorem dX9_sets_59 : decode cX9_sets 59 = .ok (.aload_n 0, 1) := by decide +kernel
theorem dX9_sets_60 : decode cX9_sets 60 = .ok (.iload_n 1, 1) := by decide +kernel
theorem dX9_sets_61 : decode cX9_sets 61 = .ok (.bipush 7, 2) := by decide +kernel
theorem dX9_sets_63 : decode cX9_sets 63 = .ok (.iload_n 3, 1) := by decide +kernel
theorem dX9_sets_64 : decode cX9_sets 64 = .ok (.iload_n 3, 1) := by decide +kernel
theorem dX9_sets_65 : decode cX9_sets 65 = .ok (.iconst 0, 1) := by decide +kernel
theorem dX9_sets_66 : decode cX9_sets 66 = .ok (.sipush 1000, 3) := by decide +kernel
theorem dX9_sets_69 : decode cX9_sets 69 = .ok (.invokestatic 95, 3) := by decide +kernel
theorem dX9_sets_72 : decode cX9_sets 72 = .ok (.invokevirtual 148, 3) := by decide +kernel
theorem dX9_sets_75 : decode cX9_sets 75 = .ok (.ireturn, 1) := by decide +kernel
theorem dX9_sets_76 : decode cX9_sets 76 = .ok (.aload_n 0, 1) := by decide +kernel
theorem dX9_sets_77 : decode cX9_sets 77 = .ok (.iload_n 1, 1) := by decide +kernel
theorem dX9_sets_78 : decode cX9_sets 78 = .ok (.bipush 8, 2) := by decide +kernel
theorem dX9_sets_80 : decode cX9_sets 80 = .ok (.iload_n 3, 1) := by decide +kernel
theorem dX9_sets_81 : decode cX9_sets 81 = .ok (.iload_n 3, 1) := by decide +kernel
theorem dX9_sets_82 : decode cX9_sets 82 = .ok (.iconst 0, 1) := by decide +kernel
theorem dX9_sets_83 : decode cX9_sets 83 = .ok (.iconst 1, 1) := by decide +kernel
theorem dX9_sets_84 : decode cX9_sets 84 = .ok (.invokestatic 95, 3) := by decide +kernel
theorem dX9_sets_87 : decode cX9_sets 87 = .ok (.invokevirtual 148, 3) := by decide +kernel
theorem dX9_sets_90 : decode cX9_sets 90 = .ok (.ireturn, 1) := by decide +kernel
theorem dX9_sets_91 : decode cX9_sets 91 = .ok (.aload_n 0, 1) := by decide +kernel
theorem dX9_sets_92 : decode cX9_sets 92 = .ok (.iload_n 1, 1) := by decide +kernel
theorem dX9_sets_93 : decode cX9_sets 93 = .ok (.bipush 9, 2) := by decide +kernel
theorem dX9_sets_95 : decode cX9_sets 95 = .ok (.iload_n 3, 1) := by decide +kernel
theorem dX9_sets_96 : decode cX9_sets 96 = .ok (.iload_n 3, 1) := by decide +kernel
theorem dX9_sets_97 : decode cX9_sets 97 = .ok (.iconst (-1), 1) := by decide +kernel
theorem dX9_sets_98 : decode cX9_sets 98 = .ok (.ldc 115, 2) := by decide +kernel
theorem dX9_sets_100 : decode cX9_sets 100 = .ok (.invokestatic 95, 3) := by decide +kernel
theorem dX9_sets_103 : decode cX9_sets 103 = .ok (.invokevirtual 148, 3) := by decide +kernel
theorem dX9_sets_106 : decode cX9_sets 106 = .ok (.ireturn, 1) := by decide +kernel
theorem dX9_sets_107 : decode cX9_sets 107 = .ok (.bipush (-2), 2) := by decide +kernel
theorem dX9_sets_109 : decode cX9_sets 109 = .ok (.ireturn, 1) := by decide +kernel
theorem ce_X9_sets : CeV RX9 yX9_sets cX9_sets 4 (some .int) 3 := ⟨tb_505, tb_506, tb_1, tb_507, rfl, by decide, by decide, by decide +kernel⟩
theorem dX9_yard_0 : decode cX9_yard 0 = .ok (.aload_n 0, 1) := by decide +kernel
theorem dX9_yard_1 : decode cX9_yard 1 = .ok (.getfield 10, 3) := by decide +kernel
theorem dX9_yard_4 : decode cX9_yard 4 = .ok (.iload_n 1, 1) := by decide +kernel
theorem dX9_yard_5 : decode cX9_yard 5 = .ok (.iload_n 2, 1) := by decide +kernel
theorem dX9_yard_6 : decode cX9_yard 6 = .ok (.iload_n 3, 1) := by decide +kernel
theorem dX9_yard_7 : decode cX9_yard 7 = .ok (.iload 4, 2) := by decide +kernel
theorem dX9_yard_9 : decode cX9_yard 9 = .ok (.invokevirtual 103, 3) := by decide +kernel
theorem dX9_yard_12 : decode cX9_yard 12 = .ok (.ifCond .eq 15, 3) := by decide +kernel
theorem dX9_yard_15 : decode cX9_yard 15 = .ok (.aload_n 0, 1) := by decide +kernel
theorem dX9_yard_16 : decode cX9_yard 16 = .ok (.getfield 10, 3) := by decide +kernel
theorem dX9_yard_19 : decode cX9_yard 19 = .ok (.getfield 152, 3) := by decide +kernel
theorem dX9_yard_22 : decode cX9_yard 22 = .ok (.bipush 8, 2) := by decide +kernel
theorem dX9_yard_24 : decode cX9_yard 24 = .ok (.if_icmp .lt 5, 3) := by decide +kernel
theorem dX9_yard_27 : decode cX9_yard 27 = .ok (.iconst (-1), 1) := by decide +kernel
theorem dX9_yard_28 : decode cX9_yard 28 = .ok (.ireturn, 1) := by decide +kernel
theorem dX9_yard_29 : decode cX9_yard 29 = .ok (.iload 5, 2) := by decide +kernel
theorem dX9_yard_31 : decode cX9_yard 31 = .ok (.iconst 1, 1) := by decide +kernel
theorem dX9_yard_32 : decode cX9_yard 32 = .ok (.sipush 1000, 3) := by decide +kernel
theorem dX9_yard_35 : decode cX9_yard 35 = .ok (.invokestatic 95, 3) := by decide +kernel
theorem dX9_yard_38 : decode cX9_yard 38 = .ok (.ifCond .eq 14, 3) := by decide +kernel
theorem dX9_yard_41 : decode cX9_yard 41 = .ok (.iload 6, 2) := by decide +kernel
theorem dX9_yard_43 : decode cX9_yard 43 = .ok (.iconst 0, 1) := by decide +kernel
theorem dX9_yard_44 : decode cX9_yard 44 = .ok (.ldc 155, 2) := by decide +kernel
theorem dX9_yard_46 : decode cX9_yard 46 = .ok (.invokestatic 95, 3) := by decide +kernel
theorem dX9_yard_49 : decode cX9_yard 49 = .ok (.ifCond .ne 5, 3) := by decide +kernel
theorem dX9_yard_52 : decode cX9_yard 52 = .ok (.iconst (-1), 1) := by decide +kernel
theorem dX9_yard_53 : decode cX9_yard 53 = .ok (.ireturn, 1) := by decide +kernel
theorem dX9_yard_54 : decode cX9_yard 54 = .ok (.aload_n 0, 1) := by decide +kernel
theorem dX9_yard_55 : decode cX9_yard 55 = .ok (.getfield 10, 3) := by decide +kernel
theorem dX9_yard_58 : decode cX9_yard 58 = .ok (.iload_n 1, 1) := by decide +kernel
theorem dX9_yard_59 : decode cX9_yard 59 = .ok (.iload_n 2, 1) := by decide +kernel
theorem dX9_yard_60 : decode cX9_yard 60 = .ok (.iload_n 3, 1) := by decide +kernel
theorem dX9_yard_61 : decode cX9_yard 61 = .ok (.iload 4, 2) := by decide +kernel
theorem dX9_yard_63 : decode cX9_yard 63 = .ok (.invokevirtual 156, 3) := by decide +kernel
theorem dX9_yard_66 : decode cX9_yard 66 = .ok (.istore 7, 2) := by decide +kernel
theorem dX9_yard_68 : decode cX9_yard 68 = .ok (.aload_n 0, 1) := by decide +kernel
theorem dX9_yard_69 : decode cX9_yard 69 = .ok (.getfield 10, 3) := by decide +kernel
theorem dX9_yard_72 : decode cX9_yard 72 = .ok (.iload 7, 2) := by decide +kernel
theorem dX9_yard_74 : decode cX9_yard 74 = .ok (.iconst 2, 1) := by decide +kernel
theorem dX9_yard_75 : decode cX9_yard 75 = .ok (.iload 5, 2) := by decide +kernel
theorem dX9_yard_77 : decode cX9_yard 77 = .ok (.invokevirtual 160, 3) := by decide +kernel
theorem dX9_yard_80 : decode cX9_yard 80 = .ok (.aload_n 0, 1) := by decide +kernel
theorem dX9_yard_81 : decode cX9_yard 81 = .ok (.getfield 10, 3) := by decide +kernel
theorem dX9_yard_84 : decode cX9_yard 84 = .ok (.iload 7, 2) := by decide +kernel
theorem dX9_yard_86 : decode cX9_yard 86 = .ok (.iconst 1, 1) := by decide +kernel
theorem dX9_yard_87 : decode cX9_yard 87 = .ok (.iload 6, 2) := by decide +kernel
theorem dX9_yard_89 : decode cX9_yard 89 = .ok (.invokevirtual 160, 3) := by decide +kernel
theorem dX9_yard_92 : decode cX9_yard 92 = .ok (.iload 7, 2) := by decide +kernel
theorem dX9_yard_94 : decode cX9_yard 94 = .ok (.ireturn, 1) := by decide +kernel
theorem ce_X9_yard : CeV RX9 yX9_yard cX9_yard 8 (some .int) 6 := ⟨tb_521, tb_522, tb_1, tb_523, rfl, by decide, by decide, by decide +kernel⟩
theorem dX9_eyes_0 : decode cX9_eyes 0 = .ok (.aload_n 0, 1) := by decide +kernel
theorem dX9_eyes_1 : decode cX9_eyes 1 = .ok (.getfield 10, 3) := by decide +kernel
theorem dX9_eyes_4 : decode cX9_eyes 4 = .ok (.iload_n 1, 1) := by decide +kernel
theorem dX9_eyes_5 : decode cX9_eyes 5 = .ok (.iload_n 2, 1) := by decide +kernel
theorem dX9_eyes_6 : decode cX9_eyes 6 = .ok (.invokevirtual 122, 3) := by decide +kernel
theorem dX9_eyes_9 : decode cX9_eyes 9 = .ok (.ifCond .eq 13, 3) := by decide +kernel
theorem dX9_eyes_12 : decode cX9_eyes 12 = .ok (.iload_n 3, 1) := by decide +kernel
theorem dX9_eyes_13 : decode cX9_eyes 13 = .ok (.iconst (-1), 1) := by decide +kernel
theorem dX9_eyes_14 : decode cX9_eyes 14 = .ok (.ldc 115, 2) := by decide +kernel
theorem dX9_eyes_16 : decode cX9_eyes 16 = .ok (.invokestatic 95, 3) := by decide +kernel
theorem dX9_eyes_19 : decode cX9_eyes 19 = .ok (.ifCond .ne 6, 3) := by decide +kernel
theorem dX9_eyes_22 : decode cX9_eyes 22 = .ok (.bipush (-2), 2) := by decide +kernel
theorem dX9_eyes_24 : decode cX9_eyes 24 = .ok (.ireturn, 1) := by decide +kernel
theorem dX9_eyes_25 : decode cX9_eyes 25 = .ok (.aload_n 0, 1) := by decide +kernel
theorem dX9_eyes_26 : decode cX9_eyes 26 = .ok (.getfield 10, 3) := by decide +kernel
theorem dX9_eyes_29 : decode cX9_eyes 29 = .ok (.getfield 163, 3) := by decide +kernel
theorem dX9_eyes_32 : decode cX9_eyes 32 = .ok (.iload_n 1, 1) := by decide +kernel
theorem dX9_eyes_33 : decode cX9_eyes 33 = .ok (.iload_n 2, 1) := by decide +kernel
theorem dX9_eyes_34 : decode cX9_eyes 34 = .ok (.invokestatic 129, 3) := by decide +kernel
theorem dX9_eyes_37 : decode cX9_eyes 37 = .ok (.iaload, 1) := by decide +kernel
theorem dX9_eyes_38 : decode cX9_eyes 38 = .ok (.istore 4, 2) := by decide +kernel
theorem dX9_eyes_40 : decode cX9_eyes 40 = .ok (.aload_n 0, 1) := by decide +kernel
theorem dX9_eyes_41 : decode cX9_eyes 41 = .ok (.getfield 10, 3) := by decide +kernel
theorem dX9_eyes_44 : decode cX9_eyes 44 = .ok (.getfield 163, 3) := by decide +kernel
theorem dX9_eyes_47 : decode cX9_eyes 47 = .ok (.iload_n 1, 1) := by decide +kernel
theorem dX9_eyes_48 : decode cX9_eyes 48 = .ok (.iload_n 2, 1) := by decide +kernel
theorem dX9_eyes_49 : decode cX9_eyes 49 = .ok (.invokestatic 129, 3) := by decide +kernel
theorem dX9_eyes_52 : decode cX9_eyes 52 = .ok (.iload_n 3, 1) := by decide +kernel
theorem dX9_eyes_53 : decode cX9_eyes 53 = .ok (.iastore, 1) := by decide +kernel
theorem dX9_eyes_54 : decode cX9_eyes 54 = .ok (.iload 4, 2) := by decide +kernel
theorem dX9_eyes_56 : decode cX9_eyes 56 = .ok (.ireturn, 1) := by decide +kernel
theorem ce_X9_eyes : CeV RX9 yX9_eyes cX9_eyes 5 (some .int) 3 := ⟨tb_535, tb_536, tb_1, tb_537, rfl, by decide, by decide, by decide +kernel⟩
theorem dX9_month_0 : decode cX9_month 0 = .ok (.aload_n 0, 1) := by decide +kernel
theorem dX9_month_1 : decode cX9_month 1 = .ok (.getfield 10, 3) := by decide +kernel
theorem dX9_month_4 : decode cX9_month 4 = .ok (.invokevirtual 111, 3) := by decide +kernel
theorem dX9_month_7 : decode cX9_month 7 = .ok (.ifCond .eq 13, 3) := by decide +kernel
theorem dX9_month_10 : decode cX9_month 10 = .ok (.iload_n 1, 1) := by decide +kernel
theorem dX9_month_11 : decode cX9_month 11 = .ok (.iconst 0, 1) := by decide +kernel
theorem dX9_month_12 : decode cX9_month 12 = .ok (.bipush 11, 2) := by decide +kernel
theorem dX9_month_14 : decode cX9_month 14 = .ok (.invokestatic 95, 3) := by decide +kernel
theorem dX9_month_17 : decode cX9_month 17 = .ok (.ifCond .ne 5, 3) := by decide +kernel
theorem dX9_month_20 : decode cX9_month 20 = .ok (.iconst (-1), 1) := by decide +kernel
theorem dX9_month_21 : decode cX9_month 21 = .ok (.ireturn, 1) := by decide +kernel
theorem dX9_month_22 : decode cX9_month 22 = .ok (.aload_n 0, 1) := by decide +kernel
theorem dX9_month_23 : decode cX9_month 23 = .ok (.getfield 10, 3) := by decide +kernel
theorem dX9_month_26 : decode cX9_month 26 = .ok (.getfield 166, 3) := by decide +kernel
theorem dX9_month_29 : decode cX9_month 29 = .ok (.istore_n 2, 1) := by decide +kernel
theorem dX9_month_30 : decode cX9_month 30 = .ok (.aload_n 0, 1) := by decide +kernel
theorem dX9_month_31 : decode cX9_month 31 = .ok (.getfield 10, 3) := by decide +kernel
theorem dX9_month_34 : decode cX9_month 34 = .ok (.iload_n 1, 1) := by decide +kernel
theorem dX9_month_35 : decode cX9_month 35 = .ok (.putfield 166, 3) := by decide +kernel
theorem dX9_month_38 : decode cX9_month 38 = .ok (.iload_n 2, 1) := by decide +kernel
theorem dX9_month_39 : decode cX9_month 39 = .ok (.ireturn, 1) := by decide +kernel
theorem ce_X9_month : CeV RX9 yX9_month cX9_month 3 (some .int) 1 := ⟨tb_539, tb_540, tb_1, tb_541, rfl, by decide, by decide, by decide +kernel⟩
theorem dX9_falls_0 : decode cX9_falls 0 = .ok (.aload_n 0, 1) := by decide +kernel
theorem dX9_falls_1 : decode cX9_falls 1 = .ok (.getfield 10, 3) := by decide +kernel
theorem dX9_falls_4 : decode cX9_falls 4 = .ok (.invokevirtual 111, 3) := by decide +kernel
theorem dX9_falls_7 : decode cX9_falls 7 = .ok (.ifCond .eq 13, 3) := by decide +kernel
theorem dX9_falls_10 : decode cX9_falls 10 = .ok (.iload_n 1, 1) := by decide +kernel
theorem dX9_falls_11 : decode cX9_falls 11 = .ok (.iconst 0, 1) := by decide +kernel
theorem dX9_falls_12 : decode cX9_falls 12 = .ok (.bipush 99, 2) := by decide +kernel
theorem dX9_falls_14 : decode cX9_falls 14 = .ok (.invokestatic 95, 3) := by decide +kernel
theorem dX9_falls_17 : decode cX9_falls 17 = .ok (.ifCond .ne 5, 3) := by decide +kernel
theorem dX9_falls_20 : decode cX9_falls 20 = .ok (.iconst (-1), 1) := by decide +kernel
theorem dX9_falls_21 : decode cX9_falls 21 = .ok (.ireturn, 1) := by decide +kernel
theorem dX9_falls_22 : decode cX9_falls 22 = .ok (.aload_n 0, 1) := by decide +kernel
theorem dX9_falls_23 : decode cX9_falls 23 = .ok (.getfield 10, 3) := by decide +kernel
theorem dX9_falls_26 : decode cX9_falls 26 = .ok (.getfield 169, 3) := by decide +kernel
theorem dX9_falls_29 : decode cX9_falls 29 = .ok (.istore_n 2, 1) := by decide +kernel
theorem dX9_falls_30 : decode cX9_falls 30 = .ok (.aload_n 0, 1) := by decide +kernel
theorem dX9_falls_31 : decode cX9_falls 31 = .ok (.getfield 10, 3) := by decide +kernel
theorem dX9_falls_34 : decode cX9_falls 34 = .ok (.iload_n 1, 1) := by decide +kernel
theorem dX9_falls_35 : decode cX9_falls 35 = .ok (.putfield 169, 3) := by decide +kernel
theorem dX9_falls_38 : decode cX9_falls 38 = .ok (.iload_n 2, 1) := by decide +kernel
theorem dX9_falls_39 : decode cX9_falls 39 = .ok (.ireturn, 1) := by decide +kernel
theorem ce_X9_falls : CeV RX9 yX9_falls cX9_falls 3 (some .int) 1 := ⟨tb_543, tb_544, tb_1, tb_545, rfl, by decide, by decide, by decide +kernel⟩
theorem dX9_end_0 : decode cX9_end 0 = .ok (.iload_n 1, 1) := by decide +kernel
theorem dX9_end_1 : decode cX9_end 1 = .ok (.iconst 0, 1) := by decide +kernel
theorem dX9_end_2 : decode cX9_end 2 = .ok (.aload_n 0, 1) := by decide +kernel
theorem dX9_end_3 : decode cX9_end 3 = .ok (.getfield 172, 3) := by decide +kernel
theorem dX9_end_6 : decode cX9_end 6 = .ok (.invokestatic 95, 3) := by decide +kernel
theorem dX9_end_9 : decode cX9_end 9 = .ok (.ifCond .ne 5, 3) := by decide +kernel
theorem dX9_end_12 : decode cX9_end 12 = .ok (.iconst (-1), 1) := by decide +kernel
theorem dX9_end_13 : decode cX9_end 13 = .ok (.ireturn, 1) := by decide +kernel
theorem dX9_end_14 : decode cX9_end 14 = .ok (.aload_n 0, 1) := by decide +kernel
theorem dX9_end_15 : decode cX9_end 15 = .ok (.iload_n 1, 1) := by decide +kernel
theorem dX9_end_16 : decode cX9_end 16 = .ok (.putfield 172, 3) := by decide +kernel
theorem dX9_end_19 : decode cX9_end 19 = .ok (.iload_n 1, 1) := by decide +kernel
theorem dX9_end_20 : decode cX9_end 20 = .ok (.ireturn, 1) := by decide +kernel
theorem ce_X9_end : CeV RX9 yX9_end cX9_end 2 (some .int) 1 := ⟨tb_555, tb_556, tb_1, tb_557, rfl, by decide, by decide, by decide +kernel⟩
theorem dX9_mirrors_0 : decode cX9_mirrors 0 = .ok (.aload_n 0, 1) := by decide +kernel
theorem dX9_mirrors_1 : decode cX9_mirrors 1 = .ok (.getfield 10, 3) := by decide +kernel
theorem dX9_mirrors_4 : decode cX9_mirrors 4 = .ok (.iload_n 1, 1) := by decide +kernel
theorem dX9_mirrors_5 : decode cX9_mirrors 5 = .ok (.invokevirtual 144, 3) := by decide +kernel
theorem dX9_mirrors_8 : decode cX9_mirrors 8 = .ok (.ifCond .eq 13, 3) := by decide +kernel
theorem dX9_mirrors_11 : decode cX9_mirrors 11 = .ok (.iload_n 2, 1) := by decide +kernel
theorem dX9_mirrors_12 : decode cX9_mirrors 12 = .ok (.iconst 0, 1) := by decide +kernel
theorem dX9_mirrors_13 : decode cX9_mirrors 13 = .ok (.bipush 9, 2) := by decide +kernel
theorem dX9_mirrors_15 : decode cX9_mirrors 15 = .ok (.invokestatic 95, 3) := by decide +kernel
theorem dX9_mirrors_18 : decode cX9_mirrors 18 = .ok (.ifCond .ne 6, 3) := by decide +kernel
theorem dX9_mirrors_21 : decode cX9_mirrors 21 = .ok (.bipush (-2), 2) := by decide +kernel
theorem dX9_mirrors_23 : decode cX9_mirrors 23 = .ok (.ireturn, 1) := by decide +kernel
theorem dX9_mirrors_24 : decode cX9_mirrors 24 = .ok (.aload_n 0, 1) := by decide +kernel
theorem dX9_mirrors_25 : decode cX9_mirrors 25 = .ok (.getfield 10, 3) := by decide +kernel
theorem dX9_mirrors_28 : decode cX9_mirrors 28 = .ok (.iload_n 1, 1) := by decide +kernel
theorem dX9_mirrors_29 : decode cX9_mirrors 29 = .ok (.iload_n 2, 1) := by decide +kernel
theorem dX9_mirrors_30 : decode cX9_mirrors 30 = .ok (.invokevirtual 201, 3) := by decide +kernel
theorem dX9_mirrors_33 : decode cX9_mirrors 33 = .ok (.ireturn, 1) := by decide +kernel
theorem ce_X9_mirrors : CeV RX9 yX9_mirrors cX9_mirrors 3 (some .int) 2 := ⟨tb_886, tb_887, tb_1, tb_888, rfl, by decide, by decide, by decide +kernel⟩
theorem dX9_yards_0 : decode cX9_yards 0 = .ok (.aload_n 0, 1) := by decide +kernel
theorem dX9_yards_1 : decode cX9_yards 1 = .ok (.getfield 10, 3) := by decide +kernel
theorem dX9_yards_4 : decode cX9_yards 4 = .ok (.iload_n 1, 1) := by decide +kernel
theorem dX9_yards_5 : decode cX9_yards 5 = .ok (.invokevirtual 204, 3) := by decide +kernel
theorem dX9_yards_8 : decode cX9_yards 8 = .ok (.ifCond .eq 13, 3) := by decide +kernel
theorem dX9_yards_11 : decode cX9_yards 11 = .ok (.iload_n 2, 1) := by decide +kernel
theorem dX9_yards_12 : decode cX9_yards 12 = .ok (.iconst 0, 1) := by decide +kernel
theorem dX9_yards_13 : decode cX9_yards 13 = .ok (.bipush 6, 2) := by decide +kernel
theorem dX9_yards_15 : decode cX9_yards 15 = .ok (.invokestatic 95, 3) := by decide +kernel
theorem dX9_yards_18 : decode cX9_yards 18 = .ok (.ifCond .ne 5, 3) := by decide +kernel
theorem dX9_yards_21 : decode cX9_yards 21 = .ok (.iconst (-1), 1) := by decide +kernel
theorem dX9_yards_22 : decode cX9_yards 22 = .ok (.ireturn, 1) := by decide +kernel
theorem dX9_yards_23 : decode cX9_yards 23 = .ok (.aload_n 0, 1) := by decide +kernel
theorem dX9_yards_24 : decode cX9_yards 24 = .ok (.getfield 10, 3) := by decide +kernel
theorem dX9_yards_27 : decode cX9_yards 27 = .ok (.iload_n 1, 1) := by decide +kernel
theorem dX9_yards_28 : decode cX9_yards 28 = .ok (.iload_n 2, 1) := by decide +kernel
theorem dX9_yards_29 : decode cX9_yards 29 = .ok (.invokevirtual 207, 3) := by decide +kernel
theorem dX9_yards_32 : decode cX9_yards 32 = .ok (.ireturn, 1) := by decide +kernel
theorem ce_X9_yards : CeV RX9 yX9_yards cX9_yards 3 (some .int) 2 := ⟨tb_890, tb_891, tb_1, tb_892, rfl, by decide, by decide, by decide +kernel⟩
theorem dX9_cell_0 : decode cX9_cell 0 = .ok (.aload_n 0, 1) := by decide +kernel
theorem dX9_cell_1 : decode cX9_cell 1 = .ok (.getfield 10, 3) := by decide +kernel
theorem dX9_cell_4 : decode cX9_cell 4 = .ok (.iload_n 1, 1) := by decide +kernel
theorem dX9_cell_5 : decode cX9_cell 5 = .ok (.iload_n 2, 1) := by decide +kernel
theorem dX9_cell_6 : decode cX9_cell 6 = .ok (.invokevirtual 122, 3) := by decide +kernel
theorem dX9_cell_9 : decode cX9_cell 9 = .ok (.ifCond .ne 6, 3) := by decide +kernel
theorem dX9_cell_12 : decode cX9_cell 12 = .ok (.bipush (-2), 2) := by decide +kernel
theorem dX9_cell_14 : decode cX9_cell 14 = .ok (.ireturn, 1) := by decide +kernel
theorem dX9_cell_15 : decode cX9_cell 15 = .ok (.iload_n 1, 1) := by decide +kernel
theorem dX9_cell_16 : decode cX9_cell 16 = .ok (.iload_n 2, 1) := by decide +kernel
theorem dX9_cell_17 : decode cX9_cell 17 = .ok (.invokestatic 129, 3) := by decide +kernel
theorem dX9_cell_20 : decode cX9_cell 20 = .ok (.istore 4, 2) := by decide +kernel
theorem dX9_cell_22 : decode cX9_cell 22 = .ok (.iload_n 3, 1) := by decide +kernel
theorem dX9_cell_23 : decode cX9_cell 23 = .ok (.tableswitch 73 0 3 #[29, 40, 51, 62], 29) := by decide +kernel
theorem dX9_cell_52 : decode cX9_cell 52 = .ok (.aload_n 0, 1) := by decide +kernel
theorem dX9_cell_53 : decode cX9_cell 53 = .ok (.getfield 10, 3) := by decide +kernel
theorem dX9_cell_56 : decode cX9_cell 56 = .ok (.getfield 210, 3) := by decide +kernel
theorem dX9_cell_59 : decode cX9_cell 59 = .ok (.iload 4, 2) := by decide +kernel
theorem dX9_cell_61 : decode cX9_cell 61 = .ok (.iaload, 1) := by decide +kernel
theorem dX9_cell_62 : decode cX9_cell 62 = .ok (.ireturn, 1) := by decide +kernel
theorem dX9_cell_63 : decode cX9_cell 63 = .ok (.aload_n 0, 1) := by decide +kernel
theorem dX9_cell_64 : decode cX9_cell 64 = .ok (.getfield 10, 3) := by decide +kernel
theorem dX9_cell_67 : decode cX9_cell 67 = .ok (.getfield 163, 3) := by decide +kernel
theorem dX9_cell_70 : decode cX9_cell 70 = .ok (.iload 4, 2) := by decide +kernel
theorem dX9_cell_72 : decode cX9_cell 72 = .ok (.iaload, 1) := by decide +kernel
theorem dX9_cell_73 : decode cX9_cell 73 = .ok (.ireturn, 1) := by decide +kernel
theorem dX9_cell_74 : decode cX9_cell 74 = .ok (.aload_n 0, 1) := by decide +kernel
theorem dX9_cell_75 : decode cX9_cell 75 = .ok (.getfield 10, 3) := by decide +kernel
theorem dX9_cell_78 : decode cX9_cell 78 = .ok (.getfield 126, 3) := by decide +kernel
theorem dX9_cell_81 : decode cX9_cell 81 = .ok (.iload 4, 2) := by decide +kernel
theorem dX9_cell_83 : decode cX9_cell 83 = .ok (.iaload, 1) := by decide +kernel
theorem dX9_cell_84 : decode cX9_cell 84 = .ok (.ireturn, 1) := by decide +kernel
theorem dX9_cell_85 : decode cX9_cell 85 = .ok (.aload_n 0, 1) := by decide +kernel
theorem dX9_cell_86 : decode cX9_cell 86 = .ok (.getfield 10, 3) := by decide +kernel
theorem dX9_cell_89 : decode cX9_cell 89 = .ok (.getfield 213, 3) := by decide +kernel
theorem dX9_cell_92 : decode cX9_cell 92 = .ok (.iload 4, 2) := by decide +kernel
theorem dX9_cell_94 : decode cX9_cell 94 = .ok (.iaload, 1) := by decide +kernel
theorem dX9_cell_95 : decode cX9_cell 95 = .ok (.ireturn, 1) := by decide +kernel
theorem dX9_cell_96 : decode cX9_cell 96 = .ok (.bipush (-2), 2) := by decide +kernel
theorem dX9_cell_98 : decode cX9_cell 98 = .ok (.ireturn, 1) := by decide +kernel
theorem ce_X9_cell : CeV RX9 yX9_cell cX9_cell 5 (some .int) 3 := ⟨tb_899, tb_900, tb_1, tb_901, rfl, by decide, by decide, by decide +kernel⟩
set_option maxHeartbeats 4000000 in
set_option maxRecDepth 20000 in
theorem V_X9_cell (l : Launch) (D : va_G) (A : Nat → Prop) (ad : Nat → Nat) (ns : List Nat) (I : MI) (L : ML) (G : MG) (a0 : Int32) (a1 : Int32) (a2 : Int32) (hG : SGC ns G) (hI : INV I) : Met l yX9_cell (wd yX9_cell cX9_cell 5 (some .int)) ({ frames := 1, cells := 0, slots := 0, locals := 22 }) (va_Pc [.ref (ad (0)), .int a0, .int a1, .int a2] (PM D A ad ns I L G)) (va_Qi (fun r u => u = (ad, ns, I, L, G) ∧ (True)) (BM D A) A) 0 0 A := by
  refine m_ofW (by decide) (Nat.le_of_ble_eq_true rfl) ?_
  intro p e s m below meth c ls args hC hE hM hA hS hl
  obtain ⟨hx, hb, hml, hown, hts, hr, hlocks, hin⟩ := hC
  have km2 : (-2 : Int32).toInt = -2 := by decide
  have k0 : (0 : Int32).toInt = 0 := by decide
  have hl : lv_has ls 5 [(0, .ref (ad (0))), (1, .int (a0)), (2, .int (a1)), (3, .int (a2))] := hl
  refine lv_aload_n hx hb dX9_cell_0 rfl (lv_at hl 0 rfl) ?_
  refine m_getr (0) 0 (100) hx hb hts hown hE oc9 hM (hG.1 0 (by decide)) rfl (by decide) rfl (hG.2 (0, 0, 100) (by decide)) (by decide) tb_398 dX9_cell_1 ?_
  refine lv_iload_n hx hb dX9_cell_4 rfl (lv_at hl 1 rfl) ?_
  refine lv_iload_n hx hb dX9_cell_5 rfl (lv_at hl 2 rfl) ?_
  refine m_calli (m_runV (100) (As := [.int (a0), .int (a1)]) (rest := []) hx hb hml hown hts hE hM hS hA ce_X8_hasCell tb_493 (V_X8_hasCell_100 l D A ad ns I L G (a0) (a1) hG hI) rfl rfl ⟨Nat.le_of_ble_eq_true rfl, Nat.le_of_ble_eq_true rfl⟩ (hG.1 100 (by decide)) rfl rfl (by decide) rfl hl.1 rfl (Nat.le_of_ble_eq_true rfl) dX9_cell_6 ⟨Nat.le_of_ble_eq_true rfl, Nat.le_of_ble_eq_true rfl⟩) hS (fun r1 u H locs hw hM hS => ?_)
  obtain ⟨rfl, xr1⟩ := hw
  have hM : Mem D A ad ns I L G H := hM
  have yr1 := bo01 xr1
  have g2 := hI.get 100 0 (lo := 0) (hi := 24) rfl
  have g3 := hI.get 100 1 (lo := 0) (hi := 24) rfl
  refine lv_if_ne (tgt := 15) hx hb dX9_cell_9 (by decide) (fun c4 => ?_) (fun c4 => ?_)
  · have hc4 := c4
    have q4 := xr1.t hc4
    refine lv_iload_n hx hb dX9_cell_15 rfl (lv_at hl 1 rfl) ?_
    refine lv_iload_n hx hb dX9_cell_16 rfl (lv_at hl 2 rfl) ?_
    refine m_calli (m_runS (As := [.int (a0), .int (a1)]) (rest := []) hx hb hml hown hts hE hM hS hA ce_X9_cellOf tb_494 (V_X9_cellOf l D A ad ns I L G (a0) (a1) hI (by first | omega | decide) (by first | omega | decide)) rfl rfl ⟨Nat.le_of_ble_eq_true rfl, Nat.le_of_ble_eq_true rfl⟩  rfl hl.1 rfl (Nat.le_of_ble_eq_true rfl) dX9_cell_17 ⟨Nat.le_of_ble_eq_true rfl, Nat.le_of_ble_eq_true rfl⟩) hS (fun r5 u H locs hw hM hS => ?_)
    obtain ⟨rfl, xr5⟩ := hw
    have hM : Mem D A ad ns I L G H := hM
    refine lv_istore (lv' := [(4, .int (r5)), (0, .ref (ad (0))), (1, .int (a0)), (2, .int (a1)), (3, .int (a2))]) hx hb dX9_cell_20 hl (by decide) rfl (fun ls hl => ?_)
    refine lv_iload_n hx hb dX9_cell_22 rfl (lv_at hl 4 rfl) ?_
    by_cases c6 : (a2).toInt < 0 ∨ 3 < (a2).toInt
    · refine lv_tableOut (tgt := 96) hx hb dX9_cell_23 c6 (by decide) ?_
      refine lv_bipush (v := (-2)) hx hb dX9_cell_96 (by decide) ?_
      exact m_iret hx hb hr hlocks hM hS (Nat.le_of_ble_eq_true rfl) (Nat.le_of_ble_eq_true rfl) ⟨rfl, trivial⟩ dX9_cell_98
    · have qc6 : (a2).toInt = 0 ∨ (a2).toInt = 1 ∨ (a2).toInt = 2 ∨ (a2).toInt = 3 := by omega
      rcases qc6 with qc6 | qc6 | qc6 | qc6
      · refine lv_tableIn (off := 29) (tgt := 52) hx hb dX9_cell_23 (by omega) (by omega) (by rw [qc6]; rfl) (by decide) ?_
        refine lv_aload_n hx hb dX9_cell_52 rfl (lv_at hl 1 rfl) ?_
        refine m_getr (0) 0 (100) hx hb hts hown hE oc9 hM (hG.1 0 (by decide)) rfl (by decide) rfl (hG.2 (0, 0, 100) (by decide)) (by decide) tb_398 dX9_cell_53 ?_
        refine m_getr (100) 10 (101) hx hb hts hown hE oc8 hM (hG.1 100 (by decide)) rfl (by decide) rfl (hG.2 (100, 10, 101) (by decide)) (by decide) tb_67 dX9_cell_56 ?_
        refine lv_iload hx hb dX9_cell_59 (lv_at hl 0 rfl) ?_
        refine m_iald (101) hx hb hE hM (hG.1 101 (by decide)) rfl (vp_in_iff.mpr (by omega)) dX9_cell_61 ?_
        exact m_iret hx hb hr hlocks hM hS (Nat.le_of_ble_eq_true rfl) (Nat.le_of_ble_eq_true rfl) ⟨rfl, trivial⟩ dX9_cell_62
      · refine lv_tableIn (off := 40) (tgt := 63) hx hb dX9_cell_23 (by omega) (by omega) (by rw [qc6]; rfl) (by decide) ?_
        refine lv_aload_n hx hb dX9_cell_63 rfl (lv_at hl 1 rfl) ?_
        refine m_getr (0) 0 (100) hx hb hts hown hE oc9 hM (hG.1 0 (by decide)) rfl (by decide) rfl (hG.2 (0, 0, 100) (by decide)) (by decide) tb_398 dX9_cell_64 ?_
        refine m_getr (100) 11 (102) hx hb hts hown hE oc8 hM (hG.1 100 (by decide)) rfl (by decide) rfl (hG.2 (100, 11, 102) (by decide)) (by decide) tb_69 dX9_cell_67 ?_
        refine lv_iload hx hb dX9_cell_70 (lv_at hl 0 rfl) ?_
        refine m_iald (102) hx hb hE hM (hG.1 102 (by decide)) rfl (vp_in_iff.mpr (by omega)) dX9_cell_72 ?_
        exact m_iret hx hb hr hlocks hM hS (Nat.le_of_ble_eq_true rfl) (Nat.le_of_ble_eq_true rfl) ⟨rfl, trivial⟩ dX9_cell_73
      · refine lv_tableIn (off := 51) (tgt := 74) hx hb dX9_cell_23 (by omega) (by omega) (by rw [qc6]; rfl) (by decide) ?_
        refine lv_aload_n hx hb dX9_cell_74 rfl (lv_at hl 1 rfl) ?_
        refine m_getr (0) 0 (100) hx hb hts hown hE oc9 hM (hG.1 0 (by decide)) rfl (by decide) rfl (hG.2 (0, 0, 100) (by decide)) (by decide) tb_398 dX9_cell_75 ?_
        refine m_getr (100) 12 (103) hx hb hts hown hE oc8 hM (hG.1 100 (by decide)) rfl (by decide) rfl (hG.2 (100, 12, 103) (by decide)) (by decide) tb_73 dX9_cell_78 ?_
        refine lv_iload hx hb dX9_cell_81 (lv_at hl 0 rfl) ?_
        refine m_iald (103) hx hb hE hM (hG.1 103 (by decide)) rfl (vp_in_iff.mpr (by omega)) dX9_cell_83 ?_
        have g7 := hI.get (103) ((r5).toNatClampNeg) (lo := -1) (hi := 23) rfl
        exact m_iret hx hb hr hlocks hM hS (Nat.le_of_ble_eq_true rfl) (Nat.le_of_ble_eq_true rfl) ⟨rfl, trivial⟩ dX9_cell_84
      · refine lv_tableIn (off := 62) (tgt := 85) hx hb dX9_cell_23 (by omega) (by omega) (by rw [qc6]; rfl) (by decide) ?_
        refine lv_aload_n hx hb dX9_cell_85 rfl (lv_at hl 1 rfl) ?_
        refine m_getr (0) 0 (100) hx hb hts hown hE oc9 hM (hG.1 0 (by decide)) rfl (by decide) rfl (hG.2 (0, 0, 100) (by decide)) (by decide) tb_398 dX9_cell_86 ?_
        refine m_getr (100) 13 (104) hx hb hts hown hE oc8 hM (hG.1 100 (by decide)) rfl (by decide) rfl (hG.2 (100, 13, 104) (by decide)) (by decide) tb_77 dX9_cell_89 ?_
        refine lv_iload hx hb dX9_cell_92 (lv_at hl 0 rfl) ?_
        refine m_iald (104) hx hb hE hM (hG.1 104 (by decide)) rfl (vp_in_iff.mpr (by omega)) dX9_cell_94 ?_
        have g8 := hI.get (104) ((r5).toNatClampNeg) (lo := -1) (hi := 7) rfl
        exact m_iret hx hb hr hlocks hM hS (Nat.le_of_ble_eq_true rfl) (Nat.le_of_ble_eq_true rfl) ⟨rfl, trivial⟩ dX9_cell_95
  · have hc4 := c4
    have q4 := xr1.f hc4
    refine lv_bipush (v := (-2)) hx hb dX9_cell_12 (by decide) ?_
    exact m_iret hx hb hr hlocks hM hS (Nat.le_of_ble_eq_true rfl) (Nat.le_of_ble_eq_true rfl) ⟨rfl, trivial⟩ dX9_cell_14
theorem dX9_gets_0 : decode cX9_gets 0 = .ok (.aload_n 0, 1) := by decide +kernel
theorem dX9_gets_1 : decode cX9_gets 1 = .ok (.getfield 10, 3) := by decide +kernel
theorem dX9_gets_4 : decode cX9_gets 4 = .ok (.iload_n 1, 1) := by decide +kernel
theorem dX9_gets_5 : decode cX9_gets 5 = .ok (.invokevirtual 216, 3) := by decide +kernel
theorem dX9_gets_8 : decode cX9_gets 8 = .ok (.ifCond .eq 14, 3) := by decide +kernel
theorem dX9_gets_11 : decode cX9_gets 11 = .ok (.aload_n 0, 1) := by decide +kernel
theorem dX9_gets_12 : decode cX9_gets 12 = .ok (.getfield 10, 3) := by decide +kernel
theorem dX9_gets_15 : decode cX9_gets 15 = .ok (.iload_n 2, 1) := by decide +kernel
theorem dX9_gets_16 : decode cX9_gets 16 = .ok (.invokevirtual 204, 3) := by decide +kernel
theorem dX9_gets_19 : decode cX9_gets 19 = .ok (.ifCond .ne 5, 3) := by decide +kernel
theorem dX9_gets_22 : decode cX9_gets 22 = .ok (.iconst (-1), 1) := by decide +kernel
theorem dX9_gets_23 : decode cX9_gets 23 = .ok (.ireturn, 1) := by decide +kernel
theorem dX9_gets_24 : decode cX9_gets 24 = .ok (.aload_n 0, 1) := by decide +kernel
theorem dX9_gets_25 : decode cX9_gets 25 = .ok (.getfield 26, 3) := by decide +kernel
theorem dX9_gets_28 : decode cX9_gets 28 = .ok (.aload_n 0, 1) := by decide +kernel
theorem dX9_gets_29 : decode cX9_gets 29 = .ok (.getfield 10, 3) := by decide +kernel
theorem dX9_gets_32 : decode cX9_gets 32 = .ok (.iload_n 1, 1) := by decide +kernel
theorem dX9_gets_33 : decode cX9_gets 33 = .ok (.invokevirtual 219, 3) := by decide +kernel
theorem dX9_gets_36 : decode cX9_gets 36 = .ok (.aload_n 0, 1) := by decide +kernel
theorem dX9_gets_37 : decode cX9_gets 37 = .ok (.getfield 26, 3) := by decide +kernel
theorem dX9_gets_40 : decode cX9_gets 40 = .ok (.getfield 223, 3) := by decide +kernel
theorem dX9_gets_43 : decode cX9_gets 43 = .ok (.iload_n 2, 1) := by decide +kernel
theorem dX9_gets_44 : decode cX9_gets 44 = .ok (.iaload, 1) := by decide +kernel
theorem dX9_gets_45 : decode cX9_gets 45 = .ok (.ireturn, 1) := by decide +kernel
theorem ce_X9_gets : CeV RX9 yX9_gets cX9_gets 3 (some .int) 2 := ⟨tb_903, tb_904, tb_1, tb_905, rfl, by decide, by decide, by decide +kernel⟩
theorem dX9_light_0 : decode cX9_light 0 = .ok (.aload_n 0, 1) := by decide +kernel
theorem dX9_light_1 : decode cX9_light 1 = .ok (.getfield 10, 3) := by decide +kernel
theorem dX9_light_4 : decode cX9_light 4 = .ok (.iload_n 1, 1) := by decide +kernel
theorem dX9_light_5 : decode cX9_light 5 = .ok (.invokevirtual 216, 3) := by decide +kernel
theorem dX9_light_8 : decode cX9_light 8 = .ok (.ifCond .ne 5, 3) := by decide +kernel
theorem dX9_light_11 : decode cX9_light 11 = .ok (.iconst (-1), 1) := by decide +kernel
theorem dX9_light_12 : decode cX9_light 12 = .ok (.ireturn, 1) := by decide +kernel
theorem dX9_light_13 : decode cX9_light 13 = .ok (.aload_n 0, 1) := by decide +kernel
theorem dX9_light_14 : decode cX9_light 14 = .ok (.getfield 26, 3) := by decide +kernel
theorem dX9_light_17 : decode cX9_light 17 = .ok (.aload_n 0, 1) := by decide +kernel
theorem dX9_light_18 : decode cX9_light 18 = .ok (.getfield 10, 3) := by decide +kernel
theorem dX9_light_21 : decode cX9_light 21 = .ok (.iload_n 1, 1) := by decide +kernel
theorem dX9_light_22 : decode cX9_light 22 = .ok (.invokevirtual 226, 3) := by decide +kernel
theorem dX9_light_25 : decode cX9_light 25 = .ok (.iload_n 2, 1) := by decide +kernel
theorem dX9_light_26 : decode cX9_light 26 = .ok (.tableswitch 106 0 6 #[42, 50, 58, 66, 74, 82, 94], 42) := by decide +kernel
theorem dX9_light_68 : decode cX9_light 68 = .ok (.aload_n 0, 1) := by decide +kernel
theorem dX9_light_69 : decode cX9_light 69 = .ok (.getfield 26, 3) := by decide +kernel
theorem dX9_light_72 : decode cX9_light 72 = .ok (.invokevirtual 229, 3) := by decide +kernel
theorem dX9_light_75 : decode cX9_light 75 = .ok (.ireturn, 1) := by decide +kernel
theorem dX9_light_76 : decode cX9_light 76 = .ok (.aload_n 0, 1) := by decide +kernel
theorem dX9_light_77 : decode cX9_light 77 = .ok (.getfield 26, 3) := by decide +kernel
theorem dX9_light_80 : decode cX9_light 80 = .ok (.getfield 232, 3) := by decide +kernel
theorem dX9_light_83 : decode cX9_light 83 = .ok (.ireturn, 1) := by decide +kernel
theorem dX9_light_84 : decode cX9_light 84 = .ok (.aload_n 0, 1) := by decide +kernel
theorem dX9_light_85 : decode cX9_light 85 = .ok (.getfield 26, 3) := by decide +kernel
theorem dX9_light_88 : decode cX9_light 88 = .ok (.getfield 235, 3) := by decide +kernel
theorem dX9_light_91 : decode cX9_light 91 = .ok (.ireturn, 1) := by decide +kernel
theorem dX9_light_92 : decode cX9_light 92 = .ok (.aload_n 0, 1) := by decide +kernel
theorem dX9_light_93 : decode cX9_light 93 = .ok (.getfield 26, 3) := by decide +kernel
theorem dX9_light_96 : decode cX9_light 96 = .ok (.getfield 238, 3) := by decide +kernel
theorem dX9_light_99 : decode cX9_light 99 = .ok (.ireturn, 1) := by decide +kernel
theorem dX9_light_100 : decode cX9_light 100 = .ok (.aload_n 0, 1) := by decide +kernel
theorem dX9_light_101 : decode cX9_light 101 = .ok (.getfield 26, 3) := by decide +kernel
theorem dX9_light_104 : decode cX9_light 104 = .ok (.getfield 241, 3) := by decide +kernel
theorem dX9_light_107 : decode cX9_light 107 = .ok (.ireturn, 1) := by decide +kernel
theorem dX9_light_108 : decode cX9_light 108 = .ok (.aload_n 0, 1) := by decide +kernel
theorem dX9_light_109 : decode cX9_light 109 = .ok (.getfield 26, 3) := by decide +kernel
theorem dX9_light_112 : decode cX9_light 112 = .ok (.aload_n 0, 1) := by decide +kernel
theorem dX9_light_113 : decode cX9_light 113 = .ok (.getfield 10, 3) := by decide +kernel
theorem dX9_light_116 : decode cX9_light 116 = .ok (.invokevirtual 244, 3) := by decide +kernel
theorem dX9_light_119 : decode cX9_light 119 = .ok (.ireturn, 1) := by decide +kernel
theorem dX9_light_120 : decode cX9_light 120 = .ok (.aload_n 0, 1) := by decide +kernel
theorem dX9_light_121 : decode cX9_light 121 = .ok (.getfield 26, 3) := by decide +kernel
theorem dX9_light_124 : decode cX9_light 124 = .ok (.aload_n 0, 1) := by decide +kernel
theorem dX9_light_125 : decode cX9_light 125 = .ok (.getfield 10, 3) := by decide +kernel
theorem dX9_light_128 : decode cX9_light 128 = .ok (.invokevirtual 248, 3) := by decide +kernel
theorem dX9_light_131 : decode cX9_light 131 = .ok (.ireturn, 1) := by decide +kernel
theorem dX9_light_132 : decode cX9_light 132 = .ok (.iconst (-1), 1) := by decide +kernel
theorem dX9_light_133 : decode cX9_light 133 = .ok (.ireturn, 1) := by decide +kernel
theorem ce_X9_light : CeV RX9 yX9_light cX9_light 3 (some .int) 2 := ⟨tb_909, tb_910, tb_1, tb_911, rfl, by decide, by decide, by decide +kernel⟩
theorem dX9_passes_0 : decode cX9_passes 0 = .ok (.aload_n 0, 1) := by decide +kernel
theorem dX9_passes_1 : decode cX9_passes 1 = .ok (.getfield 10, 3) := by decide +kernel
theorem dX9_passes_4 : decode cX9_passes 4 = .ok (.iload_n 1, 1) := by decide +kernel
theorem dX9_passes_5 : decode cX9_passes 5 = .ok (.invokevirtual 216, 3) := by decide +kernel
theorem dX9_passes_8 : decode cX9_passes 8 = .ok (.ifCond .eq 15, 3) := by decide +kernel
theorem dX9_passes_11 : decode cX9_passes 11 = .ok (.aload_n 0, 1) := by decide +kernel
theorem dX9_passes_12 : decode cX9_passes 12 = .ok (.getfield 10, 3) := by decide +kernel
theorem dX9_passes_15 : decode cX9_passes 15 = .ok (.iload_n 2, 1) := by decide +kernel
theorem dX9_passes_16 : decode cX9_passes 16 = .ok (.iload_n 3, 1) := by decide +kernel
theorem dX9_passes_17 : decode cX9_passes 17 = .ok (.invokevirtual 122, 3) := by decide +kernel
theorem dX9_passes_20 : decode cX9_passes 20 = .ok (.ifCond .ne 5, 3) := by decide +kernel
theorem dX9_passes_23 : decode cX9_passes 23 = .ok (.iconst (-1), 1) := by decide +kernel
theorem dX9_passes_24 : decode cX9_passes 24 = .ok (.ireturn, 1) := by decide +kernel
theorem dX9_passes_25 : decode cX9_passes 25 = .ok (.aload_n 0, 1) := by decide +kernel
theorem dX9_passes_26 : decode cX9_passes 26 = .ok (.getfield 26, 3) := by decide +kernel
theorem dX9_passes_29 : decode cX9_passes 29 = .ok (.aload_n 0, 1) := by decide +kernel
theorem dX9_passes_30 : decode cX9_passes 30 = .ok (.getfield 10, 3) := by decide +kernel
theorem dX9_passes_33 : decode cX9_passes 33 = .ok (.iload_n 1, 1) := by decide +kernel
theorem dX9_passes_34 : decode cX9_passes 34 = .ok (.invokevirtual 226, 3) := by decide +kernel
theorem dX9_passes_37 : decode cX9_passes 37 = .ok (.aload_n 0, 1) := by decide +kernel
theorem dX9_passes_38 : decode cX9_passes 38 = .ok (.getfield 26, 3) := by decide +kernel
theorem dX9_passes_41 : decode cX9_passes 41 = .ok (.getfield 251, 3) := by decide +kernel
theorem dX9_passes_44 : decode cX9_passes 44 = .ok (.iload_n 2, 1) := by decide +kernel
theorem dX9_passes_45 : decode cX9_passes 45 = .ok (.iload_n 3, 1) := by decide +kernel
theorem dX9_passes_46 : decode cX9_passes 46 = .ok (.invokestatic 129, 3) := by decide +kernel
theorem dX9_passes_49 : decode cX9_passes 49 = .ok (.iaload, 1) := by decide +kernel
theorem dX9_passes_50 : decode cX9_passes 50 = .ok (.ireturn, 1) := by decide +kernel
theorem ce_X9_passes : CeV RX9 yX9_passes cX9_passes 4 (some .int) 3 := ⟨tb_923, tb_924, tb_1, tb_925, rfl, by decide, by decide, by decide +kernel⟩
theorem dX9_worth_0 : decode cX9_worth 0 = .ok (.aload_n 0, 1) := by decide +kernel
theorem dX9_worth_1 : decode cX9_worth 1 = .ok (.getfield 10, 3) := by decide +kernel
theorem dX9_worth_4 : decode cX9_worth 4 = .ok (.iload_n 1, 1) := by decide +kernel
theorem dX9_worth_5 : decode cX9_worth 5 = .ok (.invokevirtual 216, 3) := by decide +kernel
theorem dX9_worth_8 : decode cX9_worth 8 = .ok (.ifCond .eq 14, 3) := by decide +kernel
theorem dX9_worth_11 : decode cX9_worth 11 = .ok (.aload_n 0, 1) := by decide +kernel
theorem dX9_worth_12 : decode cX9_worth 12 = .ok (.getfield 10, 3) := by decide +kernel
theorem dX9_worth_15 : decode cX9_worth 15 = .ok (.iload_n 2, 1) := by decide +kernel
theorem dX9_worth_16 : decode cX9_worth 16 = .ok (.invokevirtual 144, 3) := by decide +kernel
theorem dX9_worth_19 : decode cX9_worth 19 = .ok (.ifCond .ne 7, 3) := by decide +kernel
theorem dX9_worth_22 : decode cX9_worth 22 = .ok (.ldc_w 260, 3) := by decide +kernel
theorem dX9_worth_25 : decode cX9_worth 25 = .ok (.ireturn, 1) := by decide +kernel
theorem dX9_worth_26 : decode cX9_worth 26 = .ok (.aload_n 0, 1) := by decide +kernel
theorem dX9_worth_27 : decode cX9_worth 27 = .ok (.iload_n 1, 1) := by decide +kernel
theorem dX9_worth_28 : decode cX9_worth 28 = .ok (.iconst 1, 1) := by decide +kernel
theorem dX9_worth_29 : decode cX9_worth 29 = .ok (.iload_n 2, 1) := by decide +kernel
theorem dX9_worth_30 : decode cX9_worth 30 = .ok (.ishl, 1) := by decide +kernel
theorem dX9_worth_31 : decode cX9_worth 31 = .ok (.invokevirtual 261, 3) := by decide +kernel
theorem dX9_worth_34 : decode cX9_worth 34 = .ok (.ireturn, 1) := by decide +kernel
theorem ce_X9_worth : CeV RX9 yX9_worth cX9_worth 3 (some .int) 2 := ⟨tb_932, tb_933, tb_1, tb_934, rfl, by decide, by decide, by decide +kernel⟩
theorem dX9_owned_0 : decode cX9_owned 0 = .ok (.aload_n 0, 1) := by decide +kernel
theorem dX9_owned_1 : decode cX9_owned 1 = .ok (.getfield 10, 3) := by decide +kernel
theorem dX9_owned_4 : decode cX9_owned 4 = .ok (.iload_n 1, 1) := by decide +kernel
theorem dX9_owned_5 : decode cX9_owned 5 = .ok (.invokevirtual 216, 3) := by decide +kernel
theorem dX9_owned_8 : decode cX9_owned 8 = .ok (.ifCond .eq 13, 3) := by decide +kernel
theorem dX9_owned_11 : decode cX9_owned 11 = .ok (.iload_n 2, 1) := by decide +kernel
theorem dX9_owned_12 : decode cX9_owned 12 = .ok (.iconst 0, 1) := by decide +kernel
theorem dX9_owned_13 : decode cX9_owned 13 = .ok (.bipush 9, 2) := by decide +kernel
theorem dX9_owned_15 : decode cX9_owned 15 = .ok (.invokestatic 95, 3) := by decide +kernel
theorem dX9_owned_18 : decode cX9_owned 18 = .ok (.ifCond .ne 7, 3) := by decide +kernel
theorem dX9_owned_21 : decode cX9_owned 21 = .ok (.ldc_w 260, 3) := by decide +kernel
theorem dX9_owned_24 : decode cX9_owned 24 = .ok (.ireturn, 1) := by decide +kernel
theorem dX9_owned_25 : decode cX9_owned 25 = .ok (.aload_n 0, 1) := by decide +kernel
theorem dX9_owned_26 : decode cX9_owned 26 = .ok (.iload_n 1, 1) := by decide +kernel
theorem dX9_owned_27 : decode cX9_owned 27 = .ok (.aload_n 0, 1) := by decide +kernel
theorem dX9_owned_28 : decode cX9_owned 28 = .ok (.getfield 10, 3) := by decide +kernel
theorem dX9_owned_31 : decode cX9_owned 31 = .ok (.bipush 6, 2) := by decide +kernel
theorem dX9_owned_33 : decode cX9_owned 33 = .ok (.iload_n 2, 1) := by decide +kernel
theorem dX9_owned_34 : decode cX9_owned 34 = .ok (.invokevirtual 264, 3) := by decide +kernel
theorem dX9_owned_37 : decode cX9_owned 37 = .ok (.invokevirtual 261, 3) := by decide +kernel
theorem dX9_owned_40 : decode cX9_owned 40 = .ok (.ireturn, 1) := by decide +kernel
theorem ce_X9_owned : CeV RX9 yX9_owned cX9_owned 3 (some .int) 2 := ⟨tb_949, tb_950, tb_1, tb_951, rfl, by decide, by decide, by decide +kernel⟩
theorem dX9_aim_0 : decode cX9_aim 0 = .ok (.aload_n 0, 1) := by decide +kernel
theorem dX9_aim_1 : decode cX9_aim 1 = .ok (.getfield 10, 3) := by decide +kernel
theorem dX9_aim_4 : decode cX9_aim 4 = .ok (.iload_n 1, 1) := by decide +kernel
theorem dX9_aim_5 : decode cX9_aim 5 = .ok (.invokevirtual 216, 3) := by decide +kernel
theorem dX9_aim_8 : decode cX9_aim 8 = .ok (.ifCond .eq 24, 3) := by decide +kernel
theorem dX9_aim_11 : decode cX9_aim 11 = .ok (.aload_n 0, 1) := by decide +kernel
theorem dX9_aim_12 : decode cX9_aim 12 = .ok (.getfield 10, 3) := by decide +kernel
theorem dX9_aim_15 : decode cX9_aim 15 = .ok (.iload_n 2, 1) := by decide +kernel
theorem dX9_aim_16 : decode cX9_aim 16 = .ok (.invokevirtual 204, 3) := by decide +kernel
theorem dX9_aim_19 : decode cX9_aim 19 = .ok (.ifCond .eq 13, 3) := by decide +kernel
theorem dX9_aim_22 : decode cX9_aim 22 = .ok (.aload_n 0, 1) := by decide +kernel
theorem dX9_aim_23 : decode cX9_aim 23 = .ok (.iload_n 3, 1) := by decide +kernel
theorem dX9_aim_24 : decode cX9_aim 24 = .ok (.iload 4, 2) := by decide +kernel
theorem dX9_aim_26 : decode cX9_aim 26 = .ok (.invokevirtual 267, 3) := by decide +kernel
theorem dX9_aim_29 : decode cX9_aim 29 = .ok (.ifCond .ne 5, 3) := by decide +kernel
theorem dX9_aim_32 : decode cX9_aim 32 = .ok (.iconst (-1), 1) := by decide +kernel
theorem dX9_aim_33 : decode cX9_aim 33 = .ok (.ireturn, 1) := by decide +kernel
theorem dX9_aim_34 : decode cX9_aim 34 = .ok (.aload_n 0, 1) := by decide +kernel
theorem dX9_aim_35 : decode cX9_aim 35 = .ok (.getfield 42, 3) := by decide +kernel
theorem dX9_aim_38 : decode cX9_aim 38 = .ok (.aload_n 0, 1) := by decide +kernel
theorem dX9_aim_39 : decode cX9_aim 39 = .ok (.getfield 10, 3) := by decide +kernel
theorem dX9_aim_42 : decode cX9_aim 42 = .ok (.iload_n 1, 1) := by decide +kernel
theorem dX9_aim_43 : decode cX9_aim 43 = .ok (.iload_n 3, 1) := by decide +kernel
theorem dX9_aim_44 : decode cX9_aim 44 = .ok (.iload_n 2, 1) := by decide +kernel
theorem dX9_aim_45 : decode cX9_aim 45 = .ok (.invokevirtual 270, 3) := by decide +kernel
theorem dX9_aim_48 : decode cX9_aim 48 = .ok (.aload_n 0, 1) := by decide +kernel
theorem dX9_aim_49 : decode cX9_aim 49 = .ok (.getfield 42, 3) := by decide +kernel
theorem dX9_aim_52 : decode cX9_aim 52 = .ok (.iload 4, 2) := by decide +kernel
theorem dX9_aim_54 : decode cX9_aim 54 = .ok (.invokevirtual 274, 3) := by decide +kernel
theorem dX9_aim_57 : decode cX9_aim 57 = .ok (.ireturn, 1) := by decide +kernel
theorem ce_X9_aim : CeV RX9 yX9_aim cX9_aim 5 (some .int) 4 := ⟨tb_953, tb_954, tb_1, tb_955, rfl, by decide, by decide, by decide +kernel⟩
theorem dX9_fair_0 : decode cX9_fair 0 = .ok (.aload_n 0, 1) := by decide +kernel
theorem dX9_fair_1 : decode cX9_fair 1 = .ok (.getfield 10, 3) := by decide +kernel
theorem dX9_fair_4 : decode cX9_fair 4 = .ok (.iload_n 1, 1) := by decide +kernel
theorem dX9_fair_5 : decode cX9_fair 5 = .ok (.invokevirtual 216, 3) := by decide +kernel
theorem dX9_fair_8 : decode cX9_fair 8 = .ok (.ifCond .eq 22, 3) := by decide +kernel
theorem dX9_fair_11 : decode cX9_fair 11 = .ok (.aload_n 0, 1) := by decide +kernel
theorem dX9_fair_12 : decode cX9_fair 12 = .ok (.getfield 10, 3) := by decide +kernel
theorem dX9_fair_15 : decode cX9_fair 15 = .ok (.getfield 152, 3) := by decide +kernel
theorem dX9_fair_18 : decode cX9_fair 18 = .ok (.ifCond .eq 12, 3) := by decide +kernel
theorem dX9_fair_21 : decode cX9_fair 21 = .ok (.aload_n 0, 1) := by decide +kernel
theorem dX9_fair_22 : decode cX9_fair 22 = .ok (.iload_n 2, 1) := by decide +kernel
theorem dX9_fair_23 : decode cX9_fair 23 = .ok (.iload_n 3, 1) := by decide +kernel
theorem dX9_fair_24 : decode cX9_fair 24 = .ok (.invokevirtual 267, 3) := by decide +kernel
theorem dX9_fair_27 : decode cX9_fair 27 = .ok (.ifCond .ne 5, 3) := by decide +kernel
theorem dX9_fair_30 : decode cX9_fair 30 = .ok (.iconst (-1), 1) := by decide +kernel
theorem dX9_fair_31 : decode cX9_fair 31 = .ok (.ireturn, 1) := by decide +kernel
theorem dX9_fair_32 : decode cX9_fair 32 = .ok (.aload_n 0, 1) := by decide +kernel
theorem dX9_fair_33 : decode cX9_fair 33 = .ok (.getfield 42, 3) := by decide +kernel
theorem dX9_fair_36 : decode cX9_fair 36 = .ok (.aload_n 0, 1) := by decide +kernel
theorem dX9_fair_37 : decode cX9_fair 37 = .ok (.getfield 10, 3) := by decide +kernel
theorem dX9_fair_40 : decode cX9_fair 40 = .ok (.iload_n 1, 1) := by decide +kernel
theorem dX9_fair_41 : decode cX9_fair 41 = .ok (.iload_n 2, 1) := by decide +kernel
theorem dX9_fair_42 : decode cX9_fair 42 = .ok (.iconst (-1), 1) := by decide +kernel
theorem dX9_fair_43 : decode cX9_fair 43 = .ok (.invokevirtual 270, 3) := by decide +kernel
theorem dX9_fair_46 : decode cX9_fair 46 = .ok (.aload_n 0, 1) := by decide +kernel
theorem dX9_fair_47 : decode cX9_fair 47 = .ok (.getfield 42, 3) := by decide +kernel
theorem dX9_fair_50 : decode cX9_fair 50 = .ok (.iload_n 3, 1) := by decide +kernel
theorem dX9_fair_51 : decode cX9_fair 51 = .ok (.invokevirtual 274, 3) := by decide +kernel
theorem dX9_fair_54 : decode cX9_fair 54 = .ok (.ireturn, 1) := by decide +kernel
theorem ce_X9_fair : CeV RX9 yX9_fair cX9_fair 4 (some .int) 3 := ⟨tb_1005, tb_1006, tb_1, tb_1007, rfl, by decide, by decide, by decide +kernel⟩
theorem dX9_second_0 : decode cX9_second 0 = .ok (.aload_n 0, 1) := by decide +kernel
theorem dX9_second_1 : decode cX9_second 1 = .ok (.getfield 10, 3) := by decide +kernel
theorem dX9_second_4 : decode cX9_second 4 = .ok (.iload_n 1, 1) := by decide +kernel
theorem dX9_second_5 : decode cX9_second 5 = .ok (.invokevirtual 216, 3) := by decide +kernel
theorem dX9_second_8 : decode cX9_second 8 = .ok (.ifCond .eq 12, 3) := by decide +kernel
theorem dX9_second_11 : decode cX9_second 11 = .ok (.iload_n 2, 1) := by decide +kernel
theorem dX9_second_12 : decode cX9_second 12 = .ok (.iconst 0, 1) := by decide +kernel
theorem dX9_second_13 : decode cX9_second 13 = .ok (.iconst 2, 1) := by decide +kernel
theorem dX9_second_14 : decode cX9_second 14 = .ok (.invokestatic 95, 3) := by decide +kernel
theorem dX9_second_17 : decode cX9_second 17 = .ok (.ifCond .ne 5, 3) := by decide +kernel
theorem dX9_second_20 : decode cX9_second 20 = .ok (.iconst (-1), 1) := by decide +kernel
theorem dX9_second_21 : decode cX9_second 21 = .ok (.ireturn, 1) := by decide +kernel
theorem dX9_second_22 : decode cX9_second 22 = .ok (.aload_n 0, 1) := by decide +kernel
theorem dX9_second_23 : decode cX9_second 23 = .ok (.getfield 58, 3) := by decide +kernel
theorem dX9_second_26 : decode cX9_second 26 = .ok (.aload_n 0, 1) := by decide +kernel
theorem dX9_second_27 : decode cX9_second 27 = .ok (.getfield 10, 3) := by decide +kernel
theorem dX9_second_30 : decode cX9_second 30 = .ok (.iload_n 1, 1) := by decide +kernel
theorem dX9_second_31 : decode cX9_second 31 = .ok (.invokevirtual 296, 3) := by decide +kernel
theorem dX9_second_34 : decode cX9_second 34 = .ok (.iload_n 2, 1) := by decide +kernel
theorem dX9_second_35 : decode cX9_second 35 = .ok (.ifCond .ne 11, 3) := by decide +kernel
theorem dX9_second_38 : decode cX9_second 38 = .ok (.aload_n 0, 1) := by decide +kernel
theorem dX9_second_39 : decode cX9_second 39 = .ok (.getfield 58, 3) := by decide +kernel
theorem dX9_second_42 : decode cX9_second 42 = .ok (.getfield 298, 3) := by decide +kernel
theorem dX9_second_45 : decode cX9_second 45 = .ok (.ireturn, 1) := by decide +kernel
theorem dX9_second_46 : decode cX9_second 46 = .ok (.iload_n 2, 1) := by decide +kernel
theorem dX9_second_47 : decode cX9_second 47 = .ok (.iconst 1, 1) := by decide +kernel
theorem dX9_second_48 : decode cX9_second 48 = .ok (.if_icmp .ne 13, 3) := by decide +kernel
theorem dX9_second_51 : decode cX9_second 51 = .ok (.aload_n 0, 1) := by decide +kernel
theorem dX9_second_52 : decode cX9_second 52 = .ok (.getfield 58, 3) := by decide +kernel
theorem dX9_second_55 : decode cX9_second 55 = .ok (.getfield 301, 3) := by decide +kernel
theorem dX9_second_58 : decode cX9_second 58 = .ok (.goto 10, 3) := by decide +kernel
theorem dX9_second_61 : decode cX9_second 61 = .ok (.aload_n 0, 1) := by decide +kernel
theorem dX9_second_62 : decode cX9_second 62 = .ok (.getfield 58, 3) := by decide +kernel
theorem dX9_second_65 : decode cX9_second 65 = .ok (.getfield 304, 3) := by decide +kernel
theorem dX9_second_68 : decode cX9_second 68 = .ok (.ireturn, 1) := by decide +kernel
theorem ce_X9_second : CeV RX9 yX9_second cX9_second 3 (some .int) 2 := ⟨tb_1060, tb_1061, tb_1, tb_1062, rfl, by decide, by decide, by decide +kernel⟩
theorem dX9_thief_0 : decode cX9_thief 0 = .ok (.aload_n 0, 1) := by decide +kernel
theorem dX9_thief_1 : decode cX9_thief 1 = .ok (.getfield 10, 3) := by decide +kernel
theorem dX9_thief_4 : decode cX9_thief 4 = .ok (.iload_n 1, 1) := by decide +kernel
theorem dX9_thief_5 : decode cX9_thief 5 = .ok (.invokevirtual 216, 3) := by decide +kernel
theorem dX9_thief_8 : decode cX9_thief 8 = .ok (.ifCond .eq 12, 3) := by decide +kernel
theorem dX9_thief_11 : decode cX9_thief 11 = .ok (.iload_n 2, 1) := by decide +kernel
theorem dX9_thief_12 : decode cX9_thief 12 = .ok (.iconst 0, 1) := by decide +kernel
theorem dX9_thief_13 : decode cX9_thief 13 = .ok (.iconst 2, 1) := by decide +kernel
theorem dX9_thief_14 : decode cX9_thief 14 = .ok (.invokestatic 95, 3) := by decide +kernel
theorem dX9_thief_17 : decode cX9_thief 17 = .ok (.ifCond .ne 5, 3) := by decide +kernel
theorem dX9_thief_20 : decode cX9_thief 20 = .ok (.iconst (-1), 1) := by decide +kernel
theorem dX9_thief_21 : decode cX9_thief 21 = .ok (.ireturn, 1) := by decide +kernel
theorem dX9_thief_22 : decode cX9_thief 22 = .ok (.aload_n 0, 1) := by decide +kernel
theorem dX9_thief_23 : decode cX9_thief 23 = .ok (.getfield 65, 3) := by decide +kernel
theorem dX9_thief_26 : decode cX9_thief 26 = .ok (.aload_n 0, 1) := by decide +kernel
theorem dX9_thief_27 : decode cX9_thief 27 = .ok (.getfield 10, 3) := by decide +kernel
theorem dX9_thief_30 : decode cX9_thief 30 = .ok (.iload_n 1, 1) := by decide +kernel
theorem dX9_thief_31 : decode cX9_thief 31 = .ok (.invokevirtual 307, 3) := by decide +kernel
theorem dX9_thief_34 : decode cX9_thief 34 = .ok (.iload_n 2, 1) := by decide +kernel
theorem dX9_thief_35 : decode cX9_thief 35 = .ok (.ifCond .ne 11, 3) := by decide +kernel
theorem dX9_thief_38 : decode cX9_thief 38 = .ok (.aload_n 0, 1) := by decide +kernel
theorem dX9_thief_39 : decode cX9_thief 39 = .ok (.getfield 65, 3) := by decide +kernel
theorem dX9_thief_42 : decode cX9_thief 42 = .ok (.getfield 308, 3) := by decide +kernel
theorem dX9_thief_45 : decode cX9_thief 45 = .ok (.ireturn, 1) := by decide +kernel
theorem dX9_thief_46 : decode cX9_thief 46 = .ok (.iload_n 2, 1) := by decide +kernel
theorem dX9_thief_47 : decode cX9_thief 47 = .ok (.iconst 1, 1) := by decide +kernel
theorem dX9_thief_48 : decode cX9_thief 48 = .ok (.if_icmp .ne 13, 3) := by decide +kernel
theorem dX9_thief_51 : decode cX9_thief 51 = .ok (.aload_n 0, 1) := by decide +kernel
theorem dX9_thief_52 : decode cX9_thief 52 = .ok (.getfield 65, 3) := by decide +kernel
theorem dX9_thief_55 : decode cX9_thief 55 = .ok (.getfield 311, 3) := by decide +kernel
theorem dX9_thief_58 : decode cX9_thief 58 = .ok (.goto 10, 3) := by decide +kernel
theorem dX9_thief_61 : decode cX9_thief 61 = .ok (.aload_n 0, 1) := by decide +kernel
theorem dX9_thief_62 : decode cX9_thief 62 = .ok (.getfield 65, 3) := by decide +kernel
theorem dX9_thief_65 : decode cX9_thief 65 = .ok (.getfield 314, 3) := by decide +kernel
theorem dX9_thief_68 : decode cX9_thief 68 = .ok (.ireturn, 1) := by decide +kernel
theorem ce_X9_thief : CeV RX9 yX9_thief cX9_thief 3 (some .int) 2 := ⟨tb_1087, tb_1088, tb_1, tb_1089, rfl, by decide, by decide, by decide +kernel⟩
set_option maxHeartbeats 4000000 in
set_option maxRecDepth 20000 in
theorem V_X9_thief (l : Launch) (D : va_G) (A : Nat → Prop) (ad : Nat → Nat) (ns : List Nat) (I : MI) (L : ML) (G : MG) (a0 : Int32) (a1 : Int32) (hG : SGC ns G) (hI : INV I) : Met l yX9_thief (wd yX9_thief cX9_thief 3 (some .int)) ({ frames := 5, cells := 0, slots := 0, locals := 123 }) (va_Pc [.ref (ad (0)), .int a0, .int a1] (PM D A ad ns I L G)) (va_Qi (fun r u => ∃ I2 L2, u = (ad, ns, I2, L2, G) ∧ INV I2 ∧ Kp [(61, 63)] [(60, 0), (60, 1), (60, 2), (60, 5)] I I2) (BM D A) A) 0 0 A := by
  refine m_ofW (by decide) (Nat.le_of_ble_eq_true rfl) ?_
  intro p e s m below meth c ls args hC hE hM hA hS hl
  obtain ⟨hx, hb, hml, hown, hts, hr, hlocks, hin⟩ := hC
  have km1 : (-1 : Int32).toInt = -1 := by decide
  have k0 : (0 : Int32).toInt = 0 := by decide
  have k1 : (1 : Int32).toInt = 1 := by decide
  have k2 : (2 : Int32).toInt = 2 := by decide
  have hK : Kp [(61, 63)] [(60, 0), (60, 1), (60, 2), (60, 5)] I I := Kp.rf
  have hl : lv_has ls 3 [(0, .ref (ad (0))), (1, .int (a0)), (2, .int (a1))] := hl
  refine lv_aload_n hx hb dX9_thief_0 rfl (lv_at hl 0 rfl) ?_
  refine m_getr (0) 0 (100) hx hb hts hown hE oc9 hM (hG.1 0 (by decide)) rfl (by decide) rfl (hG.2 (0, 0, 100) (by decide)) (by decide) tb_398 dX9_thief_1 ?_
  refine lv_iload_n hx hb dX9_thief_4 rfl (lv_at hl 1 rfl) ?_
  refine m_calli (m_runV (100) (As := [.int (a0)]) (rest := []) hx hb hml hown hts hE hM hS hA ce_X8_isLit tb_906 (V_X8_isLit_100 l D A ad ns I L G (a0) hG hI) rfl rfl ⟨Nat.le_of_ble_eq_true rfl, Nat.le_of_ble_eq_true rfl⟩ (hG.1 100 (by decide)) rfl rfl (by decide) rfl hl.1 rfl (Nat.le_of_ble_eq_true rfl) dX9_thief_5 ⟨Nat.le_of_ble_eq_true rfl, Nat.le_of_ble_eq_true rfl⟩) hS (fun r1 u H locs hw hM hS => ?_)
  obtain ⟨rfl, xr1⟩ := hw
  have hM : Mem D A ad ns I L G H := hM
  have yr1 := bo01 xr1
  refine lv_if_eq (tgt := 20) hx hb dX9_thief_8 (by decide) (fun c2 => ?_) (fun c2 => ?_)
  · have hc2 := c2
    have q2 := xr1.f hc2
    refine lv_iconst (v := (-1)) hx hb dX9_thief_20 (by decide) ?_
    exact m_iret hx hb hr hlocks hM hS (Nat.le_of_ble_eq_true rfl) (Nat.le_of_ble_eq_true rfl) ⟨_, _, rfl, hI, hK⟩ dX9_thief_21
  · have hc2 := c2
    have q2 := xr1.t hc2
    have lh2 := q2.2.1
    refine lv_iload_n hx hb dX9_thief_11 rfl (lv_at hl 2 rfl) ?_
    refine lv_iconst (v := (0)) hx hb dX9_thief_12 (by decide) ?_
    refine lv_iconst (v := (2)) hx hb dX9_thief_13 (by decide) ?_
    refine m_calli (m_runS (As := [.int (a1), .int (0), .int (2)]) (rest := []) hx hb hml hown hts hE hM hS hA ce_X9_isWithin tb_451 (V_X9_isWithin l D A ad ns I L G (a1) (0) (2) hI) rfl rfl ⟨Nat.le_of_ble_eq_true rfl, Nat.le_of_ble_eq_true rfl⟩  rfl hl.1 rfl (Nat.le_of_ble_eq_true rfl) dX9_thief_14 ⟨Nat.le_of_ble_eq_true rfl, Nat.le_of_ble_eq_true rfl⟩) hS (fun r3 u H locs hw hM hS => ?_)
    obtain ⟨rfl, xr3⟩ := hw
    have hM : Mem D A ad ns I L G H := hM
    have yr3 := bo01 xr3
    refine lv_if_ne (tgt := 22) hx hb dX9_thief_17 (by decide) (fun c4 => ?_) (fun c4 => ?_)
    · have hc4 := c4
      have q4 := xr3.t hc4
      refine lv_aload_n hx hb dX9_thief_22 rfl (lv_at hl 0 rfl) ?_
      refine m_getr (0) 8 (60) hx hb hts hown hE oc9 hM (hG.1 0 (by decide)) rfl (by decide) rfl (hG.2 (0, 8, 60) (by decide)) (by decide) tb_406 dX9_thief_23 ?_
      refine lv_aload_n hx hb dX9_thief_26 rfl (lv_at hl 0 rfl) ?_
      refine m_getr (0) 0 (100) hx hb hts hown hE oc9 hM (hG.1 0 (by decide)) rfl (by decide) rfl (hG.2 (0, 0, 100) (by decide)) (by decide) tb_398 dX9_thief_27 ?_
      refine lv_iload_n hx hb dX9_thief_30 rfl (lv_at hl 1 rfl) ?_
      refine m_callv (m_runV (60) (As := [.ref (ad (100)), .int (a0)]) (rest := []) hx hb hml hown hts hE hM hS hA ce_X7_search tb_1090 (V_X7_search l D A ad ns I L G (a0) hG hI (q2.2) (by first | omega | decide)) rfl rfl ⟨Nat.le_of_ble_eq_true rfl, Nat.le_of_ble_eq_true rfl⟩ (hG.1 60 (by decide)) rfl rfl (by decide) rfl hl.1 rfl (Nat.le_of_ble_eq_true rfl) dX9_thief_31 ⟨Nat.le_of_ble_eq_true rfl, Nat.le_of_ble_eq_true rfl⟩) hS (fun u H locs hw hM hS => ?_)
      obtain ⟨I5, L6, rfl, hI, hkI5⟩ := hw
      have hM : Mem D A ad ns I5 L6 G H := hM
      have hK := hK.trans hkI5 rfl
      refine lv_iload_n hx hb dX9_thief_34 rfl (lv_at hl 2 rfl) ?_
      refine lv_if_ne (tgt := 46) hx hb dX9_thief_35 (by decide) (fun c7 => ?_) (fun c7 => ?_)
      · have hc7 := c7
        have q7 := q_ne hc7
        refine lv_iload_n hx hb dX9_thief_46 rfl (lv_at hl 2 rfl) ?_
        refine lv_iconst (v := (1)) hx hb dX9_thief_47 (by decide) ?_
        refine lv_icmp_ne (tgt := 61) hx hb dX9_thief_48 (by decide) (fun c8 => ?_) (fun c8 => ?_)
        · have hc8 := c8
          have q8 := q_ne hc8
          refine lv_aload_n hx hb dX9_thief_61 rfl (lv_at hl 0 rfl) ?_
          refine m_getr (0) 8 (60) hx hb hts hown hE oc9 hM (hG.1 0 (by decide)) rfl (by decide) rfl (hG.2 (0, 8, 60) (by decide)) (by decide) tb_406 dX9_thief_62 ?_
          refine m_geti (60) 2 hx hb hts hown hE oc7 hM (hG.1 60 (by decide)) rfl (by decide) rfl tb_295 dX9_thief_65 ?_
          exact m_iret hx hb hr hlocks hM hS (Nat.le_of_ble_eq_true rfl) (Nat.le_of_ble_eq_true rfl) ⟨_, _, rfl, hI, hK⟩ dX9_thief_68
        · have hc8 := c8
          have q8 := q_eq hc8
          refine lv_aload_n hx hb dX9_thief_51 rfl (lv_at hl 0 rfl) ?_
          refine m_getr (0) 8 (60) hx hb hts hown hE oc9 hM (hG.1 0 (by decide)) rfl (by decide) rfl (hG.2 (0, 8, 60) (by decide)) (by decide) tb_406 dX9_thief_52 ?_
          refine m_geti (60) 1 hx hb hts hown hE oc7 hM (hG.1 60 (by decide)) rfl (by decide) rfl tb_293 dX9_thief_55 ?_
          refine lv_goto (tgt := 68) hx hb dX9_thief_58 (by decide) ?_
          exact m_iret hx hb hr hlocks hM hS (Nat.le_of_ble_eq_true rfl) (Nat.le_of_ble_eq_true rfl) ⟨_, _, rfl, hI, hK⟩ dX9_thief_68
      · have hc7 := c7
        have q7 := q_eq hc7
        refine lv_aload_n hx hb dX9_thief_38 rfl (lv_at hl 0 rfl) ?_
        refine m_getr (0) 8 (60) hx hb hts hown hE oc9 hM (hG.1 0 (by decide)) rfl (by decide) rfl (hG.2 (0, 8, 60) (by decide)) (by decide) tb_406 dX9_thief_39 ?_
        refine m_geti (60) 0 hx hb hts hown hE oc7 hM (hG.1 60 (by decide)) rfl (by decide) rfl tb_291 dX9_thief_42 ?_
        exact m_iret hx hb hr hlocks hM hS (Nat.le_of_ble_eq_true rfl) (Nat.le_of_ble_eq_true rfl) ⟨_, _, rfl, hI, hK⟩ dX9_thief_45
    · have hc4 := c4
      have q4 := xr3.f hc4
      refine lv_iconst (v := (-1)) hx hb dX9_thief_20 (by decide) ?_
      exact m_iret hx hb hr hlocks hM hS (Nat.le_of_ble_eq_true rfl) (Nat.le_of_ble_eq_true rfl) ⟨_, _, rfl, hI, hK⟩ dX9_thief_21
theorem dX9_dusty_0 : decode cX9_dusty 0 = .ok (.aload_n 0, 1) := by decide +kernel
theorem dX9_dusty_1 : decode cX9_dusty 1 = .ok (.getfield 10, 3) := by decide +kernel
theorem dX9_dusty_4 : decode cX9_dusty 4 = .ok (.iload_n 1, 1) := by decide +kernel
theorem dX9_dusty_5 : decode cX9_dusty 5 = .ok (.invokevirtual 216, 3) := by decide +kernel
theorem dX9_dusty_8 : decode cX9_dusty 8 = .ok (.ifCond .eq 36, 3) := by decide +kernel
theorem dX9_dusty_11 : decode cX9_dusty 11 = .ok (.aload_n 0, 1) := by decide +kernel
theorem dX9_dusty_12 : decode cX9_dusty 12 = .ok (.getfield 10, 3) := by decide +kernel
theorem dX9_dusty_15 : decode cX9_dusty 15 = .ok (.iload_n 2, 1) := by decide +kernel
theorem dX9_dusty_16 : decode cX9_dusty 16 = .ok (.invokevirtual 144, 3) := by decide +kernel
theorem dX9_dusty_19 : decode cX9_dusty 19 = .ok (.ifCond .eq 25, 3) := by decide +kernel
theorem dX9_dusty_22 : decode cX9_dusty 22 = .ok (.aload_n 0, 1) := by decide +kernel
theorem dX9_dusty_23 : decode cX9_dusty 23 = .ok (.getfield 10, 3) := by decide +kernel
theorem dX9_dusty_26 : decode cX9_dusty 26 = .ok (.iload_n 3, 1) := by decide +kernel
theorem dX9_dusty_27 : decode cX9_dusty 27 = .ok (.invokevirtual 204, 3) := by decide +kernel
theorem dX9_dusty_30 : decode cX9_dusty 30 = .ok (.ifCond .eq 14, 3) := by decide +kernel
theorem dX9_dusty_33 : decode cX9_dusty 33 = .ok (.iload 4, 2) := by decide +kernel
theorem dX9_dusty_35 : decode cX9_dusty 35 = .ok (.iconst 0, 1) := by decide +kernel
theorem dX9_dusty_36 : decode cX9_dusty 36 = .ok (.ldc 155, 2) := by decide +kernel
theorem dX9_dusty_38 : decode cX9_dusty 38 = .ok (.invokestatic 95, 3) := by decide +kernel
theorem dX9_dusty_41 : decode cX9_dusty 41 = .ok (.ifCond .ne 5, 3) := by decide +kernel
theorem dX9_dusty_44 : decode cX9_dusty 44 = .ok (.iconst (-1), 1) := by decide +kernel
theorem dX9_dusty_45 : decode cX9_dusty 45 = .ok (.ireturn, 1) := by decide +kernel
theorem dX9_dusty_46 : decode cX9_dusty 46 = .ok (.aload_n 0, 1) := by decide +kernel
theorem dX9_dusty_47 : decode cX9_dusty 47 = .ok (.getfield 10, 3) := by decide +kernel
theorem dX9_dusty_50 : decode cX9_dusty 50 = .ok (.iload_n 2, 1) := by decide +kernel
theorem dX9_dusty_51 : decode cX9_dusty 51 = .ok (.bipush 7, 2) := by decide +kernel
theorem dX9_dusty_53 : decode cX9_dusty 53 = .ok (.invokevirtual 201, 3) := by decide +kernel
theorem dX9_dusty_56 : decode cX9_dusty 56 = .ok (.istore 5, 2) := by decide +kernel
theorem dX9_dusty_58 : decode cX9_dusty 58 = .ok (.aload_n 0, 1) := by decide +kernel
theorem dX9_dusty_59 : decode cX9_dusty 59 = .ok (.iload_n 1, 1) := by decide +kernel
theorem dX9_dusty_60 : decode cX9_dusty 60 = .ok (.iload_n 2, 1) := by decide +kernel
theorem dX9_dusty_61 : decode cX9_dusty 61 = .ok (.iload_n 3, 1) := by decide +kernel
theorem dX9_dusty_62 : decode cX9_dusty 62 = .ok (.iload 4, 2) := by decide +kernel
theorem dX9_dusty_64 : decode cX9_dusty 64 = .ok (.invokevirtual 317, 3) := by decide +kernel
theorem dX9_dusty_67 : decode cX9_dusty 67 = .ok (.istore 6, 2) := by decide +kernel
theorem dX9_dusty_69 : decode cX9_dusty 69 = .ok (.aload_n 0, 1) := by decide +kernel
theorem dX9_dusty_70 : decode cX9_dusty 70 = .ok (.getfield 10, 3) := by decide +kernel
theorem dX9_dusty_73 : decode cX9_dusty 73 = .ok (.iload_n 2, 1) := by decide +kernel
theorem dX9_dusty_74 : decode cX9_dusty 74 = .ok (.bipush 7, 2) := by decide +kernel
theorem dX9_dusty_76 : decode cX9_dusty 76 = .ok (.iload 5, 2) := by decide +kernel
theorem dX9_dusty_78 : decode cX9_dusty 78 = .ok (.invokevirtual 140, 3) := by decide +kernel
theorem dX9_dusty_81 : decode cX9_dusty 81 = .ok (.iload 6, 2) := by decide +kernel
theorem dX9_dusty_83 : decode cX9_dusty 83 = .ok (.ireturn, 1) := by decide +kernel
theorem ce_X9_dusty : CeV RX9 yX9_dusty cX9_dusty 7 (some .int) 4 := ⟨tb_1123, tb_1124, tb_1, tb_1125, rfl, by decide, by decide, by decide +kernel⟩
theorem dX9_count_0 : decode cX9_count 0 = .ok (.iload_n 1, 1) := by decide +kernel
theorem dX9_count_1 : decode cX9_count 1 = .ok (.bipush 8, 2) := by decide +kernel
theorem dX9_count_3 : decode cX9_count 3 = .ok (.if_icmp .ne 8, 3) := by decide +kernel
theorem dX9_count_6 : decode cX9_count 6 = .ok (.aload_n 0, 1) := by decide +kernel
theorem dX9_count_7 : decode cX9_count 7 = .ok (.getfield 179, 3) := by decide +kernel
theorem dX9_count_10 : decode cX9_count 10 = .ok (.ireturn, 1) := by decide +kernel
theorem dX9_count_11 : decode cX9_count 11 = .ok (.iload_n 1, 1) := by decide +kernel
theorem dX9_count_12 : decode cX9_count 12 = .ok (.bipush 9, 2) := by decide +kernel
theorem dX9_count_14 : decode cX9_count 14 = .ok (.if_icmp .ne 8, 3) := by decide +kernel
theorem dX9_count_17 : decode cX9_count 17 = .ok (.aload_n 0, 1) := by decide +kernel
theorem dX9_count_18 : decode cX9_count 18 = .ok (.getfield 172, 3) := by decide +kernel
theorem dX9_count_21 : decode cX9_count 21 = .ok (.ireturn, 1) := by decide +kernel
theorem dX9_count_22 : decode cX9_count 22 = .ok (.aload_n 0, 1) := by decide +kernel
theorem dX9_count_23 : decode cX9_count 23 = .ok (.getfield 10, 3) := by decide +kernel
theorem dX9_count_26 : decode cX9_count 26 = .ok (.invokevirtual 111, 3) := by decide +kernel
theorem dX9_count_29 : decode cX9_count 29 = .ok (.ifCond .eq 11, 3) := by decide +kernel
theorem dX9_count_32 : decode cX9_count 32 = .ok (.aload_n 0, 1) := by decide +kernel
theorem dX9_count_33 : decode cX9_count 33 = .ok (.iload_n 1, 1) := by decide +kernel
theorem dX9_count_34 : decode cX9_count 34 = .ok (.invokevirtual 324, 3) := by decide +kernel
theorem dX9_count_37 : decode cX9_count 37 = .ok (.goto 4, 3) := by decide +kernel
theorem dX9_count_40 : decode cX9_count 40 = .ok (.iconst (-1), 1) := by decide +kernel
theorem dX9_count_41 : decode cX9_count 41 = .ok (.ireturn, 1) := by decide +kernel
theorem ce_X9_count : CeV RX9 yX9_count cX9_count 2 (some .int) 1 := ⟨tb_1157, tb_1158, tb_1, tb_1159, rfl, by decide, by decide, by decide +kernel⟩
theorem dX9_sees_0 : decode cX9_sees 0 = .ok (.aload_n 0, 1) := by decide +kernel
theorem dX9_sees_1 : decode cX9_sees 1 = .ok (.getfield 10, 3) := by decide +kernel
theorem dX9_sees_4 : decode cX9_sees 4 = .ok (.iload_n 1, 1) := by decide +kernel
theorem dX9_sees_5 : decode cX9_sees 5 = .ok (.invokevirtual 216, 3) := by decide +kernel
theorem dX9_sees_8 : decode cX9_sees 8 = .ok (.ifCond .eq 14, 3) := by decide +kernel
theorem dX9_sees_11 : decode cX9_sees 11 = .ok (.aload_n 0, 1) := by decide +kernel
theorem dX9_sees_12 : decode cX9_sees 12 = .ok (.getfield 10, 3) := by decide +kernel
theorem dX9_sees_15 : decode cX9_sees 15 = .ok (.iload_n 2, 1) := by decide +kernel
theorem dX9_sees_16 : decode cX9_sees 16 = .ok (.invokevirtual 144, 3) := by decide +kernel
theorem dX9_sees_19 : decode cX9_sees 19 = .ok (.ifCond .ne 5, 3) := by decide +kernel
theorem dX9_sees_22 : decode cX9_sees 22 = .ok (.iconst (-1), 1) := by decide +kernel
theorem dX9_sees_23 : decode cX9_sees 23 = .ok (.ireturn, 1) := by decide +kernel
theorem dX9_sees_24 : decode cX9_sees 24 = .ok (.aload_n 0, 1) := by decide +kernel
theorem dX9_sees_25 : decode cX9_sees 25 = .ok (.getfield 26, 3) := by decide +kernel
theorem dX9_sees_28 : decode cX9_sees 28 = .ok (.aload_n 0, 1) := by decide +kernel
theorem dX9_sees_29 : decode cX9_sees 29 = .ok (.getfield 10, 3) := by decide +kernel
theorem dX9_sees_32 : decode cX9_sees 32 = .ok (.iload_n 1, 1) := by decide +kernel
theorem dX9_sees_33 : decode cX9_sees 33 = .ok (.invokevirtual 219, 3) := by decide +kernel
theorem dX9_sees_36 : decode cX9_sees 36 = .ok (.aload_n 0, 1) := by decide +kernel
theorem dX9_sees_37 : decode cX9_sees 37 = .ok (.getfield 26, 3) := by decide +kernel
theorem dX9_sees_40 : decode cX9_sees 40 = .ok (.getfield 223, 3) := by decide +kernel
theorem dX9_sees_43 : decode cX9_sees 43 = .ok (.iconst 0, 1) := by decide +kernel
theorem dX9_sees_44 : decode cX9_sees 44 = .ok (.aload_n 0, 1) := by decide +kernel
theorem dX9_sees_45 : decode cX9_sees 45 = .ok (.getfield 86, 3) := by decide +kernel
theorem dX9_sees_48 : decode cX9_sees 48 = .ok (.iconst 0, 1) := by decide +kernel
theorem dX9_sees_49 : decode cX9_sees 49 = .ok (.bipush 8, 2) := by decide +kernel
theorem dX9_sees_51 : decode cX9_sees 51 = .ok (.invokestatic 254, 3) := by decide +kernel
theorem dX9_sees_54 : decode cX9_sees 54 = .ok (.aload_n 0, 1) := by decide +kernel
theorem dX9_sees_55 : decode cX9_sees 55 = .ok (.getfield 10, 3) := by decide +kernel
theorem dX9_sees_58 : decode cX9_sees 58 = .ok (.iload_n 2, 1) := by decide +kernel
theorem dX9_sees_59 : decode cX9_sees 59 = .ok (.iconst 2, 1) := by decide +kernel
theorem dX9_sees_60 : decode cX9_sees 60 = .ok (.invokevirtual 201, 3) := by decide +kernel
theorem dX9_sees_63 : decode cX9_sees 63 = .ok (.istore_n 3, 1) := by decide +kernel
theorem dX9_sees_64 : decode cX9_sees 64 = .ok (.aload_n 0, 1) := by decide +kernel
theorem dX9_sees_65 : decode cX9_sees 65 = .ok (.getfield 10, 3) := by decide +kernel
theorem dX9_sees_68 : decode cX9_sees 68 = .ok (.iload_n 2, 1) := by decide +kernel
theorem dX9_sees_69 : decode cX9_sees 69 = .ok (.iconst 2, 1) := by decide +kernel
theorem dX9_sees_70 : decode cX9_sees 70 = .ok (.iload_n 3, 1) := by decide +kernel
theorem dX9_sees_71 : decode cX9_sees 71 = .ok (.iconst 1, 1) := by decide +kernel
theorem dX9_sees_72 : decode cX9_sees 72 = .ok (.iadd, 1) := by decide +kernel
theorem dX9_sees_73 : decode cX9_sees 73 = .ok (.bipush 8, 2) := by decide +kernel
theorem dX9_sees_75 : decode cX9_sees 75 = .ok (.irem, 1) := by decide +kernel
theorem dX9_sees_76 : decode cX9_sees 76 = .ok (.invokevirtual 140, 3) := by decide +kernel
theorem dX9_sees_79 : decode cX9_sees 79 = .ok (.aload_n 0, 1) := by decide +kernel
theorem dX9_sees_80 : decode cX9_sees 80 = .ok (.getfield 26, 3) := by decide +kernel
theorem dX9_sees_83 : decode cX9_sees 83 = .ok (.aload_n 0, 1) := by decide +kernel
theorem dX9_sees_84 : decode cX9_sees 84 = .ok (.getfield 10, 3) := by decide +kernel
theorem dX9_sees_87 : decode cX9_sees 87 = .ok (.iload_n 1, 1) := by decide +kernel
theorem dX9_sees_88 : decode cX9_sees 88 = .ok (.invokevirtual 219, 3) := by decide +kernel
theorem dX9_sees_91 : decode cX9_sees 91 = .ok (.aload_n 0, 1) := by decide +kernel
theorem dX9_sees_92 : decode cX9_sees 92 = .ok (.getfield 10, 3) := by decide +kernel
theorem dX9_sees_95 : decode cX9_sees 95 = .ok (.iload_n 2, 1) := by decide +kernel
theorem dX9_sees_96 : decode cX9_sees 96 = .ok (.iconst 2, 1) := by decide +kernel
theorem dX9_sees_97 : decode cX9_sees 97 = .ok (.iload_n 3, 1) := by decide +kernel
theorem dX9_sees_98 : decode cX9_sees 98 = .ok (.invokevirtual 140, 3) := by decide +kernel
theorem dX9_sees_101 : decode cX9_sees 101 = .ok (.iconst 0, 1) := by decide +kernel
theorem dX9_sees_102 : decode cX9_sees 102 = .ok (.istore 4, 2) := by decide +kernel
theorem dX9_sees_104 : decode cX9_sees 104 = .ok (.iconst 0, 1) := by decide +kernel
theorem dX9_sees_105 : decode cX9_sees 105 = .ok (.istore 5, 2) := by decide +kernel
theorem dX9_sees_107 : decode cX9_sees 107 = .ok (.iload 5, 2) := by decide +kernel
theorem dX9_sees_109 : decode cX9_sees 109 = .ok (.bipush 8, 2) := by decide +kernel
theorem dX9_sees_111 : decode cX9_sees 111 = .ok (.if_icmp .ge 38, 3) := by decide +kernel
theorem dX9_sees_114 : decode cX9_sees 114 = .ok (.aload_n 0, 1) := by decide +kernel
theorem dX9_sees_115 : decode cX9_sees 115 = .ok (.getfield 26, 3) := by decide +kernel
theorem dX9_sees_118 : decode cX9_sees 118 = .ok (.getfield 223, 3) := by decide +kernel
theorem dX9_sees_121 : decode cX9_sees 121 = .ok (.iload 5, 2) := by decide +kernel
theorem dX9_sees_123 : decode cX9_sees 123 = .ok (.iaload, 1) := by decide +kernel
theorem dX9_sees_124 : decode cX9_sees 124 = .ok (.aload_n 0, 1) := by decide +kernel
theorem dX9_sees_125 : decode cX9_sees 125 = .ok (.getfield 86, 3) := by decide +kernel
theorem dX9_sees_128 : decode cX9_sees 128 = .ok (.iload 5, 2) := by decide +kernel
theorem dX9_sees_130 : decode cX9_sees 130 = .ok (.iaload, 1) := by decide +kernel
theorem dX9_sees_131 : decode cX9_sees 131 = .ok (.if_icmp .eq 12, 3) := by decide +kernel
theorem dX9_sees_134 : decode cX9_sees 134 = .ok (.iload 4, 2) := by decide +kernel
theorem dX9_sees_136 : decode cX9_sees 136 = .ok (.iconst 1, 1) := by decide +kernel
theorem dX9_sees_137 : decode cX9_sees 137 = .ok (.iload 5, 2) := by decide +kernel
theorem dX9_sees_139 : decode cX9_sees 139 = .ok (.ishl, 1) := by decide +kernel
theorem dX9_sees_140 : decode cX9_sees 140 = .ok (.ior, 1) := by decide +kernel
theorem dX9_sees_141 : decode cX9_sees 141 = .ok (.istore 4, 2) := by decide +kernel
theorem dX9_sees_143 : decode cX9_sees 143 = .ok (.iinc 5 1, 3) := by decide +kernel
theorem dX9_sees_146 : decode cX9_sees 146 = .ok (.goto (-39), 3) := by decide +kernel
theorem dX9_sees_149 : decode cX9_sees 149 = .ok (.iload 4, 2) := by decide +kernel
theorem dX9_sees_151 : decode cX9_sees 151 = .ok (.ireturn, 1) := by decide +kernel
theorem ce_X9_sees : CeV RX9 yX9_sees cX9_sees 6 (some .int) 2 := ⟨tb_927, tb_928, tb_1, tb_929, rfl, by decide, by decide, by decide +kernel⟩
theorem dX9_mends_0 : decode cX9_mends 0 = .ok (.aload_n 0, 1) := by decide +kernel
theorem dX9_mends_1 : decode cX9_mends 1 = .ok (.getfield 10, 3) := by decide +kernel
theorem dX9_mends_4 : decode cX9_mends 4 = .ok (.iload_n 1, 1) := by decide +kernel
theorem dX9_mends_5 : decode cX9_mends 5 = .ok (.invokevirtual 216, 3) := by decide +kernel
theorem dX9_mends_8 : decode cX9_mends 8 = .ok (.ifCond .eq 23, 3) := by decide +kernel
theorem dX9_mends_11 : decode cX9_mends 11 = .ok (.aload_n 0, 1) := by decide +kernel
theorem dX9_mends_12 : decode cX9_mends 12 = .ok (.getfield 10, 3) := by decide +kernel
theorem dX9_mends_15 : decode cX9_mends 15 = .ok (.iload_n 2, 1) := by decide +kernel
theorem dX9_mends_16 : decode cX9_mends 16 = .ok (.invokevirtual 144, 3) := by decide +kernel
theorem dX9_mends_19 : decode cX9_mends 19 = .ok (.ifCond .eq 12, 3) := by decide +kernel
theorem dX9_mends_22 : decode cX9_mends 22 = .ok (.iload_n 3, 1) := by decide +kernel
theorem dX9_mends_23 : decode cX9_mends 23 = .ok (.iconst 0, 1) := by decide +kernel
theorem dX9_mends_24 : decode cX9_mends 24 = .ok (.iconst 4, 1) := by decide +kernel
theorem dX9_mends_25 : decode cX9_mends 25 = .ok (.invokestatic 95, 3) := by decide +kernel
theorem dX9_mends_28 : decode cX9_mends 28 = .ok (.ifCond .ne 5, 3) := by decide +kernel
theorem dX9_mends_31 : decode cX9_mends 31 = .ok (.iconst (-1), 1) := by decide +kernel
theorem dX9_mends_32 : decode cX9_mends 32 = .ok (.ireturn, 1) := by decide +kernel
theorem dX9_mends_33 : decode cX9_mends 33 = .ok (.aload_n 0, 1) := by decide +kernel
theorem dX9_mends_34 : decode cX9_mends 34 = .ok (.getfield 51, 3) := by decide +kernel
theorem dX9_mends_37 : decode cX9_mends 37 = .ok (.iload_n 1, 1) := by decide +kernel
theorem dX9_mends_38 : decode cX9_mends 38 = .ok (.iload_n 2, 1) := by decide +kernel
theorem dX9_mends_39 : decode cX9_mends 39 = .ok (.invokevirtual 278, 3) := by decide +kernel
theorem dX9_mends_42 : decode cX9_mends 42 = .ok (.aload_n 0, 1) := by decide +kernel
theorem dX9_mends_43 : decode cX9_mends 43 = .ok (.getfield 51, 3) := by decide +kernel
theorem dX9_mends_46 : decode cX9_mends 46 = .ok (.invokevirtual 281, 3) := by decide +kernel
theorem dX9_mends_49 : decode cX9_mends 49 = .ok (.ifCond .ne 20, 3) := by decide +kernel
theorem dX9_mends_52 : decode cX9_mends 52 = .ok (.aload_n 0, 1) := by decide +kernel
theorem dX9_mends_53 : decode cX9_mends 53 = .ok (.getfield 51, 3) := by decide +kernel
theorem dX9_mends_56 : decode cX9_mends 56 = .ok (.invokevirtual 284, 3) := by decide +kernel
theorem dX9_mends_59 : decode cX9_mends 59 = .ok (.ifCond .ne 10, 3) := by decide +kernel
theorem dX9_mends_62 : decode cX9_mends 62 = .ok (.aload_n 0, 1) := by decide +kernel
theorem dX9_mends_63 : decode cX9_mends 63 = .ok (.getfield 51, 3) := by decide +kernel
theorem dX9_mends_66 : decode cX9_mends 66 = .ok (.invokevirtual 287, 3) := by decide +kernel
theorem dX9_mends_69 : decode cX9_mends 69 = .ok (.aload_n 0, 1) := by decide +kernel
theorem dX9_mends_70 : decode cX9_mends 70 = .ok (.getfield 51, 3) := by decide +kernel
theorem dX9_mends_73 : decode cX9_mends 73 = .ok (.invokevirtual 290, 3) := by decide +kernel
theorem dX9_mends_76 : decode cX9_mends 76 = .ok (.aload_n 0, 1) := by decide +kernel
theorem dX9_mends_77 : decode cX9_mends 77 = .ok (.getfield 51, 3) := by decide +kernel
theorem dX9_mends_80 : decode cX9_mends 80 = .ok (.getfield 293, 3) := by decide +kernel
theorem dX9_mends_83 : decode cX9_mends 83 = .ok (.iload_n 3, 1) := by decide +kernel
theorem dX9_mends_84 : decode cX9_mends 84 = .ok (.iaload, 1) := by decide +kernel
theorem dX9_mends_85 : decode cX9_mends 85 = .ok (.ireturn, 1) := by decide +kernel
theorem ce_X9_mends : CeV RX9 yX9_mends cX9_mends 4 (some .int) 3 := ⟨tb_1009, tb_1010, tb_1, tb_1011, rfl, by decide, by decide, by decide +kernel⟩
theorem dX9_putOnTape_0 : decode cX9_putOnTape 0 = .ok (.bipush 24, 2) := by decide +kernel
theorem dX9_putOnTape_2 : decode cX9_putOnTape 2 = .ok (.istore_n 2, 1) := by decide +kernel
theorem dX9_putOnTape_3 : decode cX9_putOnTape 3 = .ok (.iload_n 2, 1) := by decide +kernel
theorem dX9_putOnTape_4 : decode cX9_putOnTape 4 = .ok (.ifCond .lt 42, 3) := by decide +kernel
theorem dX9_putOnTape_7 : decode cX9_putOnTape 7 = .ok (.aload_n 0, 1) := by decide +kernel
theorem dX9_putOnTape_8 : decode cX9_putOnTape 8 = .ok (.getfield 172, 3) := by decide +kernel
theorem dX9_putOnTape_11 : decode cX9_putOnTape 11 = .ok (.sipush 400, 3) := by decide +kernel
theorem dX9_putOnTape_14 : decode cX9_putOnTape 14 = .ok (.if_icmp .ge 32, 3) := by decide +kernel
theorem dX9_putOnTape_17 : decode cX9_putOnTape 17 = .ok (.aload_n 0, 1) := by decide +kernel
theorem dX9_putOnTape_18 : decode cX9_putOnTape 18 = .ok (.getfield 82, 3) := by decide +kernel
theorem dX9_putOnTape_21 : decode cX9_putOnTape 21 = .ok (.aload_n 0, 1) := by decide +kernel
theorem dX9_putOnTape_22 : decode cX9_putOnTape 22 = .ok (.getfield 172, 3) := by decide +kernel
theorem dX9_putOnTape_25 : decode cX9_putOnTape 25 = .ok (.iload_n 1, 1) := by decide +kernel
theorem dX9_putOnTape_26 : decode cX9_putOnTape 26 = .ok (.iload_n 2, 1) := by decide +kernel
theorem dX9_putOnTape_27 : decode cX9_putOnTape 27 = .ok (.iushr, 1) := by decide +kernel
theorem dX9_putOnTape_28 : decode cX9_putOnTape 28 = .ok (.i2b, 1) := by decide +kernel
theorem dX9_putOnTape_29 : decode cX9_putOnTape 29 = .ok (.bastore, 1) := by decide +kernel
theorem dX9_putOnTape_30 : decode cX9_putOnTape 30 = .ok (.aload_n 0, 1) := by decide +kernel
theorem dX9_putOnTape_31 : decode cX9_putOnTape 31 = .ok (.dup, 1) := by decide +kernel
theorem dX9_putOnTape_32 : decode cX9_putOnTape 32 = .ok (.getfield 172, 3) := by decide +kernel
theorem dX9_putOnTape_35 : decode cX9_putOnTape 35 = .ok (.iconst 1, 1) := by decide +kernel
theorem dX9_putOnTape_36 : decode cX9_putOnTape 36 = .ok (.iadd, 1) := by decide +kernel
theorem dX9_putOnTape_37 : decode cX9_putOnTape 37 = .ok (.putfield 172, 3) := by decide +kernel
theorem dX9_putOnTape_40 : decode cX9_putOnTape 40 = .ok (.iinc 2 (-8), 3) := by decide +kernel
theorem dX9_putOnTape_43 : decode cX9_putOnTape 43 = .ok (.goto (-40), 3) := by decide +kernel
theorem dX9_putOnTape_46 : decode cX9_putOnTape 46 = .ok (.return_, 1) := by decide +kernel
theorem ce_X9_putOnTape : CeV RX9 yX9_putOnTape cX9_putOnTape 3 none 1 := ⟨tb_552, tp_1, tb_1, tb_553, rfl, by decide, by decide, by decide +kernel⟩
theorem dX9_feed_0 : decode cX9_feed 0 = .ok (.aload_n 0, 1) := by decide +kernel
theorem dX9_feed_1 : decode cX9_feed 1 = .ok (.getfield 172, 3) := by decide +kernel
theorem dX9_feed_4 : decode cX9_feed 4 = .ok (.sipush 380, 3) := by decide +kernel
theorem dX9_feed_7 : decode cX9_feed 7 = .ok (.if_icmp .le 5, 3) := by decide +kernel
theorem dX9_feed_10 : decode cX9_feed 10 = .ok (.iconst (-1), 1) := by decide +kernel
theorem dX9_feed_11 : decode cX9_feed 11 = .ok (.ireturn, 1) := by decide +kernel
theorem dX9_feed_12 : decode cX9_feed 12 = .ok (.aload_n 0, 1) := by decide +kernel
theorem dX9_feed_13 : decode cX9_feed 13 = .ok (.iload_n 1, 1) := by decide +kernel
theorem dX9_feed_14 : decode cX9_feed 14 = .ok (.invokevirtual 175, 3) := by decide +kernel
theorem dX9_feed_17 : decode cX9_feed 17 = .ok (.aload_n 0, 1) := by decide +kernel
theorem dX9_feed_18 : decode cX9_feed 18 = .ok (.iload_n 2, 1) := by decide +kernel
theorem dX9_feed_19 : decode cX9_feed 19 = .ok (.invokevirtual 175, 3) := by decide +kernel
theorem dX9_feed_22 : decode cX9_feed 22 = .ok (.aload_n 0, 1) := by decide +kernel
theorem dX9_feed_23 : decode cX9_feed 23 = .ok (.iload_n 3, 1) := by decide +kernel
theorem dX9_feed_24 : decode cX9_feed 24 = .ok (.invokevirtual 175, 3) := by decide +kernel
theorem dX9_feed_27 : decode cX9_feed 27 = .ok (.aload_n 0, 1) := by decide +kernel
theorem dX9_feed_28 : decode cX9_feed 28 = .ok (.iload 4, 2) := by decide +kernel
theorem dX9_feed_30 : decode cX9_feed 30 = .ok (.invokevirtual 175, 3) := by decide +kernel
theorem dX9_feed_33 : decode cX9_feed 33 = .ok (.aload_n 0, 1) := by decide +kernel
theorem dX9_feed_34 : decode cX9_feed 34 = .ok (.iload 5, 2) := by decide +kernel
theorem dX9_feed_36 : decode cX9_feed 36 = .ok (.invokevirtual 175, 3) := by decide +kernel
theorem dX9_feed_39 : decode cX9_feed 39 = .ok (.aload_n 0, 1) := by decide +kernel
theorem dX9_feed_40 : decode cX9_feed 40 = .ok (.getfield 172, 3) := by decide +kernel
theorem dX9_feed_43 : decode cX9_feed 43 = .ok (.ireturn, 1) := by decide +kernel
theorem ce_X9_feed : CeV RX9 yX9_feed cX9_feed 6 (some .int) 5 := ⟨tb_547, tb_548, tb_1, tb_549, rfl, by decide, by decide, by decide +kernel⟩
