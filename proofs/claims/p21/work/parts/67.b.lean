theorem ENT_put {I : MI} {a b v v2 w : Int32} (hf : (I 1000 26).toInt = 0) (hv : v.toInt = 300 * (I 1000 27).toInt + (I 1000 29).toInt ∧ 0 ≤ v.toInt) (hv2 : v2.toInt = v.toInt) (j : Nat) : (u2 (u2 (u2 I 1035 v.toNatClampNeg a) 1036 v2.toNatClampNeg b) 1000 29 w 1035 j = if (I 1000 26).toInt = 0 ∧ (j : Int) = 300 * (I 1000 27).toInt + (I 1000 29).toInt then a else I 1035 j) ∧ (u2 (u2 (u2 I 1035 v.toNatClampNeg a) 1036 v2.toNatClampNeg b) 1000 29 w 1036 j = if (I 1000 26).toInt = 0 ∧ (j : Int) = 300 * (I 1000 27).toInt + (I 1000 29).toInt then b else I 1036 j) := by
  have t1 := tn hv.2
  have t2 := tn (i := v2) (by omega)
  constructor
  · rw [u2_v, u2_v, u2_v]
    by_cases hq : j = v.toNatClampNeg
    · rw [if_neg (by omega), if_neg (by omega), if_pos ⟨rfl, hq⟩, if_pos ⟨hf, by omega⟩]
    · rw [if_neg (by omega), if_neg (by omega), if_neg (by omega), if_neg (by omega)]
  · rw [u2_v, u2_v, u2_v]
    by_cases hq : j = v.toNatClampNeg
    · rw [if_neg (by omega), if_pos ⟨rfl, by omega⟩, if_pos ⟨hf, by omega⟩]
    · rw [if_neg (by omega), if_neg (by omega), if_neg (by omega), if_neg (by omega)]
theorem dX10_entry_0 : decode cX10_entry 0 = .ok (.aload_n 0, 1) := by decide +kernel
theorem dX10_entry_1 : decode cX10_entry 1 = .ok (.getfield 264, 3) := by decide +kernel
theorem dX10_entry_4 : decode cX10_entry 4 = .ok (.ifCond .ne 51, 3) := by decide +kernel
theorem dX10_entry_7 : decode cX10_entry 7 = .ok (.aload_n 0, 1) := by decide +kernel
theorem dX10_entry_8 : decode cX10_entry 8 = .ok (.getfield 87, 3) := by decide +kernel
theorem dX10_entry_11 : decode cX10_entry 11 = .ok (.sipush 300, 3) := by decide +kernel
theorem dX10_entry_14 : decode cX10_entry 14 = .ok (.aload_n 0, 1) := by decide +kernel
theorem dX10_entry_15 : decode cX10_entry 15 = .ok (.getfield 294, 3) := by decide +kernel
theorem dX10_entry_18 : decode cX10_entry 18 = .ok (.imul, 1) := by decide +kernel
theorem dX10_entry_19 : decode cX10_entry 19 = .ok (.aload_n 0, 1) := by decide +kernel
theorem dX10_entry_20 : decode cX10_entry 20 = .ok (.getfield 297, 3) := by decide +kernel
theorem dX10_entry_23 : decode cX10_entry 23 = .ok (.iadd, 1) := by decide +kernel
theorem dX10_entry_24 : decode cX10_entry 24 = .ok (.iload_n 1, 1) := by decide +kernel
theorem dX10_entry_25 : decode cX10_entry 25 = .ok (.iastore, 1) := by decide +kernel
theorem dX10_entry_26 : decode cX10_entry 26 = .ok (.aload_n 0, 1) := by decide +kernel
theorem dX10_entry_27 : decode cX10_entry 27 = .ok (.getfield 90, 3) := by decide +kernel
theorem dX10_entry_30 : decode cX10_entry 30 = .ok (.sipush 300, 3) := by decide +kernel
theorem dX10_entry_33 : decode cX10_entry 33 = .ok (.aload_n 0, 1) := by decide +kernel
theorem dX10_entry_34 : decode cX10_entry 34 = .ok (.getfield 294, 3) := by decide +kernel
theorem dX10_entry_37 : decode cX10_entry 37 = .ok (.imul, 1) := by decide +kernel
theorem dX10_entry_38 : decode cX10_entry 38 = .ok (.aload_n 0, 1) := by decide +kernel
theorem dX10_entry_39 : decode cX10_entry 39 = .ok (.getfield 297, 3) := by decide +kernel
theorem dX10_entry_42 : decode cX10_entry 42 = .ok (.iadd, 1) := by decide +kernel
theorem dX10_entry_43 : decode cX10_entry 43 = .ok (.iload_n 2, 1) := by decide +kernel
theorem dX10_entry_44 : decode cX10_entry 44 = .ok (.iastore, 1) := by decide +kernel
theorem dX10_entry_45 : decode cX10_entry 45 = .ok (.aload_n 0, 1) := by decide +kernel
theorem dX10_entry_46 : decode cX10_entry 46 = .ok (.dup, 1) := by decide +kernel
theorem dX10_entry_47 : decode cX10_entry 47 = .ok (.getfield 297, 3) := by decide +kernel
theorem dX10_entry_50 : decode cX10_entry 50 = .ok (.iconst 1, 1) := by decide +kernel
theorem dX10_entry_51 : decode cX10_entry 51 = .ok (.iadd, 1) := by decide +kernel
theorem dX10_entry_52 : decode cX10_entry 52 = .ok (.putfield 297, 3) := by decide +kernel
theorem dX10_entry_55 : decode cX10_entry 55 = .ok (.return_, 1) := by decide +kernel
theorem ce_X10_entry : CeV RX10 yX10_entry cX10_entry 3 none 2 := ⟨tb_1554, tp_72, tb_11, tb_1555, rfl, by decide, by decide, by decide +kernel⟩
theorem CT.bad {I I2 : MI} {n n2 : Nat} (h35 : I2 1035 = I 1035) (h36 : I2 1036 = I 1036) (h29 : (I2 1000 29).toInt = (I 1000 29).toInt) (hf : (I2 1000 26).toInt = 0 → False) : CT I I2 n n2 := ⟨fun j hj => by rw [h35, h36]; exact ⟨rfl, rfl⟩, fun q => (hf q).elim⟩
theorem dX10_value_0 : decode cX10_value 0 = .ok (.aload_n 0, 1) := by decide +kernel
theorem dX10_value_1 : decode cX10_value 1 = .ok (.invokevirtual 287, 3) := by decide +kernel
theorem dX10_value_4 : decode cX10_value 4 = .ok (.aload_n 0, 1) := by decide +kernel
theorem dX10_value_5 : decode cX10_value 5 = .ok (.getfield 267, 3) := by decide +kernel
theorem dX10_value_8 : decode cX10_value 8 = .ok (.istore_n 1, 1) := by decide +kernel
theorem dX10_value_9 : decode cX10_value 9 = .ok (.aload_n 0, 1) := by decide +kernel
theorem dX10_value_10 : decode cX10_value 10 = .ok (.invokevirtual 307, 3) := by decide +kernel
theorem dX10_value_13 : decode cX10_value 13 = .ok (.ifCond .eq 23, 3) := by decide +kernel
theorem dX10_value_16 : decode cX10_value 16 = .ok (.aload_n 0, 1) := by decide +kernel
theorem dX10_value_17 : decode cX10_value 17 = .ok (.ldc_w 310, 3) := by decide +kernel
theorem dX10_value_20 : decode cX10_value 20 = .ok (.invokevirtual 311, 3) := by decide +kernel
theorem dX10_value_23 : decode cX10_value 23 = .ok (.istore_n 2, 1) := by decide +kernel
theorem dX10_value_24 : decode cX10_value 24 = .ok (.aload_n 0, 1) := by decide +kernel
theorem dX10_value_25 : decode cX10_value 25 = .ok (.iload_n 1, 1) := by decide +kernel
theorem dX10_value_26 : decode cX10_value 26 = .ok (.invokevirtual 315, 3) := by decide +kernel
theorem dX10_value_29 : decode cX10_value 29 = .ok (.aload_n 0, 1) := by decide +kernel
theorem dX10_value_30 : decode cX10_value 30 = .ok (.iconst 0, 1) := by decide +kernel
theorem dX10_value_31 : decode cX10_value 31 = .ok (.iload_n 2, 1) := by decide +kernel
theorem dX10_value_32 : decode cX10_value 32 = .ok (.invokevirtual 318, 3) := by decide +kernel
theorem dX10_value_35 : decode cX10_value 35 = .ok (.return_, 1) := by decide +kernel
theorem dX10_value_36 : decode cX10_value 36 = .ok (.iconst 0, 1) := by decide +kernel
theorem dX10_value_37 : decode cX10_value 37 = .ok (.istore_n 2, 1) := by decide +kernel
theorem dX10_value_38 : decode cX10_value 38 = .ok (.iload_n 2, 1) := by decide +kernel
theorem dX10_value_39 : decode cX10_value 39 = .ok (.aload_n 0, 1) := by decide +kernel
theorem dX10_value_40 : decode cX10_value 40 = .ok (.getfield 79, 3) := by decide +kernel
theorem dX10_value_43 : decode cX10_value 43 = .ok (.if_icmp .ge 20, 3) := by decide +kernel
theorem dX10_value_46 : decode cX10_value 46 = .ok (.aload_n 0, 1) := by decide +kernel
theorem dX10_value_47 : decode cX10_value 47 = .ok (.iload_n 2, 1) := by decide +kernel
theorem dX10_value_48 : decode cX10_value 48 = .ok (.invokestatic 321, 3) := by decide +kernel
theorem dX10_value_51 : decode cX10_value 51 = .ok (.invokevirtual 290, 3) := by decide +kernel
theorem dX10_value_54 : decode cX10_value 54 = .ok (.ifCond .ne 9, 3) := by decide +kernel
theorem dX10_value_57 : decode cX10_value 57 = .ok (.iinc 2 1, 3) := by decide +kernel
theorem dX10_value_60 : decode cX10_value 60 = .ok (.goto (-22), 3) := by decide +kernel
theorem dX10_value_63 : decode cX10_value 63 = .ok (.iload_n 2, 1) := by decide +kernel
theorem dX10_value_64 : decode cX10_value 64 = .ok (.aload_n 0, 1) := by decide +kernel
theorem dX10_value_65 : decode cX10_value 65 = .ok (.getfield 79, 3) := by decide +kernel
theorem dX10_value_68 : decode cX10_value 68 = .ok (.if_icmp .ne 10, 3) := by decide +kernel
theorem dX10_value_71 : decode cX10_value 71 = .ok (.aload_n 0, 1) := by decide +kernel
theorem dX10_value_72 : decode cX10_value 72 = .ok (.iconst 0, 1) := by decide +kernel
theorem dX10_value_73 : decode cX10_value 73 = .ok (.iload_n 1, 1) := by decide +kernel
theorem dX10_value_74 : decode cX10_value 74 = .ok (.invokevirtual 303, 3) := by decide +kernel
theorem dX10_value_77 : decode cX10_value 77 = .ok (.return_, 1) := by decide +kernel
theorem dX10_value_78 : decode cX10_value 78 = .ok (.aload_n 0, 1) := by decide +kernel
theorem dX10_value_79 : decode cX10_value 79 = .ok (.iload_n 1, 1) := by decide +kernel
theorem dX10_value_80 : decode cX10_value 80 = .ok (.invokevirtual 315, 3) := by decide +kernel
theorem dX10_value_83 : decode cX10_value 83 = .ok (.aload_n 0, 1) := by decide +kernel
theorem dX10_value_84 : decode cX10_value 84 = .ok (.dup, 1) := by decide +kernel
theorem dX10_value_85 : decode cX10_value 85 = .ok (.getfield 267, 3) := by decide +kernel
theorem dX10_value_88 : decode cX10_value 88 = .ok (.iload_n 2, 1) := by decide +kernel
theorem dX10_value_89 : decode cX10_value 89 = .ok (.invokestatic 321, 3) := by decide +kernel
theorem dX10_value_92 : decode cX10_value 92 = .ok (.invokevirtual 278, 3) := by decide +kernel
theorem dX10_value_95 : decode cX10_value 95 = .ok (.iadd, 1) := by decide +kernel
theorem dX10_value_96 : decode cX10_value 96 = .ok (.putfield 267, 3) := by decide +kernel
theorem dX10_value_99 : decode cX10_value 99 = .ok (.aload_n 0, 1) := by decide +kernel
theorem dX10_value_100 : decode cX10_value 100 = .ok (.iconst 1, 1) := by decide +kernel
theorem dX10_value_101 : decode cX10_value 101 = .ok (.iload_n 2, 1) := by decide +kernel
theorem dX10_value_102 : decode cX10_value 102 = .ok (.invokevirtual 318, 3) := by decide +kernel
theorem dX10_value_105 : decode cX10_value 105 = .ok (.return_, 1) := by decide +kernel
theorem ce_X10_value : CeV RX10 yX10_value cX10_value 3 none 0 := ⟨tb_1545, tp_70, tb_11, tb_1546, rfl, by decide, by decide, by decide +kernel⟩
