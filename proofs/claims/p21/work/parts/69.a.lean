def CLX (I I2 : MI) (c : Nat) : Prop := (∀ j : Nat, (j : Int) < 300 * (I 1000 27).toInt + (I 1000 29).toInt → I2 1035 j = I 1035 j ∧ I2 1036 j = I 1036 j) ∧ ∀ i, i ≠ c → I2 1039 i = I 1039 i ∧ I2 1040 i = I 1040 i ∧ I2 1041 i = I 1041 i
def LWn (I : MI) (n : Nat) : Prop := ∀ i, i < n → CLr I (I 1000 27).toNatClampNeg (12 * (I 1000 27).toNatClampNeg + i) (I 1000 29).toInt
theorem LWR.clause {I I2 : MI} {r a : Nat} (h : LWR I r) (hI : INV I) (hx : CLX I I2 (12 * (I 1000 27).toNatClampNeg + a)) (h37 : I2 1037 = I 1037) (hr : (r : Int) < (I 1000 27).toInt) : LWR I2 r := by
  have t1 := tn (i := I 1000 27) (by omega)
  have g1 := hI.get 1000 29 (lo := 0) (hi := 300) rfl
  refine ⟨h.1, by rw [h37]; exact h.2.1, by rw [h37]; exact h.2.2.1, fun i hi => ?_⟩
  rw [h37] at hi
  have h12 := h.2.2.1
  have e := hx.2 (12 * r + i) (by omega)
  exact (h.2.2.2 i hi).ext hI (Int.le_refl _) e.1 e.2.1 e.2.2 (fun j hj => hx.1 j (by omega))
theorem LWn.clause {I I2 : MI} {n : Nat} (h : LWn I n) (hI : INV I) (hx : CLX I I2 (12 * (I 1000 27).toNatClampNeg + n)) (hn : CLr I2 (I 1000 27).toNatClampNeg (12 * (I 1000 27).toNatClampNeg + n) (I2 1000 29).toInt) (he : (I 1000 29).toInt ≤ (I2 1000 29).toInt) (hs : (I2 1000 27).toInt = (I 1000 27).toInt) (h0 : 0 ≤ (I 1000 27).toInt) : LWn I2 (n + 1) := by
  have e0 : I2 1000 27 = I 1000 27 := Int32.toInt_inj.mp hs
  have t1 := tn h0
  intro i hi
  rw [e0]
  by_cases hq : i = n
  · rw [hq]
    exact hn
  · have e := hx.2 (12 * (I 1000 27).toNatClampNeg + i) (by omega)
    exact (h i (by omega)).ext hI he e.1 e.2.1 e.2.2 (fun j hj => hx.1 j (by omega))
theorem LWn.of {I I2 : MI} {n : Nat} (h : LWn I n) (h35 : I2 1035 = I 1035) (h36 : I2 1036 = I 1036) (h39 : I2 1039 = I 1039) (h40 : I2 1040 = I 1040) (h41 : I2 1041 = I 1041) (hs : (I2 1000 27).toInt = (I 1000 27).toInt) (he : (I2 1000 29).toInt = (I 1000 29).toInt) : LWn I2 n := by
  have e0 : I2 1000 27 = I 1000 27 := Int32.toInt_inj.mp hs
  unfold LWn CLr
  rw [h35, h36, h39, h40, h41, e0, he]
  exact h
theorem LWn.fin {I Z : MI} {n r : Nat} (h : LWn I n) (hI : INV I) (hr : (I 1000 27).toInt = r) (h6 : r < 6) (h35 : Z 1035 = I 1035) (h36 : Z 1036 = I 1036) (h39 : Z 1039 = I 1039) (h40 : Z 1040 = I 1040) (h41 : Z 1041 = I 1041) (h37 : (Z 1037 r).toInt = n) (hn : n ≤ 12) : LWR Z r := by
  have t1 := cl_of hr
  have g1 := hI.get 1000 29 (lo := 0) (hi := 300) rfl
  refine ⟨h6, by omega, by omega, fun i hi => ?_⟩
  have h1 := h i (by omega)
  rw [t1] at h1
  exact h1.ext hI g1.2 (by rw [h39]) (by rw [h40]) (by rw [h41]) (fun j _ => by rw [h35, h36]; exact ⟨rfl, rfl⟩)
theorem LWR.of1 {I Z : MI} {r : Nat} (h : LWR I r) (h35 : Z 1035 = I 1035) (h36 : Z 1036 = I 1036) (h39 : Z 1039 = I 1039) (h40 : Z 1040 = I 1040) (h41 : Z 1041 = I 1041) (h37 : Z 1037 r = I 1037 r) : LWR Z r := by
  unfold LWR CLr
  rw [h35, h36, h39, h40, h41, h37]
  exact h
theorem clx0 {I I2 : MI} {n c : Nat} {n2 : Nat} (h : CT I I2 n n2) (h39 : ∀ i, i ≠ c → I2 1039 i = I 1039 i) (h40 : ∀ i, i ≠ c → I2 1040 i = I 1040 i) (h41 : ∀ i, i ≠ c → I2 1041 i = I 1041 i) : CLX I I2 c := ⟨h.1, fun i hi => ⟨h39 i hi, h40 i hi, h41 i hi⟩⟩
theorem dX10_clause_0 : decode cX10_clause 0 = .ok (.aload_n 0, 1) := by decide +kernel
theorem dX10_clause_1 : decode cX10_clause 1 = .ok (.invokevirtual 287, 3) := by decide +kernel
theorem dX10_clause_4 : decode cX10_clause 4 = .ok (.aload_n 0, 1) := by decide +kernel
theorem dX10_clause_5 : decode cX10_clause 5 = .ok (.getfield 267, 3) := by decide +kernel
theorem dX10_clause_8 : decode cX10_clause 8 = .ok (.istore_n 2, 1) := by decide +kernel
theorem dX10_clause_9 : decode cX10_clause 9 = .ok (.aload_n 0, 1) := by decide +kernel
theorem dX10_clause_10 : decode cX10_clause 10 = .ok (.ldc_w 361, 3) := by decide +kernel
theorem dX10_clause_13 : decode cX10_clause 13 = .ok (.invokevirtual 290, 3) := by decide +kernel
theorem dX10_clause_16 : decode cX10_clause 16 = .ok (.ifCond .ne 10, 3) := by decide +kernel
theorem dX10_clause_19 : decode cX10_clause 19 = .ok (.aload_n 0, 1) := by decide +kernel
theorem dX10_clause_20 : decode cX10_clause 20 = .ok (.iconst 0, 1) := by decide +kernel
theorem dX10_clause_21 : decode cX10_clause 21 = .ok (.iload_n 2, 1) := by decide +kernel
theorem dX10_clause_22 : decode cX10_clause 22 = .ok (.invokevirtual 303, 3) := by decide +kernel
theorem dX10_clause_25 : decode cX10_clause 25 = .ok (.return_, 1) := by decide +kernel
theorem dX10_clause_26 : decode cX10_clause 26 = .ok (.iload_n 1, 1) := by decide +kernel
theorem dX10_clause_27 : decode cX10_clause 27 = .ok (.bipush 12, 2) := by decide +kernel
theorem dX10_clause_29 : decode cX10_clause 29 = .ok (.if_icmp .ne 10, 3) := by decide +kernel
theorem dX10_clause_32 : decode cX10_clause 32 = .ok (.aload_n 0, 1) := by decide +kernel
theorem dX10_clause_33 : decode cX10_clause 33 = .ok (.iconst 4, 1) := by decide +kernel
theorem dX10_clause_34 : decode cX10_clause 34 = .ok (.iload_n 2, 1) := by decide +kernel
theorem dX10_clause_35 : decode cX10_clause 35 = .ok (.invokevirtual 303, 3) := by decide +kernel
theorem dX10_clause_38 : decode cX10_clause 38 = .ok (.return_, 1) := by decide +kernel
theorem dX10_clause_39 : decode cX10_clause 39 = .ok (.aload_n 0, 1) := by decide +kernel
theorem dX10_clause_40 : decode cX10_clause 40 = .ok (.dup, 1) := by decide +kernel
theorem dX10_clause_41 : decode cX10_clause 41 = .ok (.getfield 267, 3) := by decide +kernel
theorem dX10_clause_44 : decode cX10_clause 44 = .ok (.iconst 4, 1) := by decide +kernel
theorem dX10_clause_45 : decode cX10_clause 45 = .ok (.iadd, 1) := by decide +kernel
theorem dX10_clause_46 : decode cX10_clause 46 = .ok (.putfield 267, 3) := by decide +kernel
theorem dX10_clause_49 : decode cX10_clause 49 = .ok (.aload_n 0, 1) := by decide +kernel
theorem dX10_clause_50 : decode cX10_clause 50 = .ok (.invokevirtual 287, 3) := by decide +kernel
theorem dX10_clause_53 : decode cX10_clause 53 = .ok (.bipush 12, 2) := by decide +kernel
theorem dX10_clause_55 : decode cX10_clause 55 = .ok (.aload_n 0, 1) := by decide +kernel
theorem dX10_clause_56 : decode cX10_clause 56 = .ok (.getfield 294, 3) := by decide +kernel
theorem dX10_clause_59 : decode cX10_clause 59 = .ok (.imul, 1) := by decide +kernel
theorem dX10_clause_60 : decode cX10_clause 60 = .ok (.iload_n 1, 1) := by decide +kernel
theorem dX10_clause_61 : decode cX10_clause 61 = .ok (.iadd, 1) := by decide +kernel
theorem dX10_clause_62 : decode cX10_clause 62 = .ok (.istore_n 3, 1) := by decide +kernel
theorem dX10_clause_63 : decode cX10_clause 63 = .ok (.aload_n 0, 1) := by decide +kernel
theorem dX10_clause_64 : decode cX10_clause 64 = .ok (.getfield 96, 3) := by decide +kernel
theorem dX10_clause_67 : decode cX10_clause 67 = .ok (.iload_n 3, 1) := by decide +kernel
theorem dX10_clause_68 : decode cX10_clause 68 = .ok (.aload_n 0, 1) := by decide +kernel
theorem dX10_clause_69 : decode cX10_clause 69 = .ok (.getfield 264, 3) := by decide +kernel
theorem dX10_clause_72 : decode cX10_clause 72 = .ok (.ifCond .ne 12, 3) := by decide +kernel
theorem dX10_clause_75 : decode cX10_clause 75 = .ok (.aload_n 0, 1) := by decide +kernel
theorem dX10_clause_76 : decode cX10_clause 76 = .ok (.bipush 23, 2) := by decide +kernel
theorem dX10_clause_78 : decode cX10_clause 78 = .ok (.invokevirtual 311, 3) := by decide +kernel
theorem dX10_clause_81 : decode cX10_clause 81 = .ok (.goto 4, 3) := by decide +kernel
theorem dX10_clause_85 : decode cX10_clause 85 = .ok (.iastore, 1) := by decide +kernel
theorem dX10_clause_86 : decode cX10_clause 86 = .ok (.aload_n 0, 1) := by decide +kernel
theorem dX10_clause_87 : decode cX10_clause 87 = .ok (.getfield 99, 3) := by decide +kernel
theorem dX10_clause_90 : decode cX10_clause 90 = .ok (.iload_n 3, 1) := by decide +kernel
theorem dX10_clause_91 : decode cX10_clause 91 = .ok (.aload_n 0, 1) := by decide +kernel
theorem dX10_clause_92 : decode cX10_clause 92 = .ok (.getfield 297, 3) := by decide +kernel
theorem dX10_clause_95 : decode cX10_clause 95 = .ok (.iastore, 1) := by decide +kernel
theorem dX10_clause_96 : decode cX10_clause 96 = .ok (.aload_n 0, 1) := by decide +kernel
theorem dX10_clause_97 : decode cX10_clause 97 = .ok (.invokevirtual 331, 3) := by decide +kernel
theorem dX10_clause_100 : decode cX10_clause 100 = .ok (.aload_n 0, 1) := by decide +kernel
theorem dX10_clause_101 : decode cX10_clause 101 = .ok (.getfield 102, 3) := by decide +kernel
theorem dX10_clause_104 : decode cX10_clause 104 = .ok (.iload_n 3, 1) := by decide +kernel
theorem dX10_clause_105 : decode cX10_clause 105 = .ok (.aload_n 0, 1) := by decide +kernel
theorem dX10_clause_106 : decode cX10_clause 106 = .ok (.getfield 297, 3) := by decide +kernel
theorem dX10_clause_109 : decode cX10_clause 109 = .ok (.iastore, 1) := by decide +kernel
theorem dX10_clause_110 : decode cX10_clause 110 = .ok (.aload_n 0, 1) := by decide +kernel
theorem dX10_clause_111 : decode cX10_clause 111 = .ok (.getfield 264, 3) := by decide +kernel
theorem dX10_clause_114 : decode cX10_clause 114 = .ok (.ifCond .ne 17, 3) := by decide +kernel
theorem dX10_clause_117 : decode cX10_clause 117 = .ok (.aload_n 0, 1) := by decide +kernel
theorem dX10_clause_118 : decode cX10_clause 118 = .ok (.ldc_w 363, 3) := by decide +kernel
theorem dX10_clause_121 : decode cX10_clause 121 = .ok (.invokevirtual 365, 3) := by decide +kernel
theorem dX10_clause_124 : decode cX10_clause 124 = .ok (.ifCond .eq 7, 3) := by decide +kernel
theorem dX10_clause_127 : decode cX10_clause 127 = .ok (.aload_n 0, 1) := by decide +kernel
theorem dX10_clause_128 : decode cX10_clause 128 = .ok (.invokevirtual 368, 3) := by decide +kernel
theorem dX10_clause_131 : decode cX10_clause 131 = .ok (.aload_n 0, 1) := by decide +kernel
theorem dX10_clause_132 : decode cX10_clause 132 = .ok (.getfield 105, 3) := by decide +kernel
theorem dX10_clause_135 : decode cX10_clause 135 = .ok (.iload_n 3, 1) := by decide +kernel
theorem dX10_clause_136 : decode cX10_clause 136 = .ok (.aload_n 0, 1) := by decide +kernel
theorem dX10_clause_137 : decode cX10_clause 137 = .ok (.getfield 297, 3) := by decide +kernel
theorem dX10_clause_140 : decode cX10_clause 140 = .ok (.iastore, 1) := by decide +kernel
theorem dX10_clause_141 : decode cX10_clause 141 = .ok (.return_, 1) := by decide +kernel
theorem ce_X10_clause : CeV RX10 yX10_clause cX10_clause 4 none 1 := ⟨tb_1504, tp_61, tb_11, tb_1505, rfl, by decide, by decide, by decide +kernel⟩
