def CLX (I I2 : MI) (c : Nat) : Prop := (∀ j : Nat, (j : Int) < 300 * (I 1000 27).toInt + (I 1000 29).toInt → I2 1035 j = I 1035 j ∧ I2 1036 j = I 1036 j) ∧ ∀ i, i ≠ c → I2 1039 i = I 1039 i ∧ I2 1040 i = I 1040 i ∧ I2 1041 i = I 1041 i
def LWn (I : MI) (n : Nat) : Prop := ∀ i, i < n → CLr I (I 1000 27).toNatClampNeg (12 * (I 1000 27).toNatClampNeg + i) (I 1000 29).toInt
theorem LWR.clause {I I2 : MI} {r a : Nat} (h : LWR I r) (hI : INV I) (hx : CLX I I2 (12 * (I 1000 27).toNatClampNeg + a)) (h37 : I2 1037 = I 1037) (hr : (r : Int) < (I 1000 27).toInt) : LWR I2 r := by
  have t1 := tn (i := I 1000 27) (by omega)
  have g1 := hI.get 1000 29 (lo := 0) (hi := 300) rfl
  refine ⟨h.1, by rw [h37]; exact h.2.1, by rw [h37]; exact h.2.2.1, fun i hi => ?_⟩
  rw [h37] at hi
  have h12 := h.2.2.1
  have e := hx.2 (12 * r + i) (by omega)
  exact (h.2.2.2 i hi).ext hI (Int.le_refl _) e.1 e.2.1 e.2.2 (fun j hj => hx.1 j (by omega))
theorem LWn.clause {I I2 : MI} {n : Nat} (h : LWn I n) (hI : INV I) (hx : CLX I I2 (12 * (I 1000 27).toNatClampNeg + n)) (hn : CLr I2 (I 1000 27).toNatClampNeg (12 * (I 1000 27).toNatClampNeg + n) (I2 1000 29).toInt) (he : (I 1000 29).toInt ≤ (I2 1000 29).toInt) (hs : (I2 1000 27).toInt = (I 1000 27).toInt) (h0 : 0 ≤ (I 1000 27).toInt) : LWn I2 (n + 1) := by
  have e0 : I2 1000 27 = I 1000 27 := Int32.toInt_inj.mp hs
  have t1 := tn h0
  intro i hi
  rw [e0]
  by_cases hq : i = n
  · rw [hq]
    exact hn
  · have e := hx.2 (12 * (I 1000 27).toNatClampNeg + i) (by omega)
    exact (h i (by omega)).ext hI he e.1 e.2.1 e.2.2 (fun j hj => hx.1 j (by omega))
theorem LWn.of {I I2 : MI} {n : Nat} (h : LWn I n) (h35 : I2 1035 = I 1035) (h36 : I2 1036 = I 1036) (h39 : I2 1039 = I 1039) (h40 : I2 1040 = I 1040) (h41 : I2 1041 = I 1041) (hs : (I2 1000 27).toInt = (I 1000 27).toInt) (he : (I2 1000 29).toInt = (I 1000 29).toInt) : LWn I2 n := by
  have e0 : I2 1000 27 = I 1000 27 := Int32.toInt_inj.mp hs
  unfold LWn CLr
  rw [h35, h36, h39, h40, h41, e0, he]
  exact h
theorem LWn.fin {I Z : MI} {n r : Nat} (h : LWn I n) (hI : INV I) (hr : (I 1000 27).toInt = r) (h6 : r < 6) (h35 : Z 1035 = I 1035) (h36 : Z 1036 = I 1036) (h39 : Z 1039 = I 1039) (h40 : Z 1040 = I 1040) (h41 : Z 1041 = I 1041) (h37 : (Z 1037 r).toInt = n) (hn : n ≤ 12) : LWR Z r := by
  have t1 := cl_of hr
  have g1 := hI.get 1000 29 (lo := 0) (hi := 300) rfl
  refine ⟨h6, by omega, by omega, fun i hi => ?_⟩
  have h1 := h i (by omega)
  rw [t1] at h1
  exact h1.ext hI g1.2 (by rw [h39]) (by rw [h40]) (by rw [h41]) (fun j _ => by rw [h35, h36]; exact ⟨rfl, rfl⟩)
theorem LWR.of1 {I Z : MI} {r : Nat} (h : LWR I r) (h35 : Z 1035 = I 1035) (h36 : Z 1036 = I 1036) (h39 : Z 1039 = I 1039) (h40 : Z 1040 = I 1040) (h41 : Z 1041 = I 1041) (h37 : Z 1037 r = I 1037 r) : LWR Z r := by
  unfold LWR CLr
  rw [h35, h36, h39, h40, h41, h37]
  exact h
theorem clx0 {I I2 : MI} {n c : Nat} {n2 : Nat} (h : CT I I2 n n2) (h39 : ∀ i, i ≠ c → I2 1039 i = I 1039 i) (h40 : ∀ i, i ≠ c → I2 1040 i = I 1040 i) (h41 : ∀ i, i ≠ c → I2 1041 i = I 1041 i) : CLX I I2 c := ⟨h.1, fun i hi => ⟨h39 i hi, h40 i hi, h41 i hi⟩⟩
theorem dX10_clause_0 : decode cX10_clause 0 = .ok (.aload_n 0, 1) := by decide +kernel
theorem dX10_clause_1 : decode cX10_clause 1 = .ok (.invokevirtual 287, 3) := by decide +kernel
theorem dX10_clause_4 : decode cX10_clause 4 = .ok (.aload_n 0, 1) := by decide +kernel
theorem dX10_clause_5 : decode cX10_clause 5 = .ok (.getfield 267, 3) := by decide +kernel
theorem dX10_clause_8 : decode cX10_clause 8 = .ok (.istore_n 2, 1) := by decide +kernel
theorem dX10_clause_9 : decode cX10_clause 9 = .ok (.aload_n 0, 1) := by decide +kernel
theorem dX10_clause_10 : decode cX10_clause 10 = .ok (.ldc_w 361, 3) := by decide +kernel
theorem dX10_clause_13 : decode cX10_clause 13 = .ok (.invokevirtual 290, 3) := by decide +kernel
theorem dX10_clause_16 : decode cX10_clause 16 = .ok (.ifCond .ne 10, 3) := by decide +kernel
theorem dX10_clause_19 : decode cX10_clause 19 = .ok (.aload_n 0, 1) := by decide +kernel
theorem dX10_clause_20 : decode cX10_clause 20 = .ok (.iconst 0, 1) := by decide +kernel
theorem dX10_clause_21 : decode cX10_clause 21 = .ok (.iload_n 2, 1) := by decide +kernel
theorem dX10_clause_22 : decode cX10_clause 22 = .ok (.invokevirtual 303, 3) := by decide +kernel
theorem dX10_clause_25 : decode cX10_clause 25 = .ok (.return_, 1) := by decide +kernel
theorem dX10_clause_26 : decode cX10_clause 26 = .ok (.iload_n 1, 1) := by decide +kernel
theorem dX10_clause_27 : decode cX10_clause 27 = .ok (.bipush 12, 2) := by decide +kernel
theorem dX10_clause_29 : decode cX10_clause 29 = .ok (.if_icmp .ne 10, 3) := by decide +kernel
theorem dX10_clause_32 : decode cX10_clause 32 = .ok (.aload_n 0, 1) := by decide +kernel
theorem dX10_clause_33 : decode cX10_clause 33 = .ok (.iconst 4, 1) := by decide +kernel
theorem dX10_clause_34 : decode cX10_clause 34 = .ok (.iload_n 2, 1) := by decide +kernel
theorem dX10_clause_35 : decode cX10_clause 35 = .ok (.invokevirtual 303, 3) := by decide +kernel
theorem dX10_clause_38 : decode cX10_clause 38 = .ok (.return_, 1) := by decide +kernel
theorem dX10_clause_39 : decode cX10_clause 39 = .ok (.aload_n 0, 1) := by decide +kernel
theorem dX10_clause_40 : decode cX10_clause 40 = .ok (.dup, 1) := by decide +kernel
theorem dX10_clause_41 : decode cX10_clause 41 = .ok (.getfield 267, 3) := by decide +kernel
theorem dX10_clause_44 : decode cX10_clause 44 = .ok (.iconst 4, 1) := by decide +kernel
theorem dX10_clause_45 : decode cX10_clause 45 = .ok (.iadd, 1) := by decide +kernel
theorem dX10_clause_46 : decode cX10_clause 46 = .ok (.putfield 267, 3) := by decide +kernel
theorem dX10_clause_49 : decode cX10_clause 49 = .ok (.aload_n 0, 1) := by decide +kernel
theorem dX10_clause_50 : decode cX10_clause 50 = .ok (.invokevirtual 287, 3) := by decide +kernel
theorem dX10_clause_53 : decode cX10_clause 53 = .ok (.bipush 12, 2) := by decide +kernel
theorem dX10_clause_55 : decode cX10_clause 55 = .ok (.aload_n 0, 1) := by decide +kernel
theorem dX10_clause_56 : decode cX10_clause 56 = .ok (.getfield 294, 3) := by decide +kernel
theorem dX10_clause_59 : decode cX10_clause 59 = .ok (.imul, 1) := by decide +kernel
theorem dX10_clause_60 : decode cX10_clause 60 = .ok (.iload_n 1, 1) := by decide +kernel
theorem dX10_clause_61 : decode cX10_clause 61 = .ok (.iadd, 1) := by decide +kernel
theorem dX10_clause_62 : decode cX10_clause 62 = .ok (.istore_n 3, 1) := by decide +kernel
theorem dX10_clause_63 : decode cX10_clause 63 = .ok (.aload_n 0, 1) := by decide +kernel
theorem dX10_clause_64 : decode cX10_clause 64 = .ok (.getfield 96, 3) := by decide +kernel
theorem dX10_clause_67 : decode cX10_clause 67 = .ok (.iload_n 3, 1) := by decide +kernel
theorem dX10_clause_68 : decode cX10_clause 68 = .ok (.aload_n 0, 1) := by decide +kernel
theorem dX10_clause_69 : decode cX10_clause 69 = .ok (.getfield 264, 3) := by decide +kernel
theorem dX10_clause_72 : decode cX10_clause 72 = .ok (.ifCond .ne 12, 3) := by decide +kernel
theorem dX10_clause_75 : decode cX10_clause 75 = .ok (.aload_n 0, 1) := by decide +kernel
theorem dX10_clause_76 : decode cX10_clause 76 = .ok (.bipush 23, 2) := by decide +kernel
theorem dX10_clause_78 : decode cX10_clause 78 = .ok (.invokevirtual 311, 3) := by decide +kernel
theorem dX10_clause_81 : decode cX10_clause 81 = .ok (.goto 4, 3) := by decide +kernel
theorem dX10_clause_84 : decode cX10_clause 84 = .ok (.iconst 0, 1) := by decide +kernel
theorem dX10_clause_85 : decode cX10_clause 85 = .ok (.iastore, 1) := by decide +kernel
theorem dX10_clause_86 : decode cX10_clause 86 = .ok (.aload_n 0, 1) := by decide +kernel
theorem dX10_clause_87 : decode cX10_clause 87 = .ok (.getfield 99, 3) := by decide +kernel
theorem dX10_clause_90 : decode cX10_clause 90 = .ok (.iload_n 3, 1) := by decide +kernel
theorem dX10_clause_91 : decode cX10_clause 91 = .ok (.aload_n 0, 1) := by decide +kernel
theorem dX10_clause_92 : decode cX10_clause 92 = .ok (.getfield 297, 3) := by decide +kernel
theorem dX10_clause_95 : decode cX10_clause 95 = .ok (.iastore, 1) := by decide +kernel
theorem dX10_clause_96 : decode cX10_clause 96 = .ok (.aload_n 0, 1) := by decide +kernel
theorem dX10_clause_97 : decode cX10_clause 97 = .ok (.invokevirtual 331, 3) := by decide +kernel
theorem dX10_clause_100 : decode cX10_clause 100 = .ok (.aload_n 0, 1) := by decide +kernel
theorem dX10_clause_101 : decode cX10_clause 101 = .ok (.getfield 102, 3) := by decide +kernel
theorem dX10_clause_104 : decode cX10_clause 104 = .ok (.iload_n 3, 1) := by decide +kernel
theorem dX10_clause_105 : decode cX10_clause 105 = .ok (.aload_n 0, 1) := by decide +kernel
theorem dX10_clause_106 : decode cX10_clause 106 = .ok (.getfield 297, 3) := by decide +kernel
theorem dX10_clause_109 : decode cX10_clause 109 = .ok (.iastore, 1) := by decide +kernel
theorem dX10_clause_110 : decode cX10_clause 110 = .ok (.aload_n 0, 1) := by decide +kernel
theorem dX10_clause_111 : decode cX10_clause 111 = .ok (.getfield 264, 3) := by decide +kernel
theorem dX10_clause_114 : decode cX10_clause 114 = .ok (.ifCond .ne 17, 3) := by decide +kernel
theorem dX10_clause_117 : decode cX10_clause 117 = .ok (.aload_n 0, 1) := by decide +kernel
theorem dX10_clause_118 : decode cX10_clause 118 = .ok (.ldc_w 363, 3) := by decide +kernel
theorem dX10_clause_121 : decode cX10_clause 121 = .ok (.invokevirtual 365, 3) := by decide +kernel
theorem dX10_clause_124 : decode cX10_clause 124 = .ok (.ifCond .eq 7, 3) := by decide +kernel
theorem dX10_clause_127 : decode cX10_clause 127 = .ok (.aload_n 0, 1) := by decide +kernel
theorem dX10_clause_128 : decode cX10_clause 128 = .ok (.invokevirtual 368, 3) := by decide +kernel
theorem dX10_clause_131 : decode cX10_clause 131 = .ok (.aload_n 0, 1) := by decide +kernel
theorem dX10_clause_132 : decode cX10_clause 132 = .ok (.getfield 105, 3) := by decide +kernel
theorem dX10_clause_135 : decode cX10_clause 135 = .ok (.iload_n 3, 1) := by decide +kernel
theorem dX10_clause_136 : decode cX10_clause 136 = .ok (.aload_n 0, 1) := by decide +kernel
theorem dX10_clause_137 : decode cX10_clause 137 = .ok (.getfield 297, 3) := by decide +kernel
theorem dX10_clause_140 : decode cX10_clause 140 = .ok (.iastore, 1) := by decide +kernel
theorem dX10_clause_141 : decode cX10_clause 141 = .ok (.return_, 1) := by decide +kernel
theorem ce_X10_clause : CeV RX10 yX10_clause cX10_clause 4 none 1 := ⟨tb_1504, tp_61, tb_11, tb_1505, rfl, by decide, by decide, by decide +kernel⟩
set_option maxHeartbeats 4000000 in
set_option maxRecDepth 20000 in
theorem V_X10_clause (l : Launch) (D : va_G) (A : Nat → Prop) (ad : Nat → Nat) (ns : List Nat) (I : MI) (L : ML) (G : MG) (a0 : Int32) (hJ : SGM ns G) (hI : INV I) (hp : (I 1000 25).toInt ≤ 400) (hPI : Imp ((I 1000 26).toInt = 0) (0 ≤ (I 1000 31).toInt ∧ (I 1000 31).toInt ≤ 60 ∧ 3 * (I 1000 29).toInt ≤ 6 * (I 1000 31).toInt + (I 1000 25).toInt)) (ha0 : 0 ≤ a0.toInt ∧ a0.toInt ≤ 12) : Met l yX10_clause (wd yX10_clause cX10_clause 4 none) ({ frames := 11, cells := 0, slots := 0, locals := 239 }) (va_Pc [.ref (ad (1000)), .int a0] (PM D A ad ns I L G)) (va_Qv (fun u => ∃ I2 L2, u = (ad, ns, I2, L2, G) ∧ INV I2 ∧ Kp [(1035, 1037), (1038, 1043)] [(1000, 25), (1000, 26), (1000, 29), (1000, 30), (1000, 31), (1000, 32)] I I2 ∧ ((I 1000 25).toInt ≤ (I2 1000 25).toInt ∧ (I2 1000 25).toInt ≤ 401 ∧ (I 1000 29).toInt ≤ (I2 1000 29).toInt ∧ Imp ((I2 1000 26).toInt = 0) ((I 1000 26).toInt = 0 ∧ (I2 1000 25).toInt ≤ 400 ∧ 0 ≤ (I2 1000 31).toInt ∧ (I2 1000 31).toInt ≤ 60 ∧ 3 * (I2 1000 29).toInt ≤ 6 * (I2 1000 31).toInt + (I2 1000 25).toInt ∧ a0.toInt ≤ 11) ∧ Imp ((I2 1000 26).toInt = 0) (CLr I2 (I 1000 27).toNatClampNeg (12 * (I 1000 27).toNatClampNeg + (a0).toNatClampNeg) (I2 1000 29).toInt) ∧ CLX I I2 (12 * (I 1000 27).toNatClampNeg + (a0).toNatClampNeg))) (BM D A) A) 0 0 A := by
  refine m_ofW (by decide) (Nat.le_of_ble_eq_true rfl) ?_
  intro p e s m below meth c ls args hC hE hM hA hS hl
  obtain ⟨hx, hb, hml, hown, hts, hr, hlocks, hin⟩ := hC
  have k0 : (0 : Int32).toInt = 0 := by decide
  have k4 : (4 : Int32).toInt = 4 := by decide
  have k12 : (12 : Int32).toInt = 12 := by decide
  have k23 : (23 : Int32).toInt = 23 := by decide
  have hC := CT.rf I 0
  have hI0 := hI
  have gs0 := hI.get 1000 27 (lo := 0) (hi := 5) rfl
  have ge0 := hI.get 1000 29 (lo := 0) (hi := 300) rfl
  have hK : Kp [(1035, 1037), (1038, 1043)] [(1000, 25), (1000, 26), (1000, 29), (1000, 30), (1000, 31), (1000, 32)] I I := Kp.rf
  have hl : lv_has ls 4 [(0, .ref (ad (1000))), (1, .int (a0))] := hl
  refine lv_aload_n hx hb dX10_clause_0 rfl (lv_at hl 0 rfl) ?_
  refine m_callv (m_runV (1000) (As := []) (rest := []) hx hb hml hown hts hE hM hS hA ce_X10_blanks tb_1506 (V_X10_blanks l D A ad ns I L G hJ hI (by omega)) rfl rfl ⟨Nat.le_of_ble_eq_true rfl, Nat.le_of_ble_eq_true rfl⟩ hJ.1 rfl rfl (by decide) rfl hl.1 rfl (Nat.le_of_ble_eq_true rfl) dX10_clause_1 ⟨Nat.le_of_ble_eq_true rfl, Nat.le_of_ble_eq_true rfl⟩) hS (fun u H locs hw hM hS => ?_)
  obtain ⟨I1, L2, rfl, hI, hkI1, xI1⟩ := hw
  have hM : Mem D A ad ns I1 L2 G H := hM
  have hK := hK.trans hkI1 rfl
  have pw3 : (I1 (1000) 24).toInt = (I (1000) 24 : Int32).toInt := congrArg Int32.toInt ((hkI1.get (1000) 24 rfl))
  have pw4 : (I1 (1000) 26).toInt = (I (1000) 26 : Int32).toInt := congrArg Int32.toInt ((hkI1.get (1000) 26 rfl))
  have pw5 : (I1 (1000) 27).toInt = (I (1000) 27 : Int32).toInt := congrArg Int32.toInt ((hkI1.get (1000) 27 rfl))
  have pw6 : (I1 (1000) 29).toInt = (I (1000) 29 : Int32).toInt := congrArg Int32.toInt ((hkI1.get (1000) 29 rfl))
  have pw7 : (I1 (1000) 31).toInt = (I (1000) 31 : Int32).toInt := congrArg Int32.toInt ((hkI1.get (1000) 31 rfl))
  have pw8 : (I1 (1000) 32).toInt = (I (1000) 32 : Int32).toInt := congrArg Int32.toInt ((hkI1.get (1000) 32 rfl))
  refine lv_aload_n hx hb dX10_clause_4 rfl (lv_at hl 0 rfl) ?_
  refine m_geti (1000) 25 hx hb hts hown hE oc10 hM hJ.1 rfl (by decide) rfl tb_1202 dX10_clause_5 ?_
  have g9 := hI.get (1000) 25 (lo := 0) (hi := 100000) rfl
  refine lv_istore_n (lv' := [(2, .int (I1 (1000) 25)), (0, .ref (ad (1000))), (1, .int (a0))]) hx hb dX10_clause_8 rfl hl (by decide) rfl (fun ls hl => ?_)
  refine lv_aload_n hx hb dX10_clause_9 rfl (lv_at hl 1 rfl) ?_
  refine m_ldcwS hx hb hown (EV.str hE 10 rfl).1 dX10_clause_10 ?_
  refine m_calli (m_runV (1000) (As := [.ref (D.2 100 10)]) (rest := []) hx hb hml hown hts hE hM hS hA ce_X10_stands tb_1515 (V_X10_stands l D A ad ns I1 L2 G 10 _ hJ hI rfl (by decide) (by decide)) rfl rfl ⟨Nat.le_of_ble_eq_true rfl, Nat.le_of_ble_eq_true rfl⟩ hJ.1 rfl rfl (by decide) rfl hl.1 rfl (Nat.le_of_ble_eq_true rfl) dX10_clause_13 ⟨Nat.le_of_ble_eq_true rfl, Nat.le_of_ble_eq_true rfl⟩) hS (fun r10 u H locs hw hM hS => ?_)
  obtain ⟨rfl, xr10⟩ := hw
  have hM : Mem D A ad ns I1 L2 G H := hM
  have g11 := hI.get 1000 24 (lo := 0) (hi := 400) rfl
  have g12 := hI.get 1000 25 (lo := 0) (hi := 100000) rfl
  have slr10 : Imp ((r10).toInt ≠ 0) ((I1 (1000) 25).toInt + 4 ≤ (I1 (1000) 24).toInt) := xr10.2.2
  refine lv_if_ne (tgt := 26) hx hb dX10_clause_16 (by decide) (fun c13 => ?_) (fun c13 => ?_)
  · have hc13 := c13
    have q13 := q_ne hc13
    have sg14 := slr10 (by omega)
    refine lv_iload_n hx hb dX10_clause_26 rfl (lv_at hl 2 rfl) ?_
    refine lv_bipush (v := (12)) hx hb dX10_clause_27 (by decide) ?_
    refine lv_icmp_ne (tgt := 39) hx hb dX10_clause_29 (by decide) (fun c15 => ?_) (fun c15 => ?_)
    · have hc15 := c15
      have q15 := q_ne hc15
      refine lv_aload_n hx hb dX10_clause_39 rfl (lv_at hl 1 rfl) ?_
      refine lv_dup hx hb dX10_clause_40 rfl ?_
      refine m_geti (1000) 25 hx hb hts hown hE oc10 hM hJ.1 rfl (by decide) rfl tb_1202 dX10_clause_41 ?_
      refine lv_iconst (v := (4)) hx hb dX10_clause_44 (by decide) ?_
      refine lv_iadd hx hb dX10_clause_45 ?_
      refine lv_topi (fun v16 ev16 => ?_)
      have tv16 := a_add ev16 (by omega) (by omega)
      refine m_puti (1000) 25 hx hb hts hown hE oc10 hM hS hJ.1 rfl (by decide) rfl rfl rfl rfl tb_1202 dX10_clause_46 (fun H locs I17 eI17 hM hS => ?_)
      subst eI17
      have hI := hI.put (n := 1000) (k := 25) (v := v16) (lo := 0) (hi := 100000) rfl (by first | omega | decide)
      have hK := hK.put (n := 1000) (k := 25) (v := v16) (by first | rfl | simp [inR])
      refine lv_aload_n hx hb dX10_clause_49 rfl (lv_at hl 1 rfl) ?_
      have pw18 : ((u2 I1 (1000) 25 (v16)) (1000) 24).toInt = (I (1000) 24 : Int32).toInt := congrArg Int32.toInt (((show (u2 I1 (1000) 25 (v16)) (1000) 24 = I1 (1000) 24 from by simp [u2_v])).trans (hkI1.get (1000) 24 rfl))
      have pw19 : ((u2 I1 (1000) 25 (v16)) (1000) 25).toInt = (v16 : Int32).toInt := congrArg Int32.toInt ((show (u2 I1 (1000) 25 (v16)) (1000) 25 = v16 from by simp [u2_v]))
      have pw20 : ((u2 I1 (1000) 25 (v16)) (1000) 26).toInt = (I (1000) 26 : Int32).toInt := congrArg Int32.toInt (((show (u2 I1 (1000) 25 (v16)) (1000) 26 = I1 (1000) 26 from by simp [u2_v])).trans (hkI1.get (1000) 26 rfl))
      have pw21 : ((u2 I1 (1000) 25 (v16)) (1000) 27).toInt = (I (1000) 27 : Int32).toInt := congrArg Int32.toInt (((show (u2 I1 (1000) 25 (v16)) (1000) 27 = I1 (1000) 27 from by simp [u2_v])).trans (hkI1.get (1000) 27 rfl))
      have pw22 : ((u2 I1 (1000) 25 (v16)) (1000) 29).toInt = (I (1000) 29 : Int32).toInt := congrArg Int32.toInt (((show (u2 I1 (1000) 25 (v16)) (1000) 29 = I1 (1000) 29 from by simp [u2_v])).trans (hkI1.get (1000) 29 rfl))
      have pw23 : ((u2 I1 (1000) 25 (v16)) (1000) 31).toInt = (I (1000) 31 : Int32).toInt := congrArg Int32.toInt (((show (u2 I1 (1000) 25 (v16)) (1000) 31 = I1 (1000) 31 from by simp [u2_v])).trans (hkI1.get (1000) 31 rfl))
      have pw24 : ((u2 I1 (1000) 25 (v16)) (1000) 32).toInt = (I (1000) 32 : Int32).toInt := congrArg Int32.toInt (((show (u2 I1 (1000) 25 (v16)) (1000) 32 = I1 (1000) 32 from by simp [u2_v])).trans (hkI1.get (1000) 32 rfl))
      refine m_callv (m_runV (1000) (As := []) (rest := []) hx hb hml hown hts hE hM hS hA ce_X10_blanks tb_1506 (V_X10_blanks l D A ad ns (u2 I1 (1000) 25 (v16)) L2 G hJ hI (by omega)) rfl rfl ⟨Nat.le_of_ble_eq_true rfl, Nat.le_of_ble_eq_true rfl⟩ hJ.1 rfl rfl (by decide) rfl hl.1 rfl (Nat.le_of_ble_eq_true rfl) dX10_clause_50 ⟨Nat.le_of_ble_eq_true rfl, Nat.le_of_ble_eq_true rfl⟩) hS (fun u H locs hw hM hS => ?_)
      obtain ⟨I25, L26, rfl, hI, hkI25, xI25⟩ := hw
      have hM : Mem D A ad ns I25 L26 G H := hM
      have hK := hK.trans hkI25 rfl
      have pw27 : (I25 (1000) 24).toInt = (I (1000) 24 : Int32).toInt := congrArg Int32.toInt ((((hkI25.get (1000) 24 rfl)).trans (show (u2 I1 (1000) 25 (v16)) (1000) 24 = I1 (1000) 24 from by simp [u2_v])).trans (hkI1.get (1000) 24 rfl))
      have pw28 : (I25 (1000) 26).toInt = (I (1000) 26 : Int32).toInt := congrArg Int32.toInt ((((hkI25.get (1000) 26 rfl)).trans (show (u2 I1 (1000) 25 (v16)) (1000) 26 = I1 (1000) 26 from by simp [u2_v])).trans (hkI1.get (1000) 26 rfl))
      have pw29 : (I25 (1000) 27).toInt = (I (1000) 27 : Int32).toInt := congrArg Int32.toInt ((((hkI25.get (1000) 27 rfl)).trans (show (u2 I1 (1000) 25 (v16)) (1000) 27 = I1 (1000) 27 from by simp [u2_v])).trans (hkI1.get (1000) 27 rfl))
      have pw30 : (I25 (1000) 29).toInt = (I (1000) 29 : Int32).toInt := congrArg Int32.toInt ((((hkI25.get (1000) 29 rfl)).trans (show (u2 I1 (1000) 25 (v16)) (1000) 29 = I1 (1000) 29 from by simp [u2_v])).trans (hkI1.get (1000) 29 rfl))
      have pw31 : (I25 (1000) 31).toInt = (I (1000) 31 : Int32).toInt := congrArg Int32.toInt ((((hkI25.get (1000) 31 rfl)).trans (show (u2 I1 (1000) 25 (v16)) (1000) 31 = I1 (1000) 31 from by simp [u2_v])).trans (hkI1.get (1000) 31 rfl))
      have pw32 : (I25 (1000) 32).toInt = (I (1000) 32 : Int32).toInt := congrArg Int32.toInt ((((hkI25.get (1000) 32 rfl)).trans (show (u2 I1 (1000) 25 (v16)) (1000) 32 = I1 (1000) 32 from by simp [u2_v])).trans (hkI1.get (1000) 32 rfl))
      refine lv_bipush (v := (12)) hx hb dX10_clause_53 (by decide) ?_
      refine lv_aload_n hx hb dX10_clause_55 rfl (lv_at hl 1 rfl) ?_
      refine m_geti (1000) 27 hx hb hts hown hE oc10 hM hJ.1 rfl (by decide) rfl tb_1204 dX10_clause_56 ?_
      have g33 := hI.get (1000) 27 (lo := 0) (hi := 5) rfl
      have z34 : I25 (1000) 27 = I (1000) 27 := (((hkI25.get (1000) 27 rfl)).trans (show (u2 I1 (1000) 25 (v16)) (1000) 27 = I1 (1000) 27 from by simp [u2_v])).trans (hkI1.get (1000) 27 rfl)
      rw [z34] at g33 ⊢
      refine lv_imul hx hb dX10_clause_59 ?_
      refine lv_topi (fun v35 ev35 => ?_)
      have tv35 := a_mulL (c := 12) ev35 (by decide) (by omega) (by omega)
      refine lv_iload_n hx hb dX10_clause_60 rfl (lv_at hl 2 rfl) ?_
      refine lv_iadd hx hb dX10_clause_61 ?_
      refine lv_topi (fun v36 ev36 => ?_)
      have tv36 := a_add ev36 (by omega) (by omega)
      refine lv_istore_n (lv' := [(3, .int (v36)), (2, .int (I1 (1000) 25)), (0, .ref (ad (1000))), (1, .int (a0))]) hx hb dX10_clause_62 rfl hl (by decide) rfl (fun ls hl => ?_)
      refine lv_aload_n hx hb dX10_clause_63 rfl (lv_at hl 2 rfl) ?_
      refine m_getr (1000) 38 (1038) hx hb hts hown hE oc10 hM hJ.1 rfl (by decide) rfl (hJ.2 38 (by decide)).2 (by decide) tb_1215 dX10_clause_64 ?_
      refine lv_iload_n hx hb dX10_clause_67 rfl (lv_at hl 0 rfl) ?_
      refine lv_aload_n hx hb dX10_clause_68 rfl (lv_at hl 2 rfl) ?_
      refine m_geti (1000) 26 hx hb hts hown hE oc10 hM hJ.1 rfl (by decide) rfl tb_1203 dX10_clause_69 ?_
      have z37 : I25 (1000) 26 = I (1000) 26 := (((hkI25.get (1000) 26 rfl)).trans (show (u2 I1 (1000) 25 (v16)) (1000) 26 = I1 (1000) 26 from by simp [u2_v])).trans (hkI1.get (1000) 26 rfl)
      rw [z37]
      refine lv_if_ne (tgt := 84) hx hb dX10_clause_72 (by decide) (fun c38 => ?_) (fun c38 => ?_)
      · have hc38 := c38
        have q38 := q_ne hc38
        refine lv_iconst (v := (0)) hx hb dX10_clause_84 (by decide) ?_
        refine m_iast (1038) hx hb hE hM hS (hJ.2 38 (by decide)).1 rfl (vp_in_iff.mpr (by omega)) dX10_clause_85 (fun H locs I39 eI39 hM hS => ?_)
        subst eI39
        have hI := hI.putF (n := 1038) (k := ((v36).toNatClampNeg)) (v := 0) rfl
        have hK := hK.put (n := 1038) (k := ((v36).toNatClampNeg)) (v := 0) (by first | rfl | simp [inR])
        refine lv_aload_n hx hb dX10_clause_86 rfl (lv_at hl 2 rfl) ?_
        refine m_getr (1000) 39 (1039) hx hb hts hown hE oc10 hM hJ.1 rfl (by decide) rfl (hJ.2 39 (by decide)).2 (by decide) tb_1216 dX10_clause_87 ?_
        refine lv_iload_n hx hb dX10_clause_90 rfl (lv_at hl 0 rfl) ?_
        refine lv_aload_n hx hb dX10_clause_91 rfl (lv_at hl 2 rfl) ?_
        refine m_geti (1000) 29 hx hb hts hown hE oc10 hM hJ.1 rfl (by decide) rfl tb_1206 dX10_clause_92 ?_
        have g40 := hI.get (1000) 29 (lo := 0) (hi := 300) rfl
        have z41 : (u2 I25 (1038) ((v36).toNatClampNeg) (0)) (1000) 29 = I (1000) 29 := ((((show (u2 I25 (1038) ((v36).toNatClampNeg) (0)) (1000) 29 = I25 (1000) 29 from by simp [u2_v])).trans (hkI25.get (1000) 29 rfl)).trans (show (u2 I1 (1000) 25 (v16)) (1000) 29 = I1 (1000) 29 from by simp [u2_v])).trans (hkI1.get (1000) 29 rfl)
        rw [z41] at g40 ⊢
        refine m_iast (1039) hx hb hE hM hS (hJ.2 39 (by decide)).1 rfl (vp_in_iff.mpr (by omega)) dX10_clause_95 (fun H locs I42 eI42 hM hS => ?_)
        subst eI42
        have hI := hI.put (n := 1039) (k := ((v36).toNatClampNeg)) (v := I (1000) 29) (lo := 0) (hi := 300) rfl (by first | omega | decide)
        have hK := hK.put (n := 1039) (k := ((v36).toNatClampNeg)) (v := I (1000) 29) (by first | rfl | simp [inR])
        refine lv_aload_n hx hb dX10_clause_96 rfl (lv_at hl 2 rfl) ?_
        have pw43 : ((u2 (u2 I25 (1038) ((v36).toNatClampNeg) (0)) (1039) ((v36).toNatClampNeg) (I (1000) 29)) (1000) 24).toInt = (I (1000) 24 : Int32).toInt := congrArg Int32.toInt (((((show (u2 (u2 I25 (1038) ((v36).toNatClampNeg) (0)) (1039) ((v36).toNatClampNeg) (I (1000) 29)) (1000) 24 = I25 (1000) 24 from by simp [u2_v])).trans (hkI25.get (1000) 24 rfl)).trans (show (u2 I1 (1000) 25 (v16)) (1000) 24 = I1 (1000) 24 from by simp [u2_v])).trans (hkI1.get (1000) 24 rfl))
        have pw44 : ((u2 (u2 I25 (1038) ((v36).toNatClampNeg) (0)) (1039) ((v36).toNatClampNeg) (I (1000) 29)) (1000) 25).toInt = (I25 (1000) 25 : Int32).toInt := congrArg Int32.toInt ((show (u2 (u2 I25 (1038) ((v36).toNatClampNeg) (0)) (1039) ((v36).toNatClampNeg) (I (1000) 29)) (1000) 25 = I25 (1000) 25 from by simp [u2_v]))
        have pw45 : ((u2 (u2 I25 (1038) ((v36).toNatClampNeg) (0)) (1039) ((v36).toNatClampNeg) (I (1000) 29)) (1000) 26).toInt = (I (1000) 26 : Int32).toInt := congrArg Int32.toInt (((((show (u2 (u2 I25 (1038) ((v36).toNatClampNeg) (0)) (1039) ((v36).toNatClampNeg) (I (1000) 29)) (1000) 26 = I25 (1000) 26 from by simp [u2_v])).trans (hkI25.get (1000) 26 rfl)).trans (show (u2 I1 (1000) 25 (v16)) (1000) 26 = I1 (1000) 26 from by simp [u2_v])).trans (hkI1.get (1000) 26 rfl))
        have pw46 : ((u2 (u2 I25 (1038) ((v36).toNatClampNeg) (0)) (1039) ((v36).toNatClampNeg) (I (1000) 29)) (1000) 27).toInt = (I (1000) 27 : Int32).toInt := congrArg Int32.toInt (((((show (u2 (u2 I25 (1038) ((v36).toNatClampNeg) (0)) (1039) ((v36).toNatClampNeg) (I (1000) 29)) (1000) 27 = I25 (1000) 27 from by simp [u2_v])).trans (hkI25.get (1000) 27 rfl)).trans (show (u2 I1 (1000) 25 (v16)) (1000) 27 = I1 (1000) 27 from by simp [u2_v])).trans (hkI1.get (1000) 27 rfl))
        have pw47 : ((u2 (u2 I25 (1038) ((v36).toNatClampNeg) (0)) (1039) ((v36).toNatClampNeg) (I (1000) 29)) (1000) 29).toInt = (I (1000) 29 : Int32).toInt := congrArg Int32.toInt (((((show (u2 (u2 I25 (1038) ((v36).toNatClampNeg) (0)) (1039) ((v36).toNatClampNeg) (I (1000) 29)) (1000) 29 = I25 (1000) 29 from by simp [u2_v])).trans (hkI25.get (1000) 29 rfl)).trans (show (u2 I1 (1000) 25 (v16)) (1000) 29 = I1 (1000) 29 from by simp [u2_v])).trans (hkI1.get (1000) 29 rfl))
        have pw48 : ((u2 (u2 I25 (1038) ((v36).toNatClampNeg) (0)) (1039) ((v36).toNatClampNeg) (I (1000) 29)) (1000) 31).toInt = (I (1000) 31 : Int32).toInt := congrArg Int32.toInt (((((show (u2 (u2 I25 (1038) ((v36).toNatClampNeg) (0)) (1039) ((v36).toNatClampNeg) (I (1000) 29)) (1000) 31 = I25 (1000) 31 from by simp [u2_v])).trans (hkI25.get (1000) 31 rfl)).trans (show (u2 I1 (1000) 25 (v16)) (1000) 31 = I1 (1000) 31 from by simp [u2_v])).trans (hkI1.get (1000) 31 rfl))
        have pw49 : ((u2 (u2 I25 (1038) ((v36).toNatClampNeg) (0)) (1039) ((v36).toNatClampNeg) (I (1000) 29)) (1000) 32).toInt = (I (1000) 32 : Int32).toInt := congrArg Int32.toInt (((((show (u2 (u2 I25 (1038) ((v36).toNatClampNeg) (0)) (1039) ((v36).toNatClampNeg) (I (1000) 29)) (1000) 32 = I25 (1000) 32 from by simp [u2_v])).trans (hkI25.get (1000) 32 rfl)).trans (show (u2 I1 (1000) 25 (v16)) (1000) 32 = I1 (1000) 32 from by simp [u2_v])).trans (hkI1.get (1000) 32 rfl))
        refine m_callv (m_runV (1000) (As := []) (rest := []) hx hb hml hown hts hE hM hS hA ce_X10_sum tb_1535 (V_X10_sum l D A ad ns (u2 (u2 I25 (1038) ((v36).toNatClampNeg) (0)) (1039) ((v36).toNatClampNeg) (I (1000) 29)) L26 G hJ hI (by omega) (fun hz => by have w0 := hPI (by omega); omega)) rfl rfl ⟨Nat.le_of_ble_eq_true rfl, Nat.le_of_ble_eq_true rfl⟩ hJ.1 rfl rfl (by decide) rfl hl.1 rfl (Nat.le_of_ble_eq_true rfl) dX10_clause_97 ⟨Nat.le_of_ble_eq_true rfl, Nat.le_of_ble_eq_true rfl⟩) hS (fun u H locs hw hM hS => ?_)
        obtain ⟨I50, L51, rfl, hI, hkI50, xI50⟩ := hw
        have hM : Mem D A ad ns I50 L51 G H := hM
        have hK := hK.trans hkI50 rfl
        replace hC := CT.link (I2 := (u2 (u2 I25 (1038) ((v36).toNatClampNeg) (0)) (1039) ((v36).toNatClampNeg) (I (1000) 29))) hC (((((show (u2 (u2 I25 (1038) ((v36).toNatClampNeg) (0)) (1039) ((v36).toNatClampNeg) (I (1000) 29)) 1035 = I25 1035 from by funext zz; simp [u2_v])).trans (hkI25.getA 1035 rfl)).trans (show (u2 I1 (1000) 25 (v16)) 1035 = I1 1035 from by funext zz; simp [u2_v])).trans (hkI1.getA 1035 rfl)) (((((show (u2 (u2 I25 (1038) ((v36).toNatClampNeg) (0)) (1039) ((v36).toNatClampNeg) (I (1000) 29)) 1036 = I25 1036 from by funext zz; simp [u2_v])).trans (hkI25.getA 1036 rfl)).trans (show (u2 I1 (1000) 25 (v16)) 1036 = I1 1036 from by funext zz; simp [u2_v])).trans (hkI1.getA 1036 rfl)) (by omega) (fun hz => by have w0 := hPI (by omega); omega)
        have pw52 : (I50 (1000) 24).toInt = (I (1000) 24 : Int32).toInt := congrArg Int32.toInt ((((((hkI50.get (1000) 24 rfl)).trans (show (u2 (u2 I25 (1038) ((v36).toNatClampNeg) (0)) (1039) ((v36).toNatClampNeg) (I (1000) 29)) (1000) 24 = I25 (1000) 24 from by simp [u2_v])).trans (hkI25.get (1000) 24 rfl)).trans (show (u2 I1 (1000) 25 (v16)) (1000) 24 = I1 (1000) 24 from by simp [u2_v])).trans (hkI1.get (1000) 24 rfl))
        have pw53 : (I50 (1000) 27).toInt = (I (1000) 27 : Int32).toInt := congrArg Int32.toInt ((((((hkI50.get (1000) 27 rfl)).trans (show (u2 (u2 I25 (1038) ((v36).toNatClampNeg) (0)) (1039) ((v36).toNatClampNeg) (I (1000) 29)) (1000) 27 = I25 (1000) 27 from by simp [u2_v])).trans (hkI25.get (1000) 27 rfl)).trans (show (u2 I1 (1000) 25 (v16)) (1000) 27 = I1 (1000) 27 from by simp [u2_v])).trans (hkI1.get (1000) 27 rfl))
        have pw54 : (I50 (1000) 32).toInt = (I (1000) 32 : Int32).toInt := congrArg Int32.toInt ((((((hkI50.get (1000) 32 rfl)).trans (show (u2 (u2 I25 (1038) ((v36).toNatClampNeg) (0)) (1039) ((v36).toNatClampNeg) (I (1000) 29)) (1000) 32 = I25 (1000) 32 from by simp [u2_v])).trans (hkI25.get (1000) 32 rfl)).trans (show (u2 I1 (1000) 25 (v16)) (1000) 32 = I1 (1000) 32 from by simp [u2_v])).trans (hkI1.get (1000) 32 rfl))
        have g55 := hI0.get 1000 27 (lo := 0) (hi := 5) rfl
        have g56 := hI0.get 1000 29 (lo := 0) (hi := 300) rfl
        replace hC := hC.comp ((xI50.2.2.2.2).mono0 (0)) (by omega) (by omega) (by omega) (by omega) (fun hz => (xI50.2.2.2.1 hz).1)
        refine lv_aload_n hx hb dX10_clause_100 rfl (lv_at hl 2 rfl) ?_
        refine m_getr (1000) 40 (1040) hx hb hts hown hE oc10 hM hJ.1 rfl (by decide) rfl (hJ.2 40 (by decide)).2 (by decide) tb_1217 dX10_clause_101 ?_
        refine lv_iload_n hx hb dX10_clause_104 rfl (lv_at hl 0 rfl) ?_
        refine lv_aload_n hx hb dX10_clause_105 rfl (lv_at hl 2 rfl) ?_
        refine m_geti (1000) 29 hx hb hts hown hE oc10 hM hJ.1 rfl (by decide) rfl tb_1206 dX10_clause_106 ?_
        have g57 := hI.get (1000) 29 (lo := 0) (hi := 300) rfl
        refine m_iast (1040) hx hb hE hM hS (hJ.2 40 (by decide)).1 rfl (vp_in_iff.mpr (by omega)) dX10_clause_109 (fun H locs I58 eI58 hM hS => ?_)
        subst eI58
        have hI := hI.put (n := 1040) (k := ((v36).toNatClampNeg)) (v := I50 (1000) 29) (lo := 0) (hi := 300) rfl (by first | omega | decide)
        have hK := hK.put (n := 1040) (k := ((v36).toNatClampNeg)) (v := I50 (1000) 29) (by first | rfl | simp [inR])
        refine lv_aload_n hx hb dX10_clause_110 rfl (lv_at hl 2 rfl) ?_
        refine m_geti (1000) 26 hx hb hts hown hE oc10 hM hJ.1 rfl (by decide) rfl tb_1203 dX10_clause_111 ?_
        have z59 : (u2 I50 (1040) ((v36).toNatClampNeg) (I50 (1000) 29)) (1000) 26 = I50 (1000) 26 := (show (u2 I50 (1040) ((v36).toNatClampNeg) (I50 (1000) 29)) (1000) 26 = I50 (1000) 26 from by simp [u2_v])
        rw [z59]
        refine lv_if_ne (tgt := 131) hx hb dX10_clause_114 (by decide) (fun c60 => ?_) (fun c60 => ?_)
        · have hc60 := c60
          have q60 := q_ne hc60
          refine lv_aload_n hx hb dX10_clause_131 rfl (lv_at hl 2 rfl) ?_
          refine m_getr (1000) 41 (1041) hx hb hts hown hE oc10 hM hJ.1 rfl (by decide) rfl (hJ.2 41 (by decide)).2 (by decide) tb_1218 dX10_clause_132 ?_
          refine lv_iload_n hx hb dX10_clause_135 rfl (lv_at hl 0 rfl) ?_
          refine lv_aload_n hx hb dX10_clause_136 rfl (lv_at hl 2 rfl) ?_
          refine m_geti (1000) 29 hx hb hts hown hE oc10 hM hJ.1 rfl (by decide) rfl tb_1206 dX10_clause_137 ?_
          have z61 : (u2 I50 (1040) ((v36).toNatClampNeg) (I50 (1000) 29)) (1000) 29 = I50 (1000) 29 := (show (u2 I50 (1040) ((v36).toNatClampNeg) (I50 (1000) 29)) (1000) 29 = I50 (1000) 29 from by simp [u2_v])
          rw [z61]
          refine m_iast (1041) hx hb hE hM hS (hJ.2 41 (by decide)).1 rfl (vp_in_iff.mpr (by omega)) dX10_clause_140 (fun H locs I62 eI62 hM hS => ?_)
          subst eI62
          have hI := hI.put (n := 1041) (k := ((v36).toNatClampNeg)) (v := I50 (1000) 29) (lo := 0) (hi := 300) rfl (by first | omega | decide)
          have hK := hK.put (n := 1041) (k := ((v36).toNatClampNeg)) (v := I50 (1000) 29) (by first | rfl | simp [inR])
          have pw63 : ((u2 (u2 I50 (1040) ((v36).toNatClampNeg) (I50 (1000) 29)) (1041) ((v36).toNatClampNeg) (I50 (1000) 29)) (1000) 24).toInt = (I (1000) 24 : Int32).toInt := congrArg Int32.toInt (((((((show (u2 (u2 I50 (1040) ((v36).toNatClampNeg) (I50 (1000) 29)) (1041) ((v36).toNatClampNeg) (I50 (1000) 29)) (1000) 24 = I50 (1000) 24 from by simp [u2_v])).trans (hkI50.get (1000) 24 rfl)).trans (show (u2 (u2 I25 (1038) ((v36).toNatClampNeg) (0)) (1039) ((v36).toNatClampNeg) (I (1000) 29)) (1000) 24 = I25 (1000) 24 from by simp [u2_v])).trans (hkI25.get (1000) 24 rfl)).trans (show (u2 I1 (1000) 25 (v16)) (1000) 24 = I1 (1000) 24 from by simp [u2_v])).trans (hkI1.get (1000) 24 rfl))
          have pw64 : ((u2 (u2 I50 (1040) ((v36).toNatClampNeg) (I50 (1000) 29)) (1041) ((v36).toNatClampNeg) (I50 (1000) 29)) (1000) 25).toInt = (I50 (1000) 25 : Int32).toInt := congrArg Int32.toInt ((show (u2 (u2 I50 (1040) ((v36).toNatClampNeg) (I50 (1000) 29)) (1041) ((v36).toNatClampNeg) (I50 (1000) 29)) (1000) 25 = I50 (1000) 25 from by simp [u2_v]))
          have pw65 : ((u2 (u2 I50 (1040) ((v36).toNatClampNeg) (I50 (1000) 29)) (1041) ((v36).toNatClampNeg) (I50 (1000) 29)) (1000) 26).toInt = (I50 (1000) 26 : Int32).toInt := congrArg Int32.toInt ((show (u2 (u2 I50 (1040) ((v36).toNatClampNeg) (I50 (1000) 29)) (1041) ((v36).toNatClampNeg) (I50 (1000) 29)) (1000) 26 = I50 (1000) 26 from by simp [u2_v]))
          have pw66 : ((u2 (u2 I50 (1040) ((v36).toNatClampNeg) (I50 (1000) 29)) (1041) ((v36).toNatClampNeg) (I50 (1000) 29)) (1000) 27).toInt = (I (1000) 27 : Int32).toInt := congrArg Int32.toInt (((((((show (u2 (u2 I50 (1040) ((v36).toNatClampNeg) (I50 (1000) 29)) (1041) ((v36).toNatClampNeg) (I50 (1000) 29)) (1000) 27 = I50 (1000) 27 from by simp [u2_v])).trans (hkI50.get (1000) 27 rfl)).trans (show (u2 (u2 I25 (1038) ((v36).toNatClampNeg) (0)) (1039) ((v36).toNatClampNeg) (I (1000) 29)) (1000) 27 = I25 (1000) 27 from by simp [u2_v])).trans (hkI25.get (1000) 27 rfl)).trans (show (u2 I1 (1000) 25 (v16)) (1000) 27 = I1 (1000) 27 from by simp [u2_v])).trans (hkI1.get (1000) 27 rfl))
          have pw67 : ((u2 (u2 I50 (1040) ((v36).toNatClampNeg) (I50 (1000) 29)) (1041) ((v36).toNatClampNeg) (I50 (1000) 29)) (1000) 29).toInt = (I50 (1000) 29 : Int32).toInt := congrArg Int32.toInt ((show (u2 (u2 I50 (1040) ((v36).toNatClampNeg) (I50 (1000) 29)) (1041) ((v36).toNatClampNeg) (I50 (1000) 29)) (1000) 29 = I50 (1000) 29 from by simp [u2_v]))
          have pw68 : ((u2 (u2 I50 (1040) ((v36).toNatClampNeg) (I50 (1000) 29)) (1041) ((v36).toNatClampNeg) (I50 (1000) 29)) (1000) 31).toInt = (I50 (1000) 31 : Int32).toInt := congrArg Int32.toInt ((show (u2 (u2 I50 (1040) ((v36).toNatClampNeg) (I50 (1000) 29)) (1041) ((v36).toNatClampNeg) (I50 (1000) 29)) (1000) 31 = I50 (1000) 31 from by simp [u2_v]))
          have pw69 : ((u2 (u2 I50 (1040) ((v36).toNatClampNeg) (I50 (1000) 29)) (1041) ((v36).toNatClampNeg) (I50 (1000) 29)) (1000) 32).toInt = (I (1000) 32 : Int32).toInt := congrArg Int32.toInt (((((((show (u2 (u2 I50 (1040) ((v36).toNatClampNeg) (I50 (1000) 29)) (1041) ((v36).toNatClampNeg) (I50 (1000) 29)) (1000) 32 = I50 (1000) 32 from by simp [u2_v])).trans (hkI50.get (1000) 32 rfl)).trans (show (u2 (u2 I25 (1038) ((v36).toNatClampNeg) (0)) (1039) ((v36).toNatClampNeg) (I (1000) 29)) (1000) 32 = I25 (1000) 32 from by simp [u2_v])).trans (hkI25.get (1000) 32 rfl)).trans (show (u2 I1 (1000) 25 (v16)) (1000) 32 = I1 (1000) 32 from by simp [u2_v])).trans (hkI1.get (1000) 32 rfl))
          replace hC := CT.link (I2 := (u2 (u2 I50 (1040) ((v36).toNatClampNeg) (I50 (1000) 29)) (1041) ((v36).toNatClampNeg) (I50 (1000) 29))) hC ((show (u2 (u2 I50 (1040) ((v36).toNatClampNeg) (I50 (1000) 29)) (1041) ((v36).toNatClampNeg) (I50 (1000) 29)) 1035 = I50 1035 from by funext zz; simp [u2_v])) ((show (u2 (u2 I50 (1040) ((v36).toNatClampNeg) (I50 (1000) 29)) (1041) ((v36).toNatClampNeg) (I50 (1000) 29)) 1036 = I50 1036 from by funext zz; simp [u2_v])) (by omega) (fun hz => by have w0 := xI50.2.2.2.1 (by omega); have w1 := hPI (by omega); omega)
          have hcz : (v36).toNatClampNeg = 12 * (I 1000 27).toNatClampNeg + (a0).toNatClampNeg := by have z1 := tn (i := v36) (by omega); have z2 := tn (i := I 1000 27) (by omega); have z3 := tn (i := a0) (by omega); omega
          have hz1039 : (u2 (u2 I50 (1040) ((v36).toNatClampNeg) (I50 (1000) 29)) (1041) ((v36).toNatClampNeg) (I50 (1000) 29)) 1039 = (u2 (u2 I25 (1038) ((v36).toNatClampNeg) (0)) (1039) ((v36).toNatClampNeg) (I (1000) 29)) 1039 := ((show (u2 (u2 I50 (1040) ((v36).toNatClampNeg) (I50 (1000) 29)) (1041) ((v36).toNatClampNeg) (I50 (1000) 29)) 1039 = I50 1039 from by funext zz; simp [u2_v])).trans (hkI50.getA 1039 rfl)
          have hv1039 : ((u2 (u2 I50 (1040) ((v36).toNatClampNeg) (I50 (1000) 29)) (1041) ((v36).toNatClampNeg) (I50 (1000) 29)) 1039 (12 * (I 1000 27).toNatClampNeg + (a0).toNatClampNeg)).toInt = (I (1000) 29 : Int32).toInt := by rw [hz1039, ← hcz, u2_self]
          have ho1039 : ∀ i, i ≠ 12 * (I 1000 27).toNatClampNeg + (a0).toNatClampNeg → (u2 (u2 I50 (1040) ((v36).toNatClampNeg) (I50 (1000) 29)) (1041) ((v36).toNatClampNeg) (I50 (1000) 29)) 1039 i = I 1039 i := fun i hi => by rw [hz1039, u2_v, if_neg (by rintro ⟨-, hj⟩; exact hi (hj.trans hcz))]; exact congrFun (((((show (u2 I25 (1038) ((v36).toNatClampNeg) (0)) 1039 = I25 1039 from by funext zz; simp [u2_v])).trans (hkI25.getA 1039 rfl)).trans (show (u2 I1 (1000) 25 (v16)) 1039 = I1 1039 from by funext zz; simp [u2_v])).trans (hkI1.getA 1039 rfl)) i
          have hz1040 : (u2 (u2 I50 (1040) ((v36).toNatClampNeg) (I50 (1000) 29)) (1041) ((v36).toNatClampNeg) (I50 (1000) 29)) 1040 = (u2 I50 (1040) ((v36).toNatClampNeg) (I50 (1000) 29)) 1040 := (show (u2 (u2 I50 (1040) ((v36).toNatClampNeg) (I50 (1000) 29)) (1041) ((v36).toNatClampNeg) (I50 (1000) 29)) 1040 = (u2 I50 (1040) ((v36).toNatClampNeg) (I50 (1000) 29)) 1040 from by funext zz; simp [u2_v])
          have hv1040 : ((u2 (u2 I50 (1040) ((v36).toNatClampNeg) (I50 (1000) 29)) (1041) ((v36).toNatClampNeg) (I50 (1000) 29)) 1040 (12 * (I 1000 27).toNatClampNeg + (a0).toNatClampNeg)).toInt = (I50 (1000) 29 : Int32).toInt := by rw [hz1040, ← hcz, u2_self]
          have ho1040 : ∀ i, i ≠ 12 * (I 1000 27).toNatClampNeg + (a0).toNatClampNeg → (u2 (u2 I50 (1040) ((v36).toNatClampNeg) (I50 (1000) 29)) (1041) ((v36).toNatClampNeg) (I50 (1000) 29)) 1040 i = I 1040 i := fun i hi => by rw [hz1040, u2_v, if_neg (by rintro ⟨-, hj⟩; exact hi (hj.trans hcz))]; exact congrFun ((((((hkI50.getA 1040 rfl)).trans (show (u2 (u2 I25 (1038) ((v36).toNatClampNeg) (0)) (1039) ((v36).toNatClampNeg) (I (1000) 29)) 1040 = I25 1040 from by funext zz; simp [u2_v])).trans (hkI25.getA 1040 rfl)).trans (show (u2 I1 (1000) 25 (v16)) 1040 = I1 1040 from by funext zz; simp [u2_v])).trans (hkI1.getA 1040 rfl)) i
          have hz1041 : (u2 (u2 I50 (1040) ((v36).toNatClampNeg) (I50 (1000) 29)) (1041) ((v36).toNatClampNeg) (I50 (1000) 29)) 1041 = (u2 (u2 I50 (1040) ((v36).toNatClampNeg) (I50 (1000) 29)) (1041) ((v36).toNatClampNeg) (I50 (1000) 29)) 1041 := rfl
          have hv1041 : ((u2 (u2 I50 (1040) ((v36).toNatClampNeg) (I50 (1000) 29)) (1041) ((v36).toNatClampNeg) (I50 (1000) 29)) 1041 (12 * (I 1000 27).toNatClampNeg + (a0).toNatClampNeg)).toInt = (I50 (1000) 29 : Int32).toInt := by rw [hz1041, ← hcz, u2_self]
          have ho1041 : ∀ i, i ≠ 12 * (I 1000 27).toNatClampNeg + (a0).toNatClampNeg → (u2 (u2 I50 (1040) ((v36).toNatClampNeg) (I50 (1000) 29)) (1041) ((v36).toNatClampNeg) (I50 (1000) 29)) 1041 i = I 1041 i := fun i hi => by rw [hz1041, u2_v, if_neg (by rintro ⟨-, hj⟩; exact hi (hj.trans hcz))]; exact congrFun (((((((show (u2 I50 (1040) ((v36).toNatClampNeg) (I50 (1000) 29)) 1041 = I50 1041 from by funext zz; simp [u2_v])).trans (hkI50.getA 1041 rfl)).trans (show (u2 (u2 I25 (1038) ((v36).toNatClampNeg) (0)) (1039) ((v36).toNatClampNeg) (I (1000) 29)) 1041 = I25 1041 from by funext zz; simp [u2_v])).trans (hkI25.getA 1041 rfl)).trans (show (u2 I1 (1000) 25 (v16)) 1041 = I1 1041 from by funext zz; simp [u2_v])).trans (hkI1.getA 1041 rfl)) i
          have hr27 := tn (i := I 1000 27) (by omega)
          have hCL : Imp (((u2 (u2 I50 (1040) ((v36).toNatClampNeg) (I50 (1000) 29)) (1041) ((v36).toNatClampNeg) (I50 (1000) 29)) 1000 26).toInt = 0) (CLr (u2 (u2 I50 (1040) ((v36).toNatClampNeg) (I50 (1000) 29)) (1041) ((v36).toNatClampNeg) (I50 (1000) 29)) (I 1000 27).toNatClampNeg (12 * (I 1000 27).toNatClampNeg + (a0).toNatClampNeg) ((u2 (u2 I50 (1040) ((v36).toNatClampNeg) (I50 (1000) 29)) (1041) ((v36).toNatClampNeg) (I50 (1000) 29)) 1000 29).toInt) := fun hz => by
            have w0 := xI50.2.2.2.1 (by omega); have w1 := hPI (by omega); skip
            have hq := CLr.mk (A := (u2 (u2 I25 (1038) ((v36).toNatClampNeg) (0)) (1039) ((v36).toNatClampNeg) (I (1000) 29))) (B := I50) (C := I50) (D := I50) (Z := (u2 (u2 I50 (1040) ((v36).toNatClampNeg) (I50 (1000) 29)) (1041) ((v36).toNatClampNeg) (I50 (1000) 29))) (r := (I 1000 27).toNatClampNeg) (c := 12 * (I 1000 27).toNatClampNeg + (a0).toNatClampNeg) (xI50.2.2.2.2) (CT.rf I50 0) ⟨rfl, rfl, rfl, by omega⟩ (by omega) ⟨(show (u2 (u2 I50 (1040) ((v36).toNatClampNeg) (I50 (1000) 29)) (1041) ((v36).toNatClampNeg) (I50 (1000) 29)) 1035 = I50 1035 from by funext zz; simp [u2_v]), (show (u2 (u2 I50 (1040) ((v36).toNatClampNeg) (I50 (1000) 29)) (1041) ((v36).toNatClampNeg) (I50 (1000) 29)) 1036 = I50 1036 from by funext zz; simp [u2_v])⟩ (by omega) (by omega) (by omega) (by omega) (by omega)
            rw [show ((u2 (u2 I50 (1040) ((v36).toNatClampNeg) (I50 (1000) 29)) (1041) ((v36).toNatClampNeg) (I50 (1000) 29)) 1000 29).toInt = (I50 1000 29).toInt from by omega]
            exact hq
          exact m_vret hx hb hr hlocks hM hS (Nat.le_of_ble_eq_true rfl) (Nat.le_of_ble_eq_true rfl) ⟨_, _, rfl, hI, hK, ⟨by omega, by omega, by omega, (fun hz => by have w0 := xI50.2.2.2.1 (by omega); have w1 := hPI (by omega); omega), hCL, clx0 hC ho1039 ho1040 ho1041⟩⟩ dX10_clause_141
        · have hc60 := c60
          have q60 := q_eq hc60
          have w70 := xI50.2.2.2.1 (by omega)
          have w71 := hPI (by omega)
          refine lv_aload_n hx hb dX10_clause_117 rfl (lv_at hl 2 rfl) ?_
          refine m_ldcwS hx hb hown (EV.str hE 24 rfl).1 dX10_clause_118 ?_
          have pw72 : ((u2 I50 (1040) ((v36).toNatClampNeg) (I50 (1000) 29)) (1000) 24).toInt = (I (1000) 24 : Int32).toInt := congrArg Int32.toInt (((((((show (u2 I50 (1040) ((v36).toNatClampNeg) (I50 (1000) 29)) (1000) 24 = I50 (1000) 24 from by simp [u2_v])).trans (hkI50.get (1000) 24 rfl)).trans (show (u2 (u2 I25 (1038) ((v36).toNatClampNeg) (0)) (1039) ((v36).toNatClampNeg) (I (1000) 29)) (1000) 24 = I25 (1000) 24 from by simp [u2_v])).trans (hkI25.get (1000) 24 rfl)).trans (show (u2 I1 (1000) 25 (v16)) (1000) 24 = I1 (1000) 24 from by simp [u2_v])).trans (hkI1.get (1000) 24 rfl))
          have pw73 : ((u2 I50 (1040) ((v36).toNatClampNeg) (I50 (1000) 29)) (1000) 25).toInt = (I50 (1000) 25 : Int32).toInt := congrArg Int32.toInt ((show (u2 I50 (1040) ((v36).toNatClampNeg) (I50 (1000) 29)) (1000) 25 = I50 (1000) 25 from by simp [u2_v]))
          have pw74 : ((u2 I50 (1040) ((v36).toNatClampNeg) (I50 (1000) 29)) (1000) 26).toInt = (I50 (1000) 26 : Int32).toInt := congrArg Int32.toInt ((show (u2 I50 (1040) ((v36).toNatClampNeg) (I50 (1000) 29)) (1000) 26 = I50 (1000) 26 from by simp [u2_v]))
          have pw75 : ((u2 I50 (1040) ((v36).toNatClampNeg) (I50 (1000) 29)) (1000) 27).toInt = (I (1000) 27 : Int32).toInt := congrArg Int32.toInt (((((((show (u2 I50 (1040) ((v36).toNatClampNeg) (I50 (1000) 29)) (1000) 27 = I50 (1000) 27 from by simp [u2_v])).trans (hkI50.get (1000) 27 rfl)).trans (show (u2 (u2 I25 (1038) ((v36).toNatClampNeg) (0)) (1039) ((v36).toNatClampNeg) (I (1000) 29)) (1000) 27 = I25 (1000) 27 from by simp [u2_v])).trans (hkI25.get (1000) 27 rfl)).trans (show (u2 I1 (1000) 25 (v16)) (1000) 27 = I1 (1000) 27 from by simp [u2_v])).trans (hkI1.get (1000) 27 rfl))
          have pw76 : ((u2 I50 (1040) ((v36).toNatClampNeg) (I50 (1000) 29)) (1000) 29).toInt = (I50 (1000) 29 : Int32).toInt := congrArg Int32.toInt ((show (u2 I50 (1040) ((v36).toNatClampNeg) (I50 (1000) 29)) (1000) 29 = I50 (1000) 29 from by simp [u2_v]))
          have pw77 : ((u2 I50 (1040) ((v36).toNatClampNeg) (I50 (1000) 29)) (1000) 31).toInt = (I50 (1000) 31 : Int32).toInt := congrArg Int32.toInt ((show (u2 I50 (1040) ((v36).toNatClampNeg) (I50 (1000) 29)) (1000) 31 = I50 (1000) 31 from by simp [u2_v]))
          have pw78 : ((u2 I50 (1040) ((v36).toNatClampNeg) (I50 (1000) 29)) (1000) 32).toInt = (I (1000) 32 : Int32).toInt := congrArg Int32.toInt (((((((show (u2 I50 (1040) ((v36).toNatClampNeg) (I50 (1000) 29)) (1000) 32 = I50 (1000) 32 from by simp [u2_v])).trans (hkI50.get (1000) 32 rfl)).trans (show (u2 (u2 I25 (1038) ((v36).toNatClampNeg) (0)) (1039) ((v36).toNatClampNeg) (I (1000) 29)) (1000) 32 = I25 (1000) 32 from by simp [u2_v])).trans (hkI25.get (1000) 32 rfl)).trans (show (u2 I1 (1000) 25 (v16)) (1000) 32 = I1 (1000) 32 from by simp [u2_v])).trans (hkI1.get (1000) 32 rfl))
          refine m_calli (m_runV (1000) (As := [.ref (D.2 100 24)]) (rest := []) hx hb hml hown hts hE hM hS hA ce_X10_takes tb_1573 (V_X10_takes l D A ad ns (u2 I50 (1040) ((v36).toNatClampNeg) (I50 (1000) 29)) L51 G 24 _ hJ hI rfl (by decide) (by decide) (by omega)) rfl rfl ⟨Nat.le_of_ble_eq_true rfl, Nat.le_of_ble_eq_true rfl⟩ hJ.1 rfl rfl (by decide) rfl hl.1 rfl (Nat.le_of_ble_eq_true rfl) dX10_clause_121 ⟨Nat.le_of_ble_eq_true rfl, Nat.le_of_ble_eq_true rfl⟩) hS (fun r79 u H locs hw hM hS => ?_)
          obtain ⟨I80, L81, rfl, hI, hkI80, xr79⟩ := hw
          have hM : Mem D A ad ns I80 L81 G H := hM
          have hK := hK.trans hkI80 rfl
          have pw82 : (I80 (1000) 24).toInt = (I (1000) 24 : Int32).toInt := congrArg Int32.toInt ((((((((hkI80.get (1000) 24 rfl)).trans (show (u2 I50 (1040) ((v36).toNatClampNeg) (I50 (1000) 29)) (1000) 24 = I50 (1000) 24 from by simp [u2_v])).trans (hkI50.get (1000) 24 rfl)).trans (show (u2 (u2 I25 (1038) ((v36).toNatClampNeg) (0)) (1039) ((v36).toNatClampNeg) (I (1000) 29)) (1000) 24 = I25 (1000) 24 from by simp [u2_v])).trans (hkI25.get (1000) 24 rfl)).trans (show (u2 I1 (1000) 25 (v16)) (1000) 24 = I1 (1000) 24 from by simp [u2_v])).trans (hkI1.get (1000) 24 rfl))
          have pw83 : (I80 (1000) 26).toInt = (I50 (1000) 26 : Int32).toInt := congrArg Int32.toInt (((hkI80.get (1000) 26 rfl)).trans (show (u2 I50 (1040) ((v36).toNatClampNeg) (I50 (1000) 29)) (1000) 26 = I50 (1000) 26 from by simp [u2_v]))
          have pw84 : (I80 (1000) 27).toInt = (I (1000) 27 : Int32).toInt := congrArg Int32.toInt ((((((((hkI80.get (1000) 27 rfl)).trans (show (u2 I50 (1040) ((v36).toNatClampNeg) (I50 (1000) 29)) (1000) 27 = I50 (1000) 27 from by simp [u2_v])).trans (hkI50.get (1000) 27 rfl)).trans (show (u2 (u2 I25 (1038) ((v36).toNatClampNeg) (0)) (1039) ((v36).toNatClampNeg) (I (1000) 29)) (1000) 27 = I25 (1000) 27 from by simp [u2_v])).trans (hkI25.get (1000) 27 rfl)).trans (show (u2 I1 (1000) 25 (v16)) (1000) 27 = I1 (1000) 27 from by simp [u2_v])).trans (hkI1.get (1000) 27 rfl))
          have pw85 : (I80 (1000) 29).toInt = (I50 (1000) 29 : Int32).toInt := congrArg Int32.toInt (((hkI80.get (1000) 29 rfl)).trans (show (u2 I50 (1040) ((v36).toNatClampNeg) (I50 (1000) 29)) (1000) 29 = I50 (1000) 29 from by simp [u2_v]))
          have pw86 : (I80 (1000) 31).toInt = (I50 (1000) 31 : Int32).toInt := congrArg Int32.toInt (((hkI80.get (1000) 31 rfl)).trans (show (u2 I50 (1040) ((v36).toNatClampNeg) (I50 (1000) 29)) (1000) 31 = I50 (1000) 31 from by simp [u2_v]))
          have pw87 : (I80 (1000) 32).toInt = (I (1000) 32 : Int32).toInt := congrArg Int32.toInt ((((((((hkI80.get (1000) 32 rfl)).trans (show (u2 I50 (1040) ((v36).toNatClampNeg) (I50 (1000) 29)) (1000) 32 = I50 (1000) 32 from by simp [u2_v])).trans (hkI50.get (1000) 32 rfl)).trans (show (u2 (u2 I25 (1038) ((v36).toNatClampNeg) (0)) (1039) ((v36).toNatClampNeg) (I (1000) 29)) (1000) 32 = I25 (1000) 32 from by simp [u2_v])).trans (hkI25.get (1000) 32 rfl)).trans (show (u2 I1 (1000) 25 (v16)) (1000) 32 = I1 (1000) 32 from by simp [u2_v])).trans (hkI1.get (1000) 32 rfl))
          refine lv_if_eq (tgt := 131) hx hb dX10_clause_124 (by decide) (fun c88 => ?_) (fun c88 => ?_)
          · have hc88 := c88
            have q88 := q_eq hc88
            refine lv_aload_n hx hb dX10_clause_131 rfl (lv_at hl 2 rfl) ?_
            refine m_getr (1000) 41 (1041) hx hb hts hown hE oc10 hM hJ.1 rfl (by decide) rfl (hJ.2 41 (by decide)).2 (by decide) tb_1218 dX10_clause_132 ?_
            refine lv_iload_n hx hb dX10_clause_135 rfl (lv_at hl 0 rfl) ?_
            refine lv_aload_n hx hb dX10_clause_136 rfl (lv_at hl 2 rfl) ?_
            refine m_geti (1000) 29 hx hb hts hown hE oc10 hM hJ.1 rfl (by decide) rfl tb_1206 dX10_clause_137 ?_
            have g89 := hI.get (1000) 29 (lo := 0) (hi := 300) rfl
            have z90 : I80 (1000) 29 = I50 (1000) 29 := ((hkI80.get (1000) 29 rfl)).trans (show (u2 I50 (1040) ((v36).toNatClampNeg) (I50 (1000) 29)) (1000) 29 = I50 (1000) 29 from by simp [u2_v])
            rw [z90] at g89 ⊢
            refine m_iast (1041) hx hb hE hM hS (hJ.2 41 (by decide)).1 rfl (vp_in_iff.mpr (by omega)) dX10_clause_140 (fun H locs I91 eI91 hM hS => ?_)
            subst eI91
            have hI := hI.put (n := 1041) (k := ((v36).toNatClampNeg)) (v := I50 (1000) 29) (lo := 0) (hi := 300) rfl (by first | omega | decide)
            have hK := hK.put (n := 1041) (k := ((v36).toNatClampNeg)) (v := I50 (1000) 29) (by first | rfl | simp [inR])
            have pw92 : ((u2 I80 (1041) ((v36).toNatClampNeg) (I50 (1000) 29)) (1000) 24).toInt = (I (1000) 24 : Int32).toInt := congrArg Int32.toInt (((((((((show (u2 I80 (1041) ((v36).toNatClampNeg) (I50 (1000) 29)) (1000) 24 = I80 (1000) 24 from by simp [u2_v])).trans (hkI80.get (1000) 24 rfl)).trans (show (u2 I50 (1040) ((v36).toNatClampNeg) (I50 (1000) 29)) (1000) 24 = I50 (1000) 24 from by simp [u2_v])).trans (hkI50.get (1000) 24 rfl)).trans (show (u2 (u2 I25 (1038) ((v36).toNatClampNeg) (0)) (1039) ((v36).toNatClampNeg) (I (1000) 29)) (1000) 24 = I25 (1000) 24 from by simp [u2_v])).trans (hkI25.get (1000) 24 rfl)).trans (show (u2 I1 (1000) 25 (v16)) (1000) 24 = I1 (1000) 24 from by simp [u2_v])).trans (hkI1.get (1000) 24 rfl))
            have pw93 : ((u2 I80 (1041) ((v36).toNatClampNeg) (I50 (1000) 29)) (1000) 25).toInt = (I80 (1000) 25 : Int32).toInt := congrArg Int32.toInt ((show (u2 I80 (1041) ((v36).toNatClampNeg) (I50 (1000) 29)) (1000) 25 = I80 (1000) 25 from by simp [u2_v]))
            have pw94 : ((u2 I80 (1041) ((v36).toNatClampNeg) (I50 (1000) 29)) (1000) 26).toInt = (I50 (1000) 26 : Int32).toInt := congrArg Int32.toInt ((((show (u2 I80 (1041) ((v36).toNatClampNeg) (I50 (1000) 29)) (1000) 26 = I80 (1000) 26 from by simp [u2_v])).trans (hkI80.get (1000) 26 rfl)).trans (show (u2 I50 (1040) ((v36).toNatClampNeg) (I50 (1000) 29)) (1000) 26 = I50 (1000) 26 from by simp [u2_v]))
            have pw95 : ((u2 I80 (1041) ((v36).toNatClampNeg) (I50 (1000) 29)) (1000) 27).toInt = (I (1000) 27 : Int32).toInt := congrArg Int32.toInt (((((((((show (u2 I80 (1041) ((v36).toNatClampNeg) (I50 (1000) 29)) (1000) 27 = I80 (1000) 27 from by simp [u2_v])).trans (hkI80.get (1000) 27 rfl)).trans (show (u2 I50 (1040) ((v36).toNatClampNeg) (I50 (1000) 29)) (1000) 27 = I50 (1000) 27 from by simp [u2_v])).trans (hkI50.get (1000) 27 rfl)).trans (show (u2 (u2 I25 (1038) ((v36).toNatClampNeg) (0)) (1039) ((v36).toNatClampNeg) (I (1000) 29)) (1000) 27 = I25 (1000) 27 from by simp [u2_v])).trans (hkI25.get (1000) 27 rfl)).trans (show (u2 I1 (1000) 25 (v16)) (1000) 27 = I1 (1000) 27 from by simp [u2_v])).trans (hkI1.get (1000) 27 rfl))
            have pw96 : ((u2 I80 (1041) ((v36).toNatClampNeg) (I50 (1000) 29)) (1000) 29).toInt = (I50 (1000) 29 : Int32).toInt := congrArg Int32.toInt ((((show (u2 I80 (1041) ((v36).toNatClampNeg) (I50 (1000) 29)) (1000) 29 = I80 (1000) 29 from by simp [u2_v])).trans (hkI80.get (1000) 29 rfl)).trans (show (u2 I50 (1040) ((v36).toNatClampNeg) (I50 (1000) 29)) (1000) 29 = I50 (1000) 29 from by simp [u2_v]))
            have pw97 : ((u2 I80 (1041) ((v36).toNatClampNeg) (I50 (1000) 29)) (1000) 31).toInt = (I50 (1000) 31 : Int32).toInt := congrArg Int32.toInt ((((show (u2 I80 (1041) ((v36).toNatClampNeg) (I50 (1000) 29)) (1000) 31 = I80 (1000) 31 from by simp [u2_v])).trans (hkI80.get (1000) 31 rfl)).trans (show (u2 I50 (1040) ((v36).toNatClampNeg) (I50 (1000) 29)) (1000) 31 = I50 (1000) 31 from by simp [u2_v]))
            have pw98 : ((u2 I80 (1041) ((v36).toNatClampNeg) (I50 (1000) 29)) (1000) 32).toInt = (I (1000) 32 : Int32).toInt := congrArg Int32.toInt (((((((((show (u2 I80 (1041) ((v36).toNatClampNeg) (I50 (1000) 29)) (1000) 32 = I80 (1000) 32 from by simp [u2_v])).trans (hkI80.get (1000) 32 rfl)).trans (show (u2 I50 (1040) ((v36).toNatClampNeg) (I50 (1000) 29)) (1000) 32 = I50 (1000) 32 from by simp [u2_v])).trans (hkI50.get (1000) 32 rfl)).trans (show (u2 (u2 I25 (1038) ((v36).toNatClampNeg) (0)) (1039) ((v36).toNatClampNeg) (I (1000) 29)) (1000) 32 = I25 (1000) 32 from by simp [u2_v])).trans (hkI25.get (1000) 32 rfl)).trans (show (u2 I1 (1000) 25 (v16)) (1000) 32 = I1 (1000) 32 from by simp [u2_v])).trans (hkI1.get (1000) 32 rfl))
            replace hC := CT.link (I2 := (u2 I80 (1041) ((v36).toNatClampNeg) (I50 (1000) 29))) hC ((((show (u2 I80 (1041) ((v36).toNatClampNeg) (I50 (1000) 29)) 1035 = I80 1035 from by funext zz; simp [u2_v])).trans (hkI80.getA 1035 rfl)).trans (show (u2 I50 (1040) ((v36).toNatClampNeg) (I50 (1000) 29)) 1035 = I50 1035 from by funext zz; simp [u2_v])) ((((show (u2 I80 (1041) ((v36).toNatClampNeg) (I50 (1000) 29)) 1036 = I80 1036 from by funext zz; simp [u2_v])).trans (hkI80.getA 1036 rfl)).trans (show (u2 I50 (1040) ((v36).toNatClampNeg) (I50 (1000) 29)) 1036 = I50 1036 from by funext zz; simp [u2_v])) (by omega) (fun hz => by omega)
            have hcz : (v36).toNatClampNeg = 12 * (I 1000 27).toNatClampNeg + (a0).toNatClampNeg := by have z1 := tn (i := v36) (by omega); have z2 := tn (i := I 1000 27) (by omega); have z3 := tn (i := a0) (by omega); omega
            have hz1039 : (u2 I80 (1041) ((v36).toNatClampNeg) (I50 (1000) 29)) 1039 = (u2 (u2 I25 (1038) ((v36).toNatClampNeg) (0)) (1039) ((v36).toNatClampNeg) (I (1000) 29)) 1039 := ((((show (u2 I80 (1041) ((v36).toNatClampNeg) (I50 (1000) 29)) 1039 = I80 1039 from by funext zz; simp [u2_v])).trans (hkI80.getA 1039 rfl)).trans (show (u2 I50 (1040) ((v36).toNatClampNeg) (I50 (1000) 29)) 1039 = I50 1039 from by funext zz; simp [u2_v])).trans (hkI50.getA 1039 rfl)
            have hv1039 : ((u2 I80 (1041) ((v36).toNatClampNeg) (I50 (1000) 29)) 1039 (12 * (I 1000 27).toNatClampNeg + (a0).toNatClampNeg)).toInt = (I (1000) 29 : Int32).toInt := by rw [hz1039, ← hcz, u2_self]
            have ho1039 : ∀ i, i ≠ 12 * (I 1000 27).toNatClampNeg + (a0).toNatClampNeg → (u2 I80 (1041) ((v36).toNatClampNeg) (I50 (1000) 29)) 1039 i = I 1039 i := fun i hi => by rw [hz1039, u2_v, if_neg (by rintro ⟨-, hj⟩; exact hi (hj.trans hcz))]; exact congrFun (((((show (u2 I25 (1038) ((v36).toNatClampNeg) (0)) 1039 = I25 1039 from by funext zz; simp [u2_v])).trans (hkI25.getA 1039 rfl)).trans (show (u2 I1 (1000) 25 (v16)) 1039 = I1 1039 from by funext zz; simp [u2_v])).trans (hkI1.getA 1039 rfl)) i
            have hz1040 : (u2 I80 (1041) ((v36).toNatClampNeg) (I50 (1000) 29)) 1040 = (u2 I50 (1040) ((v36).toNatClampNeg) (I50 (1000) 29)) 1040 := ((show (u2 I80 (1041) ((v36).toNatClampNeg) (I50 (1000) 29)) 1040 = I80 1040 from by funext zz; simp [u2_v])).trans (hkI80.getA 1040 rfl)
            have hv1040 : ((u2 I80 (1041) ((v36).toNatClampNeg) (I50 (1000) 29)) 1040 (12 * (I 1000 27).toNatClampNeg + (a0).toNatClampNeg)).toInt = (I50 (1000) 29 : Int32).toInt := by rw [hz1040, ← hcz, u2_self]
            have ho1040 : ∀ i, i ≠ 12 * (I 1000 27).toNatClampNeg + (a0).toNatClampNeg → (u2 I80 (1041) ((v36).toNatClampNeg) (I50 (1000) 29)) 1040 i = I 1040 i := fun i hi => by rw [hz1040, u2_v, if_neg (by rintro ⟨-, hj⟩; exact hi (hj.trans hcz))]; exact congrFun ((((((hkI50.getA 1040 rfl)).trans (show (u2 (u2 I25 (1038) ((v36).toNatClampNeg) (0)) (1039) ((v36).toNatClampNeg) (I (1000) 29)) 1040 = I25 1040 from by funext zz; simp [u2_v])).trans (hkI25.getA 1040 rfl)).trans (show (u2 I1 (1000) 25 (v16)) 1040 = I1 1040 from by funext zz; simp [u2_v])).trans (hkI1.getA 1040 rfl)) i
            have hz1041 : (u2 I80 (1041) ((v36).toNatClampNeg) (I50 (1000) 29)) 1041 = (u2 I80 (1041) ((v36).toNatClampNeg) (I50 (1000) 29)) 1041 := rfl
            have hv1041 : ((u2 I80 (1041) ((v36).toNatClampNeg) (I50 (1000) 29)) 1041 (12 * (I 1000 27).toNatClampNeg + (a0).toNatClampNeg)).toInt = (I50 (1000) 29 : Int32).toInt := by rw [hz1041, ← hcz, u2_self]
            have ho1041 : ∀ i, i ≠ 12 * (I 1000 27).toNatClampNeg + (a0).toNatClampNeg → (u2 I80 (1041) ((v36).toNatClampNeg) (I50 (1000) 29)) 1041 i = I 1041 i := fun i hi => by rw [hz1041, u2_v, if_neg (by rintro ⟨-, hj⟩; exact hi (hj.trans hcz))]; exact congrFun ((((((((hkI80.getA 1041 rfl)).trans (show (u2 I50 (1040) ((v36).toNatClampNeg) (I50 (1000) 29)) 1041 = I50 1041 from by funext zz; simp [u2_v])).trans (hkI50.getA 1041 rfl)).trans (show (u2 (u2 I25 (1038) ((v36).toNatClampNeg) (0)) (1039) ((v36).toNatClampNeg) (I (1000) 29)) 1041 = I25 1041 from by funext zz; simp [u2_v])).trans (hkI25.getA 1041 rfl)).trans (show (u2 I1 (1000) 25 (v16)) 1041 = I1 1041 from by funext zz; simp [u2_v])).trans (hkI1.getA 1041 rfl)) i
            have hr27 := tn (i := I 1000 27) (by omega)
            have hCL : Imp (((u2 I80 (1041) ((v36).toNatClampNeg) (I50 (1000) 29)) 1000 26).toInt = 0) (CLr (u2 I80 (1041) ((v36).toNatClampNeg) (I50 (1000) 29)) (I 1000 27).toNatClampNeg (12 * (I 1000 27).toNatClampNeg + (a0).toNatClampNeg) ((u2 I80 (1041) ((v36).toNatClampNeg) (I50 (1000) 29)) 1000 29).toInt) := fun hz => by
              skip
              have hq := CLr.mk (A := (u2 (u2 I25 (1038) ((v36).toNatClampNeg) (0)) (1039) ((v36).toNatClampNeg) (I (1000) 29))) (B := I50) (C := I50) (D := I50) (Z := (u2 I80 (1041) ((v36).toNatClampNeg) (I50 (1000) 29))) (r := (I 1000 27).toNatClampNeg) (c := 12 * (I 1000 27).toNatClampNeg + (a0).toNatClampNeg) (xI50.2.2.2.2) (CT.rf I50 0) ⟨rfl, rfl, rfl, by omega⟩ (by omega) ⟨(((show (u2 I80 (1041) ((v36).toNatClampNeg) (I50 (1000) 29)) 1035 = I80 1035 from by funext zz; simp [u2_v])).trans (hkI80.getA 1035 rfl)).trans (show (u2 I50 (1040) ((v36).toNatClampNeg) (I50 (1000) 29)) 1035 = I50 1035 from by funext zz; simp [u2_v]), (((show (u2 I80 (1041) ((v36).toNatClampNeg) (I50 (1000) 29)) 1036 = I80 1036 from by funext zz; simp [u2_v])).trans (hkI80.getA 1036 rfl)).trans (show (u2 I50 (1040) ((v36).toNatClampNeg) (I50 (1000) 29)) 1036 = I50 1036 from by funext zz; simp [u2_v])⟩ (by omega) (by omega) (by omega) (by omega) (by omega)
              rw [show ((u2 I80 (1041) ((v36).toNatClampNeg) (I50 (1000) 29)) 1000 29).toInt = (I50 1000 29).toInt from by omega]
              exact hq
            exact m_vret hx hb hr hlocks hM hS (Nat.le_of_ble_eq_true rfl) (Nat.le_of_ble_eq_true rfl) ⟨_, _, rfl, hI, hK, ⟨by omega, by omega, by omega, (fun hz => by omega), hCL, clx0 hC ho1039 ho1040 ho1041⟩⟩ dX10_clause_141
          · have hc88 := c88
            have q88 := q_ne hc88
            refine lv_aload_n hx hb dX10_clause_127 rfl (lv_at hl 2 rfl) ?_
            refine m_callv (m_runV (1000) (As := []) (rest := []) hx hb hml hown hts hE hM hS hA ce_X10_test tb_1577 (V_X10_test l D A ad ns I80 L81 G hJ hI (by omega) (fun hz => by omega)) rfl rfl ⟨Nat.le_of_ble_eq_true rfl, Nat.le_of_ble_eq_true rfl⟩ hJ.1 rfl rfl (by decide) rfl hl.1 rfl (Nat.le_of_ble_eq_true rfl) dX10_clause_128 ⟨Nat.le_of_ble_eq_true rfl, Nat.le_of_ble_eq_true rfl⟩) hS (fun u H locs hw hM hS => ?_)
            obtain ⟨I99, L100, rfl, hI, hkI99, xI99⟩ := hw
            have hM : Mem D A ad ns I99 L100 G H := hM
            have hK := hK.trans hkI99 rfl
            replace hC := CT.link (I2 := I80) hC (((hkI80.getA 1035 rfl)).trans (show (u2 I50 (1040) ((v36).toNatClampNeg) (I50 (1000) 29)) 1035 = I50 1035 from by funext zz; simp [u2_v])) (((hkI80.getA 1036 rfl)).trans (show (u2 I50 (1040) ((v36).toNatClampNeg) (I50 (1000) 29)) 1036 = I50 1036 from by funext zz; simp [u2_v])) (by omega) (fun hz => by omega)
            have pw101 : (I99 (1000) 24).toInt = (I (1000) 24 : Int32).toInt := congrArg Int32.toInt (((((((((hkI99.get (1000) 24 rfl)).trans (hkI80.get (1000) 24 rfl)).trans (show (u2 I50 (1040) ((v36).toNatClampNeg) (I50 (1000) 29)) (1000) 24 = I50 (1000) 24 from by simp [u2_v])).trans (hkI50.get (1000) 24 rfl)).trans (show (u2 (u2 I25 (1038) ((v36).toNatClampNeg) (0)) (1039) ((v36).toNatClampNeg) (I (1000) 29)) (1000) 24 = I25 (1000) 24 from by simp [u2_v])).trans (hkI25.get (1000) 24 rfl)).trans (show (u2 I1 (1000) 25 (v16)) (1000) 24 = I1 (1000) 24 from by simp [u2_v])).trans (hkI1.get (1000) 24 rfl))
            have pw102 : (I99 (1000) 27).toInt = (I (1000) 27 : Int32).toInt := congrArg Int32.toInt (((((((((hkI99.get (1000) 27 rfl)).trans (hkI80.get (1000) 27 rfl)).trans (show (u2 I50 (1040) ((v36).toNatClampNeg) (I50 (1000) 29)) (1000) 27 = I50 (1000) 27 from by simp [u2_v])).trans (hkI50.get (1000) 27 rfl)).trans (show (u2 (u2 I25 (1038) ((v36).toNatClampNeg) (0)) (1039) ((v36).toNatClampNeg) (I (1000) 29)) (1000) 27 = I25 (1000) 27 from by simp [u2_v])).trans (hkI25.get (1000) 27 rfl)).trans (show (u2 I1 (1000) 25 (v16)) (1000) 27 = I1 (1000) 27 from by simp [u2_v])).trans (hkI1.get (1000) 27 rfl))
            obtain ⟨dT, hCT⟩ := xI99.2.2.2.2
            replace hC := hC.comp (hCT.mono0 (1 + (0))) (by omega) (by omega) (by omega) (by omega) (fun hz => (xI99.2.2.2.1 hz).1)
            refine lv_aload_n hx hb dX10_clause_131 rfl (lv_at hl 2 rfl) ?_
            refine m_getr (1000) 41 (1041) hx hb hts hown hE oc10 hM hJ.1 rfl (by decide) rfl (hJ.2 41 (by decide)).2 (by decide) tb_1218 dX10_clause_132 ?_
            refine lv_iload_n hx hb dX10_clause_135 rfl (lv_at hl 0 rfl) ?_
            refine lv_aload_n hx hb dX10_clause_136 rfl (lv_at hl 2 rfl) ?_
            refine m_geti (1000) 29 hx hb hts hown hE oc10 hM hJ.1 rfl (by decide) rfl tb_1206 dX10_clause_137 ?_
            have g103 := hI.get (1000) 29 (lo := 0) (hi := 300) rfl
            refine m_iast (1041) hx hb hE hM hS (hJ.2 41 (by decide)).1 rfl (vp_in_iff.mpr (by omega)) dX10_clause_140 (fun H locs I104 eI104 hM hS => ?_)
            subst eI104
            have hI := hI.put (n := 1041) (k := ((v36).toNatClampNeg)) (v := I99 (1000) 29) (lo := 0) (hi := 300) rfl (by first | omega | decide)
            have hK := hK.put (n := 1041) (k := ((v36).toNatClampNeg)) (v := I99 (1000) 29) (by first | rfl | simp [inR])
            have pw105 : ((u2 I99 (1041) ((v36).toNatClampNeg) (I99 (1000) 29)) (1000) 24).toInt = (I (1000) 24 : Int32).toInt := congrArg Int32.toInt ((((((((((show (u2 I99 (1041) ((v36).toNatClampNeg) (I99 (1000) 29)) (1000) 24 = I99 (1000) 24 from by simp [u2_v])).trans (hkI99.get (1000) 24 rfl)).trans (hkI80.get (1000) 24 rfl)).trans (show (u2 I50 (1040) ((v36).toNatClampNeg) (I50 (1000) 29)) (1000) 24 = I50 (1000) 24 from by simp [u2_v])).trans (hkI50.get (1000) 24 rfl)).trans (show (u2 (u2 I25 (1038) ((v36).toNatClampNeg) (0)) (1039) ((v36).toNatClampNeg) (I (1000) 29)) (1000) 24 = I25 (1000) 24 from by simp [u2_v])).trans (hkI25.get (1000) 24 rfl)).trans (show (u2 I1 (1000) 25 (v16)) (1000) 24 = I1 (1000) 24 from by simp [u2_v])).trans (hkI1.get (1000) 24 rfl))
            have pw106 : ((u2 I99 (1041) ((v36).toNatClampNeg) (I99 (1000) 29)) (1000) 25).toInt = (I99 (1000) 25 : Int32).toInt := congrArg Int32.toInt ((show (u2 I99 (1041) ((v36).toNatClampNeg) (I99 (1000) 29)) (1000) 25 = I99 (1000) 25 from by simp [u2_v]))
            have pw107 : ((u2 I99 (1041) ((v36).toNatClampNeg) (I99 (1000) 29)) (1000) 26).toInt = (I99 (1000) 26 : Int32).toInt := congrArg Int32.toInt ((show (u2 I99 (1041) ((v36).toNatClampNeg) (I99 (1000) 29)) (1000) 26 = I99 (1000) 26 from by simp [u2_v]))
            have pw108 : ((u2 I99 (1041) ((v36).toNatClampNeg) (I99 (1000) 29)) (1000) 27).toInt = (I (1000) 27 : Int32).toInt := congrArg Int32.toInt ((((((((((show (u2 I99 (1041) ((v36).toNatClampNeg) (I99 (1000) 29)) (1000) 27 = I99 (1000) 27 from by simp [u2_v])).trans (hkI99.get (1000) 27 rfl)).trans (hkI80.get (1000) 27 rfl)).trans (show (u2 I50 (1040) ((v36).toNatClampNeg) (I50 (1000) 29)) (1000) 27 = I50 (1000) 27 from by simp [u2_v])).trans (hkI50.get (1000) 27 rfl)).trans (show (u2 (u2 I25 (1038) ((v36).toNatClampNeg) (0)) (1039) ((v36).toNatClampNeg) (I (1000) 29)) (1000) 27 = I25 (1000) 27 from by simp [u2_v])).trans (hkI25.get (1000) 27 rfl)).trans (show (u2 I1 (1000) 25 (v16)) (1000) 27 = I1 (1000) 27 from by simp [u2_v])).trans (hkI1.get (1000) 27 rfl))
            have pw109 : ((u2 I99 (1041) ((v36).toNatClampNeg) (I99 (1000) 29)) (1000) 29).toInt = (I99 (1000) 29 : Int32).toInt := congrArg Int32.toInt ((show (u2 I99 (1041) ((v36).toNatClampNeg) (I99 (1000) 29)) (1000) 29 = I99 (1000) 29 from by simp [u2_v]))
            have pw110 : ((u2 I99 (1041) ((v36).toNatClampNeg) (I99 (1000) 29)) (1000) 31).toInt = (I99 (1000) 31 : Int32).toInt := congrArg Int32.toInt ((show (u2 I99 (1041) ((v36).toNatClampNeg) (I99 (1000) 29)) (1000) 31 = I99 (1000) 31 from by simp [u2_v]))
            have pw111 : ((u2 I99 (1041) ((v36).toNatClampNeg) (I99 (1000) 29)) (1000) 32).toInt = (I99 (1000) 32 : Int32).toInt := congrArg Int32.toInt ((show (u2 I99 (1041) ((v36).toNatClampNeg) (I99 (1000) 29)) (1000) 32 = I99 (1000) 32 from by simp [u2_v]))
            replace hC := CT.link (I2 := (u2 I99 (1041) ((v36).toNatClampNeg) (I99 (1000) 29))) hC ((show (u2 I99 (1041) ((v36).toNatClampNeg) (I99 (1000) 29)) 1035 = I99 1035 from by funext zz; simp [u2_v])) ((show (u2 I99 (1041) ((v36).toNatClampNeg) (I99 (1000) 29)) 1036 = I99 1036 from by funext zz; simp [u2_v])) (by omega) (fun hz => by have w0 := xI99.2.2.2.1 (by omega); omega)
            have hcz : (v36).toNatClampNeg = 12 * (I 1000 27).toNatClampNeg + (a0).toNatClampNeg := by have z1 := tn (i := v36) (by omega); have z2 := tn (i := I 1000 27) (by omega); have z3 := tn (i := a0) (by omega); omega
            have hz1039 : (u2 I99 (1041) ((v36).toNatClampNeg) (I99 (1000) 29)) 1039 = (u2 (u2 I25 (1038) ((v36).toNatClampNeg) (0)) (1039) ((v36).toNatClampNeg) (I (1000) 29)) 1039 := (((((show (u2 I99 (1041) ((v36).toNatClampNeg) (I99 (1000) 29)) 1039 = I99 1039 from by funext zz; simp [u2_v])).trans (hkI99.getA 1039 rfl)).trans (hkI80.getA 1039 rfl)).trans (show (u2 I50 (1040) ((v36).toNatClampNeg) (I50 (1000) 29)) 1039 = I50 1039 from by funext zz; simp [u2_v])).trans (hkI50.getA 1039 rfl)
            have hv1039 : ((u2 I99 (1041) ((v36).toNatClampNeg) (I99 (1000) 29)) 1039 (12 * (I 1000 27).toNatClampNeg + (a0).toNatClampNeg)).toInt = (I (1000) 29 : Int32).toInt := by rw [hz1039, ← hcz, u2_self]
            have ho1039 : ∀ i, i ≠ 12 * (I 1000 27).toNatClampNeg + (a0).toNatClampNeg → (u2 I99 (1041) ((v36).toNatClampNeg) (I99 (1000) 29)) 1039 i = I 1039 i := fun i hi => by rw [hz1039, u2_v, if_neg (by rintro ⟨-, hj⟩; exact hi (hj.trans hcz))]; exact congrFun (((((show (u2 I25 (1038) ((v36).toNatClampNeg) (0)) 1039 = I25 1039 from by funext zz; simp [u2_v])).trans (hkI25.getA 1039 rfl)).trans (show (u2 I1 (1000) 25 (v16)) 1039 = I1 1039 from by funext zz; simp [u2_v])).trans (hkI1.getA 1039 rfl)) i
            have hz1040 : (u2 I99 (1041) ((v36).toNatClampNeg) (I99 (1000) 29)) 1040 = (u2 I50 (1040) ((v36).toNatClampNeg) (I50 (1000) 29)) 1040 := (((show (u2 I99 (1041) ((v36).toNatClampNeg) (I99 (1000) 29)) 1040 = I99 1040 from by funext zz; simp [u2_v])).trans (hkI99.getA 1040 rfl)).trans (hkI80.getA 1040 rfl)
            have hv1040 : ((u2 I99 (1041) ((v36).toNatClampNeg) (I99 (1000) 29)) 1040 (12 * (I 1000 27).toNatClampNeg + (a0).toNatClampNeg)).toInt = (I50 (1000) 29 : Int32).toInt := by rw [hz1040, ← hcz, u2_self]
            have ho1040 : ∀ i, i ≠ 12 * (I 1000 27).toNatClampNeg + (a0).toNatClampNeg → (u2 I99 (1041) ((v36).toNatClampNeg) (I99 (1000) 29)) 1040 i = I 1040 i := fun i hi => by rw [hz1040, u2_v, if_neg (by rintro ⟨-, hj⟩; exact hi (hj.trans hcz))]; exact congrFun ((((((hkI50.getA 1040 rfl)).trans (show (u2 (u2 I25 (1038) ((v36).toNatClampNeg) (0)) (1039) ((v36).toNatClampNeg) (I (1000) 29)) 1040 = I25 1040 from by funext zz; simp [u2_v])).trans (hkI25.getA 1040 rfl)).trans (show (u2 I1 (1000) 25 (v16)) 1040 = I1 1040 from by funext zz; simp [u2_v])).trans (hkI1.getA 1040 rfl)) i
            have hz1041 : (u2 I99 (1041) ((v36).toNatClampNeg) (I99 (1000) 29)) 1041 = (u2 I99 (1041) ((v36).toNatClampNeg) (I99 (1000) 29)) 1041 := rfl
            have hv1041 : ((u2 I99 (1041) ((v36).toNatClampNeg) (I99 (1000) 29)) 1041 (12 * (I 1000 27).toNatClampNeg + (a0).toNatClampNeg)).toInt = (I99 (1000) 29 : Int32).toInt := by rw [hz1041, ← hcz, u2_self]
            have ho1041 : ∀ i, i ≠ 12 * (I 1000 27).toNatClampNeg + (a0).toNatClampNeg → (u2 I99 (1041) ((v36).toNatClampNeg) (I99 (1000) 29)) 1041 i = I 1041 i := fun i hi => by rw [hz1041, u2_v, if_neg (by rintro ⟨-, hj⟩; exact hi (hj.trans hcz))]; exact congrFun (((((((((hkI99.getA 1041 rfl)).trans (hkI80.getA 1041 rfl)).trans (show (u2 I50 (1040) ((v36).toNatClampNeg) (I50 (1000) 29)) 1041 = I50 1041 from by funext zz; simp [u2_v])).trans (hkI50.getA 1041 rfl)).trans (show (u2 (u2 I25 (1038) ((v36).toNatClampNeg) (0)) (1039) ((v36).toNatClampNeg) (I (1000) 29)) 1041 = I25 1041 from by funext zz; simp [u2_v])).trans (hkI25.getA 1041 rfl)).trans (show (u2 I1 (1000) 25 (v16)) 1041 = I1 1041 from by funext zz; simp [u2_v])).trans (hkI1.getA 1041 rfl)) i
            have hr27 := tn (i := I 1000 27) (by omega)
            have hCL : Imp (((u2 I99 (1041) ((v36).toNatClampNeg) (I99 (1000) 29)) 1000 26).toInt = 0) (CLr (u2 I99 (1041) ((v36).toNatClampNeg) (I99 (1000) 29)) (I 1000 27).toNatClampNeg (12 * (I 1000 27).toNatClampNeg + (a0).toNatClampNeg) ((u2 I99 (1041) ((v36).toNatClampNeg) (I99 (1000) 29)) 1000 29).toInt) := fun hz => by
              have w0 := xI99.2.2.2.1 (by omega); skip
              have hq := CLr.mk (A := (u2 (u2 I25 (1038) ((v36).toNatClampNeg) (0)) (1039) ((v36).toNatClampNeg) (I (1000) 29))) (B := I50) (C := I80) (D := I99) (Z := (u2 I99 (1041) ((v36).toNatClampNeg) (I99 (1000) 29))) (r := (I 1000 27).toNatClampNeg) (c := 12 * (I 1000 27).toNatClampNeg + (a0).toNatClampNeg) (xI50.2.2.2.2) hCT ⟨((hkI80.getA 1035 rfl)).trans (show (u2 I50 (1040) ((v36).toNatClampNeg) (I50 (1000) 29)) 1035 = I50 1035 from by funext zz; simp [u2_v]), ((hkI80.getA 1036 rfl)).trans (show (u2 I50 (1040) ((v36).toNatClampNeg) (I50 (1000) 29)) 1036 = I50 1036 from by funext zz; simp [u2_v]), by omega, by omega⟩ (by omega) ⟨(show (u2 I99 (1041) ((v36).toNatClampNeg) (I99 (1000) 29)) 1035 = I99 1035 from by funext zz; simp [u2_v]), (show (u2 I99 (1041) ((v36).toNatClampNeg) (I99 (1000) 29)) 1036 = I99 1036 from by funext zz; simp [u2_v])⟩ (by omega) (by omega) (by omega) (by omega) (by omega)
              rw [show ((u2 I99 (1041) ((v36).toNatClampNeg) (I99 (1000) 29)) 1000 29).toInt = (I99 1000 29).toInt from by omega]
              exact hq
            exact m_vret hx hb hr hlocks hM hS (Nat.le_of_ble_eq_true rfl) (Nat.le_of_ble_eq_true rfl) ⟨_, _, rfl, hI, hK, ⟨by omega, by omega, by omega, (fun hz => by have w0 := xI99.2.2.2.1 (by omega); omega), hCL, clx0 hC ho1039 ho1040 ho1041⟩⟩ dX10_clause_141
      · have hc38 := c38
        have q38 := q_eq hc38
        have w112 := hPI (by omega)
        refine lv_aload_n hx hb dX10_clause_75 rfl (lv_at hl 2 rfl) ?_
        refine lv_bipush (v := (23)) hx hb dX10_clause_76 (by decide) ?_
        refine m_calli (m_runV (1000) (As := [.int (23)]) (rest := [.int (v36), .ref (ad (1038))]) hx hb hml hown hts hE hM hS hA ce_X10_digits tb_1525 (V_X10_digits l D A ad ns I25 L26 G (23) hJ hI (by omega)) rfl rfl ⟨Nat.le_of_ble_eq_true rfl, Nat.le_of_ble_eq_true rfl⟩ hJ.1 rfl rfl (by decide) rfl hl.1 rfl (Nat.le_of_ble_eq_true rfl) dX10_clause_78 ⟨Nat.le_of_ble_eq_true rfl, Nat.le_of_ble_eq_true rfl⟩) hS (fun r113 u H locs hw hM hS => ?_)
        obtain ⟨I114, L115, rfl, hI, hkI114, xr113⟩ := hw
        have hM : Mem D A ad ns I114 L115 G H := hM
        have hK := hK.trans hkI114 rfl
        have pw116 : (I114 (1000) 24).toInt = (I (1000) 24 : Int32).toInt := congrArg Int32.toInt (((((hkI114.get (1000) 24 rfl)).trans (hkI25.get (1000) 24 rfl)).trans (show (u2 I1 (1000) 25 (v16)) (1000) 24 = I1 (1000) 24 from by simp [u2_v])).trans (hkI1.get (1000) 24 rfl))
        have pw117 : (I114 (1000) 27).toInt = (I (1000) 27 : Int32).toInt := congrArg Int32.toInt (((((hkI114.get (1000) 27 rfl)).trans (hkI25.get (1000) 27 rfl)).trans (show (u2 I1 (1000) 25 (v16)) (1000) 27 = I1 (1000) 27 from by simp [u2_v])).trans (hkI1.get (1000) 27 rfl))
        have pw118 : (I114 (1000) 29).toInt = (I (1000) 29 : Int32).toInt := congrArg Int32.toInt (((((hkI114.get (1000) 29 rfl)).trans (hkI25.get (1000) 29 rfl)).trans (show (u2 I1 (1000) 25 (v16)) (1000) 29 = I1 (1000) 29 from by simp [u2_v])).trans (hkI1.get (1000) 29 rfl))
        have pw119 : (I114 (1000) 31).toInt = (I (1000) 31 : Int32).toInt := congrArg Int32.toInt (((((hkI114.get (1000) 31 rfl)).trans (hkI25.get (1000) 31 rfl)).trans (show (u2 I1 (1000) 25 (v16)) (1000) 31 = I1 (1000) 31 from by simp [u2_v])).trans (hkI1.get (1000) 31 rfl))
        have pw120 : (I114 (1000) 32).toInt = (I (1000) 32 : Int32).toInt := congrArg Int32.toInt (((((hkI114.get (1000) 32 rfl)).trans (hkI25.get (1000) 32 rfl)).trans (show (u2 I1 (1000) 25 (v16)) (1000) 32 = I1 (1000) 32 from by simp [u2_v])).trans (hkI1.get (1000) 32 rfl))
        refine lv_goto (tgt := 85) hx hb dX10_clause_81 (by decide) ?_
        refine m_iast (1038) hx hb hE hM hS (hJ.2 38 (by decide)).1 rfl (vp_in_iff.mpr (by omega)) dX10_clause_85 (fun H locs I121 eI121 hM hS => ?_)
        subst eI121
        have hI := hI.putF (n := 1038) (k := ((v36).toNatClampNeg)) (v := r113) rfl
        have hK := hK.put (n := 1038) (k := ((v36).toNatClampNeg)) (v := r113) (by first | rfl | simp [inR])
        refine lv_aload_n hx hb dX10_clause_86 rfl (lv_at hl 2 rfl) ?_
        refine m_getr (1000) 39 (1039) hx hb hts hown hE oc10 hM hJ.1 rfl (by decide) rfl (hJ.2 39 (by decide)).2 (by decide) tb_1216 dX10_clause_87 ?_
        refine lv_iload_n hx hb dX10_clause_90 rfl (lv_at hl 0 rfl) ?_
        refine lv_aload_n hx hb dX10_clause_91 rfl (lv_at hl 2 rfl) ?_
        refine m_geti (1000) 29 hx hb hts hown hE oc10 hM hJ.1 rfl (by decide) rfl tb_1206 dX10_clause_92 ?_
        have g122 := hI.get (1000) 29 (lo := 0) (hi := 300) rfl
        have z123 : (u2 I114 (1038) ((v36).toNatClampNeg) (r113)) (1000) 29 = I (1000) 29 := (((((show (u2 I114 (1038) ((v36).toNatClampNeg) (r113)) (1000) 29 = I114 (1000) 29 from by simp [u2_v])).trans (hkI114.get (1000) 29 rfl)).trans (hkI25.get (1000) 29 rfl)).trans (show (u2 I1 (1000) 25 (v16)) (1000) 29 = I1 (1000) 29 from by simp [u2_v])).trans (hkI1.get (1000) 29 rfl)
        rw [z123] at g122 ⊢
        refine m_iast (1039) hx hb hE hM hS (hJ.2 39 (by decide)).1 rfl (vp_in_iff.mpr (by omega)) dX10_clause_95 (fun H locs I124 eI124 hM hS => ?_)
        subst eI124
        have hI := hI.put (n := 1039) (k := ((v36).toNatClampNeg)) (v := I (1000) 29) (lo := 0) (hi := 300) rfl (by first | omega | decide)
        have hK := hK.put (n := 1039) (k := ((v36).toNatClampNeg)) (v := I (1000) 29) (by first | rfl | simp [inR])
        refine lv_aload_n hx hb dX10_clause_96 rfl (lv_at hl 2 rfl) ?_
        have pw125 : ((u2 (u2 I114 (1038) ((v36).toNatClampNeg) (r113)) (1039) ((v36).toNatClampNeg) (I (1000) 29)) (1000) 24).toInt = (I (1000) 24 : Int32).toInt := congrArg Int32.toInt ((((((show (u2 (u2 I114 (1038) ((v36).toNatClampNeg) (r113)) (1039) ((v36).toNatClampNeg) (I (1000) 29)) (1000) 24 = I114 (1000) 24 from by simp [u2_v])).trans (hkI114.get (1000) 24 rfl)).trans (hkI25.get (1000) 24 rfl)).trans (show (u2 I1 (1000) 25 (v16)) (1000) 24 = I1 (1000) 24 from by simp [u2_v])).trans (hkI1.get (1000) 24 rfl))
        have pw126 : ((u2 (u2 I114 (1038) ((v36).toNatClampNeg) (r113)) (1039) ((v36).toNatClampNeg) (I (1000) 29)) (1000) 25).toInt = (I114 (1000) 25 : Int32).toInt := congrArg Int32.toInt ((show (u2 (u2 I114 (1038) ((v36).toNatClampNeg) (r113)) (1039) ((v36).toNatClampNeg) (I (1000) 29)) (1000) 25 = I114 (1000) 25 from by simp [u2_v]))
        have pw127 : ((u2 (u2 I114 (1038) ((v36).toNatClampNeg) (r113)) (1039) ((v36).toNatClampNeg) (I (1000) 29)) (1000) 26).toInt = (I114 (1000) 26 : Int32).toInt := congrArg Int32.toInt ((show (u2 (u2 I114 (1038) ((v36).toNatClampNeg) (r113)) (1039) ((v36).toNatClampNeg) (I (1000) 29)) (1000) 26 = I114 (1000) 26 from by simp [u2_v]))
        have pw128 : ((u2 (u2 I114 (1038) ((v36).toNatClampNeg) (r113)) (1039) ((v36).toNatClampNeg) (I (1000) 29)) (1000) 27).toInt = (I (1000) 27 : Int32).toInt := congrArg Int32.toInt ((((((show (u2 (u2 I114 (1038) ((v36).toNatClampNeg) (r113)) (1039) ((v36).toNatClampNeg) (I (1000) 29)) (1000) 27 = I114 (1000) 27 from by simp [u2_v])).trans (hkI114.get (1000) 27 rfl)).trans (hkI25.get (1000) 27 rfl)).trans (show (u2 I1 (1000) 25 (v16)) (1000) 27 = I1 (1000) 27 from by simp [u2_v])).trans (hkI1.get (1000) 27 rfl))
        have pw129 : ((u2 (u2 I114 (1038) ((v36).toNatClampNeg) (r113)) (1039) ((v36).toNatClampNeg) (I (1000) 29)) (1000) 29).toInt = (I (1000) 29 : Int32).toInt := congrArg Int32.toInt ((((((show (u2 (u2 I114 (1038) ((v36).toNatClampNeg) (r113)) (1039) ((v36).toNatClampNeg) (I (1000) 29)) (1000) 29 = I114 (1000) 29 from by simp [u2_v])).trans (hkI114.get (1000) 29 rfl)).trans (hkI25.get (1000) 29 rfl)).trans (show (u2 I1 (1000) 25 (v16)) (1000) 29 = I1 (1000) 29 from by simp [u2_v])).trans (hkI1.get (1000) 29 rfl))
        have pw130 : ((u2 (u2 I114 (1038) ((v36).toNatClampNeg) (r113)) (1039) ((v36).toNatClampNeg) (I (1000) 29)) (1000) 31).toInt = (I (1000) 31 : Int32).toInt := congrArg Int32.toInt ((((((show (u2 (u2 I114 (1038) ((v36).toNatClampNeg) (r113)) (1039) ((v36).toNatClampNeg) (I (1000) 29)) (1000) 31 = I114 (1000) 31 from by simp [u2_v])).trans (hkI114.get (1000) 31 rfl)).trans (hkI25.get (1000) 31 rfl)).trans (show (u2 I1 (1000) 25 (v16)) (1000) 31 = I1 (1000) 31 from by simp [u2_v])).trans (hkI1.get (1000) 31 rfl))
        have pw131 : ((u2 (u2 I114 (1038) ((v36).toNatClampNeg) (r113)) (1039) ((v36).toNatClampNeg) (I (1000) 29)) (1000) 32).toInt = (I (1000) 32 : Int32).toInt := congrArg Int32.toInt ((((((show (u2 (u2 I114 (1038) ((v36).toNatClampNeg) (r113)) (1039) ((v36).toNatClampNeg) (I (1000) 29)) (1000) 32 = I114 (1000) 32 from by simp [u2_v])).trans (hkI114.get (1000) 32 rfl)).trans (hkI25.get (1000) 32 rfl)).trans (show (u2 I1 (1000) 25 (v16)) (1000) 32 = I1 (1000) 32 from by simp [u2_v])).trans (hkI1.get (1000) 32 rfl))
        refine m_callv (m_runV (1000) (As := []) (rest := []) hx hb hml hown hts hE hM hS hA ce_X10_sum tb_1535 (V_X10_sum l D A ad ns (u2 (u2 I114 (1038) ((v36).toNatClampNeg) (r113)) (1039) ((v36).toNatClampNeg) (I (1000) 29)) L115 G hJ hI (by omega) (fun hz => by have w0 := xr113.2.2 (by omega); omega)) rfl rfl ⟨Nat.le_of_ble_eq_true rfl, Nat.le_of_ble_eq_true rfl⟩ hJ.1 rfl rfl (by decide) rfl hl.1 rfl (Nat.le_of_ble_eq_true rfl) dX10_clause_97 ⟨Nat.le_of_ble_eq_true rfl, Nat.le_of_ble_eq_true rfl⟩) hS (fun u H locs hw hM hS => ?_)
        obtain ⟨I132, L133, rfl, hI, hkI132, xI132⟩ := hw
        have hM : Mem D A ad ns I132 L133 G H := hM
        have hK := hK.trans hkI132 rfl
        replace hC := CT.link (I2 := (u2 (u2 I114 (1038) ((v36).toNatClampNeg) (r113)) (1039) ((v36).toNatClampNeg) (I (1000) 29))) hC ((((((show (u2 (u2 I114 (1038) ((v36).toNatClampNeg) (r113)) (1039) ((v36).toNatClampNeg) (I (1000) 29)) 1035 = I114 1035 from by funext zz; simp [u2_v])).trans (hkI114.getA 1035 rfl)).trans (hkI25.getA 1035 rfl)).trans (show (u2 I1 (1000) 25 (v16)) 1035 = I1 1035 from by funext zz; simp [u2_v])).trans (hkI1.getA 1035 rfl)) ((((((show (u2 (u2 I114 (1038) ((v36).toNatClampNeg) (r113)) (1039) ((v36).toNatClampNeg) (I (1000) 29)) 1036 = I114 1036 from by funext zz; simp [u2_v])).trans (hkI114.getA 1036 rfl)).trans (hkI25.getA 1036 rfl)).trans (show (u2 I1 (1000) 25 (v16)) 1036 = I1 1036 from by funext zz; simp [u2_v])).trans (hkI1.getA 1036 rfl)) (by omega) (fun hz => by have w0 := xr113.2.2 (by omega); omega)
        have pw134 : (I132 (1000) 24).toInt = (I (1000) 24 : Int32).toInt := congrArg Int32.toInt (((((((hkI132.get (1000) 24 rfl)).trans (show (u2 (u2 I114 (1038) ((v36).toNatClampNeg) (r113)) (1039) ((v36).toNatClampNeg) (I (1000) 29)) (1000) 24 = I114 (1000) 24 from by simp [u2_v])).trans (hkI114.get (1000) 24 rfl)).trans (hkI25.get (1000) 24 rfl)).trans (show (u2 I1 (1000) 25 (v16)) (1000) 24 = I1 (1000) 24 from by simp [u2_v])).trans (hkI1.get (1000) 24 rfl))
        have pw135 : (I132 (1000) 27).toInt = (I (1000) 27 : Int32).toInt := congrArg Int32.toInt (((((((hkI132.get (1000) 27 rfl)).trans (show (u2 (u2 I114 (1038) ((v36).toNatClampNeg) (r113)) (1039) ((v36).toNatClampNeg) (I (1000) 29)) (1000) 27 = I114 (1000) 27 from by simp [u2_v])).trans (hkI114.get (1000) 27 rfl)).trans (hkI25.get (1000) 27 rfl)).trans (show (u2 I1 (1000) 25 (v16)) (1000) 27 = I1 (1000) 27 from by simp [u2_v])).trans (hkI1.get (1000) 27 rfl))
        have pw136 : (I132 (1000) 32).toInt = (I (1000) 32 : Int32).toInt := congrArg Int32.toInt (((((((hkI132.get (1000) 32 rfl)).trans (show (u2 (u2 I114 (1038) ((v36).toNatClampNeg) (r113)) (1039) ((v36).toNatClampNeg) (I (1000) 29)) (1000) 32 = I114 (1000) 32 from by simp [u2_v])).trans (hkI114.get (1000) 32 rfl)).trans (hkI25.get (1000) 32 rfl)).trans (show (u2 I1 (1000) 25 (v16)) (1000) 32 = I1 (1000) 32 from by simp [u2_v])).trans (hkI1.get (1000) 32 rfl))
        have g137 := hI0.get 1000 27 (lo := 0) (hi := 5) rfl
        have g138 := hI0.get 1000 29 (lo := 0) (hi := 300) rfl
        replace hC := hC.comp ((xI132.2.2.2.2).mono0 (0)) (by omega) (by omega) (by omega) (by omega) (fun hz => (xI132.2.2.2.1 hz).1)
        refine lv_aload_n hx hb dX10_clause_100 rfl (lv_at hl 2 rfl) ?_
        refine m_getr (1000) 40 (1040) hx hb hts hown hE oc10 hM hJ.1 rfl (by decide) rfl (hJ.2 40 (by decide)).2 (by decide) tb_1217 dX10_clause_101 ?_
        refine lv_iload_n hx hb dX10_clause_104 rfl (lv_at hl 0 rfl) ?_
        refine lv_aload_n hx hb dX10_clause_105 rfl (lv_at hl 2 rfl) ?_
        refine m_geti (1000) 29 hx hb hts hown hE oc10 hM hJ.1 rfl (by decide) rfl tb_1206 dX10_clause_106 ?_
        have g139 := hI.get (1000) 29 (lo := 0) (hi := 300) rfl
        refine m_iast (1040) hx hb hE hM hS (hJ.2 40 (by decide)).1 rfl (vp_in_iff.mpr (by omega)) dX10_clause_109 (fun H locs I140 eI140 hM hS => ?_)
        subst eI140
        have hI := hI.put (n := 1040) (k := ((v36).toNatClampNeg)) (v := I132 (1000) 29) (lo := 0) (hi := 300) rfl (by first | omega | decide)
        have hK := hK.put (n := 1040) (k := ((v36).toNatClampNeg)) (v := I132 (1000) 29) (by first | rfl | simp [inR])
        refine lv_aload_n hx hb dX10_clause_110 rfl (lv_at hl 2 rfl) ?_
        refine m_geti (1000) 26 hx hb hts hown hE oc10 hM hJ.1 rfl (by decide) rfl tb_1203 dX10_clause_111 ?_
        have z141 : (u2 I132 (1040) ((v36).toNatClampNeg) (I132 (1000) 29)) (1000) 26 = I132 (1000) 26 := (show (u2 I132 (1040) ((v36).toNatClampNeg) (I132 (1000) 29)) (1000) 26 = I132 (1000) 26 from by simp [u2_v])
        rw [z141]
        refine lv_if_ne (tgt := 131) hx hb dX10_clause_114 (by decide) (fun c142 => ?_) (fun c142 => ?_)
        · have hc142 := c142
          have q142 := q_ne hc142
          refine lv_aload_n hx hb dX10_clause_131 rfl (lv_at hl 2 rfl) ?_
          refine m_getr (1000) 41 (1041) hx hb hts hown hE oc10 hM hJ.1 rfl (by decide) rfl (hJ.2 41 (by decide)).2 (by decide) tb_1218 dX10_clause_132 ?_
          refine lv_iload_n hx hb dX10_clause_135 rfl (lv_at hl 0 rfl) ?_
          refine lv_aload_n hx hb dX10_clause_136 rfl (lv_at hl 2 rfl) ?_
          refine m_geti (1000) 29 hx hb hts hown hE oc10 hM hJ.1 rfl (by decide) rfl tb_1206 dX10_clause_137 ?_
          have z143 : (u2 I132 (1040) ((v36).toNatClampNeg) (I132 (1000) 29)) (1000) 29 = I132 (1000) 29 := (show (u2 I132 (1040) ((v36).toNatClampNeg) (I132 (1000) 29)) (1000) 29 = I132 (1000) 29 from by simp [u2_v])
          rw [z143]
          refine m_iast (1041) hx hb hE hM hS (hJ.2 41 (by decide)).1 rfl (vp_in_iff.mpr (by omega)) dX10_clause_140 (fun H locs I144 eI144 hM hS => ?_)
          subst eI144
          have hI := hI.put (n := 1041) (k := ((v36).toNatClampNeg)) (v := I132 (1000) 29) (lo := 0) (hi := 300) rfl (by first | omega | decide)
          have hK := hK.put (n := 1041) (k := ((v36).toNatClampNeg)) (v := I132 (1000) 29) (by first | rfl | simp [inR])
          have pw145 : ((u2 (u2 I132 (1040) ((v36).toNatClampNeg) (I132 (1000) 29)) (1041) ((v36).toNatClampNeg) (I132 (1000) 29)) (1000) 24).toInt = (I (1000) 24 : Int32).toInt := congrArg Int32.toInt ((((((((show (u2 (u2 I132 (1040) ((v36).toNatClampNeg) (I132 (1000) 29)) (1041) ((v36).toNatClampNeg) (I132 (1000) 29)) (1000) 24 = I132 (1000) 24 from by simp [u2_v])).trans (hkI132.get (1000) 24 rfl)).trans (show (u2 (u2 I114 (1038) ((v36).toNatClampNeg) (r113)) (1039) ((v36).toNatClampNeg) (I (1000) 29)) (1000) 24 = I114 (1000) 24 from by simp [u2_v])).trans (hkI114.get (1000) 24 rfl)).trans (hkI25.get (1000) 24 rfl)).trans (show (u2 I1 (1000) 25 (v16)) (1000) 24 = I1 (1000) 24 from by simp [u2_v])).trans (hkI1.get (1000) 24 rfl))
          have pw146 : ((u2 (u2 I132 (1040) ((v36).toNatClampNeg) (I132 (1000) 29)) (1041) ((v36).toNatClampNeg) (I132 (1000) 29)) (1000) 25).toInt = (I132 (1000) 25 : Int32).toInt := congrArg Int32.toInt ((show (u2 (u2 I132 (1040) ((v36).toNatClampNeg) (I132 (1000) 29)) (1041) ((v36).toNatClampNeg) (I132 (1000) 29)) (1000) 25 = I132 (1000) 25 from by simp [u2_v]))
          have pw147 : ((u2 (u2 I132 (1040) ((v36).toNatClampNeg) (I132 (1000) 29)) (1041) ((v36).toNatClampNeg) (I132 (1000) 29)) (1000) 26).toInt = (I132 (1000) 26 : Int32).toInt := congrArg Int32.toInt ((show (u2 (u2 I132 (1040) ((v36).toNatClampNeg) (I132 (1000) 29)) (1041) ((v36).toNatClampNeg) (I132 (1000) 29)) (1000) 26 = I132 (1000) 26 from by simp [u2_v]))
          have pw148 : ((u2 (u2 I132 (1040) ((v36).toNatClampNeg) (I132 (1000) 29)) (1041) ((v36).toNatClampNeg) (I132 (1000) 29)) (1000) 27).toInt = (I (1000) 27 : Int32).toInt := congrArg Int32.toInt ((((((((show (u2 (u2 I132 (1040) ((v36).toNatClampNeg) (I132 (1000) 29)) (1041) ((v36).toNatClampNeg) (I132 (1000) 29)) (1000) 27 = I132 (1000) 27 from by simp [u2_v])).trans (hkI132.get (1000) 27 rfl)).trans (show (u2 (u2 I114 (1038) ((v36).toNatClampNeg) (r113)) (1039) ((v36).toNatClampNeg) (I (1000) 29)) (1000) 27 = I114 (1000) 27 from by simp [u2_v])).trans (hkI114.get (1000) 27 rfl)).trans (hkI25.get (1000) 27 rfl)).trans (show (u2 I1 (1000) 25 (v16)) (1000) 27 = I1 (1000) 27 from by simp [u2_v])).trans (hkI1.get (1000) 27 rfl))
          have pw149 : ((u2 (u2 I132 (1040) ((v36).toNatClampNeg) (I132 (1000) 29)) (1041) ((v36).toNatClampNeg) (I132 (1000) 29)) (1000) 29).toInt = (I132 (1000) 29 : Int32).toInt := congrArg Int32.toInt ((show (u2 (u2 I132 (1040) ((v36).toNatClampNeg) (I132 (1000) 29)) (1041) ((v36).toNatClampNeg) (I132 (1000) 29)) (1000) 29 = I132 (1000) 29 from by simp [u2_v]))
          have pw150 : ((u2 (u2 I132 (1040) ((v36).toNatClampNeg) (I132 (1000) 29)) (1041) ((v36).toNatClampNeg) (I132 (1000) 29)) (1000) 31).toInt = (I132 (1000) 31 : Int32).toInt := congrArg Int32.toInt ((show (u2 (u2 I132 (1040) ((v36).toNatClampNeg) (I132 (1000) 29)) (1041) ((v36).toNatClampNeg) (I132 (1000) 29)) (1000) 31 = I132 (1000) 31 from by simp [u2_v]))
          have pw151 : ((u2 (u2 I132 (1040) ((v36).toNatClampNeg) (I132 (1000) 29)) (1041) ((v36).toNatClampNeg) (I132 (1000) 29)) (1000) 32).toInt = (I (1000) 32 : Int32).toInt := congrArg Int32.toInt ((((((((show (u2 (u2 I132 (1040) ((v36).toNatClampNeg) (I132 (1000) 29)) (1041) ((v36).toNatClampNeg) (I132 (1000) 29)) (1000) 32 = I132 (1000) 32 from by simp [u2_v])).trans (hkI132.get (1000) 32 rfl)).trans (show (u2 (u2 I114 (1038) ((v36).toNatClampNeg) (r113)) (1039) ((v36).toNatClampNeg) (I (1000) 29)) (1000) 32 = I114 (1000) 32 from by simp [u2_v])).trans (hkI114.get (1000) 32 rfl)).trans (hkI25.get (1000) 32 rfl)).trans (show (u2 I1 (1000) 25 (v16)) (1000) 32 = I1 (1000) 32 from by simp [u2_v])).trans (hkI1.get (1000) 32 rfl))
          replace hC := CT.link (I2 := (u2 (u2 I132 (1040) ((v36).toNatClampNeg) (I132 (1000) 29)) (1041) ((v36).toNatClampNeg) (I132 (1000) 29))) hC ((show (u2 (u2 I132 (1040) ((v36).toNatClampNeg) (I132 (1000) 29)) (1041) ((v36).toNatClampNeg) (I132 (1000) 29)) 1035 = I132 1035 from by funext zz; simp [u2_v])) ((show (u2 (u2 I132 (1040) ((v36).toNatClampNeg) (I132 (1000) 29)) (1041) ((v36).toNatClampNeg) (I132 (1000) 29)) 1036 = I132 1036 from by funext zz; simp [u2_v])) (by omega) (fun hz => by have w0 := xI132.2.2.2.1 (by omega); have w1 := xr113.2.2 (by omega); omega)
          have hcz : (v36).toNatClampNeg = 12 * (I 1000 27).toNatClampNeg + (a0).toNatClampNeg := by have z1 := tn (i := v36) (by omega); have z2 := tn (i := I 1000 27) (by omega); have z3 := tn (i := a0) (by omega); omega
          have hz1039 : (u2 (u2 I132 (1040) ((v36).toNatClampNeg) (I132 (1000) 29)) (1041) ((v36).toNatClampNeg) (I132 (1000) 29)) 1039 = (u2 (u2 I114 (1038) ((v36).toNatClampNeg) (r113)) (1039) ((v36).toNatClampNeg) (I (1000) 29)) 1039 := ((show (u2 (u2 I132 (1040) ((v36).toNatClampNeg) (I132 (1000) 29)) (1041) ((v36).toNatClampNeg) (I132 (1000) 29)) 1039 = I132 1039 from by funext zz; simp [u2_v])).trans (hkI132.getA 1039 rfl)
          have hv1039 : ((u2 (u2 I132 (1040) ((v36).toNatClampNeg) (I132 (1000) 29)) (1041) ((v36).toNatClampNeg) (I132 (1000) 29)) 1039 (12 * (I 1000 27).toNatClampNeg + (a0).toNatClampNeg)).toInt = (I (1000) 29 : Int32).toInt := by rw [hz1039, ← hcz, u2_self]
          have ho1039 : ∀ i, i ≠ 12 * (I 1000 27).toNatClampNeg + (a0).toNatClampNeg → (u2 (u2 I132 (1040) ((v36).toNatClampNeg) (I132 (1000) 29)) (1041) ((v36).toNatClampNeg) (I132 (1000) 29)) 1039 i = I 1039 i := fun i hi => by rw [hz1039, u2_v, if_neg (by rintro ⟨-, hj⟩; exact hi (hj.trans hcz))]; exact congrFun ((((((show (u2 I114 (1038) ((v36).toNatClampNeg) (r113)) 1039 = I114 1039 from by funext zz; simp [u2_v])).trans (hkI114.getA 1039 rfl)).trans (hkI25.getA 1039 rfl)).trans (show (u2 I1 (1000) 25 (v16)) 1039 = I1 1039 from by funext zz; simp [u2_v])).trans (hkI1.getA 1039 rfl)) i
          have hz1040 : (u2 (u2 I132 (1040) ((v36).toNatClampNeg) (I132 (1000) 29)) (1041) ((v36).toNatClampNeg) (I132 (1000) 29)) 1040 = (u2 I132 (1040) ((v36).toNatClampNeg) (I132 (1000) 29)) 1040 := (show (u2 (u2 I132 (1040) ((v36).toNatClampNeg) (I132 (1000) 29)) (1041) ((v36).toNatClampNeg) (I132 (1000) 29)) 1040 = (u2 I132 (1040) ((v36).toNatClampNeg) (I132 (1000) 29)) 1040 from by funext zz; simp [u2_v])
          have hv1040 : ((u2 (u2 I132 (1040) ((v36).toNatClampNeg) (I132 (1000) 29)) (1041) ((v36).toNatClampNeg) (I132 (1000) 29)) 1040 (12 * (I 1000 27).toNatClampNeg + (a0).toNatClampNeg)).toInt = (I132 (1000) 29 : Int32).toInt := by rw [hz1040, ← hcz, u2_self]
          have ho1040 : ∀ i, i ≠ 12 * (I 1000 27).toNatClampNeg + (a0).toNatClampNeg → (u2 (u2 I132 (1040) ((v36).toNatClampNeg) (I132 (1000) 29)) (1041) ((v36).toNatClampNeg) (I132 (1000) 29)) 1040 i = I 1040 i := fun i hi => by rw [hz1040, u2_v, if_neg (by rintro ⟨-, hj⟩; exact hi (hj.trans hcz))]; exact congrFun (((((((hkI132.getA 1040 rfl)).trans (show (u2 (u2 I114 (1038) ((v36).toNatClampNeg) (r113)) (1039) ((v36).toNatClampNeg) (I (1000) 29)) 1040 = I114 1040 from by funext zz; simp [u2_v])).trans (hkI114.getA 1040 rfl)).trans (hkI25.getA 1040 rfl)).trans (show (u2 I1 (1000) 25 (v16)) 1040 = I1 1040 from by funext zz; simp [u2_v])).trans (hkI1.getA 1040 rfl)) i
          have hz1041 : (u2 (u2 I132 (1040) ((v36).toNatClampNeg) (I132 (1000) 29)) (1041) ((v36).toNatClampNeg) (I132 (1000) 29)) 1041 = (u2 (u2 I132 (1040) ((v36).toNatClampNeg) (I132 (1000) 29)) (1041) ((v36).toNatClampNeg) (I132 (1000) 29)) 1041 := rfl
          have hv1041 : ((u2 (u2 I132 (1040) ((v36).toNatClampNeg) (I132 (1000) 29)) (1041) ((v36).toNatClampNeg) (I132 (1000) 29)) 1041 (12 * (I 1000 27).toNatClampNeg + (a0).toNatClampNeg)).toInt = (I132 (1000) 29 : Int32).toInt := by rw [hz1041, ← hcz, u2_self]
          have ho1041 : ∀ i, i ≠ 12 * (I 1000 27).toNatClampNeg + (a0).toNatClampNeg → (u2 (u2 I132 (1040) ((v36).toNatClampNeg) (I132 (1000) 29)) (1041) ((v36).toNatClampNeg) (I132 (1000) 29)) 1041 i = I 1041 i := fun i hi => by rw [hz1041, u2_v, if_neg (by rintro ⟨-, hj⟩; exact hi (hj.trans hcz))]; exact congrFun ((((((((show (u2 I132 (1040) ((v36).toNatClampNeg) (I132 (1000) 29)) 1041 = I132 1041 from by funext zz; simp [u2_v])).trans (hkI132.getA 1041 rfl)).trans (show (u2 (u2 I114 (1038) ((v36).toNatClampNeg) (r113)) (1039) ((v36).toNatClampNeg) (I (1000) 29)) 1041 = I114 1041 from by funext zz; simp [u2_v])).trans (hkI114.getA 1041 rfl)).trans (hkI25.getA 1041 rfl)).trans (show (u2 I1 (1000) 25 (v16)) 1041 = I1 1041 from by funext zz; simp [u2_v])).trans (hkI1.getA 1041 rfl)) i
          have hr27 := tn (i := I 1000 27) (by omega)
          have hCL : Imp (((u2 (u2 I132 (1040) ((v36).toNatClampNeg) (I132 (1000) 29)) (1041) ((v36).toNatClampNeg) (I132 (1000) 29)) 1000 26).toInt = 0) (CLr (u2 (u2 I132 (1040) ((v36).toNatClampNeg) (I132 (1000) 29)) (1041) ((v36).toNatClampNeg) (I132 (1000) 29)) (I 1000 27).toNatClampNeg (12 * (I 1000 27).toNatClampNeg + (a0).toNatClampNeg) ((u2 (u2 I132 (1040) ((v36).toNatClampNeg) (I132 (1000) 29)) (1041) ((v36).toNatClampNeg) (I132 (1000) 29)) 1000 29).toInt) := fun hz => by
            have w0 := xI132.2.2.2.1 (by omega); have w1 := xr113.2.2 (by omega); skip
            have hq := CLr.mk (A := (u2 (u2 I114 (1038) ((v36).toNatClampNeg) (r113)) (1039) ((v36).toNatClampNeg) (I (1000) 29))) (B := I132) (C := I132) (D := I132) (Z := (u2 (u2 I132 (1040) ((v36).toNatClampNeg) (I132 (1000) 29)) (1041) ((v36).toNatClampNeg) (I132 (1000) 29))) (r := (I 1000 27).toNatClampNeg) (c := 12 * (I 1000 27).toNatClampNeg + (a0).toNatClampNeg) (xI132.2.2.2.2) (CT.rf I132 0) ⟨rfl, rfl, rfl, by omega⟩ (by omega) ⟨(show (u2 (u2 I132 (1040) ((v36).toNatClampNeg) (I132 (1000) 29)) (1041) ((v36).toNatClampNeg) (I132 (1000) 29)) 1035 = I132 1035 from by funext zz; simp [u2_v]), (show (u2 (u2 I132 (1040) ((v36).toNatClampNeg) (I132 (1000) 29)) (1041) ((v36).toNatClampNeg) (I132 (1000) 29)) 1036 = I132 1036 from by funext zz; simp [u2_v])⟩ (by omega) (by omega) (by omega) (by omega) (by omega)
            rw [show ((u2 (u2 I132 (1040) ((v36).toNatClampNeg) (I132 (1000) 29)) (1041) ((v36).toNatClampNeg) (I132 (1000) 29)) 1000 29).toInt = (I132 1000 29).toInt from by omega]
            exact hq
          exact m_vret hx hb hr hlocks hM hS (Nat.le_of_ble_eq_true rfl) (Nat.le_of_ble_eq_true rfl) ⟨_, _, rfl, hI, hK, ⟨by omega, by omega, by omega, (fun hz => by have w0 := xI132.2.2.2.1 (by omega); have w1 := xr113.2.2 (by omega); omega), hCL, clx0 hC ho1039 ho1040 ho1041⟩⟩ dX10_clause_141
        · have hc142 := c142
          have q142 := q_eq hc142
          have w152 := xI132.2.2.2.1 (by omega)
          have w153 := xr113.2.2 (by omega)
          refine lv_aload_n hx hb dX10_clause_117 rfl (lv_at hl 2 rfl) ?_
          refine m_ldcwS hx hb hown (EV.str hE 24 rfl).1 dX10_clause_118 ?_
          have pw154 : ((u2 I132 (1040) ((v36).toNatClampNeg) (I132 (1000) 29)) (1000) 24).toInt = (I (1000) 24 : Int32).toInt := congrArg Int32.toInt ((((((((show (u2 I132 (1040) ((v36).toNatClampNeg) (I132 (1000) 29)) (1000) 24 = I132 (1000) 24 from by simp [u2_v])).trans (hkI132.get (1000) 24 rfl)).trans (show (u2 (u2 I114 (1038) ((v36).toNatClampNeg) (r113)) (1039) ((v36).toNatClampNeg) (I (1000) 29)) (1000) 24 = I114 (1000) 24 from by simp [u2_v])).trans (hkI114.get (1000) 24 rfl)).trans (hkI25.get (1000) 24 rfl)).trans (show (u2 I1 (1000) 25 (v16)) (1000) 24 = I1 (1000) 24 from by simp [u2_v])).trans (hkI1.get (1000) 24 rfl))
          have pw155 : ((u2 I132 (1040) ((v36).toNatClampNeg) (I132 (1000) 29)) (1000) 25).toInt = (I132 (1000) 25 : Int32).toInt := congrArg Int32.toInt ((show (u2 I132 (1040) ((v36).toNatClampNeg) (I132 (1000) 29)) (1000) 25 = I132 (1000) 25 from by simp [u2_v]))
          have pw156 : ((u2 I132 (1040) ((v36).toNatClampNeg) (I132 (1000) 29)) (1000) 26).toInt = (I132 (1000) 26 : Int32).toInt := congrArg Int32.toInt ((show (u2 I132 (1040) ((v36).toNatClampNeg) (I132 (1000) 29)) (1000) 26 = I132 (1000) 26 from by simp [u2_v]))
          have pw157 : ((u2 I132 (1040) ((v36).toNatClampNeg) (I132 (1000) 29)) (1000) 27).toInt = (I (1000) 27 : Int32).toInt := congrArg Int32.toInt ((((((((show (u2 I132 (1040) ((v36).toNatClampNeg) (I132 (1000) 29)) (1000) 27 = I132 (1000) 27 from by simp [u2_v])).trans (hkI132.get (1000) 27 rfl)).trans (show (u2 (u2 I114 (1038) ((v36).toNatClampNeg) (r113)) (1039) ((v36).toNatClampNeg) (I (1000) 29)) (1000) 27 = I114 (1000) 27 from by simp [u2_v])).trans (hkI114.get (1000) 27 rfl)).trans (hkI25.get (1000) 27 rfl)).trans (show (u2 I1 (1000) 25 (v16)) (1000) 27 = I1 (1000) 27 from by simp [u2_v])).trans (hkI1.get (1000) 27 rfl))
          have pw158 : ((u2 I132 (1040) ((v36).toNatClampNeg) (I132 (1000) 29)) (1000) 29).toInt = (I132 (1000) 29 : Int32).toInt := congrArg Int32.toInt ((show (u2 I132 (1040) ((v36).toNatClampNeg) (I132 (1000) 29)) (1000) 29 = I132 (1000) 29 from by simp [u2_v]))
          have pw159 : ((u2 I132 (1040) ((v36).toNatClampNeg) (I132 (1000) 29)) (1000) 31).toInt = (I132 (1000) 31 : Int32).toInt := congrArg Int32.toInt ((show (u2 I132 (1040) ((v36).toNatClampNeg) (I132 (1000) 29)) (1000) 31 = I132 (1000) 31 from by simp [u2_v]))
          have pw160 : ((u2 I132 (1040) ((v36).toNatClampNeg) (I132 (1000) 29)) (1000) 32).toInt = (I (1000) 32 : Int32).toInt := congrArg Int32.toInt ((((((((show (u2 I132 (1040) ((v36).toNatClampNeg) (I132 (1000) 29)) (1000) 32 = I132 (1000) 32 from by simp [u2_v])).trans (hkI132.get (1000) 32 rfl)).trans (show (u2 (u2 I114 (1038) ((v36).toNatClampNeg) (r113)) (1039) ((v36).toNatClampNeg) (I (1000) 29)) (1000) 32 = I114 (1000) 32 from by simp [u2_v])).trans (hkI114.get (1000) 32 rfl)).trans (hkI25.get (1000) 32 rfl)).trans (show (u2 I1 (1000) 25 (v16)) (1000) 32 = I1 (1000) 32 from by simp [u2_v])).trans (hkI1.get (1000) 32 rfl))
          refine m_calli (m_runV (1000) (As := [.ref (D.2 100 24)]) (rest := []) hx hb hml hown hts hE hM hS hA ce_X10_takes tb_1573 (V_X10_takes l D A ad ns (u2 I132 (1040) ((v36).toNatClampNeg) (I132 (1000) 29)) L133 G 24 _ hJ hI rfl (by decide) (by decide) (by omega)) rfl rfl ⟨Nat.le_of_ble_eq_true rfl, Nat.le_of_ble_eq_true rfl⟩ hJ.1 rfl rfl (by decide) rfl hl.1 rfl (Nat.le_of_ble_eq_true rfl) dX10_clause_121 ⟨Nat.le_of_ble_eq_true rfl, Nat.le_of_ble_eq_true rfl⟩) hS (fun r161 u H locs hw hM hS => ?_)
          obtain ⟨I162, L163, rfl, hI, hkI162, xr161⟩ := hw
          have hM : Mem D A ad ns I162 L163 G H := hM
          have hK := hK.trans hkI162 rfl
          have pw164 : (I162 (1000) 24).toInt = (I (1000) 24 : Int32).toInt := congrArg Int32.toInt (((((((((hkI162.get (1000) 24 rfl)).trans (show (u2 I132 (1040) ((v36).toNatClampNeg) (I132 (1000) 29)) (1000) 24 = I132 (1000) 24 from by simp [u2_v])).trans (hkI132.get (1000) 24 rfl)).trans (show (u2 (u2 I114 (1038) ((v36).toNatClampNeg) (r113)) (1039) ((v36).toNatClampNeg) (I (1000) 29)) (1000) 24 = I114 (1000) 24 from by simp [u2_v])).trans (hkI114.get (1000) 24 rfl)).trans (hkI25.get (1000) 24 rfl)).trans (show (u2 I1 (1000) 25 (v16)) (1000) 24 = I1 (1000) 24 from by simp [u2_v])).trans (hkI1.get (1000) 24 rfl))
          have pw165 : (I162 (1000) 26).toInt = (I132 (1000) 26 : Int32).toInt := congrArg Int32.toInt (((hkI162.get (1000) 26 rfl)).trans (show (u2 I132 (1040) ((v36).toNatClampNeg) (I132 (1000) 29)) (1000) 26 = I132 (1000) 26 from by simp [u2_v]))
          have pw166 : (I162 (1000) 27).toInt = (I (1000) 27 : Int32).toInt := congrArg Int32.toInt (((((((((hkI162.get (1000) 27 rfl)).trans (show (u2 I132 (1040) ((v36).toNatClampNeg) (I132 (1000) 29)) (1000) 27 = I132 (1000) 27 from by simp [u2_v])).trans (hkI132.get (1000) 27 rfl)).trans (show (u2 (u2 I114 (1038) ((v36).toNatClampNeg) (r113)) (1039) ((v36).toNatClampNeg) (I (1000) 29)) (1000) 27 = I114 (1000) 27 from by simp [u2_v])).trans (hkI114.get (1000) 27 rfl)).trans (hkI25.get (1000) 27 rfl)).trans (show (u2 I1 (1000) 25 (v16)) (1000) 27 = I1 (1000) 27 from by simp [u2_v])).trans (hkI1.get (1000) 27 rfl))
          have pw167 : (I162 (1000) 29).toInt = (I132 (1000) 29 : Int32).toInt := congrArg Int32.toInt (((hkI162.get (1000) 29 rfl)).trans (show (u2 I132 (1040) ((v36).toNatClampNeg) (I132 (1000) 29)) (1000) 29 = I132 (1000) 29 from by simp [u2_v]))
          have pw168 : (I162 (1000) 31).toInt = (I132 (1000) 31 : Int32).toInt := congrArg Int32.toInt (((hkI162.get (1000) 31 rfl)).trans (show (u2 I132 (1040) ((v36).toNatClampNeg) (I132 (1000) 29)) (1000) 31 = I132 (1000) 31 from by simp [u2_v]))
          have pw169 : (I162 (1000) 32).toInt = (I (1000) 32 : Int32).toInt := congrArg Int32.toInt (((((((((hkI162.get (1000) 32 rfl)).trans (show (u2 I132 (1040) ((v36).toNatClampNeg) (I132 (1000) 29)) (1000) 32 = I132 (1000) 32 from by simp [u2_v])).trans (hkI132.get (1000) 32 rfl)).trans (show (u2 (u2 I114 (1038) ((v36).toNatClampNeg) (r113)) (1039) ((v36).toNatClampNeg) (I (1000) 29)) (1000) 32 = I114 (1000) 32 from by simp [u2_v])).trans (hkI114.get (1000) 32 rfl)).trans (hkI25.get (1000) 32 rfl)).trans (show (u2 I1 (1000) 25 (v16)) (1000) 32 = I1 (1000) 32 from by simp [u2_v])).trans (hkI1.get (1000) 32 rfl))
          refine lv_if_eq (tgt := 131) hx hb dX10_clause_124 (by decide) (fun c170 => ?_) (fun c170 => ?_)
          · have hc170 := c170
            have q170 := q_eq hc170
            refine lv_aload_n hx hb dX10_clause_131 rfl (lv_at hl 2 rfl) ?_
            refine m_getr (1000) 41 (1041) hx hb hts hown hE oc10 hM hJ.1 rfl (by decide) rfl (hJ.2 41 (by decide)).2 (by decide) tb_1218 dX10_clause_132 ?_
            refine lv_iload_n hx hb dX10_clause_135 rfl (lv_at hl 0 rfl) ?_
            refine lv_aload_n hx hb dX10_clause_136 rfl (lv_at hl 2 rfl) ?_
            refine m_geti (1000) 29 hx hb hts hown hE oc10 hM hJ.1 rfl (by decide) rfl tb_1206 dX10_clause_137 ?_
            have g171 := hI.get (1000) 29 (lo := 0) (hi := 300) rfl
            have z172 : I162 (1000) 29 = I132 (1000) 29 := ((hkI162.get (1000) 29 rfl)).trans (show (u2 I132 (1040) ((v36).toNatClampNeg) (I132 (1000) 29)) (1000) 29 = I132 (1000) 29 from by simp [u2_v])
            rw [z172] at g171 ⊢
            refine m_iast (1041) hx hb hE hM hS (hJ.2 41 (by decide)).1 rfl (vp_in_iff.mpr (by omega)) dX10_clause_140 (fun H locs I173 eI173 hM hS => ?_)
            subst eI173
            have hI := hI.put (n := 1041) (k := ((v36).toNatClampNeg)) (v := I132 (1000) 29) (lo := 0) (hi := 300) rfl (by first | omega | decide)
            have hK := hK.put (n := 1041) (k := ((v36).toNatClampNeg)) (v := I132 (1000) 29) (by first | rfl | simp [inR])
            have pw174 : ((u2 I162 (1041) ((v36).toNatClampNeg) (I132 (1000) 29)) (1000) 24).toInt = (I (1000) 24 : Int32).toInt := congrArg Int32.toInt ((((((((((show (u2 I162 (1041) ((v36).toNatClampNeg) (I132 (1000) 29)) (1000) 24 = I162 (1000) 24 from by simp [u2_v])).trans (hkI162.get (1000) 24 rfl)).trans (show (u2 I132 (1040) ((v36).toNatClampNeg) (I132 (1000) 29)) (1000) 24 = I132 (1000) 24 from by simp [u2_v])).trans (hkI132.get (1000) 24 rfl)).trans (show (u2 (u2 I114 (1038) ((v36).toNatClampNeg) (r113)) (1039) ((v36).toNatClampNeg) (I (1000) 29)) (1000) 24 = I114 (1000) 24 from by simp [u2_v])).trans (hkI114.get (1000) 24 rfl)).trans (hkI25.get (1000) 24 rfl)).trans (show (u2 I1 (1000) 25 (v16)) (1000) 24 = I1 (1000) 24 from by simp [u2_v])).trans (hkI1.get (1000) 24 rfl))
            have pw175 : ((u2 I162 (1041) ((v36).toNatClampNeg) (I132 (1000) 29)) (1000) 25).toInt = (I162 (1000) 25 : Int32).toInt := congrArg Int32.toInt ((show (u2 I162 (1041) ((v36).toNatClampNeg) (I132 (1000) 29)) (1000) 25 = I162 (1000) 25 from by simp [u2_v]))
            have pw176 : ((u2 I162 (1041) ((v36).toNatClampNeg) (I132 (1000) 29)) (1000) 26).toInt = (I132 (1000) 26 : Int32).toInt := congrArg Int32.toInt ((((show (u2 I162 (1041) ((v36).toNatClampNeg) (I132 (1000) 29)) (1000) 26 = I162 (1000) 26 from by simp [u2_v])).trans (hkI162.get (1000) 26 rfl)).trans (show (u2 I132 (1040) ((v36).toNatClampNeg) (I132 (1000) 29)) (1000) 26 = I132 (1000) 26 from by simp [u2_v]))
            have pw177 : ((u2 I162 (1041) ((v36).toNatClampNeg) (I132 (1000) 29)) (1000) 27).toInt = (I (1000) 27 : Int32).toInt := congrArg Int32.toInt ((((((((((show (u2 I162 (1041) ((v36).toNatClampNeg) (I132 (1000) 29)) (1000) 27 = I162 (1000) 27 from by simp [u2_v])).trans (hkI162.get (1000) 27 rfl)).trans (show (u2 I132 (1040) ((v36).toNatClampNeg) (I132 (1000) 29)) (1000) 27 = I132 (1000) 27 from by simp [u2_v])).trans (hkI132.get (1000) 27 rfl)).trans (show (u2 (u2 I114 (1038) ((v36).toNatClampNeg) (r113)) (1039) ((v36).toNatClampNeg) (I (1000) 29)) (1000) 27 = I114 (1000) 27 from by simp [u2_v])).trans (hkI114.get (1000) 27 rfl)).trans (hkI25.get (1000) 27 rfl)).trans (show (u2 I1 (1000) 25 (v16)) (1000) 27 = I1 (1000) 27 from by simp [u2_v])).trans (hkI1.get (1000) 27 rfl))
            have pw178 : ((u2 I162 (1041) ((v36).toNatClampNeg) (I132 (1000) 29)) (1000) 29).toInt = (I132 (1000) 29 : Int32).toInt := congrArg Int32.toInt ((((show (u2 I162 (1041) ((v36).toNatClampNeg) (I132 (1000) 29)) (1000) 29 = I162 (1000) 29 from by simp [u2_v])).trans (hkI162.get (1000) 29 rfl)).trans (show (u2 I132 (1040) ((v36).toNatClampNeg) (I132 (1000) 29)) (1000) 29 = I132 (1000) 29 from by simp [u2_v]))
            have pw179 : ((u2 I162 (1041) ((v36).toNatClampNeg) (I132 (1000) 29)) (1000) 31).toInt = (I132 (1000) 31 : Int32).toInt := congrArg Int32.toInt ((((show (u2 I162 (1041) ((v36).toNatClampNeg) (I132 (1000) 29)) (1000) 31 = I162 (1000) 31 from by simp [u2_v])).trans (hkI162.get (1000) 31 rfl)).trans (show (u2 I132 (1040) ((v36).toNatClampNeg) (I132 (1000) 29)) (1000) 31 = I132 (1000) 31 from by simp [u2_v]))
            have pw180 : ((u2 I162 (1041) ((v36).toNatClampNeg) (I132 (1000) 29)) (1000) 32).toInt = (I (1000) 32 : Int32).toInt := congrArg Int32.toInt ((((((((((show (u2 I162 (1041) ((v36).toNatClampNeg) (I132 (1000) 29)) (1000) 32 = I162 (1000) 32 from by simp [u2_v])).trans (hkI162.get (1000) 32 rfl)).trans (show (u2 I132 (1040) ((v36).toNatClampNeg) (I132 (1000) 29)) (1000) 32 = I132 (1000) 32 from by simp [u2_v])).trans (hkI132.get (1000) 32 rfl)).trans (show (u2 (u2 I114 (1038) ((v36).toNatClampNeg) (r113)) (1039) ((v36).toNatClampNeg) (I (1000) 29)) (1000) 32 = I114 (1000) 32 from by simp [u2_v])).trans (hkI114.get (1000) 32 rfl)).trans (hkI25.get (1000) 32 rfl)).trans (show (u2 I1 (1000) 25 (v16)) (1000) 32 = I1 (1000) 32 from by simp [u2_v])).trans (hkI1.get (1000) 32 rfl))
            replace hC := CT.link (I2 := (u2 I162 (1041) ((v36).toNatClampNeg) (I132 (1000) 29))) hC ((((show (u2 I162 (1041) ((v36).toNatClampNeg) (I132 (1000) 29)) 1035 = I162 1035 from by funext zz; simp [u2_v])).trans (hkI162.getA 1035 rfl)).trans (show (u2 I132 (1040) ((v36).toNatClampNeg) (I132 (1000) 29)) 1035 = I132 1035 from by funext zz; simp [u2_v])) ((((show (u2 I162 (1041) ((v36).toNatClampNeg) (I132 (1000) 29)) 1036 = I162 1036 from by funext zz; simp [u2_v])).trans (hkI162.getA 1036 rfl)).trans (show (u2 I132 (1040) ((v36).toNatClampNeg) (I132 (1000) 29)) 1036 = I132 1036 from by funext zz; simp [u2_v])) (by omega) (fun hz => by omega)
            have hcz : (v36).toNatClampNeg = 12 * (I 1000 27).toNatClampNeg + (a0).toNatClampNeg := by have z1 := tn (i := v36) (by omega); have z2 := tn (i := I 1000 27) (by omega); have z3 := tn (i := a0) (by omega); omega
            have hz1039 : (u2 I162 (1041) ((v36).toNatClampNeg) (I132 (1000) 29)) 1039 = (u2 (u2 I114 (1038) ((v36).toNatClampNeg) (r113)) (1039) ((v36).toNatClampNeg) (I (1000) 29)) 1039 := ((((show (u2 I162 (1041) ((v36).toNatClampNeg) (I132 (1000) 29)) 1039 = I162 1039 from by funext zz; simp [u2_v])).trans (hkI162.getA 1039 rfl)).trans (show (u2 I132 (1040) ((v36).toNatClampNeg) (I132 (1000) 29)) 1039 = I132 1039 from by funext zz; simp [u2_v])).trans (hkI132.getA 1039 rfl)
            have hv1039 : ((u2 I162 (1041) ((v36).toNatClampNeg) (I132 (1000) 29)) 1039 (12 * (I 1000 27).toNatClampNeg + (a0).toNatClampNeg)).toInt = (I (1000) 29 : Int32).toInt := by rw [hz1039, ← hcz, u2_self]
            have ho1039 : ∀ i, i ≠ 12 * (I 1000 27).toNatClampNeg + (a0).toNatClampNeg → (u2 I162 (1041) ((v36).toNatClampNeg) (I132 (1000) 29)) 1039 i = I 1039 i := fun i hi => by rw [hz1039, u2_v, if_neg (by rintro ⟨-, hj⟩; exact hi (hj.trans hcz))]; exact congrFun ((((((show (u2 I114 (1038) ((v36).toNatClampNeg) (r113)) 1039 = I114 1039 from by funext zz; simp [u2_v])).trans (hkI114.getA 1039 rfl)).trans (hkI25.getA 1039 rfl)).trans (show (u2 I1 (1000) 25 (v16)) 1039 = I1 1039 from by funext zz; simp [u2_v])).trans (hkI1.getA 1039 rfl)) i
            have hz1040 : (u2 I162 (1041) ((v36).toNatClampNeg) (I132 (1000) 29)) 1040 = (u2 I132 (1040) ((v36).toNatClampNeg) (I132 (1000) 29)) 1040 := ((show (u2 I162 (1041) ((v36).toNatClampNeg) (I132 (1000) 29)) 1040 = I162 1040 from by funext zz; simp [u2_v])).trans (hkI162.getA 1040 rfl)
            have hv1040 : ((u2 I162 (1041) ((v36).toNatClampNeg) (I132 (1000) 29)) 1040 (12 * (I 1000 27).toNatClampNeg + (a0).toNatClampNeg)).toInt = (I132 (1000) 29 : Int32).toInt := by rw [hz1040, ← hcz, u2_self]
            have ho1040 : ∀ i, i ≠ 12 * (I 1000 27).toNatClampNeg + (a0).toNatClampNeg → (u2 I162 (1041) ((v36).toNatClampNeg) (I132 (1000) 29)) 1040 i = I 1040 i := fun i hi => by rw [hz1040, u2_v, if_neg (by rintro ⟨-, hj⟩; exact hi (hj.trans hcz))]; exact congrFun (((((((hkI132.getA 1040 rfl)).trans (show (u2 (u2 I114 (1038) ((v36).toNatClampNeg) (r113)) (1039) ((v36).toNatClampNeg) (I (1000) 29)) 1040 = I114 1040 from by funext zz; simp [u2_v])).trans (hkI114.getA 1040 rfl)).trans (hkI25.getA 1040 rfl)).trans (show (u2 I1 (1000) 25 (v16)) 1040 = I1 1040 from by funext zz; simp [u2_v])).trans (hkI1.getA 1040 rfl)) i
            have hz1041 : (u2 I162 (1041) ((v36).toNatClampNeg) (I132 (1000) 29)) 1041 = (u2 I162 (1041) ((v36).toNatClampNeg) (I132 (1000) 29)) 1041 := rfl
            have hv1041 : ((u2 I162 (1041) ((v36).toNatClampNeg) (I132 (1000) 29)) 1041 (12 * (I 1000 27).toNatClampNeg + (a0).toNatClampNeg)).toInt = (I132 (1000) 29 : Int32).toInt := by rw [hz1041, ← hcz, u2_self]
            have ho1041 : ∀ i, i ≠ 12 * (I 1000 27).toNatClampNeg + (a0).toNatClampNeg → (u2 I162 (1041) ((v36).toNatClampNeg) (I132 (1000) 29)) 1041 i = I 1041 i := fun i hi => by rw [hz1041, u2_v, if_neg (by rintro ⟨-, hj⟩; exact hi (hj.trans hcz))]; exact congrFun (((((((((hkI162.getA 1041 rfl)).trans (show (u2 I132 (1040) ((v36).toNatClampNeg) (I132 (1000) 29)) 1041 = I132 1041 from by funext zz; simp [u2_v])).trans (hkI132.getA 1041 rfl)).trans (show (u2 (u2 I114 (1038) ((v36).toNatClampNeg) (r113)) (1039) ((v36).toNatClampNeg) (I (1000) 29)) 1041 = I114 1041 from by funext zz; simp [u2_v])).trans (hkI114.getA 1041 rfl)).trans (hkI25.getA 1041 rfl)).trans (show (u2 I1 (1000) 25 (v16)) 1041 = I1 1041 from by funext zz; simp [u2_v])).trans (hkI1.getA 1041 rfl)) i
            have hr27 := tn (i := I 1000 27) (by omega)
            have hCL : Imp (((u2 I162 (1041) ((v36).toNatClampNeg) (I132 (1000) 29)) 1000 26).toInt = 0) (CLr (u2 I162 (1041) ((v36).toNatClampNeg) (I132 (1000) 29)) (I 1000 27).toNatClampNeg (12 * (I 1000 27).toNatClampNeg + (a0).toNatClampNeg) ((u2 I162 (1041) ((v36).toNatClampNeg) (I132 (1000) 29)) 1000 29).toInt) := fun hz => by
              skip
              have hq := CLr.mk (A := (u2 (u2 I114 (1038) ((v36).toNatClampNeg) (r113)) (1039) ((v36).toNatClampNeg) (I (1000) 29))) (B := I132) (C := I132) (D := I132) (Z := (u2 I162 (1041) ((v36).toNatClampNeg) (I132 (1000) 29))) (r := (I 1000 27).toNatClampNeg) (c := 12 * (I 1000 27).toNatClampNeg + (a0).toNatClampNeg) (xI132.2.2.2.2) (CT.rf I132 0) ⟨rfl, rfl, rfl, by omega⟩ (by omega) ⟨(((show (u2 I162 (1041) ((v36).toNatClampNeg) (I132 (1000) 29)) 1035 = I162 1035 from by funext zz; simp [u2_v])).trans (hkI162.getA 1035 rfl)).trans (show (u2 I132 (1040) ((v36).toNatClampNeg) (I132 (1000) 29)) 1035 = I132 1035 from by funext zz; simp [u2_v]), (((show (u2 I162 (1041) ((v36).toNatClampNeg) (I132 (1000) 29)) 1036 = I162 1036 from by funext zz; simp [u2_v])).trans (hkI162.getA 1036 rfl)).trans (show (u2 I132 (1040) ((v36).toNatClampNeg) (I132 (1000) 29)) 1036 = I132 1036 from by funext zz; simp [u2_v])⟩ (by omega) (by omega) (by omega) (by omega) (by omega)
              rw [show ((u2 I162 (1041) ((v36).toNatClampNeg) (I132 (1000) 29)) 1000 29).toInt = (I132 1000 29).toInt from by omega]
              exact hq
            exact m_vret hx hb hr hlocks hM hS (Nat.le_of_ble_eq_true rfl) (Nat.le_of_ble_eq_true rfl) ⟨_, _, rfl, hI, hK, ⟨by omega, by omega, by omega, (fun hz => by omega), hCL, clx0 hC ho1039 ho1040 ho1041⟩⟩ dX10_clause_141
          · have hc170 := c170
            have q170 := q_ne hc170
            refine lv_aload_n hx hb dX10_clause_127 rfl (lv_at hl 2 rfl) ?_
            refine m_callv (m_runV (1000) (As := []) (rest := []) hx hb hml hown hts hE hM hS hA ce_X10_test tb_1577 (V_X10_test l D A ad ns I162 L163 G hJ hI (by omega) (fun hz => by omega)) rfl rfl ⟨Nat.le_of_ble_eq_true rfl, Nat.le_of_ble_eq_true rfl⟩ hJ.1 rfl rfl (by decide) rfl hl.1 rfl (Nat.le_of_ble_eq_true rfl) dX10_clause_128 ⟨Nat.le_of_ble_eq_true rfl, Nat.le_of_ble_eq_true rfl⟩) hS (fun u H locs hw hM hS => ?_)
            obtain ⟨I181, L182, rfl, hI, hkI181, xI181⟩ := hw
            have hM : Mem D A ad ns I181 L182 G H := hM
            have hK := hK.trans hkI181 rfl
            replace hC := CT.link (I2 := I162) hC (((hkI162.getA 1035 rfl)).trans (show (u2 I132 (1040) ((v36).toNatClampNeg) (I132 (1000) 29)) 1035 = I132 1035 from by funext zz; simp [u2_v])) (((hkI162.getA 1036 rfl)).trans (show (u2 I132 (1040) ((v36).toNatClampNeg) (I132 (1000) 29)) 1036 = I132 1036 from by funext zz; simp [u2_v])) (by omega) (fun hz => by omega)
            have pw183 : (I181 (1000) 24).toInt = (I (1000) 24 : Int32).toInt := congrArg Int32.toInt ((((((((((hkI181.get (1000) 24 rfl)).trans (hkI162.get (1000) 24 rfl)).trans (show (u2 I132 (1040) ((v36).toNatClampNeg) (I132 (1000) 29)) (1000) 24 = I132 (1000) 24 from by simp [u2_v])).trans (hkI132.get (1000) 24 rfl)).trans (show (u2 (u2 I114 (1038) ((v36).toNatClampNeg) (r113)) (1039) ((v36).toNatClampNeg) (I (1000) 29)) (1000) 24 = I114 (1000) 24 from by simp [u2_v])).trans (hkI114.get (1000) 24 rfl)).trans (hkI25.get (1000) 24 rfl)).trans (show (u2 I1 (1000) 25 (v16)) (1000) 24 = I1 (1000) 24 from by simp [u2_v])).trans (hkI1.get (1000) 24 rfl))
            have pw184 : (I181 (1000) 27).toInt = (I (1000) 27 : Int32).toInt := congrArg Int32.toInt ((((((((((hkI181.get (1000) 27 rfl)).trans (hkI162.get (1000) 27 rfl)).trans (show (u2 I132 (1040) ((v36).toNatClampNeg) (I132 (1000) 29)) (1000) 27 = I132 (1000) 27 from by simp [u2_v])).trans (hkI132.get (1000) 27 rfl)).trans (show (u2 (u2 I114 (1038) ((v36).toNatClampNeg) (r113)) (1039) ((v36).toNatClampNeg) (I (1000) 29)) (1000) 27 = I114 (1000) 27 from by simp [u2_v])).trans (hkI114.get (1000) 27 rfl)).trans (hkI25.get (1000) 27 rfl)).trans (show (u2 I1 (1000) 25 (v16)) (1000) 27 = I1 (1000) 27 from by simp [u2_v])).trans (hkI1.get (1000) 27 rfl))
            obtain ⟨dT, hCT⟩ := xI181.2.2.2.2
            replace hC := hC.comp (hCT.mono0 (1 + (0))) (by omega) (by omega) (by omega) (by omega) (fun hz => (xI181.2.2.2.1 hz).1)
            refine lv_aload_n hx hb dX10_clause_131 rfl (lv_at hl 2 rfl) ?_
            refine m_getr (1000) 41 (1041) hx hb hts hown hE oc10 hM hJ.1 rfl (by decide) rfl (hJ.2 41 (by decide)).2 (by decide) tb_1218 dX10_clause_132 ?_
            refine lv_iload_n hx hb dX10_clause_135 rfl (lv_at hl 0 rfl) ?_
            refine lv_aload_n hx hb dX10_clause_136 rfl (lv_at hl 2 rfl) ?_
            refine m_geti (1000) 29 hx hb hts hown hE oc10 hM hJ.1 rfl (by decide) rfl tb_1206 dX10_clause_137 ?_
            have g185 := hI.get (1000) 29 (lo := 0) (hi := 300) rfl
            refine m_iast (1041) hx hb hE hM hS (hJ.2 41 (by decide)).1 rfl (vp_in_iff.mpr (by omega)) dX10_clause_140 (fun H locs I186 eI186 hM hS => ?_)
            subst eI186
            have hI := hI.put (n := 1041) (k := ((v36).toNatClampNeg)) (v := I181 (1000) 29) (lo := 0) (hi := 300) rfl (by first | omega | decide)
            have hK := hK.put (n := 1041) (k := ((v36).toNatClampNeg)) (v := I181 (1000) 29) (by first | rfl | simp [inR])
            have pw187 : ((u2 I181 (1041) ((v36).toNatClampNeg) (I181 (1000) 29)) (1000) 24).toInt = (I (1000) 24 : Int32).toInt := congrArg Int32.toInt (((((((((((show (u2 I181 (1041) ((v36).toNatClampNeg) (I181 (1000) 29)) (1000) 24 = I181 (1000) 24 from by simp [u2_v])).trans (hkI181.get (1000) 24 rfl)).trans (hkI162.get (1000) 24 rfl)).trans (show (u2 I132 (1040) ((v36).toNatClampNeg) (I132 (1000) 29)) (1000) 24 = I132 (1000) 24 from by simp [u2_v])).trans (hkI132.get (1000) 24 rfl)).trans (show (u2 (u2 I114 (1038) ((v36).toNatClampNeg) (r113)) (1039) ((v36).toNatClampNeg) (I (1000) 29)) (1000) 24 = I114 (1000) 24 from by simp [u2_v])).trans (hkI114.get (1000) 24 rfl)).trans (hkI25.get (1000) 24 rfl)).trans (show (u2 I1 (1000) 25 (v16)) (1000) 24 = I1 (1000) 24 from by simp [u2_v])).trans (hkI1.get (1000) 24 rfl))
            have pw188 : ((u2 I181 (1041) ((v36).toNatClampNeg) (I181 (1000) 29)) (1000) 25).toInt = (I181 (1000) 25 : Int32).toInt := congrArg Int32.toInt ((show (u2 I181 (1041) ((v36).toNatClampNeg) (I181 (1000) 29)) (1000) 25 = I181 (1000) 25 from by simp [u2_v]))
            have pw189 : ((u2 I181 (1041) ((v36).toNatClampNeg) (I181 (1000) 29)) (1000) 26).toInt = (I181 (1000) 26 : Int32).toInt := congrArg Int32.toInt ((show (u2 I181 (1041) ((v36).toNatClampNeg) (I181 (1000) 29)) (1000) 26 = I181 (1000) 26 from by simp [u2_v]))
            have pw190 : ((u2 I181 (1041) ((v36).toNatClampNeg) (I181 (1000) 29)) (1000) 27).toInt = (I (1000) 27 : Int32).toInt := congrArg Int32.toInt (((((((((((show (u2 I181 (1041) ((v36).toNatClampNeg) (I181 (1000) 29)) (1000) 27 = I181 (1000) 27 from by simp [u2_v])).trans (hkI181.get (1000) 27 rfl)).trans (hkI162.get (1000) 27 rfl)).trans (show (u2 I132 (1040) ((v36).toNatClampNeg) (I132 (1000) 29)) (1000) 27 = I132 (1000) 27 from by simp [u2_v])).trans (hkI132.get (1000) 27 rfl)).trans (show (u2 (u2 I114 (1038) ((v36).toNatClampNeg) (r113)) (1039) ((v36).toNatClampNeg) (I (1000) 29)) (1000) 27 = I114 (1000) 27 from by simp [u2_v])).trans (hkI114.get (1000) 27 rfl)).trans (hkI25.get (1000) 27 rfl)).trans (show (u2 I1 (1000) 25 (v16)) (1000) 27 = I1 (1000) 27 from by simp [u2_v])).trans (hkI1.get (1000) 27 rfl))
            have pw191 : ((u2 I181 (1041) ((v36).toNatClampNeg) (I181 (1000) 29)) (1000) 29).toInt = (I181 (1000) 29 : Int32).toInt := congrArg Int32.toInt ((show (u2 I181 (1041) ((v36).toNatClampNeg) (I181 (1000) 29)) (1000) 29 = I181 (1000) 29 from by simp [u2_v]))
            have pw192 : ((u2 I181 (1041) ((v36).toNatClampNeg) (I181 (1000) 29)) (1000) 31).toInt = (I181 (1000) 31 : Int32).toInt := congrArg Int32.toInt ((show (u2 I181 (1041) ((v36).toNatClampNeg) (I181 (1000) 29)) (1000) 31 = I181 (1000) 31 from by simp [u2_v]))
            have pw193 : ((u2 I181 (1041) ((v36).toNatClampNeg) (I181 (1000) 29)) (1000) 32).toInt = (I181 (1000) 32 : Int32).toInt := congrArg Int32.toInt ((show (u2 I181 (1041) ((v36).toNatClampNeg) (I181 (1000) 29)) (1000) 32 = I181 (1000) 32 from by simp [u2_v]))
            replace hC := CT.link (I2 := (u2 I181 (1041) ((v36).toNatClampNeg) (I181 (1000) 29))) hC ((show (u2 I181 (1041) ((v36).toNatClampNeg) (I181 (1000) 29)) 1035 = I181 1035 from by funext zz; simp [u2_v])) ((show (u2 I181 (1041) ((v36).toNatClampNeg) (I181 (1000) 29)) 1036 = I181 1036 from by funext zz; simp [u2_v])) (by omega) (fun hz => by have w0 := xI181.2.2.2.1 (by omega); omega)
            have hcz : (v36).toNatClampNeg = 12 * (I 1000 27).toNatClampNeg + (a0).toNatClampNeg := by have z1 := tn (i := v36) (by omega); have z2 := tn (i := I 1000 27) (by omega); have z3 := tn (i := a0) (by omega); omega
            have hz1039 : (u2 I181 (1041) ((v36).toNatClampNeg) (I181 (1000) 29)) 1039 = (u2 (u2 I114 (1038) ((v36).toNatClampNeg) (r113)) (1039) ((v36).toNatClampNeg) (I (1000) 29)) 1039 := (((((show (u2 I181 (1041) ((v36).toNatClampNeg) (I181 (1000) 29)) 1039 = I181 1039 from by funext zz; simp [u2_v])).trans (hkI181.getA 1039 rfl)).trans (hkI162.getA 1039 rfl)).trans (show (u2 I132 (1040) ((v36).toNatClampNeg) (I132 (1000) 29)) 1039 = I132 1039 from by funext zz; simp [u2_v])).trans (hkI132.getA 1039 rfl)
            have hv1039 : ((u2 I181 (1041) ((v36).toNatClampNeg) (I181 (1000) 29)) 1039 (12 * (I 1000 27).toNatClampNeg + (a0).toNatClampNeg)).toInt = (I (1000) 29 : Int32).toInt := by rw [hz1039, ← hcz, u2_self]
            have ho1039 : ∀ i, i ≠ 12 * (I 1000 27).toNatClampNeg + (a0).toNatClampNeg → (u2 I181 (1041) ((v36).toNatClampNeg) (I181 (1000) 29)) 1039 i = I 1039 i := fun i hi => by rw [hz1039, u2_v, if_neg (by rintro ⟨-, hj⟩; exact hi (hj.trans hcz))]; exact congrFun ((((((show (u2 I114 (1038) ((v36).toNatClampNeg) (r113)) 1039 = I114 1039 from by funext zz; simp [u2_v])).trans (hkI114.getA 1039 rfl)).trans (hkI25.getA 1039 rfl)).trans (show (u2 I1 (1000) 25 (v16)) 1039 = I1 1039 from by funext zz; simp [u2_v])).trans (hkI1.getA 1039 rfl)) i
            have hz1040 : (u2 I181 (1041) ((v36).toNatClampNeg) (I181 (1000) 29)) 1040 = (u2 I132 (1040) ((v36).toNatClampNeg) (I132 (1000) 29)) 1040 := (((show (u2 I181 (1041) ((v36).toNatClampNeg) (I181 (1000) 29)) 1040 = I181 1040 from by funext zz; simp [u2_v])).trans (hkI181.getA 1040 rfl)).trans (hkI162.getA 1040 rfl)
            have hv1040 : ((u2 I181 (1041) ((v36).toNatClampNeg) (I181 (1000) 29)) 1040 (12 * (I 1000 27).toNatClampNeg + (a0).toNatClampNeg)).toInt = (I132 (1000) 29 : Int32).toInt := by rw [hz1040, ← hcz, u2_self]
            have ho1040 : ∀ i, i ≠ 12 * (I 1000 27).toNatClampNeg + (a0).toNatClampNeg → (u2 I181 (1041) ((v36).toNatClampNeg) (I181 (1000) 29)) 1040 i = I 1040 i := fun i hi => by rw [hz1040, u2_v, if_neg (by rintro ⟨-, hj⟩; exact hi (hj.trans hcz))]; exact congrFun (((((((hkI132.getA 1040 rfl)).trans (show (u2 (u2 I114 (1038) ((v36).toNatClampNeg) (r113)) (1039) ((v36).toNatClampNeg) (I (1000) 29)) 1040 = I114 1040 from by funext zz; simp [u2_v])).trans (hkI114.getA 1040 rfl)).trans (hkI25.getA 1040 rfl)).trans (show (u2 I1 (1000) 25 (v16)) 1040 = I1 1040 from by funext zz; simp [u2_v])).trans (hkI1.getA 1040 rfl)) i
            have hz1041 : (u2 I181 (1041) ((v36).toNatClampNeg) (I181 (1000) 29)) 1041 = (u2 I181 (1041) ((v36).toNatClampNeg) (I181 (1000) 29)) 1041 := rfl
            have hv1041 : ((u2 I181 (1041) ((v36).toNatClampNeg) (I181 (1000) 29)) 1041 (12 * (I 1000 27).toNatClampNeg + (a0).toNatClampNeg)).toInt = (I181 (1000) 29 : Int32).toInt := by rw [hz1041, ← hcz, u2_self]
            have ho1041 : ∀ i, i ≠ 12 * (I 1000 27).toNatClampNeg + (a0).toNatClampNeg → (u2 I181 (1041) ((v36).toNatClampNeg) (I181 (1000) 29)) 1041 i = I 1041 i := fun i hi => by rw [hz1041, u2_v, if_neg (by rintro ⟨-, hj⟩; exact hi (hj.trans hcz))]; exact congrFun ((((((((((hkI181.getA 1041 rfl)).trans (hkI162.getA 1041 rfl)).trans (show (u2 I132 (1040) ((v36).toNatClampNeg) (I132 (1000) 29)) 1041 = I132 1041 from by funext zz; simp [u2_v])).trans (hkI132.getA 1041 rfl)).trans (show (u2 (u2 I114 (1038) ((v36).toNatClampNeg) (r113)) (1039) ((v36).toNatClampNeg) (I (1000) 29)) 1041 = I114 1041 from by funext zz; simp [u2_v])).trans (hkI114.getA 1041 rfl)).trans (hkI25.getA 1041 rfl)).trans (show (u2 I1 (1000) 25 (v16)) 1041 = I1 1041 from by funext zz; simp [u2_v])).trans (hkI1.getA 1041 rfl)) i
            have hr27 := tn (i := I 1000 27) (by omega)
            have hCL : Imp (((u2 I181 (1041) ((v36).toNatClampNeg) (I181 (1000) 29)) 1000 26).toInt = 0) (CLr (u2 I181 (1041) ((v36).toNatClampNeg) (I181 (1000) 29)) (I 1000 27).toNatClampNeg (12 * (I 1000 27).toNatClampNeg + (a0).toNatClampNeg) ((u2 I181 (1041) ((v36).toNatClampNeg) (I181 (1000) 29)) 1000 29).toInt) := fun hz => by
              have w0 := xI181.2.2.2.1 (by omega); skip
              have hq := CLr.mk (A := (u2 (u2 I114 (1038) ((v36).toNatClampNeg) (r113)) (1039) ((v36).toNatClampNeg) (I (1000) 29))) (B := I132) (C := I162) (D := I181) (Z := (u2 I181 (1041) ((v36).toNatClampNeg) (I181 (1000) 29))) (r := (I 1000 27).toNatClampNeg) (c := 12 * (I 1000 27).toNatClampNeg + (a0).toNatClampNeg) (xI132.2.2.2.2) hCT ⟨((hkI162.getA 1035 rfl)).trans (show (u2 I132 (1040) ((v36).toNatClampNeg) (I132 (1000) 29)) 1035 = I132 1035 from by funext zz; simp [u2_v]), ((hkI162.getA 1036 rfl)).trans (show (u2 I132 (1040) ((v36).toNatClampNeg) (I132 (1000) 29)) 1036 = I132 1036 from by funext zz; simp [u2_v]), by omega, by omega⟩ (by omega) ⟨(show (u2 I181 (1041) ((v36).toNatClampNeg) (I181 (1000) 29)) 1035 = I181 1035 from by funext zz; simp [u2_v]), (show (u2 I181 (1041) ((v36).toNatClampNeg) (I181 (1000) 29)) 1036 = I181 1036 from by funext zz; simp [u2_v])⟩ (by omega) (by omega) (by omega) (by omega) (by omega)
              rw [show ((u2 I181 (1041) ((v36).toNatClampNeg) (I181 (1000) 29)) 1000 29).toInt = (I181 1000 29).toInt from by omega]
              exact hq
            exact m_vret hx hb hr hlocks hM hS (Nat.le_of_ble_eq_true rfl) (Nat.le_of_ble_eq_true rfl) ⟨_, _, rfl, hI, hK, ⟨by omega, by omega, by omega, (fun hz => by have w0 := xI181.2.2.2.1 (by omega); omega), hCL, clx0 hC ho1039 ho1040 ho1041⟩⟩ dX10_clause_141
    · have hc15 := c15
      have q15 := q_eq hc15
      refine lv_aload_n hx hb dX10_clause_32 rfl (lv_at hl 1 rfl) ?_
      refine lv_iconst (v := (4)) hx hb dX10_clause_33 (by decide) ?_
      refine lv_iload_n hx hb dX10_clause_34 rfl (lv_at hl 0 rfl) ?_
      refine m_callv (m_runV (1000) (As := [.int (4), .int (I1 (1000) 25)]) (rest := []) hx hb hml hown hts hE hM hS hA ce_X10_fails tb_1521 (V_X10_fails l D A ad ns I1 L2 G (4) (I1 (1000) 25) hJ hI (by first | omega | decide) (by first | omega | decide)) rfl rfl ⟨Nat.le_of_ble_eq_true rfl, Nat.le_of_ble_eq_true rfl⟩ hJ.1 rfl rfl (by decide) rfl hl.1 rfl (Nat.le_of_ble_eq_true rfl) dX10_clause_35 ⟨Nat.le_of_ble_eq_true rfl, Nat.le_of_ble_eq_true rfl⟩) hS (fun u H locs hw hM hS => ?_)
      obtain ⟨I194, L195, rfl, hI, hkI194, xI194⟩ := hw
      have hM : Mem D A ad ns I194 L195 G H := hM
      have hK := hK.trans hkI194 rfl
      have pw196 : (I194 (1000) 24).toInt = (I (1000) 24 : Int32).toInt := congrArg Int32.toInt (((hkI194.get (1000) 24 rfl)).trans (hkI1.get (1000) 24 rfl))
      have pw197 : (I194 (1000) 25).toInt = (I1 (1000) 25 : Int32).toInt := congrArg Int32.toInt ((hkI194.get (1000) 25 rfl))
      have pw198 : (I194 (1000) 27).toInt = (I (1000) 27 : Int32).toInt := congrArg Int32.toInt (((hkI194.get (1000) 27 rfl)).trans (hkI1.get (1000) 27 rfl))
      have pw199 : (I194 (1000) 29).toInt = (I (1000) 29 : Int32).toInt := congrArg Int32.toInt (((hkI194.get (1000) 29 rfl)).trans (hkI1.get (1000) 29 rfl))
      have pw200 : (I194 (1000) 31).toInt = (I (1000) 31 : Int32).toInt := congrArg Int32.toInt (((hkI194.get (1000) 31 rfl)).trans (hkI1.get (1000) 31 rfl))
      have pw201 : (I194 (1000) 32).toInt = (I (1000) 32 : Int32).toInt := congrArg Int32.toInt (((hkI194.get (1000) 32 rfl)).trans (hkI1.get (1000) 32 rfl))
      replace hC := CT.link (I2 := I194) hC (((hkI194.getA 1035 rfl)).trans (hkI1.getA 1035 rfl)) (((hkI194.getA 1036 rfl)).trans (hkI1.getA 1036 rfl)) (by omega) (fun hz => by have w0 := xI194.1 (by omega); exact w0.elim)
      exact m_vret hx hb hr hlocks hM hS (Nat.le_of_ble_eq_true rfl) (Nat.le_of_ble_eq_true rfl) ⟨_, _, rfl, hI, hK, ⟨by omega, by omega, by omega, (fun hz => by have w0 := xI194.1 (by omega); exact w0.elim), (fun hz => by have w0 := xI194.1 (by omega); exact w0.elim), clx0 hC (fun i _ => congrFun (((hkI194.getA 1039 rfl)).trans (hkI1.getA 1039 rfl)) i) (fun i _ => congrFun (((hkI194.getA 1040 rfl)).trans (hkI1.getA 1040 rfl)) i) (fun i _ => congrFun (((hkI194.getA 1041 rfl)).trans (hkI1.getA 1041 rfl)) i)⟩⟩ dX10_clause_38
  · have hc13 := c13
    have q13 := q_eq hc13
    refine lv_aload_n hx hb dX10_clause_19 rfl (lv_at hl 1 rfl) ?_
    refine lv_iconst (v := (0)) hx hb dX10_clause_20 (by decide) ?_
    refine lv_iload_n hx hb dX10_clause_21 rfl (lv_at hl 0 rfl) ?_
    refine m_callv (m_runV (1000) (As := [.int (0), .int (I1 (1000) 25)]) (rest := []) hx hb hml hown hts hE hM hS hA ce_X10_fails tb_1521 (V_X10_fails l D A ad ns I1 L2 G (0) (I1 (1000) 25) hJ hI (by first | omega | decide) (by first | omega | decide)) rfl rfl ⟨Nat.le_of_ble_eq_true rfl, Nat.le_of_ble_eq_true rfl⟩ hJ.1 rfl rfl (by decide) rfl hl.1 rfl (Nat.le_of_ble_eq_true rfl) dX10_clause_22 ⟨Nat.le_of_ble_eq_true rfl, Nat.le_of_ble_eq_true rfl⟩) hS (fun u H locs hw hM hS => ?_)
    obtain ⟨I202, L203, rfl, hI, hkI202, xI202⟩ := hw
    have hM : Mem D A ad ns I202 L203 G H := hM
    have hK := hK.trans hkI202 rfl
    have pw204 : (I202 (1000) 24).toInt = (I (1000) 24 : Int32).toInt := congrArg Int32.toInt (((hkI202.get (1000) 24 rfl)).trans (hkI1.get (1000) 24 rfl))
    have pw205 : (I202 (1000) 25).toInt = (I1 (1000) 25 : Int32).toInt := congrArg Int32.toInt ((hkI202.get (1000) 25 rfl))
    have pw206 : (I202 (1000) 27).toInt = (I (1000) 27 : Int32).toInt := congrArg Int32.toInt (((hkI202.get (1000) 27 rfl)).trans (hkI1.get (1000) 27 rfl))
    have pw207 : (I202 (1000) 29).toInt = (I (1000) 29 : Int32).toInt := congrArg Int32.toInt (((hkI202.get (1000) 29 rfl)).trans (hkI1.get (1000) 29 rfl))
    have pw208 : (I202 (1000) 31).toInt = (I (1000) 31 : Int32).toInt := congrArg Int32.toInt (((hkI202.get (1000) 31 rfl)).trans (hkI1.get (1000) 31 rfl))
    have pw209 : (I202 (1000) 32).toInt = (I (1000) 32 : Int32).toInt := congrArg Int32.toInt (((hkI202.get (1000) 32 rfl)).trans (hkI1.get (1000) 32 rfl))
    replace hC := CT.link (I2 := I202) hC (((hkI202.getA 1035 rfl)).trans (hkI1.getA 1035 rfl)) (((hkI202.getA 1036 rfl)).trans (hkI1.getA 1036 rfl)) (by omega) (fun hz => by have w0 := xI202.1 (by omega); exact w0.elim)
    exact m_vret hx hb hr hlocks hM hS (Nat.le_of_ble_eq_true rfl) (Nat.le_of_ble_eq_true rfl) ⟨_, _, rfl, hI, hK, ⟨by omega, by omega, by omega, (fun hz => by have w0 := xI202.1 (by omega); exact w0.elim), (fun hz => by have w0 := xI202.1 (by omega); exact w0.elim), clx0 hC (fun i _ => congrFun (((hkI202.getA 1039 rfl)).trans (hkI1.getA 1039 rfl)) i) (fun i _ => congrFun (((hkI202.getA 1040 rfl)).trans (hkI1.getA 1040 rfl)) i) (fun i _ => congrFun (((hkI202.getA 1041 rfl)).trans (hkI1.getA 1041 rfl)) i)⟩⟩ dX10_clause_25
set_option maxHeartbeats 4000000 in
set_option maxRecDepth 20000 in
theorem V_X10_blanks_w (l : Launch) (D : va_G) (A : Nat → Prop) (ad : Nat → Nat) (ns : List Nat) (I : MI) (L : ML) (G : MG) (hJ : SGM ns G) (hI : INV I) (hp : (I 1000 25).toInt ≤ 401) : Met l yX10_blanks (wd yX10_blanks cX10_blanks 1 none) ({ frames := 1, cells := 0, slots := 0, locals := 20 }) (va_Pc [.ref (ad (1000))] (PM D A ad ns I L G)) (va_Qv (fun u => ∃ I2 L2, u = (ad, ns, I2, L2, G) ∧ INV I2 ∧ Kp [] [(1000, 25)] I I2 ∧ ((I 1000 25).toInt ≤ (I2 1000 25).toInt ∧ (I2 1000 25).toInt ≤ 401)) (BM D A) A) 0 0 A := by
  refine m_ofW (by decide) (Nat.le_of_ble_eq_true rfl) ?_
  intro p e s m below meth c ls args hC hE hM hA hS hl
  obtain ⟨hx, hb, hml, hown, hts, hr, hlocks, hin⟩ := hC
  have k0 : (0 : Int32).toInt = 0 := by decide
  have k1 : (1 : Int32).toInt = 1 := by decide
  have k32 : (32 : Int32).toInt = 32 := by decide
  have hK : Kp [] [(1000, 25)] I I := Kp.rf
  have hl : lv_has ls 1 [(0, .ref (ad (1000)))] := hl
  have loop0 : ∀ (n : Nat)  (Ia0 : MI) (La0 : ML) (H : Heap) (locs : List Loc) (ls : Array Slot), INV Ia0 → Kp [] [(1000, 25)] I Ia0 → ((I 1000 25).toInt ≤ (Ia0 1000 25).toInt ∧ (Ia0 1000 25).toInt ≤ 401) → (400 - (Ia0 1000 25).toInt).toNat < n → Mem D A ad ns Ia0 La0 G H → va_S A s.heap H locs → lv_has ls 1 [(0, .ref (ad (1000)))] → W p l e ({ frames := 1, cells := 0, slots := 0, locals := 20 } : Room) s m args below meth c H locs 0 0 (MQ below (va_Qv (fun u => ∃ I2 L2, u = (ad, ns, I2, L2, G) ∧ INV I2 ∧ Kp [] [(1000, 25)] I I2 ∧ ((I 1000 25).toInt ≤ (I2 1000 25).toInt ∧ (I2 1000 25).toInt ≤ 401)) (BM D A) A) args s 0 0 A) (F0 m 0 ls []) := by
    intro n
    induction n with
    | zero =>
      intro  Ia0 La0 H locs ls hI hK hpg hmu
      exact absurd hmu (Nat.not_lt_zero _)
    | succ n ih0 =>
      intro  Ia0 La0 H locs ls hI hK hpg hmu0 hM hS hl
      refine lv_aload_n hx hb dX10_blanks_0 rfl (lv_at hl 0 rfl) ?_
      refine m_calli (m_runV (1000) (As := []) (rest := []) hx hb hml hown hts hE hM hS hA ce_X10_sign tb_1510 (V_X10_sign l D A ad ns Ia0 La0 G hJ hI) rfl rfl ⟨Nat.le_of_ble_eq_true rfl, Nat.le_of_ble_eq_true rfl⟩ hJ.1 rfl rfl (by decide) rfl hl.1 rfl (Nat.le_of_ble_eq_true rfl) dX10_blanks_1 ⟨Nat.le_of_ble_eq_true rfl, Nat.le_of_ble_eq_true rfl⟩) hS (fun r1 u H locs hw hM hS => ?_)
      obtain ⟨rfl, xr1⟩ := hw
      have hM : Mem D A ad ns Ia0 La0 G H := hM
      have g2 := hI.get 1000 24 (lo := 0) (hi := 400) rfl
      have g3 := hI.get 1000 25 (lo := 0) (hi := 100000) rfl
      refine lv_bipush (v := (32)) hx hb dX10_blanks_4 (by decide) ?_
      refine lv_icmp_ne (tgt := 22) hx hb dX10_blanks_6 (by decide) (fun c4 => ?_) (fun c4 => ?_)
      · have hc4 := c4
        have q4 := q_ne hc4
        exact m_vret hx hb hr hlocks hM hS (Nat.le_of_ble_eq_true rfl) (Nat.le_of_ble_eq_true rfl) ⟨_, _, rfl, hI, hK, (by omega)⟩ dX10_blanks_22
      · have hc4 := c4
        have q4 := q_eq hc4
        have sg5 := xr1.2.2 (by omega)
        refine lv_aload_n hx hb dX10_blanks_9 rfl (lv_at hl 0 rfl) ?_
        refine lv_dup hx hb dX10_blanks_10 rfl ?_
        refine m_geti (1000) 25 hx hb hts hown hE oc10 hM hJ.1 rfl (by decide) rfl tb_1202 dX10_blanks_11 ?_
        have g6 := hI.get (1000) 25 (lo := 0) (hi := 100000) rfl
        refine lv_iconst (v := (1)) hx hb dX10_blanks_14 (by decide) ?_
        refine lv_iadd hx hb dX10_blanks_15 ?_
        refine lv_topi (fun v7 ev7 => ?_)
        have tv7 := a_add ev7 (by omega) (by omega)
        refine m_puti (1000) 25 hx hb hts hown hE oc10 hM hS hJ.1 rfl (by decide) rfl rfl rfl rfl tb_1202 dX10_blanks_16 (fun H locs I8 eI8 hM hS => ?_)
        subst eI8
        have hI := hI.put (n := 1000) (k := 25) (v := v7) (lo := 0) (hi := 100000) rfl (by first | omega | decide)
        have hK := hK.put (n := 1000) (k := 25) (v := v7) (by first | rfl | simp [inR])
        refine lv_goto (tgt := 0) hx hb dX10_blanks_19 (by decide) ?_
        have tr100025 : ((u2 Ia0 (1000) 25 (v7)) (1000) 25).toInt = (v7 : Int32).toInt := congrArg Int32.toInt ((show (u2 Ia0 (1000) 25 (v7)) (1000) 25 = v7 from by simp [u2_v]))
        exact ih0  (u2 Ia0 (1000) 25 (v7)) La0 _ _ ls hI hK (by omega) (by omega) hM hS (lv_sub hl [0] rfl)
  exact loop0 (_ + 1)  I L _ _ ls hI hK (by omega) (Nat.lt_succ_self _) hM hS (lv_sub hl [0] rfl)
