theorem dX10_carriesAll_0 : decode cX10_carriesAll 0 = .ok (.aload_n 0, 1) := by decide +kernel
theorem dX10_carriesAll_1 : decode cX10_carriesAll 1 = .ok (.sipush 2720, 3) := by decide +kernel
theorem dX10_carriesAll_4 : decode cX10_carriesAll 4 = .ok (.iload_n 1, 1) := by decide +kernel
theorem dX10_carriesAll_5 : decode cX10_carriesAll 5 = .ok (.imul, 1) := by decide +kernel
theorem dX10_carriesAll_6 : decode cX10_carriesAll 6 = .ok (.putfield 545, 3) := by decide +kernel
theorem dX10_carriesAll_9 : decode cX10_carriesAll 9 = .ok (.aload_n 0, 1) := by decide +kernel
theorem dX10_carriesAll_10 : decode cX10_carriesAll 10 = .ok (.iload_n 2, 1) := by decide +kernel
theorem dX10_carriesAll_11 : decode cX10_carriesAll 11 = .ok (.putfield 542, 3) := by decide +kernel
theorem dX10_carriesAll_14 : decode cX10_carriesAll 14 = .ok (.aload_n 0, 1) := by decide +kernel
theorem dX10_carriesAll_15 : decode cX10_carriesAll 15 = .ok (.aload_n 0, 1) := by decide +kernel
theorem dX10_carriesAll_16 : decode cX10_carriesAll 16 = .ok (.getfield 7, 3) := by decide +kernel
theorem dX10_carriesAll_19 : decode cX10_carriesAll 19 = .ok (.invokevirtual 548, 3) := by decide +kernel
theorem dX10_carriesAll_22 : decode cX10_carriesAll 22 = .ok (.aload_n 0, 1) := by decide +kernel
theorem dX10_carriesAll_23 : decode cX10_carriesAll 23 = .ok (.aload_n 0, 1) := by decide +kernel
theorem dX10_carriesAll_24 : decode cX10_carriesAll 24 = .ok (.getfield 13, 3) := by decide +kernel
theorem dX10_carriesAll_27 : decode cX10_carriesAll 27 = .ok (.invokevirtual 548, 3) := by decide +kernel
theorem dX10_carriesAll_30 : decode cX10_carriesAll 30 = .ok (.aload_n 0, 1) := by decide +kernel
theorem dX10_carriesAll_31 : decode cX10_carriesAll 31 = .ok (.aload_n 0, 1) := by decide +kernel
theorem dX10_carriesAll_32 : decode cX10_carriesAll 32 = .ok (.getfield 16, 3) := by decide +kernel
theorem dX10_carriesAll_35 : decode cX10_carriesAll 35 = .ok (.invokevirtual 548, 3) := by decide +kernel
theorem dX10_carriesAll_38 : decode cX10_carriesAll 38 = .ok (.aload_n 0, 1) := by decide +kernel
theorem dX10_carriesAll_39 : decode cX10_carriesAll 39 = .ok (.aload_n 0, 1) := by decide +kernel
theorem dX10_carriesAll_40 : decode cX10_carriesAll 40 = .ok (.getfield 19, 3) := by decide +kernel
theorem dX10_carriesAll_43 : decode cX10_carriesAll 43 = .ok (.invokevirtual 548, 3) := by decide +kernel
theorem dX10_carriesAll_46 : decode cX10_carriesAll 46 = .ok (.aload_n 0, 1) := by decide +kernel
theorem dX10_carriesAll_47 : decode cX10_carriesAll 47 = .ok (.aload_n 0, 1) := by decide +kernel
theorem dX10_carriesAll_48 : decode cX10_carriesAll 48 = .ok (.getfield 22, 3) := by decide +kernel
theorem dX10_carriesAll_51 : decode cX10_carriesAll 51 = .ok (.invokevirtual 548, 3) := by decide +kernel
theorem dX10_carriesAll_54 : decode cX10_carriesAll 54 = .ok (.aload_n 0, 1) := by decide +kernel
theorem dX10_carriesAll_55 : decode cX10_carriesAll 55 = .ok (.aload_n 0, 1) := by decide +kernel
theorem dX10_carriesAll_56 : decode cX10_carriesAll 56 = .ok (.getfield 25, 3) := by decide +kernel
theorem dX10_carriesAll_59 : decode cX10_carriesAll 59 = .ok (.invokevirtual 548, 3) := by decide +kernel
theorem dX10_carriesAll_62 : decode cX10_carriesAll 62 = .ok (.aload_n 0, 1) := by decide +kernel
theorem dX10_carriesAll_63 : decode cX10_carriesAll 63 = .ok (.aload_n 0, 1) := by decide +kernel
theorem dX10_carriesAll_64 : decode cX10_carriesAll 64 = .ok (.getfield 28, 3) := by decide +kernel
theorem dX10_carriesAll_67 : decode cX10_carriesAll 67 = .ok (.invokevirtual 548, 3) := by decide +kernel
theorem dX10_carriesAll_70 : decode cX10_carriesAll 70 = .ok (.aload_n 0, 1) := by decide +kernel
theorem dX10_carriesAll_71 : decode cX10_carriesAll 71 = .ok (.aload_n 0, 1) := by decide +kernel
theorem dX10_carriesAll_72 : decode cX10_carriesAll 72 = .ok (.getfield 31, 3) := by decide +kernel
theorem dX10_carriesAll_75 : decode cX10_carriesAll 75 = .ok (.invokevirtual 548, 3) := by decide +kernel
theorem dX10_carriesAll_78 : decode cX10_carriesAll 78 = .ok (.aload_n 0, 1) := by decide +kernel
theorem dX10_carriesAll_79 : decode cX10_carriesAll 79 = .ok (.aload_n 0, 1) := by decide +kernel
theorem dX10_carriesAll_80 : decode cX10_carriesAll 80 = .ok (.getfield 34, 3) := by decide +kernel
theorem dX10_carriesAll_83 : decode cX10_carriesAll 83 = .ok (.invokevirtual 548, 3) := by decide +kernel
theorem dX10_carriesAll_86 : decode cX10_carriesAll 86 = .ok (.aload_n 0, 1) := by decide +kernel
theorem dX10_carriesAll_87 : decode cX10_carriesAll 87 = .ok (.aload_n 0, 1) := by decide +kernel
theorem dX10_carriesAll_88 : decode cX10_carriesAll 88 = .ok (.getfield 37, 3) := by decide +kernel
theorem dX10_carriesAll_91 : decode cX10_carriesAll 91 = .ok (.invokevirtual 548, 3) := by decide +kernel
theorem dX10_carriesAll_94 : decode cX10_carriesAll 94 = .ok (.aload_n 0, 1) := by decide +kernel
theorem dX10_carriesAll_95 : decode cX10_carriesAll 95 = .ok (.aload_n 0, 1) := by decide +kernel
theorem dX10_carriesAll_96 : decode cX10_carriesAll 96 = .ok (.getfield 40, 3) := by decide +kernel
theorem dX10_carriesAll_99 : decode cX10_carriesAll 99 = .ok (.invokevirtual 548, 3) := by decide +kernel
theorem dX10_carriesAll_102 : decode cX10_carriesAll 102 = .ok (.aload_n 0, 1) := by decide +kernel
theorem dX10_carriesAll_103 : decode cX10_carriesAll 103 = .ok (.aload_n 0, 1) := by decide +kernel
theorem dX10_carriesAll_104 : decode cX10_carriesAll 104 = .ok (.getfield 43, 3) := by decide +kernel
theorem dX10_carriesAll_107 : decode cX10_carriesAll 107 = .ok (.invokevirtual 548, 3) := by decide +kernel
theorem dX10_carriesAll_110 : decode cX10_carriesAll 110 = .ok (.aload_n 0, 1) := by decide +kernel
theorem dX10_carriesAll_111 : decode cX10_carriesAll 111 = .ok (.aload_n 0, 1) := by decide +kernel
theorem dX10_carriesAll_112 : decode cX10_carriesAll 112 = .ok (.getfield 46, 3) := by decide +kernel
theorem dX10_carriesAll_115 : decode cX10_carriesAll 115 = .ok (.invokevirtual 548, 3) := by decide +kernel
theorem dX10_carriesAll_118 : decode cX10_carriesAll 118 = .ok (.aload_n 0, 1) := by decide +kernel
theorem dX10_carriesAll_119 : decode cX10_carriesAll 119 = .ok (.aload_n 0, 1) := by decide +kernel
theorem dX10_carriesAll_120 : decode cX10_carriesAll 120 = .ok (.getfield 49, 3) := by decide +kernel
theorem dX10_carriesAll_123 : decode cX10_carriesAll 123 = .ok (.invokevirtual 548, 3) := by decide +kernel
theorem dX10_carriesAll_126 : decode cX10_carriesAll 126 = .ok (.aload_n 0, 1) := by decide +kernel
theorem dX10_carriesAll_127 : decode cX10_carriesAll 127 = .ok (.aload_n 0, 1) := by decide +kernel
theorem dX10_carriesAll_128 : decode cX10_carriesAll 128 = .ok (.getfield 52, 3) := by decide +kernel
theorem dX10_carriesAll_131 : decode cX10_carriesAll 131 = .ok (.invokevirtual 548, 3) := by decide +kernel
theorem dX10_carriesAll_134 : decode cX10_carriesAll 134 = .ok (.aload_n 0, 1) := by decide +kernel
theorem dX10_carriesAll_135 : decode cX10_carriesAll 135 = .ok (.aload_n 0, 1) := by decide +kernel
theorem dX10_carriesAll_136 : decode cX10_carriesAll 136 = .ok (.getfield 55, 3) := by decide +kernel
theorem dX10_carriesAll_139 : decode cX10_carriesAll 139 = .ok (.invokevirtual 548, 3) := by decide +kernel
theorem dX10_carriesAll_142 : decode cX10_carriesAll 142 = .ok (.aload_n 0, 1) := by decide +kernel
theorem dX10_carriesAll_143 : decode cX10_carriesAll 143 = .ok (.aload_n 0, 1) := by decide +kernel
theorem dX10_carriesAll_144 : decode cX10_carriesAll 144 = .ok (.getfield 58, 3) := by decide +kernel
theorem dX10_carriesAll_147 : decode cX10_carriesAll 147 = .ok (.invokevirtual 548, 3) := by decide +kernel
theorem dX10_carriesAll_150 : decode cX10_carriesAll 150 = .ok (.aload_n 0, 1) := by decide +kernel
theorem dX10_carriesAll_151 : decode cX10_carriesAll 151 = .ok (.aload_n 0, 1) := by decide +kernel
theorem dX10_carriesAll_152 : decode cX10_carriesAll 152 = .ok (.getfield 61, 3) := by decide +kernel
theorem dX10_carriesAll_155 : decode cX10_carriesAll 155 = .ok (.invokevirtual 548, 3) := by decide +kernel
theorem dX10_carriesAll_158 : decode cX10_carriesAll 158 = .ok (.aload_n 0, 1) := by decide +kernel
theorem dX10_carriesAll_159 : decode cX10_carriesAll 159 = .ok (.aload_n 0, 1) := by decide +kernel
theorem dX10_carriesAll_160 : decode cX10_carriesAll 160 = .ok (.getfield 64, 3) := by decide +kernel
theorem dX10_carriesAll_163 : decode cX10_carriesAll 163 = .ok (.invokevirtual 548, 3) := by decide +kernel
theorem dX10_carriesAll_166 : decode cX10_carriesAll 166 = .ok (.aload_n 0, 1) := by decide +kernel
theorem dX10_carriesAll_167 : decode cX10_carriesAll 167 = .ok (.aload_n 0, 1) := by decide +kernel
theorem dX10_carriesAll_168 : decode cX10_carriesAll 168 = .ok (.getfield 67, 3) := by decide +kernel
theorem dX10_carriesAll_171 : decode cX10_carriesAll 171 = .ok (.invokevirtual 548, 3) := by decide +kernel
theorem dX10_carriesAll_174 : decode cX10_carriesAll 174 = .ok (.aload_n 0, 1) := by decide +kernel
theorem dX10_carriesAll_175 : decode cX10_carriesAll 175 = .ok (.aload_n 0, 1) := by decide +kernel
theorem dX10_carriesAll_176 : decode cX10_carriesAll 176 = .ok (.getfield 70, 3) := by decide +kernel
theorem dX10_carriesAll_179 : decode cX10_carriesAll 179 = .ok (.invokevirtual 548, 3) := by decide +kernel
theorem dX10_carriesAll_182 : decode cX10_carriesAll 182 = .ok (.aload_n 0, 1) := by decide +kernel
theorem dX10_carriesAll_183 : decode cX10_carriesAll 183 = .ok (.aload_n 0, 1) := by decide +kernel
theorem dX10_carriesAll_184 : decode cX10_carriesAll 184 = .ok (.getfield 73, 3) := by decide +kernel
theorem dX10_carriesAll_187 : decode cX10_carriesAll 187 = .ok (.invokevirtual 548, 3) := by decide +kernel
theorem dX10_carriesAll_190 : decode cX10_carriesAll 190 = .ok (.aload_n 0, 1) := by decide +kernel
theorem dX10_carriesAll_191 : decode cX10_carriesAll 191 = .ok (.aload_n 0, 1) := by decide +kernel
theorem dX10_carriesAll_192 : decode cX10_carriesAll 192 = .ok (.getfield 76, 3) := by decide +kernel
theorem dX10_carriesAll_195 : decode cX10_carriesAll 195 = .ok (.invokevirtual 548, 3) := by decide +kernel
theorem dX10_carriesAll_198 : decode cX10_carriesAll 198 = .ok (.return_, 1) := by decide +kernel
theorem ce_X10_carriesAll : CeV RX10 yX10_carriesAll cX10_carriesAll 3 none 2 := ⟨tb_1830, tp_109, tb_11, tb_1831, rfl, by decide, by decide, by decide +kernel⟩
set_option maxHeartbeats 4000000 in
set_option maxRecDepth 20000 in
theorem V_X10_carriesAll (l : Launch) (D : va_G) (A : Nat → Prop) (ad : Nat → Nat) (ns : List Nat) (I : MI) (L : ML) (G : MG) (a0 : Int32) (a1 : Int32) (hJ : SGM ns G) (hI : INV I) (ha0 : 0 ≤ a0.toInt ∧ a0.toInt ≤ 3) (ha1 : 0 ≤ a1.toInt ∧ a1.toInt ≤ 1) : Met l yX10_carriesAll (wd yX10_carriesAll cX10_carriesAll 3 none) ({ frames := 1, cells := 0, slots := 0, locals := 22 }) (va_Pc [.ref (ad (1000)), .int a0, .int a1] (PM D A ad ns I L G)) (va_Qv (fun u => ∃ I2 L2, u = (ad, ns, I2, L2, G) ∧ INV I2 ∧ Kp [(1001, 1024), (1076, 1077)] [(1000, 78), (1000, 79)] I I2 ∧ ((a1.toInt = 0 → SV (a0).toNatClampNeg imL I I2) ∧ (a1.toInt ≠ 0 → LD (a0).toNatClampNeg imL I I2))) (BM D A) A) 0 0 A := by
  refine m_ofW (by decide) (Nat.le_of_ble_eq_true rfl) ?_
  intro p e s m below meth c ls args hC hE hM hA hS hl
  obtain ⟨hx, hb, hml, hown, hts, hr, hlocks, hin⟩ := hC
  have k0 : (0 : Int32).toInt = 0 := by decide
  have k2720 : (2720 : Int32).toInt = 2720 := by decide
  have hkk := tn ha0.1
  have hK : Kp [(1001, 1024), (1076, 1077)] [(1000, 78), (1000, 79)] I I := Kp.rf
  have hl : lv_has ls 3 [(0, .ref (ad (1000))), (1, .int (a0)), (2, .int (a1))] := hl
  refine lv_aload_n hx hb dX10_carriesAll_0 rfl (lv_at hl 0 rfl) ?_
  refine lv_sipush (v := (2720)) hx hb dX10_carriesAll_1 (by decide) ?_
  refine lv_iload_n hx hb dX10_carriesAll_4 rfl (lv_at hl 1 rfl) ?_
  refine lv_imul hx hb dX10_carriesAll_5 ?_
  refine lv_topi (fun v1 ev1 => ?_)
  have tv1 := a_mulL (c := 2720) ev1 (by decide) (by omega) (by omega)
  refine m_puti (1000) 78 hx hb hts hown hE oc10 hM hS hJ.1 rfl (by decide) rfl rfl rfl rfl tb_1255 dX10_carriesAll_6 (fun H locs I2 eI2 hM hS => ?_)
  subst eI2
  have hI := hI.put (n := 1000) (k := 78) (v := v1) (lo := 0) (hi := 10880) rfl (by first | omega | decide)
  have hK := hK.put (n := 1000) (k := 78) (v := v1) (by first | rfl | simp [inR])
  refine lv_aload_n hx hb dX10_carriesAll_9 rfl (lv_at hl 0 rfl) ?_
  refine lv_iload_n hx hb dX10_carriesAll_10 rfl (lv_at hl 2 rfl) ?_
  refine m_puti (1000) 79 hx hb hts hown hE oc10 hM hS hJ.1 rfl (by decide) rfl rfl (nar01 (by omega) (by omega)).1 (nar01 (by omega) (by omega)).2 tb_1256 dX10_carriesAll_11 (fun H locs I3 eI3 hM hS => ?_)
  subst eI3
  have hI := hI.put (n := 1000) (k := 79) (v := a1) (lo := 0) (hi := 1) rfl (by omega)
  have hK := hK.put (n := 1000) (k := 79) (v := a1) (by first | rfl | simp [inR])
  have hfr : ∀ m, m ≠ 1000 → (u2 (u2 I (1000) 78 (v1)) (1000) 79 (a1)) m = I m := fun m hm => by funext j; simp [u2_v, hm]
  have hsv := fun _ : a1.toInt = 0 => SV.nil (a0).toNatClampNeg hfr
  have hld := fun _ : a1.toInt ≠ 0 => LD.nil (a0).toNatClampNeg hfr
  have hst : ((u2 (u2 I (1000) 78 (v1)) (1000) 79 (a1)) 1000 78).toInt = 2720 * (((a0).toNatClampNeg : Nat) : Int) + 0 := by simp only [u2_v]; simp; omega
  refine lv_aload_n hx hb dX10_carriesAll_14 rfl (lv_at hl 0 rfl) ?_
  refine lv_aload_n hx hb dX10_carriesAll_15 rfl (lv_at hl 0 rfl) ?_
  refine m_getr (1000) 1 (1001) hx hb hts hown hE oc10 hM hJ.1 rfl (by decide) rfl (hJ.2 1 (by decide)).2 (by decide) tb_1178 dX10_carriesAll_16 ?_
  refine m_callv (m_runV (1000) (As := [.ref (ad (1001))]) (rest := []) hx hb hml hown hts hE hM hS hA ce_X10_carry tb_1832 (V_X10_carry_1001 l D A ad ns (u2 (u2 I (1000) 78 (v1)) (1000) 79 (a1)) L G (a0).toNatClampNeg hJ hI (by omega) (by omega)) rfl rfl ⟨Nat.le_of_ble_eq_true rfl, Nat.le_of_ble_eq_true rfl⟩ hJ.1 rfl rfl (by decide) rfl hl.1 rfl (Nat.le_of_ble_eq_true rfl) dX10_carriesAll_19 ⟨Nat.le_of_ble_eq_true rfl, Nat.le_of_ble_eq_true rfl⟩) hS (fun u H locs hw hM hS => ?_)
  obtain ⟨I4, L5, rfl, hI, hkI4, xI4⟩ := hw
  have hM : Mem D A ad ns I4 L5 G H := hM
  have hK := hK.trans hkI4 rfl
  have hgb : ((u2 (u2 I (1000) 78 (v1)) (1000) 79 (a1)) 1000 79).toInt = a1.toInt := congrArg Int32.toInt ((show (u2 (u2 I (1000) 78 (v1)) (1000) 79 (a1)) (1000) 79 = a1 from by simp [u2_v]))
  obtain ⟨yI4, xsI4, xlI4⟩ := xI4
  replace hsv : a1.toInt = 0 → SV (a0).toNatClampNeg [(1001, 0, 10)] I I4 := fun hz => SV.cons (t := (1001, 0, 10)) (l := []) (hsv hz) (xsI4 (by omega)) (by decide) (by decide)
  replace hld : a1.toInt ≠ 0 → LD (a0).toNatClampNeg [(1001, 0, 10)] I I4 := fun hz => LD.cons (t := (1001, 0, 10)) (l := []) (hld hz) (xlI4 (by omega)) (by decide) (by decide)
  clear xsI4 xlI4 hgb
  refine lv_aload_n hx hb dX10_carriesAll_22 rfl (lv_at hl 0 rfl) ?_
  refine lv_aload_n hx hb dX10_carriesAll_23 rfl (lv_at hl 0 rfl) ?_
  refine m_getr (1000) 2 (1002) hx hb hts hown hE oc10 hM hJ.1 rfl (by decide) rfl (hJ.2 2 (by decide)).2 (by decide) tb_1179 dX10_carriesAll_24 ?_
  refine m_callv (m_runV (1000) (As := [.ref (ad (1002))]) (rest := []) hx hb hml hown hts hE hM hS hA ce_X10_carry tb_1832 (V_X10_carry_1002 l D A ad ns I4 L5 G (a0).toNatClampNeg hJ hI (by omega) (by omega)) rfl rfl ⟨Nat.le_of_ble_eq_true rfl, Nat.le_of_ble_eq_true rfl⟩ hJ.1 rfl rfl (by decide) rfl hl.1 rfl (Nat.le_of_ble_eq_true rfl) dX10_carriesAll_27 ⟨Nat.le_of_ble_eq_true rfl, Nat.le_of_ble_eq_true rfl⟩) hS (fun u H locs hw hM hS => ?_)
  obtain ⟨I6, L7, rfl, hI, hkI6, xI6⟩ := hw
  have hM : Mem D A ad ns I6 L7 G H := hM
  have hK := hK.trans hkI6 rfl
  have hgb : (I4 1000 79).toInt = a1.toInt := congrArg Int32.toInt (((hkI4.get (1000) 79 rfl)).trans (show (u2 (u2 I (1000) 78 (v1)) (1000) 79 (a1)) (1000) 79 = a1 from by simp [u2_v]))
  obtain ⟨yI6, xsI6, xlI6⟩ := xI6
  replace hsv : a1.toInt = 0 → SV (a0).toNatClampNeg [(1002, 10, 576), (1001, 0, 10)] I I6 := fun hz => SV.cons (t := (1002, 10, 576)) (l := [(1001, 0, 10)]) (hsv hz) (xsI6 (by omega)) (by decide) (by decide)
  replace hld : a1.toInt ≠ 0 → LD (a0).toNatClampNeg [(1002, 10, 576), (1001, 0, 10)] I I6 := fun hz => LD.cons (t := (1002, 10, 576)) (l := [(1001, 0, 10)]) (hld hz) (xlI6 (by omega)) (by decide) (by decide)
  clear xsI6 xlI6 hgb
  refine lv_aload_n hx hb dX10_carriesAll_30 rfl (lv_at hl 0 rfl) ?_
  refine lv_aload_n hx hb dX10_carriesAll_31 rfl (lv_at hl 0 rfl) ?_
  refine m_getr (1000) 3 (1003) hx hb hts hown hE oc10 hM hJ.1 rfl (by decide) rfl (hJ.2 3 (by decide)).2 (by decide) tb_1180 dX10_carriesAll_32 ?_
  refine m_callv (m_runV (1000) (As := [.ref (ad (1003))]) (rest := []) hx hb hml hown hts hE hM hS hA ce_X10_carry tb_1832 (V_X10_carry_1003 l D A ad ns I6 L7 G (a0).toNatClampNeg hJ hI (by omega) (by omega)) rfl rfl ⟨Nat.le_of_ble_eq_true rfl, Nat.le_of_ble_eq_true rfl⟩ hJ.1 rfl rfl (by decide) rfl hl.1 rfl (Nat.le_of_ble_eq_true rfl) dX10_carriesAll_35 ⟨Nat.le_of_ble_eq_true rfl, Nat.le_of_ble_eq_true rfl⟩) hS (fun u H locs hw hM hS => ?_)
  obtain ⟨I8, L9, rfl, hI, hkI8, xI8⟩ := hw
  have hM : Mem D A ad ns I8 L9 G H := hM
  have hK := hK.trans hkI8 rfl
  have hgb : (I6 1000 79).toInt = a1.toInt := congrArg Int32.toInt ((((hkI6.get (1000) 79 rfl)).trans (hkI4.get (1000) 79 rfl)).trans (show (u2 (u2 I (1000) 78 (v1)) (1000) 79 (a1)) (1000) 79 = a1 from by simp [u2_v]))
  obtain ⟨yI8, xsI8, xlI8⟩ := xI8
  replace hsv : a1.toInt = 0 → SV (a0).toNatClampNeg [(1003, 586, 576), (1002, 10, 576), (1001, 0, 10)] I I8 := fun hz => SV.cons (t := (1003, 586, 576)) (l := [(1002, 10, 576), (1001, 0, 10)]) (hsv hz) (xsI8 (by omega)) (by decide) (by decide)
  replace hld : a1.toInt ≠ 0 → LD (a0).toNatClampNeg [(1003, 586, 576), (1002, 10, 576), (1001, 0, 10)] I I8 := fun hz => LD.cons (t := (1003, 586, 576)) (l := [(1002, 10, 576), (1001, 0, 10)]) (hld hz) (xlI8 (by omega)) (by decide) (by decide)
  clear xsI8 xlI8 hgb
  refine lv_aload_n hx hb dX10_carriesAll_38 rfl (lv_at hl 0 rfl) ?_
  refine lv_aload_n hx hb dX10_carriesAll_39 rfl (lv_at hl 0 rfl) ?_
  refine m_getr (1000) 4 (1004) hx hb hts hown hE oc10 hM hJ.1 rfl (by decide) rfl (hJ.2 4 (by decide)).2 (by decide) tb_1181 dX10_carriesAll_40 ?_
  refine m_callv (m_runV (1000) (As := [.ref (ad (1004))]) (rest := []) hx hb hml hown hts hE hM hS hA ce_X10_carry tb_1832 (V_X10_carry_1004 l D A ad ns I8 L9 G (a0).toNatClampNeg hJ hI (by omega) (by omega)) rfl rfl ⟨Nat.le_of_ble_eq_true rfl, Nat.le_of_ble_eq_true rfl⟩ hJ.1 rfl rfl (by decide) rfl hl.1 rfl (Nat.le_of_ble_eq_true rfl) dX10_carriesAll_43 ⟨Nat.le_of_ble_eq_true rfl, Nat.le_of_ble_eq_true rfl⟩) hS (fun u H locs hw hM hS => ?_)
  obtain ⟨I10, L11, rfl, hI, hkI10, xI10⟩ := hw
  have hM : Mem D A ad ns I10 L11 G H := hM
  have hK := hK.trans hkI10 rfl
  have hgb : (I8 1000 79).toInt = a1.toInt := congrArg Int32.toInt (((((hkI8.get (1000) 79 rfl)).trans (hkI6.get (1000) 79 rfl)).trans (hkI4.get (1000) 79 rfl)).trans (show (u2 (u2 I (1000) 78 (v1)) (1000) 79 (a1)) (1000) 79 = a1 from by simp [u2_v]))
  obtain ⟨yI10, xsI10, xlI10⟩ := xI10
  replace hsv : a1.toInt = 0 → SV (a0).toNatClampNeg [(1004, 1162, 288), (1003, 586, 576), (1002, 10, 576), (1001, 0, 10)] I I10 := fun hz => SV.cons (t := (1004, 1162, 288)) (l := [(1003, 586, 576), (1002, 10, 576), (1001, 0, 10)]) (hsv hz) (xsI10 (by omega)) (by decide) (by decide)
  replace hld : a1.toInt ≠ 0 → LD (a0).toNatClampNeg [(1004, 1162, 288), (1003, 586, 576), (1002, 10, 576), (1001, 0, 10)] I I10 := fun hz => LD.cons (t := (1004, 1162, 288)) (l := [(1003, 586, 576), (1002, 10, 576), (1001, 0, 10)]) (hld hz) (xlI10 (by omega)) (by decide) (by decide)
  clear xsI10 xlI10 hgb
  refine lv_aload_n hx hb dX10_carriesAll_46 rfl (lv_at hl 0 rfl) ?_
  refine lv_aload_n hx hb dX10_carriesAll_47 rfl (lv_at hl 0 rfl) ?_
  refine m_getr (1000) 5 (1005) hx hb hts hown hE oc10 hM hJ.1 rfl (by decide) rfl (hJ.2 5 (by decide)).2 (by decide) tb_1182 dX10_carriesAll_48 ?_
  refine m_callv (m_runV (1000) (As := [.ref (ad (1005))]) (rest := []) hx hb hml hown hts hE hM hS hA ce_X10_carry tb_1832 (V_X10_carry_1005 l D A ad ns I10 L11 G (a0).toNatClampNeg hJ hI (by omega) (by omega)) rfl rfl ⟨Nat.le_of_ble_eq_true rfl, Nat.le_of_ble_eq_true rfl⟩ hJ.1 rfl rfl (by decide) rfl hl.1 rfl (Nat.le_of_ble_eq_true rfl) dX10_carriesAll_51 ⟨Nat.le_of_ble_eq_true rfl, Nat.le_of_ble_eq_true rfl⟩) hS (fun u H locs hw hM hS => ?_)
  obtain ⟨I12, L13, rfl, hI, hkI12, xI12⟩ := hw
  have hM : Mem D A ad ns I12 L13 G H := hM
  have hK := hK.trans hkI12 rfl
  have hgb : (I10 1000 79).toInt = a1.toInt := congrArg Int32.toInt ((((((hkI10.get (1000) 79 rfl)).trans (hkI8.get (1000) 79 rfl)).trans (hkI6.get (1000) 79 rfl)).trans (hkI4.get (1000) 79 rfl)).trans (show (u2 (u2 I (1000) 78 (v1)) (1000) 79 (a1)) (1000) 79 = a1 from by simp [u2_v]))
  obtain ⟨yI12, xsI12, xlI12⟩ := xI12
  replace hsv : a1.toInt = 0 → SV (a0).toNatClampNeg [(1005, 1450, 288), (1004, 1162, 288), (1003, 586, 576), (1002, 10, 576), (1001, 0, 10)] I I12 := fun hz => SV.cons (t := (1005, 1450, 288)) (l := [(1004, 1162, 288), (1003, 586, 576), (1002, 10, 576), (1001, 0, 10)]) (hsv hz) (xsI12 (by omega)) (by decide) (by decide)
  replace hld : a1.toInt ≠ 0 → LD (a0).toNatClampNeg [(1005, 1450, 288), (1004, 1162, 288), (1003, 586, 576), (1002, 10, 576), (1001, 0, 10)] I I12 := fun hz => LD.cons (t := (1005, 1450, 288)) (l := [(1004, 1162, 288), (1003, 586, 576), (1002, 10, 576), (1001, 0, 10)]) (hld hz) (xlI12 (by omega)) (by decide) (by decide)
  clear xsI12 xlI12 hgb
  refine lv_aload_n hx hb dX10_carriesAll_54 rfl (lv_at hl 0 rfl) ?_
  refine lv_aload_n hx hb dX10_carriesAll_55 rfl (lv_at hl 0 rfl) ?_
  refine m_getr (1000) 6 (1006) hx hb hts hown hE oc10 hM hJ.1 rfl (by decide) rfl (hJ.2 6 (by decide)).2 (by decide) tb_1183 dX10_carriesAll_56 ?_
  refine m_callv (m_runV (1000) (As := [.ref (ad (1006))]) (rest := []) hx hb hml hown hts hE hM hS hA ce_X10_carry tb_1832 (V_X10_carry_1006 l D A ad ns I12 L13 G (a0).toNatClampNeg hJ hI (by omega) (by omega)) rfl rfl ⟨Nat.le_of_ble_eq_true rfl, Nat.le_of_ble_eq_true rfl⟩ hJ.1 rfl rfl (by decide) rfl hl.1 rfl (Nat.le_of_ble_eq_true rfl) dX10_carriesAll_59 ⟨Nat.le_of_ble_eq_true rfl, Nat.le_of_ble_eq_true rfl⟩) hS (fun u H locs hw hM hS => ?_)
  obtain ⟨I14, L15, rfl, hI, hkI14, xI14⟩ := hw
  have hM : Mem D A ad ns I14 L15 G H := hM
  have hK := hK.trans hkI14 rfl
  have hgb : (I12 1000 79).toInt = a1.toInt := congrArg Int32.toInt (((((((hkI12.get (1000) 79 rfl)).trans (hkI10.get (1000) 79 rfl)).trans (hkI8.get (1000) 79 rfl)).trans (hkI6.get (1000) 79 rfl)).trans (hkI4.get (1000) 79 rfl)).trans (show (u2 (u2 I (1000) 78 (v1)) (1000) 79 (a1)) (1000) 79 = a1 from by simp [u2_v]))
  obtain ⟨yI14, xsI14, xlI14⟩ := xI14
  replace hsv : a1.toInt = 0 → SV (a0).toNatClampNeg [(1006, 1738, 576), (1005, 1450, 288), (1004, 1162, 288), (1003, 586, 576), (1002, 10, 576), (1001, 0, 10)] I I14 := fun hz => SV.cons (t := (1006, 1738, 576)) (l := [(1005, 1450, 288), (1004, 1162, 288), (1003, 586, 576), (1002, 10, 576), (1001, 0, 10)]) (hsv hz) (xsI14 (by omega)) (by decide) (by decide)
  replace hld : a1.toInt ≠ 0 → LD (a0).toNatClampNeg [(1006, 1738, 576), (1005, 1450, 288), (1004, 1162, 288), (1003, 586, 576), (1002, 10, 576), (1001, 0, 10)] I I14 := fun hz => LD.cons (t := (1006, 1738, 576)) (l := [(1005, 1450, 288), (1004, 1162, 288), (1003, 586, 576), (1002, 10, 576), (1001, 0, 10)]) (hld hz) (xlI14 (by omega)) (by decide) (by decide)
  clear xsI14 xlI14 hgb
  refine lv_aload_n hx hb dX10_carriesAll_62 rfl (lv_at hl 0 rfl) ?_
  refine lv_aload_n hx hb dX10_carriesAll_63 rfl (lv_at hl 0 rfl) ?_
  refine m_getr (1000) 7 (1007) hx hb hts hown hE oc10 hM hJ.1 rfl (by decide) rfl (hJ.2 7 (by decide)).2 (by decide) tb_1184 dX10_carriesAll_64 ?_
  refine m_callv (m_runV (1000) (As := [.ref (ad (1007))]) (rest := []) hx hb hml hown hts hE hM hS hA ce_X10_carry tb_1832 (V_X10_carry_1007 l D A ad ns I14 L15 G (a0).toNatClampNeg hJ hI (by omega) (by omega)) rfl rfl ⟨Nat.le_of_ble_eq_true rfl, Nat.le_of_ble_eq_true rfl⟩ hJ.1 rfl rfl (by decide) rfl hl.1 rfl (Nat.le_of_ble_eq_true rfl) dX10_carriesAll_67 ⟨Nat.le_of_ble_eq_true rfl, Nat.le_of_ble_eq_true rfl⟩) hS (fun u H locs hw hM hS => ?_)
  obtain ⟨I16, L17, rfl, hI, hkI16, xI16⟩ := hw
  have hM : Mem D A ad ns I16 L17 G H := hM
  have hK := hK.trans hkI16 rfl
  have hgb : (I14 1000 79).toInt = a1.toInt := congrArg Int32.toInt ((((((((hkI14.get (1000) 79 rfl)).trans (hkI12.get (1000) 79 rfl)).trans (hkI10.get (1000) 79 rfl)).trans (hkI8.get (1000) 79 rfl)).trans (hkI6.get (1000) 79 rfl)).trans (hkI4.get (1000) 79 rfl)).trans (show (u2 (u2 I (1000) 78 (v1)) (1000) 79 (a1)) (1000) 79 = a1 from by simp [u2_v]))
  obtain ⟨yI16, xsI16, xlI16⟩ := xI16
  replace hsv : a1.toInt = 0 → SV (a0).toNatClampNeg [(1007, 2314, 24), (1006, 1738, 576), (1005, 1450, 288), (1004, 1162, 288), (1003, 586, 576), (1002, 10, 576), (1001, 0, 10)] I I16 := fun hz => SV.cons (t := (1007, 2314, 24)) (l := [(1006, 1738, 576), (1005, 1450, 288), (1004, 1162, 288), (1003, 586, 576), (1002, 10, 576), (1001, 0, 10)]) (hsv hz) (xsI16 (by omega)) (by decide) (by decide)
  replace hld : a1.toInt ≠ 0 → LD (a0).toNatClampNeg [(1007, 2314, 24), (1006, 1738, 576), (1005, 1450, 288), (1004, 1162, 288), (1003, 586, 576), (1002, 10, 576), (1001, 0, 10)] I I16 := fun hz => LD.cons (t := (1007, 2314, 24)) (l := [(1006, 1738, 576), (1005, 1450, 288), (1004, 1162, 288), (1003, 586, 576), (1002, 10, 576), (1001, 0, 10)]) (hld hz) (xlI16 (by omega)) (by decide) (by decide)
  clear xsI16 xlI16 hgb
  refine lv_aload_n hx hb dX10_carriesAll_70 rfl (lv_at hl 0 rfl) ?_
  refine lv_aload_n hx hb dX10_carriesAll_71 rfl (lv_at hl 0 rfl) ?_
  refine m_getr (1000) 8 (1008) hx hb hts hown hE oc10 hM hJ.1 rfl (by decide) rfl (hJ.2 8 (by decide)).2 (by decide) tb_1185 dX10_carriesAll_72 ?_
  refine m_callv (m_runV (1000) (As := [.ref (ad (1008))]) (rest := []) hx hb hml hown hts hE hM hS hA ce_X10_carry tb_1832 (V_X10_carry_1008 l D A ad ns I16 L17 G (a0).toNatClampNeg hJ hI (by omega) (by omega)) rfl rfl ⟨Nat.le_of_ble_eq_true rfl, Nat.le_of_ble_eq_true rfl⟩ hJ.1 rfl rfl (by decide) rfl hl.1 rfl (Nat.le_of_ble_eq_true rfl) dX10_carriesAll_75 ⟨Nat.le_of_ble_eq_true rfl, Nat.le_of_ble_eq_true rfl⟩) hS (fun u H locs hw hM hS => ?_)
  obtain ⟨I18, L19, rfl, hI, hkI18, xI18⟩ := hw
  have hM : Mem D A ad ns I18 L19 G H := hM
  have hK := hK.trans hkI18 rfl
  have hgb : (I16 1000 79).toInt = a1.toInt := congrArg Int32.toInt (((((((((hkI16.get (1000) 79 rfl)).trans (hkI14.get (1000) 79 rfl)).trans (hkI12.get (1000) 79 rfl)).trans (hkI10.get (1000) 79 rfl)).trans (hkI8.get (1000) 79 rfl)).trans (hkI6.get (1000) 79 rfl)).trans (hkI4.get (1000) 79 rfl)).trans (show (u2 (u2 I (1000) 78 (v1)) (1000) 79 (a1)) (1000) 79 = a1 from by simp [u2_v]))
  obtain ⟨yI18, xsI18, xlI18⟩ := xI18
  replace hsv : a1.toInt = 0 → SV (a0).toNatClampNeg [(1008, 2338, 24), (1007, 2314, 24), (1006, 1738, 576), (1005, 1450, 288), (1004, 1162, 288), (1003, 586, 576), (1002, 10, 576), (1001, 0, 10)] I I18 := fun hz => SV.cons (t := (1008, 2338, 24)) (l := [(1007, 2314, 24), (1006, 1738, 576), (1005, 1450, 288), (1004, 1162, 288), (1003, 586, 576), (1002, 10, 576), (1001, 0, 10)]) (hsv hz) (xsI18 (by omega)) (by decide) (by decide)
  replace hld : a1.toInt ≠ 0 → LD (a0).toNatClampNeg [(1008, 2338, 24), (1007, 2314, 24), (1006, 1738, 576), (1005, 1450, 288), (1004, 1162, 288), (1003, 586, 576), (1002, 10, 576), (1001, 0, 10)] I I18 := fun hz => LD.cons (t := (1008, 2338, 24)) (l := [(1007, 2314, 24), (1006, 1738, 576), (1005, 1450, 288), (1004, 1162, 288), (1003, 586, 576), (1002, 10, 576), (1001, 0, 10)]) (hld hz) (xlI18 (by omega)) (by decide) (by decide)
  clear xsI18 xlI18 hgb
  refine lv_aload_n hx hb dX10_carriesAll_78 rfl (lv_at hl 0 rfl) ?_
  refine lv_aload_n hx hb dX10_carriesAll_79 rfl (lv_at hl 0 rfl) ?_
  refine m_getr (1000) 9 (1009) hx hb hts hown hE oc10 hM hJ.1 rfl (by decide) rfl (hJ.2 9 (by decide)).2 (by decide) tb_1186 dX10_carriesAll_80 ?_
  refine m_callv (m_runV (1000) (As := [.ref (ad (1009))]) (rest := []) hx hb hml hown hts hE hM hS hA ce_X10_carry tb_1832 (V_X10_carry_1009 l D A ad ns I18 L19 G (a0).toNatClampNeg hJ hI (by omega) (by omega)) rfl rfl ⟨Nat.le_of_ble_eq_true rfl, Nat.le_of_ble_eq_true rfl⟩ hJ.1 rfl rfl (by decide) rfl hl.1 rfl (Nat.le_of_ble_eq_true rfl) dX10_carriesAll_83 ⟨Nat.le_of_ble_eq_true rfl, Nat.le_of_ble_eq_true rfl⟩) hS (fun u H locs hw hM hS => ?_)
  obtain ⟨I20, L21, rfl, hI, hkI20, xI20⟩ := hw
  have hM : Mem D A ad ns I20 L21 G H := hM
  have hK := hK.trans hkI20 rfl
  have hgb : (I18 1000 79).toInt = a1.toInt := congrArg Int32.toInt ((((((((((hkI18.get (1000) 79 rfl)).trans (hkI16.get (1000) 79 rfl)).trans (hkI14.get (1000) 79 rfl)).trans (hkI12.get (1000) 79 rfl)).trans (hkI10.get (1000) 79 rfl)).trans (hkI8.get (1000) 79 rfl)).trans (hkI6.get (1000) 79 rfl)).trans (hkI4.get (1000) 79 rfl)).trans (show (u2 (u2 I (1000) 78 (v1)) (1000) 79 (a1)) (1000) 79 = a1 from by simp [u2_v]))
  obtain ⟨yI20, xsI20, xlI20⟩ := xI20
  replace hsv : a1.toInt = 0 → SV (a0).toNatClampNeg [(1009, 2362, 24), (1008, 2338, 24), (1007, 2314, 24), (1006, 1738, 576), (1005, 1450, 288), (1004, 1162, 288), (1003, 586, 576), (1002, 10, 576), (1001, 0, 10)] I I20 := fun hz => SV.cons (t := (1009, 2362, 24)) (l := [(1008, 2338, 24), (1007, 2314, 24), (1006, 1738, 576), (1005, 1450, 288), (1004, 1162, 288), (1003, 586, 576), (1002, 10, 576), (1001, 0, 10)]) (hsv hz) (xsI20 (by omega)) (by decide) (by decide)
  replace hld : a1.toInt ≠ 0 → LD (a0).toNatClampNeg [(1009, 2362, 24), (1008, 2338, 24), (1007, 2314, 24), (1006, 1738, 576), (1005, 1450, 288), (1004, 1162, 288), (1003, 586, 576), (1002, 10, 576), (1001, 0, 10)] I I20 := fun hz => LD.cons (t := (1009, 2362, 24)) (l := [(1008, 2338, 24), (1007, 2314, 24), (1006, 1738, 576), (1005, 1450, 288), (1004, 1162, 288), (1003, 586, 576), (1002, 10, 576), (1001, 0, 10)]) (hld hz) (xlI20 (by omega)) (by decide) (by decide)
  clear xsI20 xlI20 hgb
  refine lv_aload_n hx hb dX10_carriesAll_86 rfl (lv_at hl 0 rfl) ?_
  refine lv_aload_n hx hb dX10_carriesAll_87 rfl (lv_at hl 0 rfl) ?_
  refine m_getr (1000) 10 (1010) hx hb hts hown hE oc10 hM hJ.1 rfl (by decide) rfl (hJ.2 10 (by decide)).2 (by decide) tb_1187 dX10_carriesAll_88 ?_
  refine m_callv (m_runV (1000) (As := [.ref (ad (1010))]) (rest := []) hx hb hml hown hts hE hM hS hA ce_X10_carry tb_1832 (V_X10_carry_1010 l D A ad ns I20 L21 G (a0).toNatClampNeg hJ hI (by omega) (by omega)) rfl rfl ⟨Nat.le_of_ble_eq_true rfl, Nat.le_of_ble_eq_true rfl⟩ hJ.1 rfl rfl (by decide) rfl hl.1 rfl (Nat.le_of_ble_eq_true rfl) dX10_carriesAll_91 ⟨Nat.le_of_ble_eq_true rfl, Nat.le_of_ble_eq_true rfl⟩) hS (fun u H locs hw hM hS => ?_)
  obtain ⟨I22, L23, rfl, hI, hkI22, xI22⟩ := hw
  have hM : Mem D A ad ns I22 L23 G H := hM
  have hK := hK.trans hkI22 rfl
  have hgb : (I20 1000 79).toInt = a1.toInt := congrArg Int32.toInt (((((((((((hkI20.get (1000) 79 rfl)).trans (hkI18.get (1000) 79 rfl)).trans (hkI16.get (1000) 79 rfl)).trans (hkI14.get (1000) 79 rfl)).trans (hkI12.get (1000) 79 rfl)).trans (hkI10.get (1000) 79 rfl)).trans (hkI8.get (1000) 79 rfl)).trans (hkI6.get (1000) 79 rfl)).trans (hkI4.get (1000) 79 rfl)).trans (show (u2 (u2 I (1000) 78 (v1)) (1000) 79 (a1)) (1000) 79 = a1 from by simp [u2_v]))
  obtain ⟨yI22, xsI22, xlI22⟩ := xI22
  replace hsv : a1.toInt = 0 → SV (a0).toNatClampNeg [(1010, 2386, 24), (1009, 2362, 24), (1008, 2338, 24), (1007, 2314, 24), (1006, 1738, 576), (1005, 1450, 288), (1004, 1162, 288), (1003, 586, 576), (1002, 10, 576), (1001, 0, 10)] I I22 := fun hz => SV.cons (t := (1010, 2386, 24)) (l := [(1009, 2362, 24), (1008, 2338, 24), (1007, 2314, 24), (1006, 1738, 576), (1005, 1450, 288), (1004, 1162, 288), (1003, 586, 576), (1002, 10, 576), (1001, 0, 10)]) (hsv hz) (xsI22 (by omega)) (by decide) (by decide)
  replace hld : a1.toInt ≠ 0 → LD (a0).toNatClampNeg [(1010, 2386, 24), (1009, 2362, 24), (1008, 2338, 24), (1007, 2314, 24), (1006, 1738, 576), (1005, 1450, 288), (1004, 1162, 288), (1003, 586, 576), (1002, 10, 576), (1001, 0, 10)] I I22 := fun hz => LD.cons (t := (1010, 2386, 24)) (l := [(1009, 2362, 24), (1008, 2338, 24), (1007, 2314, 24), (1006, 1738, 576), (1005, 1450, 288), (1004, 1162, 288), (1003, 586, 576), (1002, 10, 576), (1001, 0, 10)]) (hld hz) (xlI22 (by omega)) (by decide) (by decide)
  clear xsI22 xlI22 hgb
  refine lv_aload_n hx hb dX10_carriesAll_94 rfl (lv_at hl 0 rfl) ?_
  refine lv_aload_n hx hb dX10_carriesAll_95 rfl (lv_at hl 0 rfl) ?_
  refine m_getr (1000) 11 (1011) hx hb hts hown hE oc10 hM hJ.1 rfl (by decide) rfl (hJ.2 11 (by decide)).2 (by decide) tb_1188 dX10_carriesAll_96 ?_
  refine m_callv (m_runV (1000) (As := [.ref (ad (1011))]) (rest := []) hx hb hml hown hts hE hM hS hA ce_X10_carry tb_1832 (V_X10_carry_1011 l D A ad ns I22 L23 G (a0).toNatClampNeg hJ hI (by omega) (by omega)) rfl rfl ⟨Nat.le_of_ble_eq_true rfl, Nat.le_of_ble_eq_true rfl⟩ hJ.1 rfl rfl (by decide) rfl hl.1 rfl (Nat.le_of_ble_eq_true rfl) dX10_carriesAll_99 ⟨Nat.le_of_ble_eq_true rfl, Nat.le_of_ble_eq_true rfl⟩) hS (fun u H locs hw hM hS => ?_)
  obtain ⟨I24, L25, rfl, hI, hkI24, xI24⟩ := hw
  have hM : Mem D A ad ns I24 L25 G H := hM
  have hK := hK.trans hkI24 rfl
  have hgb : (I22 1000 79).toInt = a1.toInt := congrArg Int32.toInt ((((((((((((hkI22.get (1000) 79 rfl)).trans (hkI20.get (1000) 79 rfl)).trans (hkI18.get (1000) 79 rfl)).trans (hkI16.get (1000) 79 rfl)).trans (hkI14.get (1000) 79 rfl)).trans (hkI12.get (1000) 79 rfl)).trans (hkI10.get (1000) 79 rfl)).trans (hkI8.get (1000) 79 rfl)).trans (hkI6.get (1000) 79 rfl)).trans (hkI4.get (1000) 79 rfl)).trans (show (u2 (u2 I (1000) 78 (v1)) (1000) 79 (a1)) (1000) 79 = a1 from by simp [u2_v]))
  obtain ⟨yI24, xsI24, xlI24⟩ := xI24
  replace hsv : a1.toInt = 0 → SV (a0).toNatClampNeg [(1011, 2410, 24), (1010, 2386, 24), (1009, 2362, 24), (1008, 2338, 24), (1007, 2314, 24), (1006, 1738, 576), (1005, 1450, 288), (1004, 1162, 288), (1003, 586, 576), (1002, 10, 576), (1001, 0, 10)] I I24 := fun hz => SV.cons (t := (1011, 2410, 24)) (l := [(1010, 2386, 24), (1009, 2362, 24), (1008, 2338, 24), (1007, 2314, 24), (1006, 1738, 576), (1005, 1450, 288), (1004, 1162, 288), (1003, 586, 576), (1002, 10, 576), (1001, 0, 10)]) (hsv hz) (xsI24 (by omega)) (by decide) (by decide)
  replace hld : a1.toInt ≠ 0 → LD (a0).toNatClampNeg [(1011, 2410, 24), (1010, 2386, 24), (1009, 2362, 24), (1008, 2338, 24), (1007, 2314, 24), (1006, 1738, 576), (1005, 1450, 288), (1004, 1162, 288), (1003, 586, 576), (1002, 10, 576), (1001, 0, 10)] I I24 := fun hz => LD.cons (t := (1011, 2410, 24)) (l := [(1010, 2386, 24), (1009, 2362, 24), (1008, 2338, 24), (1007, 2314, 24), (1006, 1738, 576), (1005, 1450, 288), (1004, 1162, 288), (1003, 586, 576), (1002, 10, 576), (1001, 0, 10)]) (hld hz) (xlI24 (by omega)) (by decide) (by decide)
  clear xsI24 xlI24 hgb
  refine lv_aload_n hx hb dX10_carriesAll_102 rfl (lv_at hl 0 rfl) ?_
  refine lv_aload_n hx hb dX10_carriesAll_103 rfl (lv_at hl 0 rfl) ?_
  refine m_getr (1000) 12 (1012) hx hb hts hown hE oc10 hM hJ.1 rfl (by decide) rfl (hJ.2 12 (by decide)).2 (by decide) tb_1189 dX10_carriesAll_104 ?_
  refine m_callv (m_runV (1000) (As := [.ref (ad (1012))]) (rest := []) hx hb hml hown hts hE hM hS hA ce_X10_carry tb_1832 (V_X10_carry_1012 l D A ad ns I24 L25 G (a0).toNatClampNeg hJ hI (by omega) (by omega)) rfl rfl ⟨Nat.le_of_ble_eq_true rfl, Nat.le_of_ble_eq_true rfl⟩ hJ.1 rfl rfl (by decide) rfl hl.1 rfl (Nat.le_of_ble_eq_true rfl) dX10_carriesAll_107 ⟨Nat.le_of_ble_eq_true rfl, Nat.le_of_ble_eq_true rfl⟩) hS (fun u H locs hw hM hS => ?_)
  obtain ⟨I26, L27, rfl, hI, hkI26, xI26⟩ := hw
  have hM : Mem D A ad ns I26 L27 G H := hM
  have hK := hK.trans hkI26 rfl
  have hgb : (I24 1000 79).toInt = a1.toInt := congrArg Int32.toInt (((((((((((((hkI24.get (1000) 79 rfl)).trans (hkI22.get (1000) 79 rfl)).trans (hkI20.get (1000) 79 rfl)).trans (hkI18.get (1000) 79 rfl)).trans (hkI16.get (1000) 79 rfl)).trans (hkI14.get (1000) 79 rfl)).trans (hkI12.get (1000) 79 rfl)).trans (hkI10.get (1000) 79 rfl)).trans (hkI8.get (1000) 79 rfl)).trans (hkI6.get (1000) 79 rfl)).trans (hkI4.get (1000) 79 rfl)).trans (show (u2 (u2 I (1000) 78 (v1)) (1000) 79 (a1)) (1000) 79 = a1 from by simp [u2_v]))
  obtain ⟨yI26, xsI26, xlI26⟩ := xI26
  replace hsv : a1.toInt = 0 → SV (a0).toNatClampNeg [(1012, 2434, 24), (1011, 2410, 24), (1010, 2386, 24), (1009, 2362, 24), (1008, 2338, 24), (1007, 2314, 24), (1006, 1738, 576), (1005, 1450, 288), (1004, 1162, 288), (1003, 586, 576), (1002, 10, 576), (1001, 0, 10)] I I26 := fun hz => SV.cons (t := (1012, 2434, 24)) (l := [(1011, 2410, 24), (1010, 2386, 24), (1009, 2362, 24), (1008, 2338, 24), (1007, 2314, 24), (1006, 1738, 576), (1005, 1450, 288), (1004, 1162, 288), (1003, 586, 576), (1002, 10, 576), (1001, 0, 10)]) (hsv hz) (xsI26 (by omega)) (by decide) (by decide)
  replace hld : a1.toInt ≠ 0 → LD (a0).toNatClampNeg [(1012, 2434, 24), (1011, 2410, 24), (1010, 2386, 24), (1009, 2362, 24), (1008, 2338, 24), (1007, 2314, 24), (1006, 1738, 576), (1005, 1450, 288), (1004, 1162, 288), (1003, 586, 576), (1002, 10, 576), (1001, 0, 10)] I I26 := fun hz => LD.cons (t := (1012, 2434, 24)) (l := [(1011, 2410, 24), (1010, 2386, 24), (1009, 2362, 24), (1008, 2338, 24), (1007, 2314, 24), (1006, 1738, 576), (1005, 1450, 288), (1004, 1162, 288), (1003, 586, 576), (1002, 10, 576), (1001, 0, 10)]) (hld hz) (xlI26 (by omega)) (by decide) (by decide)
  clear xsI26 xlI26 hgb
  refine lv_aload_n hx hb dX10_carriesAll_110 rfl (lv_at hl 0 rfl) ?_
  refine lv_aload_n hx hb dX10_carriesAll_111 rfl (lv_at hl 0 rfl) ?_
  refine m_getr (1000) 13 (1013) hx hb hts hown hE oc10 hM hJ.1 rfl (by decide) rfl (hJ.2 13 (by decide)).2 (by decide) tb_1190 dX10_carriesAll_112 ?_
  refine m_callv (m_runV (1000) (As := [.ref (ad (1013))]) (rest := []) hx hb hml hown hts hE hM hS hA ce_X10_carry tb_1832 (V_X10_carry_1013 l D A ad ns I26 L27 G (a0).toNatClampNeg hJ hI (by omega) (by omega)) rfl rfl ⟨Nat.le_of_ble_eq_true rfl, Nat.le_of_ble_eq_true rfl⟩ hJ.1 rfl rfl (by decide) rfl hl.1 rfl (Nat.le_of_ble_eq_true rfl) dX10_carriesAll_115 ⟨Nat.le_of_ble_eq_true rfl, Nat.le_of_ble_eq_true rfl⟩) hS (fun u H locs hw hM hS => ?_)
  obtain ⟨I28, L29, rfl, hI, hkI28, xI28⟩ := hw
  have hM : Mem D A ad ns I28 L29 G H := hM
  have hK := hK.trans hkI28 rfl
  have hgb : (I26 1000 79).toInt = a1.toInt := congrArg Int32.toInt ((((((((((((((hkI26.get (1000) 79 rfl)).trans (hkI24.get (1000) 79 rfl)).trans (hkI22.get (1000) 79 rfl)).trans (hkI20.get (1000) 79 rfl)).trans (hkI18.get (1000) 79 rfl)).trans (hkI16.get (1000) 79 rfl)).trans (hkI14.get (1000) 79 rfl)).trans (hkI12.get (1000) 79 rfl)).trans (hkI10.get (1000) 79 rfl)).trans (hkI8.get (1000) 79 rfl)).trans (hkI6.get (1000) 79 rfl)).trans (hkI4.get (1000) 79 rfl)).trans (show (u2 (u2 I (1000) 78 (v1)) (1000) 79 (a1)) (1000) 79 = a1 from by simp [u2_v]))
  obtain ⟨yI28, xsI28, xlI28⟩ := xI28
  replace hsv : a1.toInt = 0 → SV (a0).toNatClampNeg [(1013, 2458, 24), (1012, 2434, 24), (1011, 2410, 24), (1010, 2386, 24), (1009, 2362, 24), (1008, 2338, 24), (1007, 2314, 24), (1006, 1738, 576), (1005, 1450, 288), (1004, 1162, 288), (1003, 586, 576), (1002, 10, 576), (1001, 0, 10)] I I28 := fun hz => SV.cons (t := (1013, 2458, 24)) (l := [(1012, 2434, 24), (1011, 2410, 24), (1010, 2386, 24), (1009, 2362, 24), (1008, 2338, 24), (1007, 2314, 24), (1006, 1738, 576), (1005, 1450, 288), (1004, 1162, 288), (1003, 586, 576), (1002, 10, 576), (1001, 0, 10)]) (hsv hz) (xsI28 (by omega)) (by decide) (by decide)
  replace hld : a1.toInt ≠ 0 → LD (a0).toNatClampNeg [(1013, 2458, 24), (1012, 2434, 24), (1011, 2410, 24), (1010, 2386, 24), (1009, 2362, 24), (1008, 2338, 24), (1007, 2314, 24), (1006, 1738, 576), (1005, 1450, 288), (1004, 1162, 288), (1003, 586, 576), (1002, 10, 576), (1001, 0, 10)] I I28 := fun hz => LD.cons (t := (1013, 2458, 24)) (l := [(1012, 2434, 24), (1011, 2410, 24), (1010, 2386, 24), (1009, 2362, 24), (1008, 2338, 24), (1007, 2314, 24), (1006, 1738, 576), (1005, 1450, 288), (1004, 1162, 288), (1003, 586, 576), (1002, 10, 576), (1001, 0, 10)]) (hld hz) (xlI28 (by omega)) (by decide) (by decide)
  clear xsI28 xlI28 hgb
  refine lv_aload_n hx hb dX10_carriesAll_118 rfl (lv_at hl 0 rfl) ?_
  refine lv_aload_n hx hb dX10_carriesAll_119 rfl (lv_at hl 0 rfl) ?_
  refine m_getr (1000) 14 (1014) hx hb hts hown hE oc10 hM hJ.1 rfl (by decide) rfl (hJ.2 14 (by decide)).2 (by decide) tb_1191 dX10_carriesAll_120 ?_
  refine m_callv (m_runV (1000) (As := [.ref (ad (1014))]) (rest := []) hx hb hml hown hts hE hM hS hA ce_X10_carry tb_1832 (V_X10_carry_1014 l D A ad ns I28 L29 G (a0).toNatClampNeg hJ hI (by omega) (by omega)) rfl rfl ⟨Nat.le_of_ble_eq_true rfl, Nat.le_of_ble_eq_true rfl⟩ hJ.1 rfl rfl (by decide) rfl hl.1 rfl (Nat.le_of_ble_eq_true rfl) dX10_carriesAll_123 ⟨Nat.le_of_ble_eq_true rfl, Nat.le_of_ble_eq_true rfl⟩) hS (fun u H locs hw hM hS => ?_)
  obtain ⟨I30, L31, rfl, hI, hkI30, xI30⟩ := hw
  have hM : Mem D A ad ns I30 L31 G H := hM
  have hK := hK.trans hkI30 rfl
  have hgb : (I28 1000 79).toInt = a1.toInt := congrArg Int32.toInt (((((((((((((((hkI28.get (1000) 79 rfl)).trans (hkI26.get (1000) 79 rfl)).trans (hkI24.get (1000) 79 rfl)).trans (hkI22.get (1000) 79 rfl)).trans (hkI20.get (1000) 79 rfl)).trans (hkI18.get (1000) 79 rfl)).trans (hkI16.get (1000) 79 rfl)).trans (hkI14.get (1000) 79 rfl)).trans (hkI12.get (1000) 79 rfl)).trans (hkI10.get (1000) 79 rfl)).trans (hkI8.get (1000) 79 rfl)).trans (hkI6.get (1000) 79 rfl)).trans (hkI4.get (1000) 79 rfl)).trans (show (u2 (u2 I (1000) 78 (v1)) (1000) 79 (a1)) (1000) 79 = a1 from by simp [u2_v]))
  obtain ⟨yI30, xsI30, xlI30⟩ := xI30
  replace hsv : a1.toInt = 0 → SV (a0).toNatClampNeg [(1014, 2482, 24), (1013, 2458, 24), (1012, 2434, 24), (1011, 2410, 24), (1010, 2386, 24), (1009, 2362, 24), (1008, 2338, 24), (1007, 2314, 24), (1006, 1738, 576), (1005, 1450, 288), (1004, 1162, 288), (1003, 586, 576), (1002, 10, 576), (1001, 0, 10)] I I30 := fun hz => SV.cons (t := (1014, 2482, 24)) (l := [(1013, 2458, 24), (1012, 2434, 24), (1011, 2410, 24), (1010, 2386, 24), (1009, 2362, 24), (1008, 2338, 24), (1007, 2314, 24), (1006, 1738, 576), (1005, 1450, 288), (1004, 1162, 288), (1003, 586, 576), (1002, 10, 576), (1001, 0, 10)]) (hsv hz) (xsI30 (by omega)) (by decide) (by decide)
  replace hld : a1.toInt ≠ 0 → LD (a0).toNatClampNeg [(1014, 2482, 24), (1013, 2458, 24), (1012, 2434, 24), (1011, 2410, 24), (1010, 2386, 24), (1009, 2362, 24), (1008, 2338, 24), (1007, 2314, 24), (1006, 1738, 576), (1005, 1450, 288), (1004, 1162, 288), (1003, 586, 576), (1002, 10, 576), (1001, 0, 10)] I I30 := fun hz => LD.cons (t := (1014, 2482, 24)) (l := [(1013, 2458, 24), (1012, 2434, 24), (1011, 2410, 24), (1010, 2386, 24), (1009, 2362, 24), (1008, 2338, 24), (1007, 2314, 24), (1006, 1738, 576), (1005, 1450, 288), (1004, 1162, 288), (1003, 586, 576), (1002, 10, 576), (1001, 0, 10)]) (hld hz) (xlI30 (by omega)) (by decide) (by decide)
  clear xsI30 xlI30 hgb
  refine lv_aload_n hx hb dX10_carriesAll_126 rfl (lv_at hl 0 rfl) ?_
  refine lv_aload_n hx hb dX10_carriesAll_127 rfl (lv_at hl 0 rfl) ?_
  refine m_getr (1000) 15 (1015) hx hb hts hown hE oc10 hM hJ.1 rfl (by decide) rfl (hJ.2 15 (by decide)).2 (by decide) tb_1192 dX10_carriesAll_128 ?_
  refine m_callv (m_runV (1000) (As := [.ref (ad (1015))]) (rest := []) hx hb hml hown hts hE hM hS hA ce_X10_carry tb_1832 (V_X10_carry_1015 l D A ad ns I30 L31 G (a0).toNatClampNeg hJ hI (by omega) (by omega)) rfl rfl ⟨Nat.le_of_ble_eq_true rfl, Nat.le_of_ble_eq_true rfl⟩ hJ.1 rfl rfl (by decide) rfl hl.1 rfl (Nat.le_of_ble_eq_true rfl) dX10_carriesAll_131 ⟨Nat.le_of_ble_eq_true rfl, Nat.le_of_ble_eq_true rfl⟩) hS (fun u H locs hw hM hS => ?_)
  obtain ⟨I32, L33, rfl, hI, hkI32, xI32⟩ := hw
  have hM : Mem D A ad ns I32 L33 G H := hM
  have hK := hK.trans hkI32 rfl
  have hgb : (I30 1000 79).toInt = a1.toInt := congrArg Int32.toInt ((((((((((((((((hkI30.get (1000) 79 rfl)).trans (hkI28.get (1000) 79 rfl)).trans (hkI26.get (1000) 79 rfl)).trans (hkI24.get (1000) 79 rfl)).trans (hkI22.get (1000) 79 rfl)).trans (hkI20.get (1000) 79 rfl)).trans (hkI18.get (1000) 79 rfl)).trans (hkI16.get (1000) 79 rfl)).trans (hkI14.get (1000) 79 rfl)).trans (hkI12.get (1000) 79 rfl)).trans (hkI10.get (1000) 79 rfl)).trans (hkI8.get (1000) 79 rfl)).trans (hkI6.get (1000) 79 rfl)).trans (hkI4.get (1000) 79 rfl)).trans (show (u2 (u2 I (1000) 78 (v1)) (1000) 79 (a1)) (1000) 79 = a1 from by simp [u2_v]))
  obtain ⟨yI32, xsI32, xlI32⟩ := xI32
  replace hsv : a1.toInt = 0 → SV (a0).toNatClampNeg [(1015, 2506, 24), (1014, 2482, 24), (1013, 2458, 24), (1012, 2434, 24), (1011, 2410, 24), (1010, 2386, 24), (1009, 2362, 24), (1008, 2338, 24), (1007, 2314, 24), (1006, 1738, 576), (1005, 1450, 288), (1004, 1162, 288), (1003, 586, 576), (1002, 10, 576), (1001, 0, 10)] I I32 := fun hz => SV.cons (t := (1015, 2506, 24)) (l := [(1014, 2482, 24), (1013, 2458, 24), (1012, 2434, 24), (1011, 2410, 24), (1010, 2386, 24), (1009, 2362, 24), (1008, 2338, 24), (1007, 2314, 24), (1006, 1738, 576), (1005, 1450, 288), (1004, 1162, 288), (1003, 586, 576), (1002, 10, 576), (1001, 0, 10)]) (hsv hz) (xsI32 (by omega)) (by decide) (by decide)
  replace hld : a1.toInt ≠ 0 → LD (a0).toNatClampNeg [(1015, 2506, 24), (1014, 2482, 24), (1013, 2458, 24), (1012, 2434, 24), (1011, 2410, 24), (1010, 2386, 24), (1009, 2362, 24), (1008, 2338, 24), (1007, 2314, 24), (1006, 1738, 576), (1005, 1450, 288), (1004, 1162, 288), (1003, 586, 576), (1002, 10, 576), (1001, 0, 10)] I I32 := fun hz => LD.cons (t := (1015, 2506, 24)) (l := [(1014, 2482, 24), (1013, 2458, 24), (1012, 2434, 24), (1011, 2410, 24), (1010, 2386, 24), (1009, 2362, 24), (1008, 2338, 24), (1007, 2314, 24), (1006, 1738, 576), (1005, 1450, 288), (1004, 1162, 288), (1003, 586, 576), (1002, 10, 576), (1001, 0, 10)]) (hld hz) (xlI32 (by omega)) (by decide) (by decide)
  clear xsI32 xlI32 hgb
  refine lv_aload_n hx hb dX10_carriesAll_134 rfl (lv_at hl 0 rfl) ?_
  refine lv_aload_n hx hb dX10_carriesAll_135 rfl (lv_at hl 0 rfl) ?_
  refine m_getr (1000) 16 (1016) hx hb hts hown hE oc10 hM hJ.1 rfl (by decide) rfl (hJ.2 16 (by decide)).2 (by decide) tb_1193 dX10_carriesAll_136 ?_
  refine m_callv (m_runV (1000) (As := [.ref (ad (1016))]) (rest := []) hx hb hml hown hts hE hM hS hA ce_X10_carry tb_1832 (V_X10_carry_1016 l D A ad ns I32 L33 G (a0).toNatClampNeg hJ hI (by omega) (by omega)) rfl rfl ⟨Nat.le_of_ble_eq_true rfl, Nat.le_of_ble_eq_true rfl⟩ hJ.1 rfl rfl (by decide) rfl hl.1 rfl (Nat.le_of_ble_eq_true rfl) dX10_carriesAll_139 ⟨Nat.le_of_ble_eq_true rfl, Nat.le_of_ble_eq_true rfl⟩) hS (fun u H locs hw hM hS => ?_)
  obtain ⟨I34, L35, rfl, hI, hkI34, xI34⟩ := hw
  have hM : Mem D A ad ns I34 L35 G H := hM
  have hK := hK.trans hkI34 rfl
  have hgb : (I32 1000 79).toInt = a1.toInt := congrArg Int32.toInt (((((((((((((((((hkI32.get (1000) 79 rfl)).trans (hkI30.get (1000) 79 rfl)).trans (hkI28.get (1000) 79 rfl)).trans (hkI26.get (1000) 79 rfl)).trans (hkI24.get (1000) 79 rfl)).trans (hkI22.get (1000) 79 rfl)).trans (hkI20.get (1000) 79 rfl)).trans (hkI18.get (1000) 79 rfl)).trans (hkI16.get (1000) 79 rfl)).trans (hkI14.get (1000) 79 rfl)).trans (hkI12.get (1000) 79 rfl)).trans (hkI10.get (1000) 79 rfl)).trans (hkI8.get (1000) 79 rfl)).trans (hkI6.get (1000) 79 rfl)).trans (hkI4.get (1000) 79 rfl)).trans (show (u2 (u2 I (1000) 78 (v1)) (1000) 79 (a1)) (1000) 79 = a1 from by simp [u2_v]))
  obtain ⟨yI34, xsI34, xlI34⟩ := xI34
  replace hsv : a1.toInt = 0 → SV (a0).toNatClampNeg [(1016, 2530, 24), (1015, 2506, 24), (1014, 2482, 24), (1013, 2458, 24), (1012, 2434, 24), (1011, 2410, 24), (1010, 2386, 24), (1009, 2362, 24), (1008, 2338, 24), (1007, 2314, 24), (1006, 1738, 576), (1005, 1450, 288), (1004, 1162, 288), (1003, 586, 576), (1002, 10, 576), (1001, 0, 10)] I I34 := fun hz => SV.cons (t := (1016, 2530, 24)) (l := [(1015, 2506, 24), (1014, 2482, 24), (1013, 2458, 24), (1012, 2434, 24), (1011, 2410, 24), (1010, 2386, 24), (1009, 2362, 24), (1008, 2338, 24), (1007, 2314, 24), (1006, 1738, 576), (1005, 1450, 288), (1004, 1162, 288), (1003, 586, 576), (1002, 10, 576), (1001, 0, 10)]) (hsv hz) (xsI34 (by omega)) (by decide) (by decide)
  replace hld : a1.toInt ≠ 0 → LD (a0).toNatClampNeg [(1016, 2530, 24), (1015, 2506, 24), (1014, 2482, 24), (1013, 2458, 24), (1012, 2434, 24), (1011, 2410, 24), (1010, 2386, 24), (1009, 2362, 24), (1008, 2338, 24), (1007, 2314, 24), (1006, 1738, 576), (1005, 1450, 288), (1004, 1162, 288), (1003, 586, 576), (1002, 10, 576), (1001, 0, 10)] I I34 := fun hz => LD.cons (t := (1016, 2530, 24)) (l := [(1015, 2506, 24), (1014, 2482, 24), (1013, 2458, 24), (1012, 2434, 24), (1011, 2410, 24), (1010, 2386, 24), (1009, 2362, 24), (1008, 2338, 24), (1007, 2314, 24), (1006, 1738, 576), (1005, 1450, 288), (1004, 1162, 288), (1003, 586, 576), (1002, 10, 576), (1001, 0, 10)]) (hld hz) (xlI34 (by omega)) (by decide) (by decide)
  clear xsI34 xlI34 hgb
  refine lv_aload_n hx hb dX10_carriesAll_142 rfl (lv_at hl 0 rfl) ?_
  refine lv_aload_n hx hb dX10_carriesAll_143 rfl (lv_at hl 0 rfl) ?_
  refine m_getr (1000) 17 (1017) hx hb hts hown hE oc10 hM hJ.1 rfl (by decide) rfl (hJ.2 17 (by decide)).2 (by decide) tb_1194 dX10_carriesAll_144 ?_
  refine m_callv (m_runV (1000) (As := [.ref (ad (1017))]) (rest := []) hx hb hml hown hts hE hM hS hA ce_X10_carry tb_1832 (V_X10_carry_1017 l D A ad ns I34 L35 G (a0).toNatClampNeg hJ hI (by omega) (by omega)) rfl rfl ⟨Nat.le_of_ble_eq_true rfl, Nat.le_of_ble_eq_true rfl⟩ hJ.1 rfl rfl (by decide) rfl hl.1 rfl (Nat.le_of_ble_eq_true rfl) dX10_carriesAll_147 ⟨Nat.le_of_ble_eq_true rfl, Nat.le_of_ble_eq_true rfl⟩) hS (fun u H locs hw hM hS => ?_)
  obtain ⟨I36, L37, rfl, hI, hkI36, xI36⟩ := hw
  have hM : Mem D A ad ns I36 L37 G H := hM
  have hK := hK.trans hkI36 rfl
  have hgb : (I34 1000 79).toInt = a1.toInt := congrArg Int32.toInt ((((((((((((((((((hkI34.get (1000) 79 rfl)).trans (hkI32.get (1000) 79 rfl)).trans (hkI30.get (1000) 79 rfl)).trans (hkI28.get (1000) 79 rfl)).trans (hkI26.get (1000) 79 rfl)).trans (hkI24.get (1000) 79 rfl)).trans (hkI22.get (1000) 79 rfl)).trans (hkI20.get (1000) 79 rfl)).trans (hkI18.get (1000) 79 rfl)).trans (hkI16.get (1000) 79 rfl)).trans (hkI14.get (1000) 79 rfl)).trans (hkI12.get (1000) 79 rfl)).trans (hkI10.get (1000) 79 rfl)).trans (hkI8.get (1000) 79 rfl)).trans (hkI6.get (1000) 79 rfl)).trans (hkI4.get (1000) 79 rfl)).trans (show (u2 (u2 I (1000) 78 (v1)) (1000) 79 (a1)) (1000) 79 = a1 from by simp [u2_v]))
  obtain ⟨yI36, xsI36, xlI36⟩ := xI36
  replace hsv : a1.toInt = 0 → SV (a0).toNatClampNeg [(1017, 2554, 8), (1016, 2530, 24), (1015, 2506, 24), (1014, 2482, 24), (1013, 2458, 24), (1012, 2434, 24), (1011, 2410, 24), (1010, 2386, 24), (1009, 2362, 24), (1008, 2338, 24), (1007, 2314, 24), (1006, 1738, 576), (1005, 1450, 288), (1004, 1162, 288), (1003, 586, 576), (1002, 10, 576), (1001, 0, 10)] I I36 := fun hz => SV.cons (t := (1017, 2554, 8)) (l := [(1016, 2530, 24), (1015, 2506, 24), (1014, 2482, 24), (1013, 2458, 24), (1012, 2434, 24), (1011, 2410, 24), (1010, 2386, 24), (1009, 2362, 24), (1008, 2338, 24), (1007, 2314, 24), (1006, 1738, 576), (1005, 1450, 288), (1004, 1162, 288), (1003, 586, 576), (1002, 10, 576), (1001, 0, 10)]) (hsv hz) (xsI36 (by omega)) (by decide) (by decide)
  replace hld : a1.toInt ≠ 0 → LD (a0).toNatClampNeg [(1017, 2554, 8), (1016, 2530, 24), (1015, 2506, 24), (1014, 2482, 24), (1013, 2458, 24), (1012, 2434, 24), (1011, 2410, 24), (1010, 2386, 24), (1009, 2362, 24), (1008, 2338, 24), (1007, 2314, 24), (1006, 1738, 576), (1005, 1450, 288), (1004, 1162, 288), (1003, 586, 576), (1002, 10, 576), (1001, 0, 10)] I I36 := fun hz => LD.cons (t := (1017, 2554, 8)) (l := [(1016, 2530, 24), (1015, 2506, 24), (1014, 2482, 24), (1013, 2458, 24), (1012, 2434, 24), (1011, 2410, 24), (1010, 2386, 24), (1009, 2362, 24), (1008, 2338, 24), (1007, 2314, 24), (1006, 1738, 576), (1005, 1450, 288), (1004, 1162, 288), (1003, 586, 576), (1002, 10, 576), (1001, 0, 10)]) (hld hz) (xlI36 (by omega)) (by decide) (by decide)
  clear xsI36 xlI36 hgb
  refine lv_aload_n hx hb dX10_carriesAll_150 rfl (lv_at hl 0 rfl) ?_
  refine lv_aload_n hx hb dX10_carriesAll_151 rfl (lv_at hl 0 rfl) ?_
  refine m_getr (1000) 18 (1018) hx hb hts hown hE oc10 hM hJ.1 rfl (by decide) rfl (hJ.2 18 (by decide)).2 (by decide) tb_1195 dX10_carriesAll_152 ?_
  refine m_callv (m_runV (1000) (As := [.ref (ad (1018))]) (rest := []) hx hb hml hown hts hE hM hS hA ce_X10_carry tb_1832 (V_X10_carry_1018 l D A ad ns I36 L37 G (a0).toNatClampNeg hJ hI (by omega) (by omega)) rfl rfl ⟨Nat.le_of_ble_eq_true rfl, Nat.le_of_ble_eq_true rfl⟩ hJ.1 rfl rfl (by decide) rfl hl.1 rfl (Nat.le_of_ble_eq_true rfl) dX10_carriesAll_155 ⟨Nat.le_of_ble_eq_true rfl, Nat.le_of_ble_eq_true rfl⟩) hS (fun u H locs hw hM hS => ?_)
  obtain ⟨I38, L39, rfl, hI, hkI38, xI38⟩ := hw
  have hM : Mem D A ad ns I38 L39 G H := hM
  have hK := hK.trans hkI38 rfl
  have hgb : (I36 1000 79).toInt = a1.toInt := congrArg Int32.toInt (((((((((((((((((((hkI36.get (1000) 79 rfl)).trans (hkI34.get (1000) 79 rfl)).trans (hkI32.get (1000) 79 rfl)).trans (hkI30.get (1000) 79 rfl)).trans (hkI28.get (1000) 79 rfl)).trans (hkI26.get (1000) 79 rfl)).trans (hkI24.get (1000) 79 rfl)).trans (hkI22.get (1000) 79 rfl)).trans (hkI20.get (1000) 79 rfl)).trans (hkI18.get (1000) 79 rfl)).trans (hkI16.get (1000) 79 rfl)).trans (hkI14.get (1000) 79 rfl)).trans (hkI12.get (1000) 79 rfl)).trans (hkI10.get (1000) 79 rfl)).trans (hkI8.get (1000) 79 rfl)).trans (hkI6.get (1000) 79 rfl)).trans (hkI4.get (1000) 79 rfl)).trans (show (u2 (u2 I (1000) 78 (v1)) (1000) 79 (a1)) (1000) 79 = a1 from by simp [u2_v]))
  obtain ⟨yI38, xsI38, xlI38⟩ := xI38
  replace hsv : a1.toInt = 0 → SV (a0).toNatClampNeg [(1018, 2562, 8), (1017, 2554, 8), (1016, 2530, 24), (1015, 2506, 24), (1014, 2482, 24), (1013, 2458, 24), (1012, 2434, 24), (1011, 2410, 24), (1010, 2386, 24), (1009, 2362, 24), (1008, 2338, 24), (1007, 2314, 24), (1006, 1738, 576), (1005, 1450, 288), (1004, 1162, 288), (1003, 586, 576), (1002, 10, 576), (1001, 0, 10)] I I38 := fun hz => SV.cons (t := (1018, 2562, 8)) (l := [(1017, 2554, 8), (1016, 2530, 24), (1015, 2506, 24), (1014, 2482, 24), (1013, 2458, 24), (1012, 2434, 24), (1011, 2410, 24), (1010, 2386, 24), (1009, 2362, 24), (1008, 2338, 24), (1007, 2314, 24), (1006, 1738, 576), (1005, 1450, 288), (1004, 1162, 288), (1003, 586, 576), (1002, 10, 576), (1001, 0, 10)]) (hsv hz) (xsI38 (by omega)) (by decide) (by decide)
  replace hld : a1.toInt ≠ 0 → LD (a0).toNatClampNeg [(1018, 2562, 8), (1017, 2554, 8), (1016, 2530, 24), (1015, 2506, 24), (1014, 2482, 24), (1013, 2458, 24), (1012, 2434, 24), (1011, 2410, 24), (1010, 2386, 24), (1009, 2362, 24), (1008, 2338, 24), (1007, 2314, 24), (1006, 1738, 576), (1005, 1450, 288), (1004, 1162, 288), (1003, 586, 576), (1002, 10, 576), (1001, 0, 10)] I I38 := fun hz => LD.cons (t := (1018, 2562, 8)) (l := [(1017, 2554, 8), (1016, 2530, 24), (1015, 2506, 24), (1014, 2482, 24), (1013, 2458, 24), (1012, 2434, 24), (1011, 2410, 24), (1010, 2386, 24), (1009, 2362, 24), (1008, 2338, 24), (1007, 2314, 24), (1006, 1738, 576), (1005, 1450, 288), (1004, 1162, 288), (1003, 586, 576), (1002, 10, 576), (1001, 0, 10)]) (hld hz) (xlI38 (by omega)) (by decide) (by decide)
  clear xsI38 xlI38 hgb
  refine lv_aload_n hx hb dX10_carriesAll_158 rfl (lv_at hl 0 rfl) ?_
  refine lv_aload_n hx hb dX10_carriesAll_159 rfl (lv_at hl 0 rfl) ?_
  refine m_getr (1000) 19 (1019) hx hb hts hown hE oc10 hM hJ.1 rfl (by decide) rfl (hJ.2 19 (by decide)).2 (by decide) tb_1196 dX10_carriesAll_160 ?_
  refine m_callv (m_runV (1000) (As := [.ref (ad (1019))]) (rest := []) hx hb hml hown hts hE hM hS hA ce_X10_carry tb_1832 (V_X10_carry_1019 l D A ad ns I38 L39 G (a0).toNatClampNeg hJ hI (by omega) (by omega)) rfl rfl ⟨Nat.le_of_ble_eq_true rfl, Nat.le_of_ble_eq_true rfl⟩ hJ.1 rfl rfl (by decide) rfl hl.1 rfl (Nat.le_of_ble_eq_true rfl) dX10_carriesAll_163 ⟨Nat.le_of_ble_eq_true rfl, Nat.le_of_ble_eq_true rfl⟩) hS (fun u H locs hw hM hS => ?_)
  obtain ⟨I40, L41, rfl, hI, hkI40, xI40⟩ := hw
  have hM : Mem D A ad ns I40 L41 G H := hM
  have hK := hK.trans hkI40 rfl
  have hgb : (I38 1000 79).toInt = a1.toInt := congrArg Int32.toInt ((((((((((((((((((((hkI38.get (1000) 79 rfl)).trans (hkI36.get (1000) 79 rfl)).trans (hkI34.get (1000) 79 rfl)).trans (hkI32.get (1000) 79 rfl)).trans (hkI30.get (1000) 79 rfl)).trans (hkI28.get (1000) 79 rfl)).trans (hkI26.get (1000) 79 rfl)).trans (hkI24.get (1000) 79 rfl)).trans (hkI22.get (1000) 79 rfl)).trans (hkI20.get (1000) 79 rfl)).trans (hkI18.get (1000) 79 rfl)).trans (hkI16.get (1000) 79 rfl)).trans (hkI14.get (1000) 79 rfl)).trans (hkI12.get (1000) 79 rfl)).trans (hkI10.get (1000) 79 rfl)).trans (hkI8.get (1000) 79 rfl)).trans (hkI6.get (1000) 79 rfl)).trans (hkI4.get (1000) 79 rfl)).trans (show (u2 (u2 I (1000) 78 (v1)) (1000) 79 (a1)) (1000) 79 = a1 from by simp [u2_v]))
  obtain ⟨yI40, xsI40, xlI40⟩ := xI40
  replace hsv : a1.toInt = 0 → SV (a0).toNatClampNeg [(1019, 2570, 8), (1018, 2562, 8), (1017, 2554, 8), (1016, 2530, 24), (1015, 2506, 24), (1014, 2482, 24), (1013, 2458, 24), (1012, 2434, 24), (1011, 2410, 24), (1010, 2386, 24), (1009, 2362, 24), (1008, 2338, 24), (1007, 2314, 24), (1006, 1738, 576), (1005, 1450, 288), (1004, 1162, 288), (1003, 586, 576), (1002, 10, 576), (1001, 0, 10)] I I40 := fun hz => SV.cons (t := (1019, 2570, 8)) (l := [(1018, 2562, 8), (1017, 2554, 8), (1016, 2530, 24), (1015, 2506, 24), (1014, 2482, 24), (1013, 2458, 24), (1012, 2434, 24), (1011, 2410, 24), (1010, 2386, 24), (1009, 2362, 24), (1008, 2338, 24), (1007, 2314, 24), (1006, 1738, 576), (1005, 1450, 288), (1004, 1162, 288), (1003, 586, 576), (1002, 10, 576), (1001, 0, 10)]) (hsv hz) (xsI40 (by omega)) (by decide) (by decide)
  replace hld : a1.toInt ≠ 0 → LD (a0).toNatClampNeg [(1019, 2570, 8), (1018, 2562, 8), (1017, 2554, 8), (1016, 2530, 24), (1015, 2506, 24), (1014, 2482, 24), (1013, 2458, 24), (1012, 2434, 24), (1011, 2410, 24), (1010, 2386, 24), (1009, 2362, 24), (1008, 2338, 24), (1007, 2314, 24), (1006, 1738, 576), (1005, 1450, 288), (1004, 1162, 288), (1003, 586, 576), (1002, 10, 576), (1001, 0, 10)] I I40 := fun hz => LD.cons (t := (1019, 2570, 8)) (l := [(1018, 2562, 8), (1017, 2554, 8), (1016, 2530, 24), (1015, 2506, 24), (1014, 2482, 24), (1013, 2458, 24), (1012, 2434, 24), (1011, 2410, 24), (1010, 2386, 24), (1009, 2362, 24), (1008, 2338, 24), (1007, 2314, 24), (1006, 1738, 576), (1005, 1450, 288), (1004, 1162, 288), (1003, 586, 576), (1002, 10, 576), (1001, 0, 10)]) (hld hz) (xlI40 (by omega)) (by decide) (by decide)
  clear xsI40 xlI40 hgb
  refine lv_aload_n hx hb dX10_carriesAll_166 rfl (lv_at hl 0 rfl) ?_
  refine lv_aload_n hx hb dX10_carriesAll_167 rfl (lv_at hl 0 rfl) ?_
  refine m_getr (1000) 20 (1020) hx hb hts hown hE oc10 hM hJ.1 rfl (by decide) rfl (hJ.2 20 (by decide)).2 (by decide) tb_1197 dX10_carriesAll_168 ?_
  refine m_callv (m_runV (1000) (As := [.ref (ad (1020))]) (rest := []) hx hb hml hown hts hE hM hS hA ce_X10_carry tb_1832 (V_X10_carry_1020 l D A ad ns I40 L41 G (a0).toNatClampNeg hJ hI (by omega) (by omega)) rfl rfl ⟨Nat.le_of_ble_eq_true rfl, Nat.le_of_ble_eq_true rfl⟩ hJ.1 rfl rfl (by decide) rfl hl.1 rfl (Nat.le_of_ble_eq_true rfl) dX10_carriesAll_171 ⟨Nat.le_of_ble_eq_true rfl, Nat.le_of_ble_eq_true rfl⟩) hS (fun u H locs hw hM hS => ?_)
  obtain ⟨I42, L43, rfl, hI, hkI42, xI42⟩ := hw
  have hM : Mem D A ad ns I42 L43 G H := hM
  have hK := hK.trans hkI42 rfl
  have hgb : (I40 1000 79).toInt = a1.toInt := congrArg Int32.toInt (((((((((((((((((((((hkI40.get (1000) 79 rfl)).trans (hkI38.get (1000) 79 rfl)).trans (hkI36.get (1000) 79 rfl)).trans (hkI34.get (1000) 79 rfl)).trans (hkI32.get (1000) 79 rfl)).trans (hkI30.get (1000) 79 rfl)).trans (hkI28.get (1000) 79 rfl)).trans (hkI26.get (1000) 79 rfl)).trans (hkI24.get (1000) 79 rfl)).trans (hkI22.get (1000) 79 rfl)).trans (hkI20.get (1000) 79 rfl)).trans (hkI18.get (1000) 79 rfl)).trans (hkI16.get (1000) 79 rfl)).trans (hkI14.get (1000) 79 rfl)).trans (hkI12.get (1000) 79 rfl)).trans (hkI10.get (1000) 79 rfl)).trans (hkI8.get (1000) 79 rfl)).trans (hkI6.get (1000) 79 rfl)).trans (hkI4.get (1000) 79 rfl)).trans (show (u2 (u2 I (1000) 78 (v1)) (1000) 79 (a1)) (1000) 79 = a1 from by simp [u2_v]))
  obtain ⟨yI42, xsI42, xlI42⟩ := xI42
  replace hsv : a1.toInt = 0 → SV (a0).toNatClampNeg [(1020, 2578, 8), (1019, 2570, 8), (1018, 2562, 8), (1017, 2554, 8), (1016, 2530, 24), (1015, 2506, 24), (1014, 2482, 24), (1013, 2458, 24), (1012, 2434, 24), (1011, 2410, 24), (1010, 2386, 24), (1009, 2362, 24), (1008, 2338, 24), (1007, 2314, 24), (1006, 1738, 576), (1005, 1450, 288), (1004, 1162, 288), (1003, 586, 576), (1002, 10, 576), (1001, 0, 10)] I I42 := fun hz => SV.cons (t := (1020, 2578, 8)) (l := [(1019, 2570, 8), (1018, 2562, 8), (1017, 2554, 8), (1016, 2530, 24), (1015, 2506, 24), (1014, 2482, 24), (1013, 2458, 24), (1012, 2434, 24), (1011, 2410, 24), (1010, 2386, 24), (1009, 2362, 24), (1008, 2338, 24), (1007, 2314, 24), (1006, 1738, 576), (1005, 1450, 288), (1004, 1162, 288), (1003, 586, 576), (1002, 10, 576), (1001, 0, 10)]) (hsv hz) (xsI42 (by omega)) (by decide) (by decide)
  replace hld : a1.toInt ≠ 0 → LD (a0).toNatClampNeg [(1020, 2578, 8), (1019, 2570, 8), (1018, 2562, 8), (1017, 2554, 8), (1016, 2530, 24), (1015, 2506, 24), (1014, 2482, 24), (1013, 2458, 24), (1012, 2434, 24), (1011, 2410, 24), (1010, 2386, 24), (1009, 2362, 24), (1008, 2338, 24), (1007, 2314, 24), (1006, 1738, 576), (1005, 1450, 288), (1004, 1162, 288), (1003, 586, 576), (1002, 10, 576), (1001, 0, 10)] I I42 := fun hz => LD.cons (t := (1020, 2578, 8)) (l := [(1019, 2570, 8), (1018, 2562, 8), (1017, 2554, 8), (1016, 2530, 24), (1015, 2506, 24), (1014, 2482, 24), (1013, 2458, 24), (1012, 2434, 24), (1011, 2410, 24), (1010, 2386, 24), (1009, 2362, 24), (1008, 2338, 24), (1007, 2314, 24), (1006, 1738, 576), (1005, 1450, 288), (1004, 1162, 288), (1003, 586, 576), (1002, 10, 576), (1001, 0, 10)]) (hld hz) (xlI42 (by omega)) (by decide) (by decide)
  clear xsI42 xlI42 hgb
  refine lv_aload_n hx hb dX10_carriesAll_174 rfl (lv_at hl 0 rfl) ?_
  refine lv_aload_n hx hb dX10_carriesAll_175 rfl (lv_at hl 0 rfl) ?_
  refine m_getr (1000) 21 (1021) hx hb hts hown hE oc10 hM hJ.1 rfl (by decide) rfl (hJ.2 21 (by decide)).2 (by decide) tb_1198 dX10_carriesAll_176 ?_
  refine m_callv (m_runV (1000) (As := [.ref (ad (1021))]) (rest := []) hx hb hml hown hts hE hM hS hA ce_X10_carry tb_1832 (V_X10_carry_1021 l D A ad ns I42 L43 G (a0).toNatClampNeg hJ hI (by omega) (by omega)) rfl rfl ⟨Nat.le_of_ble_eq_true rfl, Nat.le_of_ble_eq_true rfl⟩ hJ.1 rfl rfl (by decide) rfl hl.1 rfl (Nat.le_of_ble_eq_true rfl) dX10_carriesAll_179 ⟨Nat.le_of_ble_eq_true rfl, Nat.le_of_ble_eq_true rfl⟩) hS (fun u H locs hw hM hS => ?_)
  obtain ⟨I44, L45, rfl, hI, hkI44, xI44⟩ := hw
  have hM : Mem D A ad ns I44 L45 G H := hM
  have hK := hK.trans hkI44 rfl
  have hgb : (I42 1000 79).toInt = a1.toInt := congrArg Int32.toInt ((((((((((((((((((((((hkI42.get (1000) 79 rfl)).trans (hkI40.get (1000) 79 rfl)).trans (hkI38.get (1000) 79 rfl)).trans (hkI36.get (1000) 79 rfl)).trans (hkI34.get (1000) 79 rfl)).trans (hkI32.get (1000) 79 rfl)).trans (hkI30.get (1000) 79 rfl)).trans (hkI28.get (1000) 79 rfl)).trans (hkI26.get (1000) 79 rfl)).trans (hkI24.get (1000) 79 rfl)).trans (hkI22.get (1000) 79 rfl)).trans (hkI20.get (1000) 79 rfl)).trans (hkI18.get (1000) 79 rfl)).trans (hkI16.get (1000) 79 rfl)).trans (hkI14.get (1000) 79 rfl)).trans (hkI12.get (1000) 79 rfl)).trans (hkI10.get (1000) 79 rfl)).trans (hkI8.get (1000) 79 rfl)).trans (hkI6.get (1000) 79 rfl)).trans (hkI4.get (1000) 79 rfl)).trans (show (u2 (u2 I (1000) 78 (v1)) (1000) 79 (a1)) (1000) 79 = a1 from by simp [u2_v]))
  obtain ⟨yI44, xsI44, xlI44⟩ := xI44
  replace hsv : a1.toInt = 0 → SV (a0).toNatClampNeg [(1021, 2586, 8), (1020, 2578, 8), (1019, 2570, 8), (1018, 2562, 8), (1017, 2554, 8), (1016, 2530, 24), (1015, 2506, 24), (1014, 2482, 24), (1013, 2458, 24), (1012, 2434, 24), (1011, 2410, 24), (1010, 2386, 24), (1009, 2362, 24), (1008, 2338, 24), (1007, 2314, 24), (1006, 1738, 576), (1005, 1450, 288), (1004, 1162, 288), (1003, 586, 576), (1002, 10, 576), (1001, 0, 10)] I I44 := fun hz => SV.cons (t := (1021, 2586, 8)) (l := [(1020, 2578, 8), (1019, 2570, 8), (1018, 2562, 8), (1017, 2554, 8), (1016, 2530, 24), (1015, 2506, 24), (1014, 2482, 24), (1013, 2458, 24), (1012, 2434, 24), (1011, 2410, 24), (1010, 2386, 24), (1009, 2362, 24), (1008, 2338, 24), (1007, 2314, 24), (1006, 1738, 576), (1005, 1450, 288), (1004, 1162, 288), (1003, 586, 576), (1002, 10, 576), (1001, 0, 10)]) (hsv hz) (xsI44 (by omega)) (by decide) (by decide)
  replace hld : a1.toInt ≠ 0 → LD (a0).toNatClampNeg [(1021, 2586, 8), (1020, 2578, 8), (1019, 2570, 8), (1018, 2562, 8), (1017, 2554, 8), (1016, 2530, 24), (1015, 2506, 24), (1014, 2482, 24), (1013, 2458, 24), (1012, 2434, 24), (1011, 2410, 24), (1010, 2386, 24), (1009, 2362, 24), (1008, 2338, 24), (1007, 2314, 24), (1006, 1738, 576), (1005, 1450, 288), (1004, 1162, 288), (1003, 586, 576), (1002, 10, 576), (1001, 0, 10)] I I44 := fun hz => LD.cons (t := (1021, 2586, 8)) (l := [(1020, 2578, 8), (1019, 2570, 8), (1018, 2562, 8), (1017, 2554, 8), (1016, 2530, 24), (1015, 2506, 24), (1014, 2482, 24), (1013, 2458, 24), (1012, 2434, 24), (1011, 2410, 24), (1010, 2386, 24), (1009, 2362, 24), (1008, 2338, 24), (1007, 2314, 24), (1006, 1738, 576), (1005, 1450, 288), (1004, 1162, 288), (1003, 586, 576), (1002, 10, 576), (1001, 0, 10)]) (hld hz) (xlI44 (by omega)) (by decide) (by decide)
  clear xsI44 xlI44 hgb
  refine lv_aload_n hx hb dX10_carriesAll_182 rfl (lv_at hl 0 rfl) ?_
  refine lv_aload_n hx hb dX10_carriesAll_183 rfl (lv_at hl 0 rfl) ?_
  refine m_getr (1000) 22 (1022) hx hb hts hown hE oc10 hM hJ.1 rfl (by decide) rfl (hJ.2 22 (by decide)).2 (by decide) tb_1199 dX10_carriesAll_184 ?_
  refine m_callv (m_runV (1000) (As := [.ref (ad (1022))]) (rest := []) hx hb hml hown hts hE hM hS hA ce_X10_carry tb_1832 (V_X10_carry_1022 l D A ad ns I44 L45 G (a0).toNatClampNeg hJ hI (by omega) (by omega)) rfl rfl ⟨Nat.le_of_ble_eq_true rfl, Nat.le_of_ble_eq_true rfl⟩ hJ.1 rfl rfl (by decide) rfl hl.1 rfl (Nat.le_of_ble_eq_true rfl) dX10_carriesAll_187 ⟨Nat.le_of_ble_eq_true rfl, Nat.le_of_ble_eq_true rfl⟩) hS (fun u H locs hw hM hS => ?_)
  obtain ⟨I46, L47, rfl, hI, hkI46, xI46⟩ := hw
  have hM : Mem D A ad ns I46 L47 G H := hM
  have hK := hK.trans hkI46 rfl
  have hgb : (I44 1000 79).toInt = a1.toInt := congrArg Int32.toInt (((((((((((((((((((((((hkI44.get (1000) 79 rfl)).trans (hkI42.get (1000) 79 rfl)).trans (hkI40.get (1000) 79 rfl)).trans (hkI38.get (1000) 79 rfl)).trans (hkI36.get (1000) 79 rfl)).trans (hkI34.get (1000) 79 rfl)).trans (hkI32.get (1000) 79 rfl)).trans (hkI30.get (1000) 79 rfl)).trans (hkI28.get (1000) 79 rfl)).trans (hkI26.get (1000) 79 rfl)).trans (hkI24.get (1000) 79 rfl)).trans (hkI22.get (1000) 79 rfl)).trans (hkI20.get (1000) 79 rfl)).trans (hkI18.get (1000) 79 rfl)).trans (hkI16.get (1000) 79 rfl)).trans (hkI14.get (1000) 79 rfl)).trans (hkI12.get (1000) 79 rfl)).trans (hkI10.get (1000) 79 rfl)).trans (hkI8.get (1000) 79 rfl)).trans (hkI6.get (1000) 79 rfl)).trans (hkI4.get (1000) 79 rfl)).trans (show (u2 (u2 I (1000) 78 (v1)) (1000) 79 (a1)) (1000) 79 = a1 from by simp [u2_v]))
  obtain ⟨yI46, xsI46, xlI46⟩ := xI46
  replace hsv : a1.toInt = 0 → SV (a0).toNatClampNeg [(1022, 2594, 8), (1021, 2586, 8), (1020, 2578, 8), (1019, 2570, 8), (1018, 2562, 8), (1017, 2554, 8), (1016, 2530, 24), (1015, 2506, 24), (1014, 2482, 24), (1013, 2458, 24), (1012, 2434, 24), (1011, 2410, 24), (1010, 2386, 24), (1009, 2362, 24), (1008, 2338, 24), (1007, 2314, 24), (1006, 1738, 576), (1005, 1450, 288), (1004, 1162, 288), (1003, 586, 576), (1002, 10, 576), (1001, 0, 10)] I I46 := fun hz => SV.cons (t := (1022, 2594, 8)) (l := [(1021, 2586, 8), (1020, 2578, 8), (1019, 2570, 8), (1018, 2562, 8), (1017, 2554, 8), (1016, 2530, 24), (1015, 2506, 24), (1014, 2482, 24), (1013, 2458, 24), (1012, 2434, 24), (1011, 2410, 24), (1010, 2386, 24), (1009, 2362, 24), (1008, 2338, 24), (1007, 2314, 24), (1006, 1738, 576), (1005, 1450, 288), (1004, 1162, 288), (1003, 586, 576), (1002, 10, 576), (1001, 0, 10)]) (hsv hz) (xsI46 (by omega)) (by decide) (by decide)
  replace hld : a1.toInt ≠ 0 → LD (a0).toNatClampNeg [(1022, 2594, 8), (1021, 2586, 8), (1020, 2578, 8), (1019, 2570, 8), (1018, 2562, 8), (1017, 2554, 8), (1016, 2530, 24), (1015, 2506, 24), (1014, 2482, 24), (1013, 2458, 24), (1012, 2434, 24), (1011, 2410, 24), (1010, 2386, 24), (1009, 2362, 24), (1008, 2338, 24), (1007, 2314, 24), (1006, 1738, 576), (1005, 1450, 288), (1004, 1162, 288), (1003, 586, 576), (1002, 10, 576), (1001, 0, 10)] I I46 := fun hz => LD.cons (t := (1022, 2594, 8)) (l := [(1021, 2586, 8), (1020, 2578, 8), (1019, 2570, 8), (1018, 2562, 8), (1017, 2554, 8), (1016, 2530, 24), (1015, 2506, 24), (1014, 2482, 24), (1013, 2458, 24), (1012, 2434, 24), (1011, 2410, 24), (1010, 2386, 24), (1009, 2362, 24), (1008, 2338, 24), (1007, 2314, 24), (1006, 1738, 576), (1005, 1450, 288), (1004, 1162, 288), (1003, 586, 576), (1002, 10, 576), (1001, 0, 10)]) (hld hz) (xlI46 (by omega)) (by decide) (by decide)
  clear xsI46 xlI46 hgb
  refine lv_aload_n hx hb dX10_carriesAll_190 rfl (lv_at hl 0 rfl) ?_
  refine lv_aload_n hx hb dX10_carriesAll_191 rfl (lv_at hl 0 rfl) ?_
  refine m_getr (1000) 23 (1023) hx hb hts hown hE oc10 hM hJ.1 rfl (by decide) rfl (hJ.2 23 (by decide)).2 (by decide) tb_1200 dX10_carriesAll_192 ?_
  refine m_callv (m_runV (1000) (As := [.ref (ad (1023))]) (rest := []) hx hb hml hown hts hE hM hS hA ce_X10_carry tb_1832 (V_X10_carry_1023 l D A ad ns I46 L47 G (a0).toNatClampNeg hJ hI (by omega) (by omega)) rfl rfl ⟨Nat.le_of_ble_eq_true rfl, Nat.le_of_ble_eq_true rfl⟩ hJ.1 rfl rfl (by decide) rfl hl.1 rfl (Nat.le_of_ble_eq_true rfl) dX10_carriesAll_195 ⟨Nat.le_of_ble_eq_true rfl, Nat.le_of_ble_eq_true rfl⟩) hS (fun u H locs hw hM hS => ?_)
  obtain ⟨I48, L49, rfl, hI, hkI48, xI48⟩ := hw
  have hM : Mem D A ad ns I48 L49 G H := hM
  have hK := hK.trans hkI48 rfl
  have hgb : (I46 1000 79).toInt = a1.toInt := congrArg Int32.toInt ((((((((((((((((((((((((hkI46.get (1000) 79 rfl)).trans (hkI44.get (1000) 79 rfl)).trans (hkI42.get (1000) 79 rfl)).trans (hkI40.get (1000) 79 rfl)).trans (hkI38.get (1000) 79 rfl)).trans (hkI36.get (1000) 79 rfl)).trans (hkI34.get (1000) 79 rfl)).trans (hkI32.get (1000) 79 rfl)).trans (hkI30.get (1000) 79 rfl)).trans (hkI28.get (1000) 79 rfl)).trans (hkI26.get (1000) 79 rfl)).trans (hkI24.get (1000) 79 rfl)).trans (hkI22.get (1000) 79 rfl)).trans (hkI20.get (1000) 79 rfl)).trans (hkI18.get (1000) 79 rfl)).trans (hkI16.get (1000) 79 rfl)).trans (hkI14.get (1000) 79 rfl)).trans (hkI12.get (1000) 79 rfl)).trans (hkI10.get (1000) 79 rfl)).trans (hkI8.get (1000) 79 rfl)).trans (hkI6.get (1000) 79 rfl)).trans (hkI4.get (1000) 79 rfl)).trans (show (u2 (u2 I (1000) 78 (v1)) (1000) 79 (a1)) (1000) 79 = a1 from by simp [u2_v]))
  obtain ⟨yI48, xsI48, xlI48⟩ := xI48
  replace hsv : a1.toInt = 0 → SV (a0).toNatClampNeg [(1023, 2602, 8), (1022, 2594, 8), (1021, 2586, 8), (1020, 2578, 8), (1019, 2570, 8), (1018, 2562, 8), (1017, 2554, 8), (1016, 2530, 24), (1015, 2506, 24), (1014, 2482, 24), (1013, 2458, 24), (1012, 2434, 24), (1011, 2410, 24), (1010, 2386, 24), (1009, 2362, 24), (1008, 2338, 24), (1007, 2314, 24), (1006, 1738, 576), (1005, 1450, 288), (1004, 1162, 288), (1003, 586, 576), (1002, 10, 576), (1001, 0, 10)] I I48 := fun hz => SV.cons (t := (1023, 2602, 8)) (l := [(1022, 2594, 8), (1021, 2586, 8), (1020, 2578, 8), (1019, 2570, 8), (1018, 2562, 8), (1017, 2554, 8), (1016, 2530, 24), (1015, 2506, 24), (1014, 2482, 24), (1013, 2458, 24), (1012, 2434, 24), (1011, 2410, 24), (1010, 2386, 24), (1009, 2362, 24), (1008, 2338, 24), (1007, 2314, 24), (1006, 1738, 576), (1005, 1450, 288), (1004, 1162, 288), (1003, 586, 576), (1002, 10, 576), (1001, 0, 10)]) (hsv hz) (xsI48 (by omega)) (by decide) (by decide)
  replace hld : a1.toInt ≠ 0 → LD (a0).toNatClampNeg [(1023, 2602, 8), (1022, 2594, 8), (1021, 2586, 8), (1020, 2578, 8), (1019, 2570, 8), (1018, 2562, 8), (1017, 2554, 8), (1016, 2530, 24), (1015, 2506, 24), (1014, 2482, 24), (1013, 2458, 24), (1012, 2434, 24), (1011, 2410, 24), (1010, 2386, 24), (1009, 2362, 24), (1008, 2338, 24), (1007, 2314, 24), (1006, 1738, 576), (1005, 1450, 288), (1004, 1162, 288), (1003, 586, 576), (1002, 10, 576), (1001, 0, 10)] I I48 := fun hz => LD.cons (t := (1023, 2602, 8)) (l := [(1022, 2594, 8), (1021, 2586, 8), (1020, 2578, 8), (1019, 2570, 8), (1018, 2562, 8), (1017, 2554, 8), (1016, 2530, 24), (1015, 2506, 24), (1014, 2482, 24), (1013, 2458, 24), (1012, 2434, 24), (1011, 2410, 24), (1010, 2386, 24), (1009, 2362, 24), (1008, 2338, 24), (1007, 2314, 24), (1006, 1738, 576), (1005, 1450, 288), (1004, 1162, 288), (1003, 586, 576), (1002, 10, 576), (1001, 0, 10)]) (hld hz) (xlI48 (by omega)) (by decide) (by decide)
  clear xsI48 xlI48 hgb
  exact m_vret hx hb hr hlocks hM hS (Nat.le_of_ble_eq_true rfl) (Nat.le_of_ble_eq_true rfl) ⟨_, _, rfl, hI, hK, ⟨hsv, hld⟩⟩ dX10_carriesAll_198
theorem dX10_image_0 : decode cX10_image 0 = .ok (.iload_n 1, 1) := by decide +kernel
theorem dX10_image_1 : decode cX10_image 1 = .ok (.i2l, 1) := by decide +kernel
theorem dX10_image_2 : decode cX10_image 2 = .ok (.lconst 0, 1) := by decide +kernel
theorem dX10_image_3 : decode cX10_image 3 = .ok (.ldc2_w 224, 3) := by decide +kernel
theorem dX10_image_6 : decode cX10_image 6 = .ok (.invokestatic 192, 3) := by decide +kernel
theorem dX10_image_9 : decode cX10_image 9 = .ok (.ifCond .eq 10, 3) := by decide +kernel
theorem dX10_image_12 : decode cX10_image 12 = .ok (.aload_n 0, 1) := by decide +kernel
theorem dX10_image_13 : decode cX10_image 13 = .ok (.invokevirtual 188, 3) := by decide +kernel
theorem dX10_image_16 : decode cX10_image 16 = .ok (.ifCond .ne 5, 3) := by decide +kernel
theorem dX10_image_19 : decode cX10_image 19 = .ok (.iconst (-1), 1) := by decide +kernel
theorem dX10_image_20 : decode cX10_image 20 = .ok (.ireturn, 1) := by decide +kernel
theorem dX10_image_21 : decode cX10_image 21 = .ok (.aload_n 0, 1) := by decide +kernel
theorem dX10_image_22 : decode cX10_image 22 = .ok (.getfield 182, 3) := by decide +kernel
theorem dX10_image_25 : decode cX10_image 25 = .ok (.iload_n 1, 1) := by decide +kernel
theorem dX10_image_26 : decode cX10_image 26 = .ok (.iconst 1, 1) := by decide +kernel
theorem dX10_image_27 : decode cX10_image 27 = .ok (.bastore, 1) := by decide +kernel
theorem dX10_image_28 : decode cX10_image 28 = .ok (.aload_n 0, 1) := by decide +kernel
theorem dX10_image_29 : decode cX10_image 29 = .ok (.iload_n 1, 1) := by decide +kernel
theorem dX10_image_30 : decode cX10_image 30 = .ok (.iconst 0, 1) := by decide +kernel
theorem dX10_image_31 : decode cX10_image 31 = .ok (.invokevirtual 552, 3) := by decide +kernel
theorem dX10_image_34 : decode cX10_image 34 = .ok (.aload_n 0, 1) := by decide +kernel
theorem dX10_image_35 : decode cX10_image 35 = .ok (.getfield 7, 3) := by decide +kernel
theorem dX10_image_38 : decode cX10_image 38 = .ok (.bipush 6, 2) := by decide +kernel
theorem dX10_image_40 : decode cX10_image 40 = .ok (.iaload, 1) := by decide +kernel
theorem dX10_image_41 : decode cX10_image 41 = .ok (.ireturn, 1) := by decide +kernel
theorem ce_X10_image : CeV RX10 yX10_image cX10_image 2 (some .int) 1 := ⟨tb_1825, tb_1826, tb_11, tb_1827, rfl, by decide, by decide, by decide +kernel⟩
set_option maxHeartbeats 4000000 in
set_option maxRecDepth 20000 in
theorem V_X10_image (l : Launch) (D : va_G) (A : Nat → Prop) (ad : Nat → Nat) (ns : List Nat) (I : MI) (L : ML) (G : MG) (a0 : Int32) (hJ : SGM ns G) (hI : INV I) : Met l yX10_image (wd yX10_image cX10_image 2 (some .int)) ({ frames := 2, cells := 0, slots := 0, locals := 44 }) (va_Pc [.ref (ad (1000)), .int a0] (PM D A ad ns I L G)) (va_Qi (fun r u => ∃ I2 L2, u = (ad, ns, I2, L2, G) ∧ INV I2 ∧ Kp [(1001, 1024), (1076, 1078)] [(1000, 78), (1000, 79)] I I2 ∧ ((r = -1 ∧ I2 = I ∧ ¬ ((0 ≤ a0.toInt ∧ a0.toInt ≤ 3) ∧ (I 1001 0).toInt = 1)) ∨ (((0 ≤ a0.toInt ∧ a0.toInt ≤ 3) ∧ (I 1001 0).toInt = 1) ∧ r = I 1001 6 ∧ SV (a0).toNatClampNeg imL (u2 I 1077 (a0).toNatClampNeg 1) I2))) (BM D A) A) 0 0 A := by
  refine m_ofW (by decide) (Nat.le_of_ble_eq_true rfl) ?_
  intro p e s m below meth c ls args hC hE hM hA hS hl
  obtain ⟨hx, hb, hml, hown, hts, hr, hlocks, hin⟩ := hC
  have km1 : (-1 : Int32).toInt = -1 := by decide
  have k0 : (0 : Int32).toInt = 0 := by decide
  have k1 : (1 : Int32).toInt = 1 := by decide
  have k6 : (6 : Int32).toInt = 6 := by decide
  have kl0 : (0 : Int64).toInt = 0 := by decide
  have kl3 : (3 : Int64).toInt = 3 := by decide
  have hK : Kp [(1001, 1024), (1076, 1078)] [(1000, 78), (1000, 79)] I I := Kp.rf
  have hl : lv_has ls 2 [(0, .ref (ad (1000))), (1, .int (a0))] := hl
  refine lv_iload_n hx hb dX10_image_0 rfl (lv_at hl 1 rfl) ?_
  refine lv_i2l hx hb dX10_image_1 rfl ?_
  refine lv_topl (fun v1 ev1 => ?_)
  have tv1 := q_i2l ev1
  refine lv_lconst (v := 0) hx hb dX10_image_2 (by decide) ?_
  refine lv_ldc2 (v := (3)) hx hb hown (hts _ tb_1466) dX10_image_3 ?_
  refine m_calli (m_runS (As := [.long (v1), .long (0), .long ((3 : Int64))]) (rest := []) hx hb hml hown hts hE hM hS hA ce_X10_in tb_1425 (V_X10_in l D A ad ns I L G (v1) (0) ((3 : Int64)) hI) rfl rfl ⟨Nat.le_of_ble_eq_true rfl, Nat.le_of_ble_eq_true rfl⟩  rfl hl.1 rfl (Nat.le_of_ble_eq_true rfl) dX10_image_6 ⟨Nat.le_of_ble_eq_true rfl, Nat.le_of_ble_eq_true rfl⟩) hS (fun r2 u H locs hw hM hS => ?_)
  obtain ⟨rfl, xr2⟩ := hw
  have hM : Mem D A ad ns I L G H := hM
  have yr2 := bo01 xr2
  refine lv_if_eq (tgt := 19) hx hb dX10_image_9 (by decide) (fun c3 => ?_) (fun c3 => ?_)
  · have hc3 := c3
    have q3 := xr2.f hc3
    refine lv_iconst (v := (-1)) hx hb dX10_image_19 (by decide) ?_
    exact m_iret hx hb hr hlocks hM hS (Nat.le_of_ble_eq_true rfl) (Nat.le_of_ble_eq_true rfl) ⟨_, _, rfl, hI, hK, (Or.inl ⟨rfl, rfl, by omega⟩)⟩ dX10_image_20
  · have hc3 := c3
    have q3 := xr2.t hc3
    refine lv_aload_n hx hb dX10_image_12 rfl (lv_at hl 0 rfl) ?_
    refine m_calli (m_runV (1000) (As := []) (rest := []) hx hb hml hown hts hE hM hS hA ce_X10_isTown tb_1441 (V_X10_isTown l D A ad ns I L G hJ hI) rfl rfl ⟨Nat.le_of_ble_eq_true rfl, Nat.le_of_ble_eq_true rfl⟩ hJ.1 rfl rfl (by decide) rfl hl.1 rfl (Nat.le_of_ble_eq_true rfl) dX10_image_13 ⟨Nat.le_of_ble_eq_true rfl, Nat.le_of_ble_eq_true rfl⟩) hS (fun r4 u H locs hw hM hS => ?_)
    obtain ⟨rfl, xr4⟩ := hw
    have hM : Mem D A ad ns I L G H := hM
    have yr4 := bo01 xr4
    refine lv_if_ne (tgt := 21) hx hb dX10_image_16 (by decide) (fun c5 => ?_) (fun c5 => ?_)
    · have hc5 := c5
      have q5 := xr4.t hc5
      refine lv_aload_n hx hb dX10_image_21 rfl (lv_at hl 0 rfl) ?_
      refine m_getr (1000) 77 (1077) hx hb hts hown hE oc10 hM hJ.1 rfl (by decide) rfl (hJ.2 77 (by decide)).2 (by decide) tb_1254 dX10_image_22 ?_
      refine lv_iload_n hx hb dX10_image_25 rfl (lv_at hl 1 rfl) ?_
      refine lv_iconst (v := (1)) hx hb dX10_image_26 (by decide) ?_
      refine m_zast (1077) hx hb hE hM hS (hJ.2 77 (by decide)).1 rfl (vp_in_iff.mpr (by omega)) dX10_image_27 (fun H locs I6 eI6 hM hS => ?_)
      subst eI6
      have hI := hI.put (n := 1077) (k := ((a0).toNatClampNeg)) (v := vp_nar .boolean (1)) (lo := 0) (hi := 1) rfl (nar_bool _)
      have hK := hK.put (n := 1077) (k := ((a0).toNatClampNeg)) (v := vp_nar .boolean (1)) (by first | rfl | simp [inR])
      refine lv_aload_n hx hb dX10_image_28 rfl (lv_at hl 0 rfl) ?_
      refine lv_iload_n hx hb dX10_image_29 rfl (lv_at hl 1 rfl) ?_
      refine lv_iconst (v := (0)) hx hb dX10_image_30 (by decide) ?_
      refine m_callv (m_runV (1000) (As := [.int (a0), .int (0)]) (rest := []) hx hb hml hown hts hE hM hS hA ce_X10_carriesAll tb_1828 (V_X10_carriesAll l D A ad ns (u2 I (1077) ((a0).toNatClampNeg) (vp_nar .boolean (1))) L G (a0) (0) hJ hI (by first | omega | decide) (by first | omega | decide)) rfl rfl ⟨Nat.le_of_ble_eq_true rfl, Nat.le_of_ble_eq_true rfl⟩ hJ.1 rfl rfl (by decide) rfl hl.1 rfl (Nat.le_of_ble_eq_true rfl) dX10_image_31 ⟨Nat.le_of_ble_eq_true rfl, Nat.le_of_ble_eq_true rfl⟩) hS (fun u H locs hw hM hS => ?_)
      obtain ⟨I7, L8, rfl, hI, hkI7, xI7⟩ := hw
      have hM : Mem D A ad ns I7 L8 G H := hM
      have hK := hK.trans hkI7 rfl
      refine lv_aload_n hx hb dX10_image_34 rfl (lv_at hl 0 rfl) ?_
      refine m_getr (1000) 1 (1001) hx hb hts hown hE oc10 hM hJ.1 rfl (by decide) rfl (hJ.2 1 (by decide)).2 (by decide) tb_1178 dX10_image_35 ?_
      refine lv_bipush (v := (6)) hx hb dX10_image_38 (by decide) ?_
      refine m_iald (1001) hx hb hE hM (hJ.2 1 (by decide)).1 rfl (vp_in_iff.mpr (by decide)) dX10_image_40 ?_
      rw [show (6 : Int32).toNatClampNeg = 6 from rfl]
      exact m_iret hx hb hr hlocks hM hS (Nat.le_of_ble_eq_true rfl) (Nat.le_of_ble_eq_true rfl) ⟨_, _, rfl, hI, hK, (Or.inr ⟨by omega, (by have hs := xI7.1 (by decide); have h1 := congrFun (hs.2.2 1001 (by decide) (by decide)) 6; simp only [u2_v] at h1; simpa using h1), xI7.1 (by decide)⟩)⟩ dX10_image_41
    · have hc5 := c5
      have q5 := xr4.f hc5
      refine lv_iconst (v := (-1)) hx hb dX10_image_19 (by decide) ?_
      exact m_iret hx hb hr hlocks hM hS (Nat.le_of_ble_eq_true rfl) (Nat.le_of_ble_eq_true rfl) ⟨_, _, rfl, hI, hK, (Or.inl ⟨rfl, rfl, by omega⟩)⟩ dX10_image_20
theorem dX10_back_0 : decode cX10_back 0 = .ok (.iload_n 1, 1) := by decide +kernel
theorem dX10_back_1 : decode cX10_back 1 = .ok (.i2l, 1) := by decide +kernel
theorem dX10_back_2 : decode cX10_back 2 = .ok (.lconst 0, 1) := by decide +kernel
theorem dX10_back_3 : decode cX10_back 3 = .ok (.ldc2_w 224, 3) := by decide +kernel
theorem dX10_back_6 : decode cX10_back 6 = .ok (.invokestatic 192, 3) := by decide +kernel
theorem dX10_back_9 : decode cX10_back 9 = .ok (.ifCond .eq 12, 3) := by decide +kernel
theorem dX10_back_12 : decode cX10_back 12 = .ok (.aload_n 0, 1) := by decide +kernel
theorem dX10_back_13 : decode cX10_back 13 = .ok (.getfield 182, 3) := by decide +kernel
theorem dX10_back_16 : decode cX10_back 16 = .ok (.iload_n 1, 1) := by decide +kernel
theorem dX10_back_17 : decode cX10_back 17 = .ok (.baload, 1) := by decide +kernel
theorem dX10_back_18 : decode cX10_back 18 = .ok (.ifCond .ne 5, 3) := by decide +kernel
theorem dX10_back_21 : decode cX10_back 21 = .ok (.iconst (-1), 1) := by decide +kernel
theorem dX10_back_22 : decode cX10_back 22 = .ok (.ireturn, 1) := by decide +kernel
theorem dX10_back_23 : decode cX10_back 23 = .ok (.aload_n 0, 1) := by decide +kernel
theorem dX10_back_24 : decode cX10_back 24 = .ok (.iload_n 1, 1) := by decide +kernel
theorem dX10_back_25 : decode cX10_back 25 = .ok (.iconst 1, 1) := by decide +kernel
theorem dX10_back_26 : decode cX10_back 26 = .ok (.invokevirtual 552, 3) := by decide +kernel
theorem dX10_back_29 : decode cX10_back 29 = .ok (.aload_n 0, 1) := by decide +kernel
theorem dX10_back_30 : decode cX10_back 30 = .ok (.getfield 7, 3) := by decide +kernel
theorem dX10_back_33 : decode cX10_back 33 = .ok (.bipush 6, 2) := by decide +kernel
theorem dX10_back_35 : decode cX10_back 35 = .ok (.iaload, 1) := by decide +kernel
theorem dX10_back_36 : decode cX10_back 36 = .ok (.ireturn, 1) := by decide +kernel
theorem ce_X10_back : CeV RX10 yX10_back cX10_back 2 (some .int) 1 := ⟨tb_1837, tb_1838, tb_11, tb_1839, rfl, by decide, by decide, by decide +kernel⟩
set_option maxHeartbeats 4000000 in
set_option maxRecDepth 20000 in
theorem V_X10_back (l : Launch) (D : va_G) (A : Nat → Prop) (ad : Nat → Nat) (ns : List Nat) (I : MI) (L : ML) (G : MG) (a0 : Int32) (hJ : SGM ns G) (hI : INV I) : Met l yX10_back (wd yX10_back cX10_back 2 (some .int)) ({ frames := 2, cells := 0, slots := 0, locals := 44 }) (va_Pc [.ref (ad (1000)), .int a0] (PM D A ad ns I L G)) (va_Qi (fun r u => ∃ I2 L2, u = (ad, ns, I2, L2, G) ∧ INV I2 ∧ Kp [(1001, 1024), (1076, 1077)] [(1000, 78), (1000, 79)] I I2 ∧ ((r = -1 ∧ I2 = I ∧ ¬ ((0 ≤ a0.toInt ∧ a0.toInt ≤ 3) ∧ (I 1077 (a0).toNatClampNeg).toInt ≠ 0)) ∨ (((0 ≤ a0.toInt ∧ a0.toInt ≤ 3) ∧ (I 1077 (a0).toNatClampNeg).toInt ≠ 0) ∧ r = I2 1001 6 ∧ LD (a0).toNatClampNeg imL I I2))) (BM D A) A) 0 0 A := by
  refine m_ofW (by decide) (Nat.le_of_ble_eq_true rfl) ?_
  intro p e s m below meth c ls args hC hE hM hA hS hl
  obtain ⟨hx, hb, hml, hown, hts, hr, hlocks, hin⟩ := hC
  have km1 : (-1 : Int32).toInt = -1 := by decide
  have k0 : (0 : Int32).toInt = 0 := by decide
  have k1 : (1 : Int32).toInt = 1 := by decide
  have k6 : (6 : Int32).toInt = 6 := by decide
  have kl0 : (0 : Int64).toInt = 0 := by decide
  have kl3 : (3 : Int64).toInt = 3 := by decide
  have hK : Kp [(1001, 1024), (1076, 1077)] [(1000, 78), (1000, 79)] I I := Kp.rf
  have hl : lv_has ls 2 [(0, .ref (ad (1000))), (1, .int (a0))] := hl
  refine lv_iload_n hx hb dX10_back_0 rfl (lv_at hl 1 rfl) ?_
  refine lv_i2l hx hb dX10_back_1 rfl ?_
  refine lv_topl (fun v1 ev1 => ?_)
  have tv1 := q_i2l ev1
  refine lv_lconst (v := 0) hx hb dX10_back_2 (by decide) ?_
  refine lv_ldc2 (v := (3)) hx hb hown (hts _ tb_1466) dX10_back_3 ?_
  refine m_calli (m_runS (As := [.long (v1), .long (0), .long ((3 : Int64))]) (rest := []) hx hb hml hown hts hE hM hS hA ce_X10_in tb_1425 (V_X10_in l D A ad ns I L G (v1) (0) ((3 : Int64)) hI) rfl rfl ⟨Nat.le_of_ble_eq_true rfl, Nat.le_of_ble_eq_true rfl⟩  rfl hl.1 rfl (Nat.le_of_ble_eq_true rfl) dX10_back_6 ⟨Nat.le_of_ble_eq_true rfl, Nat.le_of_ble_eq_true rfl⟩) hS (fun r2 u H locs hw hM hS => ?_)
  obtain ⟨rfl, xr2⟩ := hw
  have hM : Mem D A ad ns I L G H := hM
  have yr2 := bo01 xr2
  refine lv_if_eq (tgt := 21) hx hb dX10_back_9 (by decide) (fun c3 => ?_) (fun c3 => ?_)
  · have hc3 := c3
    have q3 := xr2.f hc3
    refine lv_iconst (v := (-1)) hx hb dX10_back_21 (by decide) ?_
    exact m_iret hx hb hr hlocks hM hS (Nat.le_of_ble_eq_true rfl) (Nat.le_of_ble_eq_true rfl) ⟨_, _, rfl, hI, hK, (Or.inl ⟨rfl, rfl, by omega⟩)⟩ dX10_back_22
  · have hc3 := c3
    have q3 := xr2.t hc3
    refine lv_aload_n hx hb dX10_back_12 rfl (lv_at hl 0 rfl) ?_
    refine m_getr (1000) 77 (1077) hx hb hts hown hE oc10 hM hJ.1 rfl (by decide) rfl (hJ.2 77 (by decide)).2 (by decide) tb_1254 dX10_back_13 ?_
    refine lv_iload_n hx hb dX10_back_16 rfl (lv_at hl 1 rfl) ?_
    refine m_zald (1077) hx hb hE hM (hJ.2 77 (by decide)).1 rfl (vp_in_iff.mpr (by omega)) dX10_back_17 ?_
    have g4 := hI.get (1077) ((a0).toNatClampNeg) (lo := 0) (hi := 1) rfl
    refine lv_if_ne (tgt := 23) hx hb dX10_back_18 (by decide) (fun c5 => ?_) (fun c5 => ?_)
    · have hc5 := c5
      have q5 := q_ne hc5
      refine lv_aload_n hx hb dX10_back_23 rfl (lv_at hl 0 rfl) ?_
      refine lv_iload_n hx hb dX10_back_24 rfl (lv_at hl 1 rfl) ?_
      refine lv_iconst (v := (1)) hx hb dX10_back_25 (by decide) ?_
      refine m_callv (m_runV (1000) (As := [.int (a0), .int (1)]) (rest := []) hx hb hml hown hts hE hM hS hA ce_X10_carriesAll tb_1828 (V_X10_carriesAll l D A ad ns I L G (a0) (1) hJ hI (by first | omega | decide) (by first | omega | decide)) rfl rfl ⟨Nat.le_of_ble_eq_true rfl, Nat.le_of_ble_eq_true rfl⟩ hJ.1 rfl rfl (by decide) rfl hl.1 rfl (Nat.le_of_ble_eq_true rfl) dX10_back_26 ⟨Nat.le_of_ble_eq_true rfl, Nat.le_of_ble_eq_true rfl⟩) hS (fun u H locs hw hM hS => ?_)
      obtain ⟨I6, L7, rfl, hI, hkI6, xI6⟩ := hw
      have hM : Mem D A ad ns I6 L7 G H := hM
      have hK := hK.trans hkI6 rfl
      refine lv_aload_n hx hb dX10_back_29 rfl (lv_at hl 0 rfl) ?_
      refine m_getr (1000) 1 (1001) hx hb hts hown hE oc10 hM hJ.1 rfl (by decide) rfl (hJ.2 1 (by decide)).2 (by decide) tb_1178 dX10_back_30 ?_
      refine lv_bipush (v := (6)) hx hb dX10_back_33 (by decide) ?_
      refine m_iald (1001) hx hb hE hM (hJ.2 1 (by decide)).1 rfl (vp_in_iff.mpr (by decide)) dX10_back_35 ?_
      rw [show (6 : Int32).toNatClampNeg = 6 from rfl]
      exact m_iret hx hb hr hlocks hM hS (Nat.le_of_ble_eq_true rfl) (Nat.le_of_ble_eq_true rfl) ⟨_, _, rfl, hI, hK, (Or.inr ⟨by omega, rfl, xI6.2 (by decide)⟩)⟩ dX10_back_36
    · have hc5 := c5
      have q5 := q_eq hc5
      refine lv_iconst (v := (-1)) hx hb dX10_back_21 (by decide) ?_
      exact m_iret hx hb hr hlocks hM hS (Nat.le_of_ble_eq_true rfl) (Nat.le_of_ble_eq_true rfl) ⟨_, _, rfl, hI, hK, (Or.inl ⟨rfl, rfl, by omega⟩)⟩ dX10_back_22
