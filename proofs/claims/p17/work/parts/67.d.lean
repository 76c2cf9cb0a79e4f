theorem dX10_compared_0 : decode cX10_compared 0 = .ok (.aload_n 0, 1) := by decide +kernel
theorem dX10_compared_1 : decode cX10_compared 1 = .ok (.invokevirtual 331, 3) := by decide +kernel
theorem dX10_compared_4 : decode cX10_compared 4 = .ok (.aload_n 0, 1) := by decide +kernel
theorem dX10_compared_5 : decode cX10_compared 5 = .ok (.invokevirtual 270, 3) := by decide +kernel
theorem dX10_compared_8 : decode cX10_compared 8 = .ok (.istore_n 1, 1) := by decide +kernel
theorem dX10_compared_9 : decode cX10_compared 9 = .ok (.iload_n 1, 1) := by decide +kernel
theorem dX10_compared_10 : decode cX10_compared 10 = .ok (.bipush 60, 2) := by decide +kernel
theorem dX10_compared_12 : decode cX10_compared 12 = .ok (.if_icmp .eq 25, 3) := by decide +kernel
theorem dX10_compared_15 : decode cX10_compared 15 = .ok (.iload_n 1, 1) := by decide +kernel
theorem dX10_compared_16 : decode cX10_compared 16 = .ok (.bipush 61, 2) := by decide +kernel
theorem dX10_compared_18 : decode cX10_compared 18 = .ok (.if_icmp .eq 19, 3) := by decide +kernel
theorem dX10_compared_21 : decode cX10_compared 21 = .ok (.iload_n 1, 1) := by decide +kernel
theorem dX10_compared_22 : decode cX10_compared 22 = .ok (.bipush 62, 2) := by decide +kernel
theorem dX10_compared_24 : decode cX10_compared 24 = .ok (.if_icmp .eq 13, 3) := by decide +kernel
theorem dX10_compared_27 : decode cX10_compared 27 = .ok (.aload_n 0, 1) := by decide +kernel
theorem dX10_compared_28 : decode cX10_compared 28 = .ok (.iconst 0, 1) := by decide +kernel
theorem dX10_compared_29 : decode cX10_compared 29 = .ok (.aload_n 0, 1) := by decide +kernel
theorem dX10_compared_30 : decode cX10_compared 30 = .ok (.getfield 267, 3) := by decide +kernel
theorem dX10_compared_33 : decode cX10_compared 33 = .ok (.invokevirtual 303, 3) := by decide +kernel
theorem dX10_compared_36 : decode cX10_compared 36 = .ok (.return_, 1) := by decide +kernel
theorem dX10_compared_37 : decode cX10_compared 37 = .ok (.aload_n 0, 1) := by decide +kernel
theorem dX10_compared_38 : decode cX10_compared 38 = .ok (.aload_n 0, 1) := by decide +kernel
theorem dX10_compared_39 : decode cX10_compared 39 = .ok (.getfield 267, 3) := by decide +kernel
theorem dX10_compared_42 : decode cX10_compared 42 = .ok (.invokevirtual 315, 3) := by decide +kernel
theorem dX10_compared_45 : decode cX10_compared 45 = .ok (.aload_n 0, 1) := by decide +kernel
theorem dX10_compared_46 : decode cX10_compared 46 = .ok (.dup, 1) := by decide +kernel
theorem dX10_compared_47 : decode cX10_compared 47 = .ok (.getfield 267, 3) := by decide +kernel
theorem dX10_compared_50 : decode cX10_compared 50 = .ok (.iconst 1, 1) := by decide +kernel
theorem dX10_compared_51 : decode cX10_compared 51 = .ok (.iadd, 1) := by decide +kernel
theorem dX10_compared_52 : decode cX10_compared 52 = .ok (.putfield 267, 3) := by decide +kernel
theorem dX10_compared_55 : decode cX10_compared 55 = .ok (.iload_n 1, 1) := by decide +kernel
theorem dX10_compared_56 : decode cX10_compared 56 = .ok (.bipush 61, 2) := by decide +kernel
theorem dX10_compared_58 : decode cX10_compared 58 = .ok (.if_icmp .eq 16, 3) := by decide +kernel
theorem dX10_compared_61 : decode cX10_compared 61 = .ok (.aload_n 0, 1) := by decide +kernel
theorem dX10_compared_62 : decode cX10_compared 62 = .ok (.invokevirtual 270, 3) := by decide +kernel
theorem dX10_compared_65 : decode cX10_compared 65 = .ok (.bipush 61, 2) := by decide +kernel
theorem dX10_compared_67 : decode cX10_compared 67 = .ok (.if_icmp .ne 7, 3) := by decide +kernel
theorem dX10_compared_70 : decode cX10_compared 70 = .ok (.iconst 1, 1) := by decide +kernel
theorem dX10_compared_71 : decode cX10_compared 71 = .ok (.goto 4, 3) := by decide +kernel
theorem dX10_compared_74 : decode cX10_compared 74 = .ok (.iconst 0, 1) := by decide +kernel
theorem dX10_compared_75 : decode cX10_compared 75 = .ok (.istore_n 2, 1) := by decide +kernel
theorem dX10_compared_76 : decode cX10_compared 76 = .ok (.aload_n 0, 1) := by decide +kernel
theorem dX10_compared_77 : decode cX10_compared 77 = .ok (.dup, 1) := by decide +kernel
theorem dX10_compared_78 : decode cX10_compared 78 = .ok (.getfield 267, 3) := by decide +kernel
theorem dX10_compared_81 : decode cX10_compared 81 = .ok (.iload_n 2, 1) := by decide +kernel
theorem dX10_compared_82 : decode cX10_compared 82 = .ok (.ifCond .eq 7, 3) := by decide +kernel
theorem dX10_compared_85 : decode cX10_compared 85 = .ok (.iconst 1, 1) := by decide +kernel
theorem dX10_compared_86 : decode cX10_compared 86 = .ok (.goto 4, 3) := by decide +kernel
theorem dX10_compared_89 : decode cX10_compared 89 = .ok (.iconst 0, 1) := by decide +kernel
theorem dX10_compared_90 : decode cX10_compared 90 = .ok (.iadd, 1) := by decide +kernel
theorem dX10_compared_91 : decode cX10_compared 91 = .ok (.putfield 267, 3) := by decide +kernel
theorem dX10_compared_94 : decode cX10_compared 94 = .ok (.aload_n 0, 1) := by decide +kernel
theorem dX10_compared_95 : decode cX10_compared 95 = .ok (.invokevirtual 331, 3) := by decide +kernel
theorem dX10_compared_98 : decode cX10_compared 98 = .ok (.aload_n 0, 1) := by decide +kernel
theorem dX10_compared_99 : decode cX10_compared 99 = .ok (.iload_n 1, 1) := by decide +kernel
theorem dX10_compared_100 : decode cX10_compared 100 = .ok (.bipush 61, 2) := by decide +kernel
theorem dX10_compared_102 : decode cX10_compared 102 = .ok (.if_icmp .ne 8, 3) := by decide +kernel
theorem dX10_compared_105 : decode cX10_compared 105 = .ok (.bipush 6, 2) := by decide +kernel
theorem dX10_compared_107 : decode cX10_compared 107 = .ok (.goto 32, 3) := by decide +kernel
theorem dX10_compared_110 : decode cX10_compared 110 = .ok (.iload_n 1, 1) := by decide +kernel
theorem dX10_compared_111 : decode cX10_compared 111 = .ok (.bipush 60, 2) := by decide +kernel
theorem dX10_compared_113 : decode cX10_compared 113 = .ok (.if_icmp .ne 15, 3) := by decide +kernel
theorem dX10_compared_116 : decode cX10_compared 116 = .ok (.iload_n 2, 1) := by decide +kernel
theorem dX10_compared_117 : decode cX10_compared 117 = .ok (.ifCond .eq 7, 3) := by decide +kernel
theorem dX10_compared_120 : decode cX10_compared 120 = .ok (.iconst 5, 1) := by decide +kernel
theorem dX10_compared_121 : decode cX10_compared 121 = .ok (.goto 18, 3) := by decide +kernel
theorem dX10_compared_124 : decode cX10_compared 124 = .ok (.iconst 4, 1) := by decide +kernel
theorem dX10_compared_125 : decode cX10_compared 125 = .ok (.goto 14, 3) := by decide +kernel
theorem dX10_compared_128 : decode cX10_compared 128 = .ok (.iload_n 2, 1) := by decide +kernel
theorem dX10_compared_129 : decode cX10_compared 129 = .ok (.ifCond .eq 8, 3) := by decide +kernel
theorem dX10_compared_132 : decode cX10_compared 132 = .ok (.bipush 7, 2) := by decide +kernel
theorem dX10_compared_134 : decode cX10_compared 134 = .ok (.goto 5, 3) := by decide +kernel
theorem dX10_compared_137 : decode cX10_compared 137 = .ok (.bipush 8, 2) := by decide +kernel
theorem dX10_compared_139 : decode cX10_compared 139 = .ok (.iconst 0, 1) := by decide +kernel
theorem dX10_compared_140 : decode cX10_compared 140 = .ok (.invokevirtual 318, 3) := by decide +kernel
theorem dX10_compared_143 : decode cX10_compared 143 = .ok (.return_, 1) := by decide +kernel
theorem ce_X10_compared : CeV RX10 yX10_compared cX10_compared 3 none 0 := ⟨tb_1592, tp_77, tb_11, tb_1593, rfl, by decide, by decide, by decide +kernel⟩
set_option maxHeartbeats 4000000 in
set_option maxRecDepth 20000 in
theorem V_X10_compared (l : Launch) (D : va_G) (A : Nat → Prop) (ad : Nat → Nat) (ns : List Nat) (I : MI) (L : ML) (G : MG) (hJ : SGM ns G) (hI : INV I) (hp : (I 1000 25).toInt ≤ 400) (hPI : Imp ((I 1000 26).toInt = 0) (0 ≤ (I 1000 31).toInt ∧ (I 1000 31).toInt ≤ 60 ∧ 3 * (I 1000 29).toInt ≤ 6 * (I 1000 31).toInt + (I 1000 25).toInt)) : Met l yX10_compared (wd yX10_compared cX10_compared 3 none) ({ frames := 8, cells := 0, slots := 0, locals := 173 }) (va_Pc [.ref (ad (1000))] (PM D A ad ns I L G)) (va_Qv (fun u => ∃ I2 L2, u = (ad, ns, I2, L2, G) ∧ INV I2 ∧ Kp [(1035, 1037)] [(1000, 25), (1000, 26), (1000, 29), (1000, 31)] I I2 ∧ ((I 1000 25).toInt ≤ (I2 1000 25).toInt ∧ (I2 1000 25).toInt ≤ 400 ∧ (I 1000 29).toInt ≤ (I2 1000 29).toInt ∧ Imp ((I2 1000 26).toInt = 0) ((I 1000 26).toInt = 0 ∧ 0 ≤ (I2 1000 31).toInt ∧ (I2 1000 31).toInt ≤ 60 ∧ (I2 1000 29).toInt + 3 ≤ (I 1000 29).toInt + 2 * ((I2 1000 31).toInt - (I 1000 31).toInt)) ∧ CT I I2 0 1)) (BM D A) A) 0 0 A := by
  refine m_ofW (by decide) (Nat.le_of_ble_eq_true rfl) ?_
  intro p e s m below meth c ls args hC hE hM hA hS hl
  obtain ⟨hx, hb, hml, hown, hts, hr, hlocks, hin⟩ := hC
  have k0 : (0 : Int32).toInt = 0 := by decide
  have k1 : (1 : Int32).toInt = 1 := by decide
  have k4 : (4 : Int32).toInt = 4 := by decide
  have k5 : (5 : Int32).toInt = 5 := by decide
  have k6 : (6 : Int32).toInt = 6 := by decide
  have k7 : (7 : Int32).toInt = 7 := by decide
  have k8 : (8 : Int32).toInt = 8 := by decide
  have k60 : (60 : Int32).toInt = 60 := by decide
  have k61 : (61 : Int32).toInt = 61 := by decide
  have k62 : (62 : Int32).toInt = 62 := by decide
  have hC := CT.rf I 0
  have hI0 := hI
  have hK : Kp [(1035, 1037)] [(1000, 25), (1000, 26), (1000, 29), (1000, 31)] I I := Kp.rf
  have hl : lv_has ls 3 [(0, .ref (ad (1000)))] := hl
  refine lv_aload_n hx hb dX10_compared_0 rfl (lv_at hl 0 rfl) ?_
  refine m_callv (m_runV (1000) (As := []) (rest := []) hx hb hml hown hts hE hM hS hA ce_X10_sum tb_1535 (V_X10_sum l D A ad ns I L G hJ hI (by omega) (fun hz => by have w0 := hPI (by omega); omega)) rfl rfl ⟨Nat.le_of_ble_eq_true rfl, Nat.le_of_ble_eq_true rfl⟩ hJ.1 rfl rfl (by decide) rfl hl.1 rfl (Nat.le_of_ble_eq_true rfl) dX10_compared_1 ⟨Nat.le_of_ble_eq_true rfl, Nat.le_of_ble_eq_true rfl⟩) hS (fun u H locs hw hM hS => ?_)
  obtain ⟨I1, L2, rfl, hI, hkI1, xI1⟩ := hw
  have hM : Mem D A ad ns I1 L2 G H := hM
  have hK := hK.trans hkI1 rfl
  have pw3 : (I1 (1000) 24).toInt = (I (1000) 24 : Int32).toInt := congrArg Int32.toInt ((hkI1.get (1000) 24 rfl))
  have pw4 : (I1 (1000) 27).toInt = (I (1000) 27 : Int32).toInt := congrArg Int32.toInt ((hkI1.get (1000) 27 rfl))
  have pw5 : (I1 (1000) 32).toInt = (I (1000) 32 : Int32).toInt := congrArg Int32.toInt ((hkI1.get (1000) 32 rfl))
  have g6 := hI0.get 1000 27 (lo := 0) (hi := 5) rfl
  have g7 := hI0.get 1000 29 (lo := 0) (hi := 300) rfl
  replace hC := hC.comp ((xI1.2.2.2.2).mono0 (0)) (by omega) (by omega) (by omega) (by omega) (fun hz => (xI1.2.2.2.1 hz).1)
  refine lv_aload_n hx hb dX10_compared_4 rfl (lv_at hl 0 rfl) ?_
  refine m_calli (m_runV (1000) (As := []) (rest := []) hx hb hml hown hts hE hM hS hA ce_X10_sign tb_1510 (V_X10_sign l D A ad ns I1 L2 G hJ hI) rfl rfl ⟨Nat.le_of_ble_eq_true rfl, Nat.le_of_ble_eq_true rfl⟩ hJ.1 rfl rfl (by decide) rfl hl.1 rfl (Nat.le_of_ble_eq_true rfl) dX10_compared_5 ⟨Nat.le_of_ble_eq_true rfl, Nat.le_of_ble_eq_true rfl⟩) hS (fun r8 u H locs hw hM hS => ?_)
  obtain ⟨rfl, xr8⟩ := hw
  have hM : Mem D A ad ns I1 L2 G H := hM
  have g9 := hI.get 1000 24 (lo := 0) (hi := 400) rfl
  have g10 := hI.get 1000 25 (lo := 0) (hi := 100000) rfl
  refine lv_istore_n (lv' := [(1, .int (r8)), (0, .ref (ad (1000)))]) hx hb dX10_compared_8 rfl hl (by decide) rfl (fun ls hl => ?_)
  refine lv_iload_n hx hb dX10_compared_9 rfl (lv_at hl 0 rfl) ?_
  refine lv_bipush (v := (60)) hx hb dX10_compared_10 (by decide) ?_
  refine lv_icmp_eq (tgt := 37) hx hb dX10_compared_12 (by decide) (fun c11 => ?_) (fun c11 => ?_)
  · have hc11 := c11
    have q11 := q_eq hc11
    have sg12 := xr8.2.2 (by omega)
    refine lv_aload_n hx hb dX10_compared_37 rfl (lv_at hl 1 rfl) ?_
    refine lv_aload_n hx hb dX10_compared_38 rfl (lv_at hl 1 rfl) ?_
    refine m_geti (1000) 25 hx hb hts hown hE oc10 hM hJ.1 rfl (by decide) rfl tb_1202 dX10_compared_39 ?_
    have g13 := hI.get (1000) 25 (lo := 0) (hi := 100000) rfl
    refine m_callv (m_runV (1000) (As := [.int (I1 (1000) 25)]) (rest := []) hx hb hml hown hts hE hM hS hA ce_X10_isCounted tb_1548 (V_X10_isCounted l D A ad ns I1 L2 G (I1 (1000) 25) hJ hI (fun hz => by have w0 := xI1.2.2.2.1 (by omega); have w1 := hPI (by omega); omega) (by first | omega | decide)) rfl rfl ⟨Nat.le_of_ble_eq_true rfl, Nat.le_of_ble_eq_true rfl⟩ hJ.1 rfl rfl (by decide) rfl hl.1 rfl (Nat.le_of_ble_eq_true rfl) dX10_compared_42 ⟨Nat.le_of_ble_eq_true rfl, Nat.le_of_ble_eq_true rfl⟩) hS (fun u H locs hw hM hS => ?_)
    obtain ⟨I14, L15, rfl, hI, hkI14, xI14⟩ := hw
    have hM : Mem D A ad ns I14 L15 G H := hM
    have hK := hK.trans hkI14 rfl
    have pw16 : (I14 (1000) 24).toInt = (I (1000) 24 : Int32).toInt := congrArg Int32.toInt (((hkI14.get (1000) 24 rfl)).trans (hkI1.get (1000) 24 rfl))
    have pw17 : (I14 (1000) 25).toInt = (I1 (1000) 25 : Int32).toInt := congrArg Int32.toInt ((hkI14.get (1000) 25 rfl))
    have pw18 : (I14 (1000) 27).toInt = (I (1000) 27 : Int32).toInt := congrArg Int32.toInt (((hkI14.get (1000) 27 rfl)).trans (hkI1.get (1000) 27 rfl))
    have pw19 : (I14 (1000) 29).toInt = (I1 (1000) 29 : Int32).toInt := congrArg Int32.toInt ((hkI14.get (1000) 29 rfl))
    have pw20 : (I14 (1000) 32).toInt = (I (1000) 32 : Int32).toInt := congrArg Int32.toInt (((hkI14.get (1000) 32 rfl)).trans (hkI1.get (1000) 32 rfl))
    refine lv_aload_n hx hb dX10_compared_45 rfl (lv_at hl 1 rfl) ?_
    refine lv_dup hx hb dX10_compared_46 rfl ?_
    refine m_geti (1000) 25 hx hb hts hown hE oc10 hM hJ.1 rfl (by decide) rfl tb_1202 dX10_compared_47 ?_
    have g21 := hI.get (1000) 25 (lo := 0) (hi := 100000) rfl
    have z22 : I14 (1000) 25 = I1 (1000) 25 := (hkI14.get (1000) 25 rfl)
    rw [z22] at g21 ⊢
    refine lv_iconst (v := (1)) hx hb dX10_compared_50 (by decide) ?_
    refine lv_iadd hx hb dX10_compared_51 ?_
    refine lv_topi (fun v23 ev23 => ?_)
    have tv23 := a_add ev23 (by omega) (by omega)
    refine m_puti (1000) 25 hx hb hts hown hE oc10 hM hS hJ.1 rfl (by decide) rfl rfl rfl rfl tb_1202 dX10_compared_52 (fun H locs I24 eI24 hM hS => ?_)
    subst eI24
    have hI := hI.put (n := 1000) (k := 25) (v := v23) (lo := 0) (hi := 100000) rfl (by first | omega | decide)
    have hK := hK.put (n := 1000) (k := 25) (v := v23) (by first | rfl | simp [inR])
    refine lv_iload_n hx hb dX10_compared_55 rfl (lv_at hl 0 rfl) ?_
    refine lv_bipush (v := (61)) hx hb dX10_compared_56 (by decide) ?_
    refine lv_icmp_eq (tgt := 74) hx hb dX10_compared_58 (by decide) (fun c25 => ?_) (fun c25 => ?_)
    · have hc25 := c25
      have q25 := q_eq hc25
      have sg26 := xr8.2.2 (by omega)
      refine lv_iconst (v := (0)) hx hb dX10_compared_74 (by decide) ?_
      refine lv_istore_n (lv' := [(2, .int (0)), (1, .int (r8)), (0, .ref (ad (1000)))]) hx hb dX10_compared_75 rfl hl (by decide) rfl (fun ls hl => ?_)
      refine lv_aload_n hx hb dX10_compared_76 rfl (lv_at hl 2 rfl) ?_
      refine lv_dup hx hb dX10_compared_77 rfl ?_
      refine m_geti (1000) 25 hx hb hts hown hE oc10 hM hJ.1 rfl (by decide) rfl tb_1202 dX10_compared_78 ?_
      have g27 := hI.get (1000) 25 (lo := 0) (hi := 100000) rfl
      have z28 : (u2 I14 (1000) 25 (v23)) (1000) 25 = v23 := (show (u2 I14 (1000) 25 (v23)) (1000) 25 = v23 from by simp [u2_v])
      rw [z28] at g27 ⊢
      refine lv_iload_n hx hb dX10_compared_81 rfl (lv_at hl 0 rfl) ?_
      refine lv_if_eq (tgt := 89) hx hb dX10_compared_82 (by decide) (fun c29 => ?_) (fun c29 => ?_)
      · have hc29 := c29
        have q29 := q_eq hc29
        refine lv_iconst (v := (0)) hx hb dX10_compared_89 (by decide) ?_
        refine lv_iadd hx hb dX10_compared_90 ?_
        refine lv_topi (fun v30 ev30 => ?_)
        have tv30 := a_add ev30 (by omega) (by omega)
        refine m_puti (1000) 25 hx hb hts hown hE oc10 hM hS hJ.1 rfl (by decide) rfl rfl rfl rfl tb_1202 dX10_compared_91 (fun H locs I31 eI31 hM hS => ?_)
        subst eI31
        have hI := hI.put (n := 1000) (k := 25) (v := v30) (lo := 0) (hi := 100000) rfl (by first | omega | decide)
        have hK := hK.put (n := 1000) (k := 25) (v := v30) (by first | rfl | simp [inR])
        refine lv_aload_n hx hb dX10_compared_94 rfl (lv_at hl 2 rfl) ?_
        have pw32 : ((u2 (u2 I14 (1000) 25 (v23)) (1000) 25 (v30)) (1000) 24).toInt = (I (1000) 24 : Int32).toInt := congrArg Int32.toInt ((((show (u2 (u2 I14 (1000) 25 (v23)) (1000) 25 (v30)) (1000) 24 = I14 (1000) 24 from by simp [u2_v])).trans (hkI14.get (1000) 24 rfl)).trans (hkI1.get (1000) 24 rfl))
        have pw33 : ((u2 (u2 I14 (1000) 25 (v23)) (1000) 25 (v30)) (1000) 25).toInt = (v30 : Int32).toInt := congrArg Int32.toInt ((show (u2 (u2 I14 (1000) 25 (v23)) (1000) 25 (v30)) (1000) 25 = v30 from by simp [u2_v]))
        have pw34 : ((u2 (u2 I14 (1000) 25 (v23)) (1000) 25 (v30)) (1000) 26).toInt = (I14 (1000) 26 : Int32).toInt := congrArg Int32.toInt ((show (u2 (u2 I14 (1000) 25 (v23)) (1000) 25 (v30)) (1000) 26 = I14 (1000) 26 from by simp [u2_v]))
        have pw35 : ((u2 (u2 I14 (1000) 25 (v23)) (1000) 25 (v30)) (1000) 27).toInt = (I (1000) 27 : Int32).toInt := congrArg Int32.toInt ((((show (u2 (u2 I14 (1000) 25 (v23)) (1000) 25 (v30)) (1000) 27 = I14 (1000) 27 from by simp [u2_v])).trans (hkI14.get (1000) 27 rfl)).trans (hkI1.get (1000) 27 rfl))
        have pw36 : ((u2 (u2 I14 (1000) 25 (v23)) (1000) 25 (v30)) (1000) 29).toInt = (I1 (1000) 29 : Int32).toInt := congrArg Int32.toInt (((show (u2 (u2 I14 (1000) 25 (v23)) (1000) 25 (v30)) (1000) 29 = I14 (1000) 29 from by simp [u2_v])).trans (hkI14.get (1000) 29 rfl))
        have pw37 : ((u2 (u2 I14 (1000) 25 (v23)) (1000) 25 (v30)) (1000) 31).toInt = (I14 (1000) 31 : Int32).toInt := congrArg Int32.toInt ((show (u2 (u2 I14 (1000) 25 (v23)) (1000) 25 (v30)) (1000) 31 = I14 (1000) 31 from by simp [u2_v]))
        have pw38 : ((u2 (u2 I14 (1000) 25 (v23)) (1000) 25 (v30)) (1000) 32).toInt = (I (1000) 32 : Int32).toInt := congrArg Int32.toInt ((((show (u2 (u2 I14 (1000) 25 (v23)) (1000) 25 (v30)) (1000) 32 = I14 (1000) 32 from by simp [u2_v])).trans (hkI14.get (1000) 32 rfl)).trans (hkI1.get (1000) 32 rfl))
        refine m_callv (m_runV (1000) (As := []) (rest := []) hx hb hml hown hts hE hM hS hA ce_X10_sum tb_1535 (V_X10_sum l D A ad ns (u2 (u2 I14 (1000) 25 (v23)) (1000) 25 (v30)) L15 G hJ hI (by omega) (fun hz => by have w0 := xI14 (by omega); have w1 := xI1.2.2.2.1 (by omega); have w2 := hPI (by omega); omega)) rfl rfl ⟨Nat.le_of_ble_eq_true rfl, Nat.le_of_ble_eq_true rfl⟩ hJ.1 rfl rfl (by decide) rfl hl.1 rfl (Nat.le_of_ble_eq_true rfl) dX10_compared_95 ⟨Nat.le_of_ble_eq_true rfl, Nat.le_of_ble_eq_true rfl⟩) hS (fun u H locs hw hM hS => ?_)
        obtain ⟨I39, L40, rfl, hI, hkI39, xI39⟩ := hw
        have hM : Mem D A ad ns I39 L40 G H := hM
        have hK := hK.trans hkI39 rfl
        replace hC := CT.link (I2 := (u2 (u2 I14 (1000) 25 (v23)) (1000) 25 (v30))) hC (((show (u2 (u2 I14 (1000) 25 (v23)) (1000) 25 (v30)) 1035 = I14 1035 from by funext zz; simp [u2_v])).trans (hkI14.getA 1035 rfl)) (((show (u2 (u2 I14 (1000) 25 (v23)) (1000) 25 (v30)) 1036 = I14 1036 from by funext zz; simp [u2_v])).trans (hkI14.getA 1036 rfl)) (by omega) (fun hz => by have w0 := xI14 (by omega); have w1 := xI1.2.2.2.1 (by omega); have w2 := hPI (by omega); omega)
        have pw41 : (I39 (1000) 24).toInt = (I (1000) 24 : Int32).toInt := congrArg Int32.toInt (((((hkI39.get (1000) 24 rfl)).trans (show (u2 (u2 I14 (1000) 25 (v23)) (1000) 25 (v30)) (1000) 24 = I14 (1000) 24 from by simp [u2_v])).trans (hkI14.get (1000) 24 rfl)).trans (hkI1.get (1000) 24 rfl))
        have pw42 : (I39 (1000) 27).toInt = (I (1000) 27 : Int32).toInt := congrArg Int32.toInt (((((hkI39.get (1000) 27 rfl)).trans (show (u2 (u2 I14 (1000) 25 (v23)) (1000) 25 (v30)) (1000) 27 = I14 (1000) 27 from by simp [u2_v])).trans (hkI14.get (1000) 27 rfl)).trans (hkI1.get (1000) 27 rfl))
        have pw43 : (I39 (1000) 32).toInt = (I (1000) 32 : Int32).toInt := congrArg Int32.toInt (((((hkI39.get (1000) 32 rfl)).trans (show (u2 (u2 I14 (1000) 25 (v23)) (1000) 25 (v30)) (1000) 32 = I14 (1000) 32 from by simp [u2_v])).trans (hkI14.get (1000) 32 rfl)).trans (hkI1.get (1000) 32 rfl))
        replace hC := hC.comp ((xI39.2.2.2.2).mono0 (1 + (0))) (by omega) (by omega) (by omega) (by omega) (fun hz => (xI39.2.2.2.1 hz).1)
        refine lv_aload_n hx hb dX10_compared_98 rfl (lv_at hl 2 rfl) ?_
        refine lv_iload_n hx hb dX10_compared_99 rfl (lv_at hl 1 rfl) ?_
        refine lv_bipush (v := (61)) hx hb dX10_compared_100 (by decide) ?_
        refine lv_icmp_ne (tgt := 110) hx hb dX10_compared_102 (by decide) (fun c44 => ?_) (fun c44 => ?_)
        · have hc44 := c44
          have q44 := q_ne hc44
          refine lv_iload_n hx hb dX10_compared_110 rfl (lv_at hl 1 rfl) ?_
          refine lv_bipush (v := (60)) hx hb dX10_compared_111 (by decide) ?_
          refine lv_icmp_ne (tgt := 128) hx hb dX10_compared_113 (by decide) (fun c45 => ?_) (fun c45 => ?_)
          · have hc45 := c45
            have q45 := q_ne hc45
            refine lv_iload_n hx hb dX10_compared_128 rfl (lv_at hl 0 rfl) ?_
            refine lv_if_eq (tgt := 137) hx hb dX10_compared_129 (by decide) (fun c46 => ?_) (fun c46 => ?_)
            · have hc46 := c46
              have q46 := q_eq hc46
              refine lv_bipush (v := (8)) hx hb dX10_compared_137 (by decide) ?_
              refine lv_iconst (v := (0)) hx hb dX10_compared_139 (by decide) ?_
              refine m_callv (m_runV (1000) (As := [.int (8), .int (0)]) (rest := []) hx hb hml hown hts hE hM hS hA ce_X10_entry tb_1552 (V_X10_entry l D A ad ns I39 L40 G (8) (0) hJ hI (fun hz => by have w0 := xI39.2.2.2.1 (by omega); have w1 := xI14 (by omega); have w2 := xI1.2.2.2.1 (by omega); have w3 := hPI (by omega); omega)) rfl rfl ⟨Nat.le_of_ble_eq_true rfl, Nat.le_of_ble_eq_true rfl⟩ hJ.1 rfl rfl (by decide) rfl hl.1 rfl (Nat.le_of_ble_eq_true rfl) dX10_compared_140 ⟨Nat.le_of_ble_eq_true rfl, Nat.le_of_ble_eq_true rfl⟩) hS (fun u H locs hw hM hS => ?_)
              obtain ⟨I47, L48, rfl, hI, hkI47, xI47⟩ := hw
              have hM : Mem D A ad ns I47 L48 G H := hM
              have hK := hK.trans hkI47 rfl
              have pw49 : (I47 (1000) 24).toInt = (I (1000) 24 : Int32).toInt := congrArg Int32.toInt ((((((hkI47.get (1000) 24 rfl)).trans (hkI39.get (1000) 24 rfl)).trans (show (u2 (u2 I14 (1000) 25 (v23)) (1000) 25 (v30)) (1000) 24 = I14 (1000) 24 from by simp [u2_v])).trans (hkI14.get (1000) 24 rfl)).trans (hkI1.get (1000) 24 rfl))
              have pw50 : (I47 (1000) 25).toInt = (I39 (1000) 25 : Int32).toInt := congrArg Int32.toInt ((hkI47.get (1000) 25 rfl))
              have pw51 : (I47 (1000) 26).toInt = (I39 (1000) 26 : Int32).toInt := congrArg Int32.toInt ((hkI47.get (1000) 26 rfl))
              have pw52 : (I47 (1000) 27).toInt = (I (1000) 27 : Int32).toInt := congrArg Int32.toInt ((((((hkI47.get (1000) 27 rfl)).trans (hkI39.get (1000) 27 rfl)).trans (show (u2 (u2 I14 (1000) 25 (v23)) (1000) 25 (v30)) (1000) 27 = I14 (1000) 27 from by simp [u2_v])).trans (hkI14.get (1000) 27 rfl)).trans (hkI1.get (1000) 27 rfl))
              have pw53 : (I47 (1000) 31).toInt = (I39 (1000) 31 : Int32).toInt := congrArg Int32.toInt ((hkI47.get (1000) 31 rfl))
              have pw54 : (I47 (1000) 32).toInt = (I (1000) 32 : Int32).toInt := congrArg Int32.toInt ((((((hkI47.get (1000) 32 rfl)).trans (hkI39.get (1000) 32 rfl)).trans (show (u2 (u2 I14 (1000) 25 (v23)) (1000) 25 (v30)) (1000) 32 = I14 (1000) 32 from by simp [u2_v])).trans (hkI14.get (1000) 32 rfl)).trans (hkI1.get (1000) 32 rfl))
              replace hC := hC.comp (n2 := 1) (xI47.2.2.2.2.ct (by omega) (by omega) xI47.2.2.1 (by omega)) (by omega) (by omega) (by omega) (by omega) (fun hz => by omega)
              have xeI47 : Imp ((I47 1000 26).toInt = 0) ((I47 1000 29).toInt = (I39 1000 29).toInt + 1) := fun hz => xI47.2.2.1 (by omega)
              exact m_vret hx hb hr hlocks hM hS (Nat.le_of_ble_eq_true rfl) (Nat.le_of_ble_eq_true rfl) ⟨_, _, rfl, hI, hK, ⟨by omega, by omega, by omega, (fun hz => by have w0 := xeI47 (by omega); have w1 := xI39.2.2.2.1 (by omega); have w2 := xI14 (by omega); have w3 := xI1.2.2.2.1 (by omega); have w4 := hPI (by omega); omega), hC⟩⟩ dX10_compared_143
            · exact absurd c46 (by decide)
          · have hc45 := c45
            have q45 := q_eq hc45
            have sg55 := xr8.2.2 (by omega)
            refine lv_iload_n hx hb dX10_compared_116 rfl (lv_at hl 0 rfl) ?_
            refine lv_if_eq (tgt := 124) hx hb dX10_compared_117 (by decide) (fun c56 => ?_) (fun c56 => ?_)
            · have hc56 := c56
              have q56 := q_eq hc56
              refine lv_iconst (v := (4)) hx hb dX10_compared_124 (by decide) ?_
              refine lv_goto (tgt := 139) hx hb dX10_compared_125 (by decide) ?_
              refine lv_iconst (v := (0)) hx hb dX10_compared_139 (by decide) ?_
              refine m_callv (m_runV (1000) (As := [.int (4), .int (0)]) (rest := []) hx hb hml hown hts hE hM hS hA ce_X10_entry tb_1552 (V_X10_entry l D A ad ns I39 L40 G (4) (0) hJ hI (fun hz => by have w0 := xI39.2.2.2.1 (by omega); have w1 := xI14 (by omega); have w2 := xI1.2.2.2.1 (by omega); have w3 := hPI (by omega); omega)) rfl rfl ⟨Nat.le_of_ble_eq_true rfl, Nat.le_of_ble_eq_true rfl⟩ hJ.1 rfl rfl (by decide) rfl hl.1 rfl (Nat.le_of_ble_eq_true rfl) dX10_compared_140 ⟨Nat.le_of_ble_eq_true rfl, Nat.le_of_ble_eq_true rfl⟩) hS (fun u H locs hw hM hS => ?_)
              obtain ⟨I57, L58, rfl, hI, hkI57, xI57⟩ := hw
              have hM : Mem D A ad ns I57 L58 G H := hM
              have hK := hK.trans hkI57 rfl
              have pw59 : (I57 (1000) 24).toInt = (I (1000) 24 : Int32).toInt := congrArg Int32.toInt ((((((hkI57.get (1000) 24 rfl)).trans (hkI39.get (1000) 24 rfl)).trans (show (u2 (u2 I14 (1000) 25 (v23)) (1000) 25 (v30)) (1000) 24 = I14 (1000) 24 from by simp [u2_v])).trans (hkI14.get (1000) 24 rfl)).trans (hkI1.get (1000) 24 rfl))
              have pw60 : (I57 (1000) 25).toInt = (I39 (1000) 25 : Int32).toInt := congrArg Int32.toInt ((hkI57.get (1000) 25 rfl))
              have pw61 : (I57 (1000) 26).toInt = (I39 (1000) 26 : Int32).toInt := congrArg Int32.toInt ((hkI57.get (1000) 26 rfl))
              have pw62 : (I57 (1000) 27).toInt = (I (1000) 27 : Int32).toInt := congrArg Int32.toInt ((((((hkI57.get (1000) 27 rfl)).trans (hkI39.get (1000) 27 rfl)).trans (show (u2 (u2 I14 (1000) 25 (v23)) (1000) 25 (v30)) (1000) 27 = I14 (1000) 27 from by simp [u2_v])).trans (hkI14.get (1000) 27 rfl)).trans (hkI1.get (1000) 27 rfl))
              have pw63 : (I57 (1000) 31).toInt = (I39 (1000) 31 : Int32).toInt := congrArg Int32.toInt ((hkI57.get (1000) 31 rfl))
              have pw64 : (I57 (1000) 32).toInt = (I (1000) 32 : Int32).toInt := congrArg Int32.toInt ((((((hkI57.get (1000) 32 rfl)).trans (hkI39.get (1000) 32 rfl)).trans (show (u2 (u2 I14 (1000) 25 (v23)) (1000) 25 (v30)) (1000) 32 = I14 (1000) 32 from by simp [u2_v])).trans (hkI14.get (1000) 32 rfl)).trans (hkI1.get (1000) 32 rfl))
              replace hC := hC.comp (n2 := 1) (xI57.2.2.2.2.ct (by omega) (by omega) xI57.2.2.1 (by omega)) (by omega) (by omega) (by omega) (by omega) (fun hz => by omega)
              have xeI57 : Imp ((I57 1000 26).toInt = 0) ((I57 1000 29).toInt = (I39 1000 29).toInt + 1) := fun hz => xI57.2.2.1 (by omega)
              exact m_vret hx hb hr hlocks hM hS (Nat.le_of_ble_eq_true rfl) (Nat.le_of_ble_eq_true rfl) ⟨_, _, rfl, hI, hK, ⟨by omega, by omega, by omega, (fun hz => by have w0 := xeI57 (by omega); have w1 := xI39.2.2.2.1 (by omega); have w2 := xI14 (by omega); have w3 := xI1.2.2.2.1 (by omega); have w4 := hPI (by omega); omega), hC⟩⟩ dX10_compared_143
            · exact absurd c56 (by decide)
        · have hc44 := c44
          have q44 := q_eq hc44
          have sg65 := xr8.2.2 (by omega)
          refine lv_bipush (v := (6)) hx hb dX10_compared_105 (by decide) ?_
          refine lv_goto (tgt := 139) hx hb dX10_compared_107 (by decide) ?_
          refine lv_iconst (v := (0)) hx hb dX10_compared_139 (by decide) ?_
          refine m_callv (m_runV (1000) (As := [.int (6), .int (0)]) (rest := []) hx hb hml hown hts hE hM hS hA ce_X10_entry tb_1552 (V_X10_entry l D A ad ns I39 L40 G (6) (0) hJ hI (fun hz => by have w0 := xI39.2.2.2.1 (by omega); have w1 := xI14 (by omega); have w2 := xI1.2.2.2.1 (by omega); have w3 := hPI (by omega); omega)) rfl rfl ⟨Nat.le_of_ble_eq_true rfl, Nat.le_of_ble_eq_true rfl⟩ hJ.1 rfl rfl (by decide) rfl hl.1 rfl (Nat.le_of_ble_eq_true rfl) dX10_compared_140 ⟨Nat.le_of_ble_eq_true rfl, Nat.le_of_ble_eq_true rfl⟩) hS (fun u H locs hw hM hS => ?_)
          obtain ⟨I66, L67, rfl, hI, hkI66, xI66⟩ := hw
          have hM : Mem D A ad ns I66 L67 G H := hM
          have hK := hK.trans hkI66 rfl
          have pw68 : (I66 (1000) 24).toInt = (I (1000) 24 : Int32).toInt := congrArg Int32.toInt ((((((hkI66.get (1000) 24 rfl)).trans (hkI39.get (1000) 24 rfl)).trans (show (u2 (u2 I14 (1000) 25 (v23)) (1000) 25 (v30)) (1000) 24 = I14 (1000) 24 from by simp [u2_v])).trans (hkI14.get (1000) 24 rfl)).trans (hkI1.get (1000) 24 rfl))
          have pw69 : (I66 (1000) 25).toInt = (I39 (1000) 25 : Int32).toInt := congrArg Int32.toInt ((hkI66.get (1000) 25 rfl))
          have pw70 : (I66 (1000) 26).toInt = (I39 (1000) 26 : Int32).toInt := congrArg Int32.toInt ((hkI66.get (1000) 26 rfl))
          have pw71 : (I66 (1000) 27).toInt = (I (1000) 27 : Int32).toInt := congrArg Int32.toInt ((((((hkI66.get (1000) 27 rfl)).trans (hkI39.get (1000) 27 rfl)).trans (show (u2 (u2 I14 (1000) 25 (v23)) (1000) 25 (v30)) (1000) 27 = I14 (1000) 27 from by simp [u2_v])).trans (hkI14.get (1000) 27 rfl)).trans (hkI1.get (1000) 27 rfl))
          have pw72 : (I66 (1000) 31).toInt = (I39 (1000) 31 : Int32).toInt := congrArg Int32.toInt ((hkI66.get (1000) 31 rfl))
          have pw73 : (I66 (1000) 32).toInt = (I (1000) 32 : Int32).toInt := congrArg Int32.toInt ((((((hkI66.get (1000) 32 rfl)).trans (hkI39.get (1000) 32 rfl)).trans (show (u2 (u2 I14 (1000) 25 (v23)) (1000) 25 (v30)) (1000) 32 = I14 (1000) 32 from by simp [u2_v])).trans (hkI14.get (1000) 32 rfl)).trans (hkI1.get (1000) 32 rfl))
          replace hC := hC.comp (n2 := 1) (xI66.2.2.2.2.ct (by omega) (by omega) xI66.2.2.1 (by omega)) (by omega) (by omega) (by omega) (by omega) (fun hz => by omega)
          have xeI66 : Imp ((I66 1000 26).toInt = 0) ((I66 1000 29).toInt = (I39 1000 29).toInt + 1) := fun hz => xI66.2.2.1 (by omega)
          exact m_vret hx hb hr hlocks hM hS (Nat.le_of_ble_eq_true rfl) (Nat.le_of_ble_eq_true rfl) ⟨_, _, rfl, hI, hK, ⟨by omega, by omega, by omega, (fun hz => by have w0 := xeI66 (by omega); have w1 := xI39.2.2.2.1 (by omega); have w2 := xI14 (by omega); have w3 := xI1.2.2.2.1 (by omega); have w4 := hPI (by omega); omega), hC⟩⟩ dX10_compared_143
      · exact absurd c29 (by decide)
    · have hc25 := c25
      have q25 := q_ne hc25
      refine lv_aload_n hx hb dX10_compared_61 rfl (lv_at hl 1 rfl) ?_
      have pw74 : ((u2 I14 (1000) 25 (v23)) (1000) 24).toInt = (I (1000) 24 : Int32).toInt := congrArg Int32.toInt ((((show (u2 I14 (1000) 25 (v23)) (1000) 24 = I14 (1000) 24 from by simp [u2_v])).trans (hkI14.get (1000) 24 rfl)).trans (hkI1.get (1000) 24 rfl))
      have pw75 : ((u2 I14 (1000) 25 (v23)) (1000) 25).toInt = (v23 : Int32).toInt := congrArg Int32.toInt ((show (u2 I14 (1000) 25 (v23)) (1000) 25 = v23 from by simp [u2_v]))
      have pw76 : ((u2 I14 (1000) 25 (v23)) (1000) 26).toInt = (I14 (1000) 26 : Int32).toInt := congrArg Int32.toInt ((show (u2 I14 (1000) 25 (v23)) (1000) 26 = I14 (1000) 26 from by simp [u2_v]))
      have pw77 : ((u2 I14 (1000) 25 (v23)) (1000) 27).toInt = (I (1000) 27 : Int32).toInt := congrArg Int32.toInt ((((show (u2 I14 (1000) 25 (v23)) (1000) 27 = I14 (1000) 27 from by simp [u2_v])).trans (hkI14.get (1000) 27 rfl)).trans (hkI1.get (1000) 27 rfl))
      have pw78 : ((u2 I14 (1000) 25 (v23)) (1000) 29).toInt = (I1 (1000) 29 : Int32).toInt := congrArg Int32.toInt (((show (u2 I14 (1000) 25 (v23)) (1000) 29 = I14 (1000) 29 from by simp [u2_v])).trans (hkI14.get (1000) 29 rfl))
      have pw79 : ((u2 I14 (1000) 25 (v23)) (1000) 31).toInt = (I14 (1000) 31 : Int32).toInt := congrArg Int32.toInt ((show (u2 I14 (1000) 25 (v23)) (1000) 31 = I14 (1000) 31 from by simp [u2_v]))
      have pw80 : ((u2 I14 (1000) 25 (v23)) (1000) 32).toInt = (I (1000) 32 : Int32).toInt := congrArg Int32.toInt ((((show (u2 I14 (1000) 25 (v23)) (1000) 32 = I14 (1000) 32 from by simp [u2_v])).trans (hkI14.get (1000) 32 rfl)).trans (hkI1.get (1000) 32 rfl))
      refine m_calli (m_runV (1000) (As := []) (rest := []) hx hb hml hown hts hE hM hS hA ce_X10_sign tb_1510 (V_X10_sign l D A ad ns (u2 I14 (1000) 25 (v23)) L15 G hJ hI) rfl rfl ⟨Nat.le_of_ble_eq_true rfl, Nat.le_of_ble_eq_true rfl⟩ hJ.1 rfl rfl (by decide) rfl hl.1 rfl (Nat.le_of_ble_eq_true rfl) dX10_compared_62 ⟨Nat.le_of_ble_eq_true rfl, Nat.le_of_ble_eq_true rfl⟩) hS (fun r81 u H locs hw hM hS => ?_)
      obtain ⟨rfl, xr81⟩ := hw
      have hM : Mem D A ad ns (u2 I14 (1000) 25 (v23)) L15 G H := hM
      have g82 := hI.get 1000 24 (lo := 0) (hi := 400) rfl
      have g83 := hI.get 1000 25 (lo := 0) (hi := 100000) rfl
      refine lv_bipush (v := (61)) hx hb dX10_compared_65 (by decide) ?_
      refine lv_icmp_ne (tgt := 74) hx hb dX10_compared_67 (by decide) (fun c84 => ?_) (fun c84 => ?_)
      · have hc84 := c84
        have q84 := q_ne hc84
        refine lv_iconst (v := (0)) hx hb dX10_compared_74 (by decide) ?_
        refine lv_istore_n (lv' := [(2, .int (0)), (1, .int (r8)), (0, .ref (ad (1000)))]) hx hb dX10_compared_75 rfl hl (by decide) rfl (fun ls hl => ?_)
        refine lv_aload_n hx hb dX10_compared_76 rfl (lv_at hl 2 rfl) ?_
        refine lv_dup hx hb dX10_compared_77 rfl ?_
        refine m_geti (1000) 25 hx hb hts hown hE oc10 hM hJ.1 rfl (by decide) rfl tb_1202 dX10_compared_78 ?_
        have g85 := hI.get (1000) 25 (lo := 0) (hi := 100000) rfl
        have z86 : (u2 I14 (1000) 25 (v23)) (1000) 25 = v23 := (show (u2 I14 (1000) 25 (v23)) (1000) 25 = v23 from by simp [u2_v])
        rw [z86] at g85 ⊢
        refine lv_iload_n hx hb dX10_compared_81 rfl (lv_at hl 0 rfl) ?_
        refine lv_if_eq (tgt := 89) hx hb dX10_compared_82 (by decide) (fun c87 => ?_) (fun c87 => ?_)
        · have hc87 := c87
          have q87 := q_eq hc87
          refine lv_iconst (v := (0)) hx hb dX10_compared_89 (by decide) ?_
          refine lv_iadd hx hb dX10_compared_90 ?_
          refine lv_topi (fun v88 ev88 => ?_)
          have tv88 := a_add ev88 (by omega) (by omega)
          refine m_puti (1000) 25 hx hb hts hown hE oc10 hM hS hJ.1 rfl (by decide) rfl rfl rfl rfl tb_1202 dX10_compared_91 (fun H locs I89 eI89 hM hS => ?_)
          subst eI89
          have hI := hI.put (n := 1000) (k := 25) (v := v88) (lo := 0) (hi := 100000) rfl (by first | omega | decide)
          have hK := hK.put (n := 1000) (k := 25) (v := v88) (by first | rfl | simp [inR])
          refine lv_aload_n hx hb dX10_compared_94 rfl (lv_at hl 2 rfl) ?_
          have pw90 : ((u2 (u2 I14 (1000) 25 (v23)) (1000) 25 (v88)) (1000) 24).toInt = (I (1000) 24 : Int32).toInt := congrArg Int32.toInt ((((show (u2 (u2 I14 (1000) 25 (v23)) (1000) 25 (v88)) (1000) 24 = I14 (1000) 24 from by simp [u2_v])).trans (hkI14.get (1000) 24 rfl)).trans (hkI1.get (1000) 24 rfl))
          have pw91 : ((u2 (u2 I14 (1000) 25 (v23)) (1000) 25 (v88)) (1000) 25).toInt = (v88 : Int32).toInt := congrArg Int32.toInt ((show (u2 (u2 I14 (1000) 25 (v23)) (1000) 25 (v88)) (1000) 25 = v88 from by simp [u2_v]))
          have pw92 : ((u2 (u2 I14 (1000) 25 (v23)) (1000) 25 (v88)) (1000) 26).toInt = (I14 (1000) 26 : Int32).toInt := congrArg Int32.toInt ((show (u2 (u2 I14 (1000) 25 (v23)) (1000) 25 (v88)) (1000) 26 = I14 (1000) 26 from by simp [u2_v]))
          have pw93 : ((u2 (u2 I14 (1000) 25 (v23)) (1000) 25 (v88)) (1000) 27).toInt = (I (1000) 27 : Int32).toInt := congrArg Int32.toInt ((((show (u2 (u2 I14 (1000) 25 (v23)) (1000) 25 (v88)) (1000) 27 = I14 (1000) 27 from by simp [u2_v])).trans (hkI14.get (1000) 27 rfl)).trans (hkI1.get (1000) 27 rfl))
          have pw94 : ((u2 (u2 I14 (1000) 25 (v23)) (1000) 25 (v88)) (1000) 29).toInt = (I1 (1000) 29 : Int32).toInt := congrArg Int32.toInt (((show (u2 (u2 I14 (1000) 25 (v23)) (1000) 25 (v88)) (1000) 29 = I14 (1000) 29 from by simp [u2_v])).trans (hkI14.get (1000) 29 rfl))
          have pw95 : ((u2 (u2 I14 (1000) 25 (v23)) (1000) 25 (v88)) (1000) 31).toInt = (I14 (1000) 31 : Int32).toInt := congrArg Int32.toInt ((show (u2 (u2 I14 (1000) 25 (v23)) (1000) 25 (v88)) (1000) 31 = I14 (1000) 31 from by simp [u2_v]))
          have pw96 : ((u2 (u2 I14 (1000) 25 (v23)) (1000) 25 (v88)) (1000) 32).toInt = (I (1000) 32 : Int32).toInt := congrArg Int32.toInt ((((show (u2 (u2 I14 (1000) 25 (v23)) (1000) 25 (v88)) (1000) 32 = I14 (1000) 32 from by simp [u2_v])).trans (hkI14.get (1000) 32 rfl)).trans (hkI1.get (1000) 32 rfl))
          refine m_callv (m_runV (1000) (As := []) (rest := []) hx hb hml hown hts hE hM hS hA ce_X10_sum tb_1535 (V_X10_sum l D A ad ns (u2 (u2 I14 (1000) 25 (v23)) (1000) 25 (v88)) L15 G hJ hI (by omega) (fun hz => by have w0 := xI14 (by omega); have w1 := xI1.2.2.2.1 (by omega); have w2 := hPI (by omega); omega)) rfl rfl ⟨Nat.le_of_ble_eq_true rfl, Nat.le_of_ble_eq_true rfl⟩ hJ.1 rfl rfl (by decide) rfl hl.1 rfl (Nat.le_of_ble_eq_true rfl) dX10_compared_95 ⟨Nat.le_of_ble_eq_true rfl, Nat.le_of_ble_eq_true rfl⟩) hS (fun u H locs hw hM hS => ?_)
          obtain ⟨I97, L98, rfl, hI, hkI97, xI97⟩ := hw
          have hM : Mem D A ad ns I97 L98 G H := hM
          have hK := hK.trans hkI97 rfl
          replace hC := CT.link (I2 := (u2 (u2 I14 (1000) 25 (v23)) (1000) 25 (v88))) hC (((show (u2 (u2 I14 (1000) 25 (v23)) (1000) 25 (v88)) 1035 = I14 1035 from by funext zz; simp [u2_v])).trans (hkI14.getA 1035 rfl)) (((show (u2 (u2 I14 (1000) 25 (v23)) (1000) 25 (v88)) 1036 = I14 1036 from by funext zz; simp [u2_v])).trans (hkI14.getA 1036 rfl)) (by omega) (fun hz => by have w0 := xI14 (by omega); have w1 := xI1.2.2.2.1 (by omega); have w2 := hPI (by omega); omega)
          have pw99 : (I97 (1000) 24).toInt = (I (1000) 24 : Int32).toInt := congrArg Int32.toInt (((((hkI97.get (1000) 24 rfl)).trans (show (u2 (u2 I14 (1000) 25 (v23)) (1000) 25 (v88)) (1000) 24 = I14 (1000) 24 from by simp [u2_v])).trans (hkI14.get (1000) 24 rfl)).trans (hkI1.get (1000) 24 rfl))
          have pw100 : (I97 (1000) 27).toInt = (I (1000) 27 : Int32).toInt := congrArg Int32.toInt (((((hkI97.get (1000) 27 rfl)).trans (show (u2 (u2 I14 (1000) 25 (v23)) (1000) 25 (v88)) (1000) 27 = I14 (1000) 27 from by simp [u2_v])).trans (hkI14.get (1000) 27 rfl)).trans (hkI1.get (1000) 27 rfl))
          have pw101 : (I97 (1000) 32).toInt = (I (1000) 32 : Int32).toInt := congrArg Int32.toInt (((((hkI97.get (1000) 32 rfl)).trans (show (u2 (u2 I14 (1000) 25 (v23)) (1000) 25 (v88)) (1000) 32 = I14 (1000) 32 from by simp [u2_v])).trans (hkI14.get (1000) 32 rfl)).trans (hkI1.get (1000) 32 rfl))
          replace hC := hC.comp ((xI97.2.2.2.2).mono0 (1 + (0))) (by omega) (by omega) (by omega) (by omega) (fun hz => (xI97.2.2.2.1 hz).1)
          refine lv_aload_n hx hb dX10_compared_98 rfl (lv_at hl 2 rfl) ?_
          refine lv_iload_n hx hb dX10_compared_99 rfl (lv_at hl 1 rfl) ?_
          refine lv_bipush (v := (61)) hx hb dX10_compared_100 (by decide) ?_
          refine lv_icmp_ne (tgt := 110) hx hb dX10_compared_102 (by decide) (fun c102 => ?_) (fun c102 => ?_)
          · have hc102 := c102
            have q102 := q_ne hc102
            refine lv_iload_n hx hb dX10_compared_110 rfl (lv_at hl 1 rfl) ?_
            refine lv_bipush (v := (60)) hx hb dX10_compared_111 (by decide) ?_
            refine lv_icmp_ne (tgt := 128) hx hb dX10_compared_113 (by decide) (fun c103 => ?_) (fun c103 => ?_)
            · have hc103 := c103
              have q103 := q_ne hc103
              refine lv_iload_n hx hb dX10_compared_128 rfl (lv_at hl 0 rfl) ?_
              refine lv_if_eq (tgt := 137) hx hb dX10_compared_129 (by decide) (fun c104 => ?_) (fun c104 => ?_)
              · have hc104 := c104
                have q104 := q_eq hc104
                refine lv_bipush (v := (8)) hx hb dX10_compared_137 (by decide) ?_
                refine lv_iconst (v := (0)) hx hb dX10_compared_139 (by decide) ?_
                refine m_callv (m_runV (1000) (As := [.int (8), .int (0)]) (rest := []) hx hb hml hown hts hE hM hS hA ce_X10_entry tb_1552 (V_X10_entry l D A ad ns I97 L98 G (8) (0) hJ hI (fun hz => by have w0 := xI97.2.2.2.1 (by omega); have w1 := xI14 (by omega); have w2 := xI1.2.2.2.1 (by omega); have w3 := hPI (by omega); omega)) rfl rfl ⟨Nat.le_of_ble_eq_true rfl, Nat.le_of_ble_eq_true rfl⟩ hJ.1 rfl rfl (by decide) rfl hl.1 rfl (Nat.le_of_ble_eq_true rfl) dX10_compared_140 ⟨Nat.le_of_ble_eq_true rfl, Nat.le_of_ble_eq_true rfl⟩) hS (fun u H locs hw hM hS => ?_)
                obtain ⟨I105, L106, rfl, hI, hkI105, xI105⟩ := hw
                have hM : Mem D A ad ns I105 L106 G H := hM
                have hK := hK.trans hkI105 rfl
                have pw107 : (I105 (1000) 24).toInt = (I (1000) 24 : Int32).toInt := congrArg Int32.toInt ((((((hkI105.get (1000) 24 rfl)).trans (hkI97.get (1000) 24 rfl)).trans (show (u2 (u2 I14 (1000) 25 (v23)) (1000) 25 (v88)) (1000) 24 = I14 (1000) 24 from by simp [u2_v])).trans (hkI14.get (1000) 24 rfl)).trans (hkI1.get (1000) 24 rfl))
                have pw108 : (I105 (1000) 25).toInt = (I97 (1000) 25 : Int32).toInt := congrArg Int32.toInt ((hkI105.get (1000) 25 rfl))
                have pw109 : (I105 (1000) 26).toInt = (I97 (1000) 26 : Int32).toInt := congrArg Int32.toInt ((hkI105.get (1000) 26 rfl))
                have pw110 : (I105 (1000) 27).toInt = (I (1000) 27 : Int32).toInt := congrArg Int32.toInt ((((((hkI105.get (1000) 27 rfl)).trans (hkI97.get (1000) 27 rfl)).trans (show (u2 (u2 I14 (1000) 25 (v23)) (1000) 25 (v88)) (1000) 27 = I14 (1000) 27 from by simp [u2_v])).trans (hkI14.get (1000) 27 rfl)).trans (hkI1.get (1000) 27 rfl))
                have pw111 : (I105 (1000) 31).toInt = (I97 (1000) 31 : Int32).toInt := congrArg Int32.toInt ((hkI105.get (1000) 31 rfl))
                have pw112 : (I105 (1000) 32).toInt = (I (1000) 32 : Int32).toInt := congrArg Int32.toInt ((((((hkI105.get (1000) 32 rfl)).trans (hkI97.get (1000) 32 rfl)).trans (show (u2 (u2 I14 (1000) 25 (v23)) (1000) 25 (v88)) (1000) 32 = I14 (1000) 32 from by simp [u2_v])).trans (hkI14.get (1000) 32 rfl)).trans (hkI1.get (1000) 32 rfl))
                replace hC := hC.comp (n2 := 1) (xI105.2.2.2.2.ct (by omega) (by omega) xI105.2.2.1 (by omega)) (by omega) (by omega) (by omega) (by omega) (fun hz => by omega)
                have xeI105 : Imp ((I105 1000 26).toInt = 0) ((I105 1000 29).toInt = (I97 1000 29).toInt + 1) := fun hz => xI105.2.2.1 (by omega)
                exact m_vret hx hb hr hlocks hM hS (Nat.le_of_ble_eq_true rfl) (Nat.le_of_ble_eq_true rfl) ⟨_, _, rfl, hI, hK, ⟨by omega, by omega, by omega, (fun hz => by have w0 := xeI105 (by omega); have w1 := xI97.2.2.2.1 (by omega); have w2 := xI14 (by omega); have w3 := xI1.2.2.2.1 (by omega); have w4 := hPI (by omega); omega), hC⟩⟩ dX10_compared_143
              · exact absurd c104 (by decide)
            · have hc103 := c103
              have q103 := q_eq hc103
              have sg113 := xr8.2.2 (by omega)
              refine lv_iload_n hx hb dX10_compared_116 rfl (lv_at hl 0 rfl) ?_
              refine lv_if_eq (tgt := 124) hx hb dX10_compared_117 (by decide) (fun c114 => ?_) (fun c114 => ?_)
              · have hc114 := c114
                have q114 := q_eq hc114
                refine lv_iconst (v := (4)) hx hb dX10_compared_124 (by decide) ?_
                refine lv_goto (tgt := 139) hx hb dX10_compared_125 (by decide) ?_
                refine lv_iconst (v := (0)) hx hb dX10_compared_139 (by decide) ?_
                refine m_callv (m_runV (1000) (As := [.int (4), .int (0)]) (rest := []) hx hb hml hown hts hE hM hS hA ce_X10_entry tb_1552 (V_X10_entry l D A ad ns I97 L98 G (4) (0) hJ hI (fun hz => by have w0 := xI97.2.2.2.1 (by omega); have w1 := xI14 (by omega); have w2 := xI1.2.2.2.1 (by omega); have w3 := hPI (by omega); omega)) rfl rfl ⟨Nat.le_of_ble_eq_true rfl, Nat.le_of_ble_eq_true rfl⟩ hJ.1 rfl rfl (by decide) rfl hl.1 rfl (Nat.le_of_ble_eq_true rfl) dX10_compared_140 ⟨Nat.le_of_ble_eq_true rfl, Nat.le_of_ble_eq_true rfl⟩) hS (fun u H locs hw hM hS => ?_)
                obtain ⟨I115, L116, rfl, hI, hkI115, xI115⟩ := hw
                have hM : Mem D A ad ns I115 L116 G H := hM
                have hK := hK.trans hkI115 rfl
                have pw117 : (I115 (1000) 24).toInt = (I (1000) 24 : Int32).toInt := congrArg Int32.toInt ((((((hkI115.get (1000) 24 rfl)).trans (hkI97.get (1000) 24 rfl)).trans (show (u2 (u2 I14 (1000) 25 (v23)) (1000) 25 (v88)) (1000) 24 = I14 (1000) 24 from by simp [u2_v])).trans (hkI14.get (1000) 24 rfl)).trans (hkI1.get (1000) 24 rfl))
                have pw118 : (I115 (1000) 25).toInt = (I97 (1000) 25 : Int32).toInt := congrArg Int32.toInt ((hkI115.get (1000) 25 rfl))
                have pw119 : (I115 (1000) 26).toInt = (I97 (1000) 26 : Int32).toInt := congrArg Int32.toInt ((hkI115.get (1000) 26 rfl))
                have pw120 : (I115 (1000) 27).toInt = (I (1000) 27 : Int32).toInt := congrArg Int32.toInt ((((((hkI115.get (1000) 27 rfl)).trans (hkI97.get (1000) 27 rfl)).trans (show (u2 (u2 I14 (1000) 25 (v23)) (1000) 25 (v88)) (1000) 27 = I14 (1000) 27 from by simp [u2_v])).trans (hkI14.get (1000) 27 rfl)).trans (hkI1.get (1000) 27 rfl))
                have pw121 : (I115 (1000) 31).toInt = (I97 (1000) 31 : Int32).toInt := congrArg Int32.toInt ((hkI115.get (1000) 31 rfl))
                have pw122 : (I115 (1000) 32).toInt = (I (1000) 32 : Int32).toInt := congrArg Int32.toInt ((((((hkI115.get (1000) 32 rfl)).trans (hkI97.get (1000) 32 rfl)).trans (show (u2 (u2 I14 (1000) 25 (v23)) (1000) 25 (v88)) (1000) 32 = I14 (1000) 32 from by simp [u2_v])).trans (hkI14.get (1000) 32 rfl)).trans (hkI1.get (1000) 32 rfl))
                replace hC := hC.comp (n2 := 1) (xI115.2.2.2.2.ct (by omega) (by omega) xI115.2.2.1 (by omega)) (by omega) (by omega) (by omega) (by omega) (fun hz => by omega)
                have xeI115 : Imp ((I115 1000 26).toInt = 0) ((I115 1000 29).toInt = (I97 1000 29).toInt + 1) := fun hz => xI115.2.2.1 (by omega)
                exact m_vret hx hb hr hlocks hM hS (Nat.le_of_ble_eq_true rfl) (Nat.le_of_ble_eq_true rfl) ⟨_, _, rfl, hI, hK, ⟨by omega, by omega, by omega, (fun hz => by have w0 := xeI115 (by omega); have w1 := xI97.2.2.2.1 (by omega); have w2 := xI14 (by omega); have w3 := xI1.2.2.2.1 (by omega); have w4 := hPI (by omega); omega), hC⟩⟩ dX10_compared_143
              · exact absurd c114 (by decide)
          · have hc102 := c102
            have q102 := q_eq hc102
            have sg123 := xr8.2.2 (by omega)
            refine lv_bipush (v := (6)) hx hb dX10_compared_105 (by decide) ?_
            refine lv_goto (tgt := 139) hx hb dX10_compared_107 (by decide) ?_
            refine lv_iconst (v := (0)) hx hb dX10_compared_139 (by decide) ?_
            refine m_callv (m_runV (1000) (As := [.int (6), .int (0)]) (rest := []) hx hb hml hown hts hE hM hS hA ce_X10_entry tb_1552 (V_X10_entry l D A ad ns I97 L98 G (6) (0) hJ hI (fun hz => by have w0 := xI97.2.2.2.1 (by omega); have w1 := xI14 (by omega); have w2 := xI1.2.2.2.1 (by omega); have w3 := hPI (by omega); omega)) rfl rfl ⟨Nat.le_of_ble_eq_true rfl, Nat.le_of_ble_eq_true rfl⟩ hJ.1 rfl rfl (by decide) rfl hl.1 rfl (Nat.le_of_ble_eq_true rfl) dX10_compared_140 ⟨Nat.le_of_ble_eq_true rfl, Nat.le_of_ble_eq_true rfl⟩) hS (fun u H locs hw hM hS => ?_)
            obtain ⟨I124, L125, rfl, hI, hkI124, xI124⟩ := hw
            have hM : Mem D A ad ns I124 L125 G H := hM
            have hK := hK.trans hkI124 rfl
            have pw126 : (I124 (1000) 24).toInt = (I (1000) 24 : Int32).toInt := congrArg Int32.toInt ((((((hkI124.get (1000) 24 rfl)).trans (hkI97.get (1000) 24 rfl)).trans (show (u2 (u2 I14 (1000) 25 (v23)) (1000) 25 (v88)) (1000) 24 = I14 (1000) 24 from by simp [u2_v])).trans (hkI14.get (1000) 24 rfl)).trans (hkI1.get (1000) 24 rfl))
            have pw127 : (I124 (1000) 25).toInt = (I97 (1000) 25 : Int32).toInt := congrArg Int32.toInt ((hkI124.get (1000) 25 rfl))
            have pw128 : (I124 (1000) 26).toInt = (I97 (1000) 26 : Int32).toInt := congrArg Int32.toInt ((hkI124.get (1000) 26 rfl))
            have pw129 : (I124 (1000) 27).toInt = (I (1000) 27 : Int32).toInt := congrArg Int32.toInt ((((((hkI124.get (1000) 27 rfl)).trans (hkI97.get (1000) 27 rfl)).trans (show (u2 (u2 I14 (1000) 25 (v23)) (1000) 25 (v88)) (1000) 27 = I14 (1000) 27 from by simp [u2_v])).trans (hkI14.get (1000) 27 rfl)).trans (hkI1.get (1000) 27 rfl))
            have pw130 : (I124 (1000) 31).toInt = (I97 (1000) 31 : Int32).toInt := congrArg Int32.toInt ((hkI124.get (1000) 31 rfl))
            have pw131 : (I124 (1000) 32).toInt = (I (1000) 32 : Int32).toInt := congrArg Int32.toInt ((((((hkI124.get (1000) 32 rfl)).trans (hkI97.get (1000) 32 rfl)).trans (show (u2 (u2 I14 (1000) 25 (v23)) (1000) 25 (v88)) (1000) 32 = I14 (1000) 32 from by simp [u2_v])).trans (hkI14.get (1000) 32 rfl)).trans (hkI1.get (1000) 32 rfl))
            replace hC := hC.comp (n2 := 1) (xI124.2.2.2.2.ct (by omega) (by omega) xI124.2.2.1 (by omega)) (by omega) (by omega) (by omega) (by omega) (fun hz => by omega)
            have xeI124 : Imp ((I124 1000 26).toInt = 0) ((I124 1000 29).toInt = (I97 1000 29).toInt + 1) := fun hz => xI124.2.2.1 (by omega)
            exact m_vret hx hb hr hlocks hM hS (Nat.le_of_ble_eq_true rfl) (Nat.le_of_ble_eq_true rfl) ⟨_, _, rfl, hI, hK, ⟨by omega, by omega, by omega, (fun hz => by have w0 := xeI124 (by omega); have w1 := xI97.2.2.2.1 (by omega); have w2 := xI14 (by omega); have w3 := xI1.2.2.2.1 (by omega); have w4 := hPI (by omega); omega), hC⟩⟩ dX10_compared_143
        · exact absurd c87 (by decide)
      · have hc84 := c84
        have q84 := q_eq hc84
        have sg132 := xr81.2.2 (by omega)
        refine lv_iconst (v := (1)) hx hb dX10_compared_70 (by decide) ?_
        refine lv_goto (tgt := 75) hx hb dX10_compared_71 (by decide) ?_
        refine lv_istore_n (lv' := [(2, .int (1)), (1, .int (r8)), (0, .ref (ad (1000)))]) hx hb dX10_compared_75 rfl hl (by decide) rfl (fun ls hl => ?_)
        refine lv_aload_n hx hb dX10_compared_76 rfl (lv_at hl 2 rfl) ?_
        refine lv_dup hx hb dX10_compared_77 rfl ?_
        refine m_geti (1000) 25 hx hb hts hown hE oc10 hM hJ.1 rfl (by decide) rfl tb_1202 dX10_compared_78 ?_
        have g133 := hI.get (1000) 25 (lo := 0) (hi := 100000) rfl
        have z134 : (u2 I14 (1000) 25 (v23)) (1000) 25 = v23 := (show (u2 I14 (1000) 25 (v23)) (1000) 25 = v23 from by simp [u2_v])
        rw [z134] at g133 ⊢
        refine lv_iload_n hx hb dX10_compared_81 rfl (lv_at hl 0 rfl) ?_
        refine lv_if_eq (tgt := 89) hx hb dX10_compared_82 (by decide) (fun c135 => ?_) (fun c135 => ?_)
        · exact absurd c135 (by decide)
        · have hc135 := c135
          have q135 := q_ne hc135
          refine lv_iconst (v := (1)) hx hb dX10_compared_85 (by decide) ?_
          refine lv_goto (tgt := 90) hx hb dX10_compared_86 (by decide) ?_
          refine lv_iadd hx hb dX10_compared_90 ?_
          refine lv_topi (fun v136 ev136 => ?_)
          have tv136 := a_add ev136 (by omega) (by omega)
          refine m_puti (1000) 25 hx hb hts hown hE oc10 hM hS hJ.1 rfl (by decide) rfl rfl rfl rfl tb_1202 dX10_compared_91 (fun H locs I137 eI137 hM hS => ?_)
          subst eI137
          have hI := hI.put (n := 1000) (k := 25) (v := v136) (lo := 0) (hi := 100000) rfl (by first | omega | decide)
          have hK := hK.put (n := 1000) (k := 25) (v := v136) (by first | rfl | simp [inR])
          refine lv_aload_n hx hb dX10_compared_94 rfl (lv_at hl 2 rfl) ?_
          have pw138 : ((u2 (u2 I14 (1000) 25 (v23)) (1000) 25 (v136)) (1000) 24).toInt = (I (1000) 24 : Int32).toInt := congrArg Int32.toInt ((((show (u2 (u2 I14 (1000) 25 (v23)) (1000) 25 (v136)) (1000) 24 = I14 (1000) 24 from by simp [u2_v])).trans (hkI14.get (1000) 24 rfl)).trans (hkI1.get (1000) 24 rfl))
          have pw139 : ((u2 (u2 I14 (1000) 25 (v23)) (1000) 25 (v136)) (1000) 25).toInt = (v136 : Int32).toInt := congrArg Int32.toInt ((show (u2 (u2 I14 (1000) 25 (v23)) (1000) 25 (v136)) (1000) 25 = v136 from by simp [u2_v]))
          have pw140 : ((u2 (u2 I14 (1000) 25 (v23)) (1000) 25 (v136)) (1000) 26).toInt = (I14 (1000) 26 : Int32).toInt := congrArg Int32.toInt ((show (u2 (u2 I14 (1000) 25 (v23)) (1000) 25 (v136)) (1000) 26 = I14 (1000) 26 from by simp [u2_v]))
          have pw141 : ((u2 (u2 I14 (1000) 25 (v23)) (1000) 25 (v136)) (1000) 27).toInt = (I (1000) 27 : Int32).toInt := congrArg Int32.toInt ((((show (u2 (u2 I14 (1000) 25 (v23)) (1000) 25 (v136)) (1000) 27 = I14 (1000) 27 from by simp [u2_v])).trans (hkI14.get (1000) 27 rfl)).trans (hkI1.get (1000) 27 rfl))
          have pw142 : ((u2 (u2 I14 (1000) 25 (v23)) (1000) 25 (v136)) (1000) 29).toInt = (I1 (1000) 29 : Int32).toInt := congrArg Int32.toInt (((show (u2 (u2 I14 (1000) 25 (v23)) (1000) 25 (v136)) (1000) 29 = I14 (1000) 29 from by simp [u2_v])).trans (hkI14.get (1000) 29 rfl))
          have pw143 : ((u2 (u2 I14 (1000) 25 (v23)) (1000) 25 (v136)) (1000) 31).toInt = (I14 (1000) 31 : Int32).toInt := congrArg Int32.toInt ((show (u2 (u2 I14 (1000) 25 (v23)) (1000) 25 (v136)) (1000) 31 = I14 (1000) 31 from by simp [u2_v]))
          have pw144 : ((u2 (u2 I14 (1000) 25 (v23)) (1000) 25 (v136)) (1000) 32).toInt = (I (1000) 32 : Int32).toInt := congrArg Int32.toInt ((((show (u2 (u2 I14 (1000) 25 (v23)) (1000) 25 (v136)) (1000) 32 = I14 (1000) 32 from by simp [u2_v])).trans (hkI14.get (1000) 32 rfl)).trans (hkI1.get (1000) 32 rfl))
          refine m_callv (m_runV (1000) (As := []) (rest := []) hx hb hml hown hts hE hM hS hA ce_X10_sum tb_1535 (V_X10_sum l D A ad ns (u2 (u2 I14 (1000) 25 (v23)) (1000) 25 (v136)) L15 G hJ hI (by omega) (fun hz => by have w0 := xI14 (by omega); have w1 := xI1.2.2.2.1 (by omega); have w2 := hPI (by omega); omega)) rfl rfl ⟨Nat.le_of_ble_eq_true rfl, Nat.le_of_ble_eq_true rfl⟩ hJ.1 rfl rfl (by decide) rfl hl.1 rfl (Nat.le_of_ble_eq_true rfl) dX10_compared_95 ⟨Nat.le_of_ble_eq_true rfl, Nat.le_of_ble_eq_true rfl⟩) hS (fun u H locs hw hM hS => ?_)
          obtain ⟨I145, L146, rfl, hI, hkI145, xI145⟩ := hw
          have hM : Mem D A ad ns I145 L146 G H := hM
          have hK := hK.trans hkI145 rfl
          replace hC := CT.link (I2 := (u2 (u2 I14 (1000) 25 (v23)) (1000) 25 (v136))) hC (((show (u2 (u2 I14 (1000) 25 (v23)) (1000) 25 (v136)) 1035 = I14 1035 from by funext zz; simp [u2_v])).trans (hkI14.getA 1035 rfl)) (((show (u2 (u2 I14 (1000) 25 (v23)) (1000) 25 (v136)) 1036 = I14 1036 from by funext zz; simp [u2_v])).trans (hkI14.getA 1036 rfl)) (by omega) (fun hz => by have w0 := xI14 (by omega); have w1 := xI1.2.2.2.1 (by omega); have w2 := hPI (by omega); omega)
          have pw147 : (I145 (1000) 24).toInt = (I (1000) 24 : Int32).toInt := congrArg Int32.toInt (((((hkI145.get (1000) 24 rfl)).trans (show (u2 (u2 I14 (1000) 25 (v23)) (1000) 25 (v136)) (1000) 24 = I14 (1000) 24 from by simp [u2_v])).trans (hkI14.get (1000) 24 rfl)).trans (hkI1.get (1000) 24 rfl))
          have pw148 : (I145 (1000) 27).toInt = (I (1000) 27 : Int32).toInt := congrArg Int32.toInt (((((hkI145.get (1000) 27 rfl)).trans (show (u2 (u2 I14 (1000) 25 (v23)) (1000) 25 (v136)) (1000) 27 = I14 (1000) 27 from by simp [u2_v])).trans (hkI14.get (1000) 27 rfl)).trans (hkI1.get (1000) 27 rfl))
          have pw149 : (I145 (1000) 32).toInt = (I (1000) 32 : Int32).toInt := congrArg Int32.toInt (((((hkI145.get (1000) 32 rfl)).trans (show (u2 (u2 I14 (1000) 25 (v23)) (1000) 25 (v136)) (1000) 32 = I14 (1000) 32 from by simp [u2_v])).trans (hkI14.get (1000) 32 rfl)).trans (hkI1.get (1000) 32 rfl))
          replace hC := hC.comp ((xI145.2.2.2.2).mono0 (1 + (0))) (by omega) (by omega) (by omega) (by omega) (fun hz => (xI145.2.2.2.1 hz).1)
          refine lv_aload_n hx hb dX10_compared_98 rfl (lv_at hl 2 rfl) ?_
          refine lv_iload_n hx hb dX10_compared_99 rfl (lv_at hl 1 rfl) ?_
          refine lv_bipush (v := (61)) hx hb dX10_compared_100 (by decide) ?_
          refine lv_icmp_ne (tgt := 110) hx hb dX10_compared_102 (by decide) (fun c150 => ?_) (fun c150 => ?_)
          · have hc150 := c150
            have q150 := q_ne hc150
            refine lv_iload_n hx hb dX10_compared_110 rfl (lv_at hl 1 rfl) ?_
            refine lv_bipush (v := (60)) hx hb dX10_compared_111 (by decide) ?_
            refine lv_icmp_ne (tgt := 128) hx hb dX10_compared_113 (by decide) (fun c151 => ?_) (fun c151 => ?_)
            · have hc151 := c151
              have q151 := q_ne hc151
              refine lv_iload_n hx hb dX10_compared_128 rfl (lv_at hl 0 rfl) ?_
              refine lv_if_eq (tgt := 137) hx hb dX10_compared_129 (by decide) (fun c152 => ?_) (fun c152 => ?_)
              · exact absurd c152 (by decide)
              · have hc152 := c152
                have q152 := q_ne hc152
                refine lv_bipush (v := (7)) hx hb dX10_compared_132 (by decide) ?_
                refine lv_goto (tgt := 139) hx hb dX10_compared_134 (by decide) ?_
                refine lv_iconst (v := (0)) hx hb dX10_compared_139 (by decide) ?_
                refine m_callv (m_runV (1000) (As := [.int (7), .int (0)]) (rest := []) hx hb hml hown hts hE hM hS hA ce_X10_entry tb_1552 (V_X10_entry l D A ad ns I145 L146 G (7) (0) hJ hI (fun hz => by have w0 := xI145.2.2.2.1 (by omega); have w1 := xI14 (by omega); have w2 := xI1.2.2.2.1 (by omega); have w3 := hPI (by omega); omega)) rfl rfl ⟨Nat.le_of_ble_eq_true rfl, Nat.le_of_ble_eq_true rfl⟩ hJ.1 rfl rfl (by decide) rfl hl.1 rfl (Nat.le_of_ble_eq_true rfl) dX10_compared_140 ⟨Nat.le_of_ble_eq_true rfl, Nat.le_of_ble_eq_true rfl⟩) hS (fun u H locs hw hM hS => ?_)
                obtain ⟨I153, L154, rfl, hI, hkI153, xI153⟩ := hw
                have hM : Mem D A ad ns I153 L154 G H := hM
                have hK := hK.trans hkI153 rfl
                have pw155 : (I153 (1000) 24).toInt = (I (1000) 24 : Int32).toInt := congrArg Int32.toInt ((((((hkI153.get (1000) 24 rfl)).trans (hkI145.get (1000) 24 rfl)).trans (show (u2 (u2 I14 (1000) 25 (v23)) (1000) 25 (v136)) (1000) 24 = I14 (1000) 24 from by simp [u2_v])).trans (hkI14.get (1000) 24 rfl)).trans (hkI1.get (1000) 24 rfl))
                have pw156 : (I153 (1000) 25).toInt = (I145 (1000) 25 : Int32).toInt := congrArg Int32.toInt ((hkI153.get (1000) 25 rfl))
                have pw157 : (I153 (1000) 26).toInt = (I145 (1000) 26 : Int32).toInt := congrArg Int32.toInt ((hkI153.get (1000) 26 rfl))
                have pw158 : (I153 (1000) 27).toInt = (I (1000) 27 : Int32).toInt := congrArg Int32.toInt ((((((hkI153.get (1000) 27 rfl)).trans (hkI145.get (1000) 27 rfl)).trans (show (u2 (u2 I14 (1000) 25 (v23)) (1000) 25 (v136)) (1000) 27 = I14 (1000) 27 from by simp [u2_v])).trans (hkI14.get (1000) 27 rfl)).trans (hkI1.get (1000) 27 rfl))
                have pw159 : (I153 (1000) 31).toInt = (I145 (1000) 31 : Int32).toInt := congrArg Int32.toInt ((hkI153.get (1000) 31 rfl))
                have pw160 : (I153 (1000) 32).toInt = (I (1000) 32 : Int32).toInt := congrArg Int32.toInt ((((((hkI153.get (1000) 32 rfl)).trans (hkI145.get (1000) 32 rfl)).trans (show (u2 (u2 I14 (1000) 25 (v23)) (1000) 25 (v136)) (1000) 32 = I14 (1000) 32 from by simp [u2_v])).trans (hkI14.get (1000) 32 rfl)).trans (hkI1.get (1000) 32 rfl))
                replace hC := hC.comp (n2 := 1) (xI153.2.2.2.2.ct (by omega) (by omega) xI153.2.2.1 (by omega)) (by omega) (by omega) (by omega) (by omega) (fun hz => by omega)
                have xeI153 : Imp ((I153 1000 26).toInt = 0) ((I153 1000 29).toInt = (I145 1000 29).toInt + 1) := fun hz => xI153.2.2.1 (by omega)
                exact m_vret hx hb hr hlocks hM hS (Nat.le_of_ble_eq_true rfl) (Nat.le_of_ble_eq_true rfl) ⟨_, _, rfl, hI, hK, ⟨by omega, by omega, by omega, (fun hz => by have w0 := xeI153 (by omega); have w1 := xI145.2.2.2.1 (by omega); have w2 := xI14 (by omega); have w3 := xI1.2.2.2.1 (by omega); have w4 := hPI (by omega); omega), hC⟩⟩ dX10_compared_143
            · have hc151 := c151
              have q151 := q_eq hc151
              have sg161 := xr8.2.2 (by omega)
              refine lv_iload_n hx hb dX10_compared_116 rfl (lv_at hl 0 rfl) ?_
              refine lv_if_eq (tgt := 124) hx hb dX10_compared_117 (by decide) (fun c162 => ?_) (fun c162 => ?_)
              · exact absurd c162 (by decide)
              · have hc162 := c162
                have q162 := q_ne hc162
                refine lv_iconst (v := (5)) hx hb dX10_compared_120 (by decide) ?_
                refine lv_goto (tgt := 139) hx hb dX10_compared_121 (by decide) ?_
                refine lv_iconst (v := (0)) hx hb dX10_compared_139 (by decide) ?_
                refine m_callv (m_runV (1000) (As := [.int (5), .int (0)]) (rest := []) hx hb hml hown hts hE hM hS hA ce_X10_entry tb_1552 (V_X10_entry l D A ad ns I145 L146 G (5) (0) hJ hI (fun hz => by have w0 := xI145.2.2.2.1 (by omega); have w1 := xI14 (by omega); have w2 := xI1.2.2.2.1 (by omega); have w3 := hPI (by omega); omega)) rfl rfl ⟨Nat.le_of_ble_eq_true rfl, Nat.le_of_ble_eq_true rfl⟩ hJ.1 rfl rfl (by decide) rfl hl.1 rfl (Nat.le_of_ble_eq_true rfl) dX10_compared_140 ⟨Nat.le_of_ble_eq_true rfl, Nat.le_of_ble_eq_true rfl⟩) hS (fun u H locs hw hM hS => ?_)
                obtain ⟨I163, L164, rfl, hI, hkI163, xI163⟩ := hw
                have hM : Mem D A ad ns I163 L164 G H := hM
                have hK := hK.trans hkI163 rfl
                have pw165 : (I163 (1000) 24).toInt = (I (1000) 24 : Int32).toInt := congrArg Int32.toInt ((((((hkI163.get (1000) 24 rfl)).trans (hkI145.get (1000) 24 rfl)).trans (show (u2 (u2 I14 (1000) 25 (v23)) (1000) 25 (v136)) (1000) 24 = I14 (1000) 24 from by simp [u2_v])).trans (hkI14.get (1000) 24 rfl)).trans (hkI1.get (1000) 24 rfl))
                have pw166 : (I163 (1000) 25).toInt = (I145 (1000) 25 : Int32).toInt := congrArg Int32.toInt ((hkI163.get (1000) 25 rfl))
                have pw167 : (I163 (1000) 26).toInt = (I145 (1000) 26 : Int32).toInt := congrArg Int32.toInt ((hkI163.get (1000) 26 rfl))
                have pw168 : (I163 (1000) 27).toInt = (I (1000) 27 : Int32).toInt := congrArg Int32.toInt ((((((hkI163.get (1000) 27 rfl)).trans (hkI145.get (1000) 27 rfl)).trans (show (u2 (u2 I14 (1000) 25 (v23)) (1000) 25 (v136)) (1000) 27 = I14 (1000) 27 from by simp [u2_v])).trans (hkI14.get (1000) 27 rfl)).trans (hkI1.get (1000) 27 rfl))
                have pw169 : (I163 (1000) 31).toInt = (I145 (1000) 31 : Int32).toInt := congrArg Int32.toInt ((hkI163.get (1000) 31 rfl))
                have pw170 : (I163 (1000) 32).toInt = (I (1000) 32 : Int32).toInt := congrArg Int32.toInt ((((((hkI163.get (1000) 32 rfl)).trans (hkI145.get (1000) 32 rfl)).trans (show (u2 (u2 I14 (1000) 25 (v23)) (1000) 25 (v136)) (1000) 32 = I14 (1000) 32 from by simp [u2_v])).trans (hkI14.get (1000) 32 rfl)).trans (hkI1.get (1000) 32 rfl))
                replace hC := hC.comp (n2 := 1) (xI163.2.2.2.2.ct (by omega) (by omega) xI163.2.2.1 (by omega)) (by omega) (by omega) (by omega) (by omega) (fun hz => by omega)
                have xeI163 : Imp ((I163 1000 26).toInt = 0) ((I163 1000 29).toInt = (I145 1000 29).toInt + 1) := fun hz => xI163.2.2.1 (by omega)
                exact m_vret hx hb hr hlocks hM hS (Nat.le_of_ble_eq_true rfl) (Nat.le_of_ble_eq_true rfl) ⟨_, _, rfl, hI, hK, ⟨by omega, by omega, by omega, (fun hz => by have w0 := xeI163 (by omega); have w1 := xI145.2.2.2.1 (by omega); have w2 := xI14 (by omega); have w3 := xI1.2.2.2.1 (by omega); have w4 := hPI (by omega); omega), hC⟩⟩ dX10_compared_143
          · have hc150 := c150
            have q150 := q_eq hc150
            have sg171 := xr8.2.2 (by omega)
            refine lv_bipush (v := (6)) hx hb dX10_compared_105 (by decide) ?_
            refine lv_goto (tgt := 139) hx hb dX10_compared_107 (by decide) ?_
            refine lv_iconst (v := (0)) hx hb dX10_compared_139 (by decide) ?_
            refine m_callv (m_runV (1000) (As := [.int (6), .int (0)]) (rest := []) hx hb hml hown hts hE hM hS hA ce_X10_entry tb_1552 (V_X10_entry l D A ad ns I145 L146 G (6) (0) hJ hI (fun hz => by have w0 := xI145.2.2.2.1 (by omega); have w1 := xI14 (by omega); have w2 := xI1.2.2.2.1 (by omega); have w3 := hPI (by omega); omega)) rfl rfl ⟨Nat.le_of_ble_eq_true rfl, Nat.le_of_ble_eq_true rfl⟩ hJ.1 rfl rfl (by decide) rfl hl.1 rfl (Nat.le_of_ble_eq_true rfl) dX10_compared_140 ⟨Nat.le_of_ble_eq_true rfl, Nat.le_of_ble_eq_true rfl⟩) hS (fun u H locs hw hM hS => ?_)
            obtain ⟨I172, L173, rfl, hI, hkI172, xI172⟩ := hw
            have hM : Mem D A ad ns I172 L173 G H := hM
            have hK := hK.trans hkI172 rfl
            have pw174 : (I172 (1000) 24).toInt = (I (1000) 24 : Int32).toInt := congrArg Int32.toInt ((((((hkI172.get (1000) 24 rfl)).trans (hkI145.get (1000) 24 rfl)).trans (show (u2 (u2 I14 (1000) 25 (v23)) (1000) 25 (v136)) (1000) 24 = I14 (1000) 24 from by simp [u2_v])).trans (hkI14.get (1000) 24 rfl)).trans (hkI1.get (1000) 24 rfl))
            have pw175 : (I172 (1000) 25).toInt = (I145 (1000) 25 : Int32).toInt := congrArg Int32.toInt ((hkI172.get (1000) 25 rfl))
            have pw176 : (I172 (1000) 26).toInt = (I145 (1000) 26 : Int32).toInt := congrArg Int32.toInt ((hkI172.get (1000) 26 rfl))
            have pw177 : (I172 (1000) 27).toInt = (I (1000) 27 : Int32).toInt := congrArg Int32.toInt ((((((hkI172.get (1000) 27 rfl)).trans (hkI145.get (1000) 27 rfl)).trans (show (u2 (u2 I14 (1000) 25 (v23)) (1000) 25 (v136)) (1000) 27 = I14 (1000) 27 from by simp [u2_v])).trans (hkI14.get (1000) 27 rfl)).trans (hkI1.get (1000) 27 rfl))
            have pw178 : (I172 (1000) 31).toInt = (I145 (1000) 31 : Int32).toInt := congrArg Int32.toInt ((hkI172.get (1000) 31 rfl))
            have pw179 : (I172 (1000) 32).toInt = (I (1000) 32 : Int32).toInt := congrArg Int32.toInt ((((((hkI172.get (1000) 32 rfl)).trans (hkI145.get (1000) 32 rfl)).trans (show (u2 (u2 I14 (1000) 25 (v23)) (1000) 25 (v136)) (1000) 32 = I14 (1000) 32 from by simp [u2_v])).trans (hkI14.get (1000) 32 rfl)).trans (hkI1.get (1000) 32 rfl))
            replace hC := hC.comp (n2 := 1) (xI172.2.2.2.2.ct (by omega) (by omega) xI172.2.2.1 (by omega)) (by omega) (by omega) (by omega) (by omega) (fun hz => by omega)
            have xeI172 : Imp ((I172 1000 26).toInt = 0) ((I172 1000 29).toInt = (I145 1000 29).toInt + 1) := fun hz => xI172.2.2.1 (by omega)
            exact m_vret hx hb hr hlocks hM hS (Nat.le_of_ble_eq_true rfl) (Nat.le_of_ble_eq_true rfl) ⟨_, _, rfl, hI, hK, ⟨by omega, by omega, by omega, (fun hz => by have w0 := xeI172 (by omega); have w1 := xI145.2.2.2.1 (by omega); have w2 := xI14 (by omega); have w3 := xI1.2.2.2.1 (by omega); have w4 := hPI (by omega); omega), hC⟩⟩ dX10_compared_143
  · have hc11 := c11
    have q11 := q_ne hc11
    refine lv_iload_n hx hb dX10_compared_15 rfl (lv_at hl 0 rfl) ?_
    refine lv_bipush (v := (61)) hx hb dX10_compared_16 (by decide) ?_
    refine lv_icmp_eq (tgt := 37) hx hb dX10_compared_18 (by decide) (fun c180 => ?_) (fun c180 => ?_)
    · have hc180 := c180
      have q180 := q_eq hc180
      have sg181 := xr8.2.2 (by omega)
      refine lv_aload_n hx hb dX10_compared_37 rfl (lv_at hl 1 rfl) ?_
      refine lv_aload_n hx hb dX10_compared_38 rfl (lv_at hl 1 rfl) ?_
      refine m_geti (1000) 25 hx hb hts hown hE oc10 hM hJ.1 rfl (by decide) rfl tb_1202 dX10_compared_39 ?_
      have g182 := hI.get (1000) 25 (lo := 0) (hi := 100000) rfl
      refine m_callv (m_runV (1000) (As := [.int (I1 (1000) 25)]) (rest := []) hx hb hml hown hts hE hM hS hA ce_X10_isCounted tb_1548 (V_X10_isCounted l D A ad ns I1 L2 G (I1 (1000) 25) hJ hI (fun hz => by have w0 := xI1.2.2.2.1 (by omega); have w1 := hPI (by omega); omega) (by first | omega | decide)) rfl rfl ⟨Nat.le_of_ble_eq_true rfl, Nat.le_of_ble_eq_true rfl⟩ hJ.1 rfl rfl (by decide) rfl hl.1 rfl (Nat.le_of_ble_eq_true rfl) dX10_compared_42 ⟨Nat.le_of_ble_eq_true rfl, Nat.le_of_ble_eq_true rfl⟩) hS (fun u H locs hw hM hS => ?_)
      obtain ⟨I183, L184, rfl, hI, hkI183, xI183⟩ := hw
      have hM : Mem D A ad ns I183 L184 G H := hM
      have hK := hK.trans hkI183 rfl
      have pw185 : (I183 (1000) 24).toInt = (I (1000) 24 : Int32).toInt := congrArg Int32.toInt (((hkI183.get (1000) 24 rfl)).trans (hkI1.get (1000) 24 rfl))
      have pw186 : (I183 (1000) 25).toInt = (I1 (1000) 25 : Int32).toInt := congrArg Int32.toInt ((hkI183.get (1000) 25 rfl))
      have pw187 : (I183 (1000) 27).toInt = (I (1000) 27 : Int32).toInt := congrArg Int32.toInt (((hkI183.get (1000) 27 rfl)).trans (hkI1.get (1000) 27 rfl))
      have pw188 : (I183 (1000) 29).toInt = (I1 (1000) 29 : Int32).toInt := congrArg Int32.toInt ((hkI183.get (1000) 29 rfl))
      have pw189 : (I183 (1000) 32).toInt = (I (1000) 32 : Int32).toInt := congrArg Int32.toInt (((hkI183.get (1000) 32 rfl)).trans (hkI1.get (1000) 32 rfl))
      refine lv_aload_n hx hb dX10_compared_45 rfl (lv_at hl 1 rfl) ?_
      refine lv_dup hx hb dX10_compared_46 rfl ?_
      refine m_geti (1000) 25 hx hb hts hown hE oc10 hM hJ.1 rfl (by decide) rfl tb_1202 dX10_compared_47 ?_
      have g190 := hI.get (1000) 25 (lo := 0) (hi := 100000) rfl
      have z191 : I183 (1000) 25 = I1 (1000) 25 := (hkI183.get (1000) 25 rfl)
      rw [z191] at g190 ⊢
      refine lv_iconst (v := (1)) hx hb dX10_compared_50 (by decide) ?_
      refine lv_iadd hx hb dX10_compared_51 ?_
      refine lv_topi (fun v192 ev192 => ?_)
      have tv192 := a_add ev192 (by omega) (by omega)
      refine m_puti (1000) 25 hx hb hts hown hE oc10 hM hS hJ.1 rfl (by decide) rfl rfl rfl rfl tb_1202 dX10_compared_52 (fun H locs I193 eI193 hM hS => ?_)
      subst eI193
      have hI := hI.put (n := 1000) (k := 25) (v := v192) (lo := 0) (hi := 100000) rfl (by first | omega | decide)
      have hK := hK.put (n := 1000) (k := 25) (v := v192) (by first | rfl | simp [inR])
      refine lv_iload_n hx hb dX10_compared_55 rfl (lv_at hl 0 rfl) ?_
      refine lv_bipush (v := (61)) hx hb dX10_compared_56 (by decide) ?_
      refine lv_icmp_eq (tgt := 74) hx hb dX10_compared_58 (by decide) (fun c194 => ?_) (fun c194 => ?_)
      · have hc194 := c194
        have q194 := q_eq hc194
        have sg195 := xr8.2.2 (by omega)
        refine lv_iconst (v := (0)) hx hb dX10_compared_74 (by decide) ?_
        refine lv_istore_n (lv' := [(2, .int (0)), (1, .int (r8)), (0, .ref (ad (1000)))]) hx hb dX10_compared_75 rfl hl (by decide) rfl (fun ls hl => ?_)
        refine lv_aload_n hx hb dX10_compared_76 rfl (lv_at hl 2 rfl) ?_
        refine lv_dup hx hb dX10_compared_77 rfl ?_
        refine m_geti (1000) 25 hx hb hts hown hE oc10 hM hJ.1 rfl (by decide) rfl tb_1202 dX10_compared_78 ?_
        have g196 := hI.get (1000) 25 (lo := 0) (hi := 100000) rfl
        have z197 : (u2 I183 (1000) 25 (v192)) (1000) 25 = v192 := (show (u2 I183 (1000) 25 (v192)) (1000) 25 = v192 from by simp [u2_v])
        rw [z197] at g196 ⊢
        refine lv_iload_n hx hb dX10_compared_81 rfl (lv_at hl 0 rfl) ?_
        refine lv_if_eq (tgt := 89) hx hb dX10_compared_82 (by decide) (fun c198 => ?_) (fun c198 => ?_)
        · have hc198 := c198
          have q198 := q_eq hc198
          refine lv_iconst (v := (0)) hx hb dX10_compared_89 (by decide) ?_
          refine lv_iadd hx hb dX10_compared_90 ?_
          refine lv_topi (fun v199 ev199 => ?_)
          have tv199 := a_add ev199 (by omega) (by omega)
          refine m_puti (1000) 25 hx hb hts hown hE oc10 hM hS hJ.1 rfl (by decide) rfl rfl rfl rfl tb_1202 dX10_compared_91 (fun H locs I200 eI200 hM hS => ?_)
          subst eI200
          have hI := hI.put (n := 1000) (k := 25) (v := v199) (lo := 0) (hi := 100000) rfl (by first | omega | decide)
          have hK := hK.put (n := 1000) (k := 25) (v := v199) (by first | rfl | simp [inR])
          refine lv_aload_n hx hb dX10_compared_94 rfl (lv_at hl 2 rfl) ?_
          have pw201 : ((u2 (u2 I183 (1000) 25 (v192)) (1000) 25 (v199)) (1000) 24).toInt = (I (1000) 24 : Int32).toInt := congrArg Int32.toInt ((((show (u2 (u2 I183 (1000) 25 (v192)) (1000) 25 (v199)) (1000) 24 = I183 (1000) 24 from by simp [u2_v])).trans (hkI183.get (1000) 24 rfl)).trans (hkI1.get (1000) 24 rfl))
          have pw202 : ((u2 (u2 I183 (1000) 25 (v192)) (1000) 25 (v199)) (1000) 25).toInt = (v199 : Int32).toInt := congrArg Int32.toInt ((show (u2 (u2 I183 (1000) 25 (v192)) (1000) 25 (v199)) (1000) 25 = v199 from by simp [u2_v]))
          have pw203 : ((u2 (u2 I183 (1000) 25 (v192)) (1000) 25 (v199)) (1000) 26).toInt = (I183 (1000) 26 : Int32).toInt := congrArg Int32.toInt ((show (u2 (u2 I183 (1000) 25 (v192)) (1000) 25 (v199)) (1000) 26 = I183 (1000) 26 from by simp [u2_v]))
          have pw204 : ((u2 (u2 I183 (1000) 25 (v192)) (1000) 25 (v199)) (1000) 27).toInt = (I (1000) 27 : Int32).toInt := congrArg Int32.toInt ((((show (u2 (u2 I183 (1000) 25 (v192)) (1000) 25 (v199)) (1000) 27 = I183 (1000) 27 from by simp [u2_v])).trans (hkI183.get (1000) 27 rfl)).trans (hkI1.get (1000) 27 rfl))
          have pw205 : ((u2 (u2 I183 (1000) 25 (v192)) (1000) 25 (v199)) (1000) 29).toInt = (I1 (1000) 29 : Int32).toInt := congrArg Int32.toInt (((show (u2 (u2 I183 (1000) 25 (v192)) (1000) 25 (v199)) (1000) 29 = I183 (1000) 29 from by simp [u2_v])).trans (hkI183.get (1000) 29 rfl))
          have pw206 : ((u2 (u2 I183 (1000) 25 (v192)) (1000) 25 (v199)) (1000) 31).toInt = (I183 (1000) 31 : Int32).toInt := congrArg Int32.toInt ((show (u2 (u2 I183 (1000) 25 (v192)) (1000) 25 (v199)) (1000) 31 = I183 (1000) 31 from by simp [u2_v]))
          have pw207 : ((u2 (u2 I183 (1000) 25 (v192)) (1000) 25 (v199)) (1000) 32).toInt = (I (1000) 32 : Int32).toInt := congrArg Int32.toInt ((((show (u2 (u2 I183 (1000) 25 (v192)) (1000) 25 (v199)) (1000) 32 = I183 (1000) 32 from by simp [u2_v])).trans (hkI183.get (1000) 32 rfl)).trans (hkI1.get (1000) 32 rfl))
          refine m_callv (m_runV (1000) (As := []) (rest := []) hx hb hml hown hts hE hM hS hA ce_X10_sum tb_1535 (V_X10_sum l D A ad ns (u2 (u2 I183 (1000) 25 (v192)) (1000) 25 (v199)) L184 G hJ hI (by omega) (fun hz => by have w0 := xI183 (by omega); have w1 := xI1.2.2.2.1 (by omega); have w2 := hPI (by omega); omega)) rfl rfl ⟨Nat.le_of_ble_eq_true rfl, Nat.le_of_ble_eq_true rfl⟩ hJ.1 rfl rfl (by decide) rfl hl.1 rfl (Nat.le_of_ble_eq_true rfl) dX10_compared_95 ⟨Nat.le_of_ble_eq_true rfl, Nat.le_of_ble_eq_true rfl⟩) hS (fun u H locs hw hM hS => ?_)
          obtain ⟨I208, L209, rfl, hI, hkI208, xI208⟩ := hw
          have hM : Mem D A ad ns I208 L209 G H := hM
          have hK := hK.trans hkI208 rfl
          replace hC := CT.link (I2 := (u2 (u2 I183 (1000) 25 (v192)) (1000) 25 (v199))) hC (((show (u2 (u2 I183 (1000) 25 (v192)) (1000) 25 (v199)) 1035 = I183 1035 from by funext zz; simp [u2_v])).trans (hkI183.getA 1035 rfl)) (((show (u2 (u2 I183 (1000) 25 (v192)) (1000) 25 (v199)) 1036 = I183 1036 from by funext zz; simp [u2_v])).trans (hkI183.getA 1036 rfl)) (by omega) (fun hz => by have w0 := xI183 (by omega); have w1 := xI1.2.2.2.1 (by omega); have w2 := hPI (by omega); omega)
          have pw210 : (I208 (1000) 24).toInt = (I (1000) 24 : Int32).toInt := congrArg Int32.toInt (((((hkI208.get (1000) 24 rfl)).trans (show (u2 (u2 I183 (1000) 25 (v192)) (1000) 25 (v199)) (1000) 24 = I183 (1000) 24 from by simp [u2_v])).trans (hkI183.get (1000) 24 rfl)).trans (hkI1.get (1000) 24 rfl))
          have pw211 : (I208 (1000) 27).toInt = (I (1000) 27 : Int32).toInt := congrArg Int32.toInt (((((hkI208.get (1000) 27 rfl)).trans (show (u2 (u2 I183 (1000) 25 (v192)) (1000) 25 (v199)) (1000) 27 = I183 (1000) 27 from by simp [u2_v])).trans (hkI183.get (1000) 27 rfl)).trans (hkI1.get (1000) 27 rfl))
          have pw212 : (I208 (1000) 32).toInt = (I (1000) 32 : Int32).toInt := congrArg Int32.toInt (((((hkI208.get (1000) 32 rfl)).trans (show (u2 (u2 I183 (1000) 25 (v192)) (1000) 25 (v199)) (1000) 32 = I183 (1000) 32 from by simp [u2_v])).trans (hkI183.get (1000) 32 rfl)).trans (hkI1.get (1000) 32 rfl))
          replace hC := hC.comp ((xI208.2.2.2.2).mono0 (1 + (0))) (by omega) (by omega) (by omega) (by omega) (fun hz => (xI208.2.2.2.1 hz).1)
          refine lv_aload_n hx hb dX10_compared_98 rfl (lv_at hl 2 rfl) ?_
          refine lv_iload_n hx hb dX10_compared_99 rfl (lv_at hl 1 rfl) ?_
          refine lv_bipush (v := (61)) hx hb dX10_compared_100 (by decide) ?_
          refine lv_icmp_ne (tgt := 110) hx hb dX10_compared_102 (by decide) (fun c213 => ?_) (fun c213 => ?_)
          · have hc213 := c213
            have q213 := q_ne hc213
            refine lv_iload_n hx hb dX10_compared_110 rfl (lv_at hl 1 rfl) ?_
            refine lv_bipush (v := (60)) hx hb dX10_compared_111 (by decide) ?_
            refine lv_icmp_ne (tgt := 128) hx hb dX10_compared_113 (by decide) (fun c214 => ?_) (fun c214 => ?_)
            · have hc214 := c214
              have q214 := q_ne hc214
              refine lv_iload_n hx hb dX10_compared_128 rfl (lv_at hl 0 rfl) ?_
              refine lv_if_eq (tgt := 137) hx hb dX10_compared_129 (by decide) (fun c215 => ?_) (fun c215 => ?_)
              · have hc215 := c215
                have q215 := q_eq hc215
                refine lv_bipush (v := (8)) hx hb dX10_compared_137 (by decide) ?_
                refine lv_iconst (v := (0)) hx hb dX10_compared_139 (by decide) ?_
                refine m_callv (m_runV (1000) (As := [.int (8), .int (0)]) (rest := []) hx hb hml hown hts hE hM hS hA ce_X10_entry tb_1552 (V_X10_entry l D A ad ns I208 L209 G (8) (0) hJ hI (fun hz => by have w0 := xI208.2.2.2.1 (by omega); have w1 := xI183 (by omega); have w2 := xI1.2.2.2.1 (by omega); have w3 := hPI (by omega); omega)) rfl rfl ⟨Nat.le_of_ble_eq_true rfl, Nat.le_of_ble_eq_true rfl⟩ hJ.1 rfl rfl (by decide) rfl hl.1 rfl (Nat.le_of_ble_eq_true rfl) dX10_compared_140 ⟨Nat.le_of_ble_eq_true rfl, Nat.le_of_ble_eq_true rfl⟩) hS (fun u H locs hw hM hS => ?_)
                obtain ⟨I216, L217, rfl, hI, hkI216, xI216⟩ := hw
                have hM : Mem D A ad ns I216 L217 G H := hM
                have hK := hK.trans hkI216 rfl
                have pw218 : (I216 (1000) 24).toInt = (I (1000) 24 : Int32).toInt := congrArg Int32.toInt ((((((hkI216.get (1000) 24 rfl)).trans (hkI208.get (1000) 24 rfl)).trans (show (u2 (u2 I183 (1000) 25 (v192)) (1000) 25 (v199)) (1000) 24 = I183 (1000) 24 from by simp [u2_v])).trans (hkI183.get (1000) 24 rfl)).trans (hkI1.get (1000) 24 rfl))
                have pw219 : (I216 (1000) 25).toInt = (I208 (1000) 25 : Int32).toInt := congrArg Int32.toInt ((hkI216.get (1000) 25 rfl))
                have pw220 : (I216 (1000) 26).toInt = (I208 (1000) 26 : Int32).toInt := congrArg Int32.toInt ((hkI216.get (1000) 26 rfl))
                have pw221 : (I216 (1000) 27).toInt = (I (1000) 27 : Int32).toInt := congrArg Int32.toInt ((((((hkI216.get (1000) 27 rfl)).trans (hkI208.get (1000) 27 rfl)).trans (show (u2 (u2 I183 (1000) 25 (v192)) (1000) 25 (v199)) (1000) 27 = I183 (1000) 27 from by simp [u2_v])).trans (hkI183.get (1000) 27 rfl)).trans (hkI1.get (1000) 27 rfl))
                have pw222 : (I216 (1000) 31).toInt = (I208 (1000) 31 : Int32).toInt := congrArg Int32.toInt ((hkI216.get (1000) 31 rfl))
                have pw223 : (I216 (1000) 32).toInt = (I (1000) 32 : Int32).toInt := congrArg Int32.toInt ((((((hkI216.get (1000) 32 rfl)).trans (hkI208.get (1000) 32 rfl)).trans (show (u2 (u2 I183 (1000) 25 (v192)) (1000) 25 (v199)) (1000) 32 = I183 (1000) 32 from by simp [u2_v])).trans (hkI183.get (1000) 32 rfl)).trans (hkI1.get (1000) 32 rfl))
                replace hC := hC.comp (n2 := 1) (xI216.2.2.2.2.ct (by omega) (by omega) xI216.2.2.1 (by omega)) (by omega) (by omega) (by omega) (by omega) (fun hz => by omega)
                have xeI216 : Imp ((I216 1000 26).toInt = 0) ((I216 1000 29).toInt = (I208 1000 29).toInt + 1) := fun hz => xI216.2.2.1 (by omega)
                exact m_vret hx hb hr hlocks hM hS (Nat.le_of_ble_eq_true rfl) (Nat.le_of_ble_eq_true rfl) ⟨_, _, rfl, hI, hK, ⟨by omega, by omega, by omega, (fun hz => by have w0 := xeI216 (by omega); have w1 := xI208.2.2.2.1 (by omega); have w2 := xI183 (by omega); have w3 := xI1.2.2.2.1 (by omega); have w4 := hPI (by omega); omega), hC⟩⟩ dX10_compared_143
              · exact absurd c215 (by decide)
            · have hc214 := c214
              have q214 := q_eq hc214
              have sg224 := xr8.2.2 (by omega)
              refine lv_iload_n hx hb dX10_compared_116 rfl (lv_at hl 0 rfl) ?_
              refine lv_if_eq (tgt := 124) hx hb dX10_compared_117 (by decide) (fun c225 => ?_) (fun c225 => ?_)
              · have hc225 := c225
                have q225 := q_eq hc225
                refine lv_iconst (v := (4)) hx hb dX10_compared_124 (by decide) ?_
                refine lv_goto (tgt := 139) hx hb dX10_compared_125 (by decide) ?_
                refine lv_iconst (v := (0)) hx hb dX10_compared_139 (by decide) ?_
                refine m_callv (m_runV (1000) (As := [.int (4), .int (0)]) (rest := []) hx hb hml hown hts hE hM hS hA ce_X10_entry tb_1552 (V_X10_entry l D A ad ns I208 L209 G (4) (0) hJ hI (fun hz => by have w0 := xI208.2.2.2.1 (by omega); have w1 := xI183 (by omega); have w2 := xI1.2.2.2.1 (by omega); have w3 := hPI (by omega); omega)) rfl rfl ⟨Nat.le_of_ble_eq_true rfl, Nat.le_of_ble_eq_true rfl⟩ hJ.1 rfl rfl (by decide) rfl hl.1 rfl (Nat.le_of_ble_eq_true rfl) dX10_compared_140 ⟨Nat.le_of_ble_eq_true rfl, Nat.le_of_ble_eq_true rfl⟩) hS (fun u H locs hw hM hS => ?_)
                obtain ⟨I226, L227, rfl, hI, hkI226, xI226⟩ := hw
                have hM : Mem D A ad ns I226 L227 G H := hM
                have hK := hK.trans hkI226 rfl
                have pw228 : (I226 (1000) 24).toInt = (I (1000) 24 : Int32).toInt := congrArg Int32.toInt ((((((hkI226.get (1000) 24 rfl)).trans (hkI208.get (1000) 24 rfl)).trans (show (u2 (u2 I183 (1000) 25 (v192)) (1000) 25 (v199)) (1000) 24 = I183 (1000) 24 from by simp [u2_v])).trans (hkI183.get (1000) 24 rfl)).trans (hkI1.get (1000) 24 rfl))
                have pw229 : (I226 (1000) 25).toInt = (I208 (1000) 25 : Int32).toInt := congrArg Int32.toInt ((hkI226.get (1000) 25 rfl))
                have pw230 : (I226 (1000) 26).toInt = (I208 (1000) 26 : Int32).toInt := congrArg Int32.toInt ((hkI226.get (1000) 26 rfl))
                have pw231 : (I226 (1000) 27).toInt = (I (1000) 27 : Int32).toInt := congrArg Int32.toInt ((((((hkI226.get (1000) 27 rfl)).trans (hkI208.get (1000) 27 rfl)).trans (show (u2 (u2 I183 (1000) 25 (v192)) (1000) 25 (v199)) (1000) 27 = I183 (1000) 27 from by simp [u2_v])).trans (hkI183.get (1000) 27 rfl)).trans (hkI1.get (1000) 27 rfl))
                have pw232 : (I226 (1000) 31).toInt = (I208 (1000) 31 : Int32).toInt := congrArg Int32.toInt ((hkI226.get (1000) 31 rfl))
                have pw233 : (I226 (1000) 32).toInt = (I (1000) 32 : Int32).toInt := congrArg Int32.toInt ((((((hkI226.get (1000) 32 rfl)).trans (hkI208.get (1000) 32 rfl)).trans (show (u2 (u2 I183 (1000) 25 (v192)) (1000) 25 (v199)) (1000) 32 = I183 (1000) 32 from by simp [u2_v])).trans (hkI183.get (1000) 32 rfl)).trans (hkI1.get (1000) 32 rfl))
                replace hC := hC.comp (n2 := 1) (xI226.2.2.2.2.ct (by omega) (by omega) xI226.2.2.1 (by omega)) (by omega) (by omega) (by omega) (by omega) (fun hz => by omega)
                have xeI226 : Imp ((I226 1000 26).toInt = 0) ((I226 1000 29).toInt = (I208 1000 29).toInt + 1) := fun hz => xI226.2.2.1 (by omega)
                exact m_vret hx hb hr hlocks hM hS (Nat.le_of_ble_eq_true rfl) (Nat.le_of_ble_eq_true rfl) ⟨_, _, rfl, hI, hK, ⟨by omega, by omega, by omega, (fun hz => by have w0 := xeI226 (by omega); have w1 := xI208.2.2.2.1 (by omega); have w2 := xI183 (by omega); have w3 := xI1.2.2.2.1 (by omega); have w4 := hPI (by omega); omega), hC⟩⟩ dX10_compared_143
              · exact absurd c225 (by decide)
          · have hc213 := c213
            have q213 := q_eq hc213
            have sg234 := xr8.2.2 (by omega)
            refine lv_bipush (v := (6)) hx hb dX10_compared_105 (by decide) ?_
            refine lv_goto (tgt := 139) hx hb dX10_compared_107 (by decide) ?_
            refine lv_iconst (v := (0)) hx hb dX10_compared_139 (by decide) ?_
            refine m_callv (m_runV (1000) (As := [.int (6), .int (0)]) (rest := []) hx hb hml hown hts hE hM hS hA ce_X10_entry tb_1552 (V_X10_entry l D A ad ns I208 L209 G (6) (0) hJ hI (fun hz => by have w0 := xI208.2.2.2.1 (by omega); have w1 := xI183 (by omega); have w2 := xI1.2.2.2.1 (by omega); have w3 := hPI (by omega); omega)) rfl rfl ⟨Nat.le_of_ble_eq_true rfl, Nat.le_of_ble_eq_true rfl⟩ hJ.1 rfl rfl (by decide) rfl hl.1 rfl (Nat.le_of_ble_eq_true rfl) dX10_compared_140 ⟨Nat.le_of_ble_eq_true rfl, Nat.le_of_ble_eq_true rfl⟩) hS (fun u H locs hw hM hS => ?_)
            obtain ⟨I235, L236, rfl, hI, hkI235, xI235⟩ := hw
            have hM : Mem D A ad ns I235 L236 G H := hM
            have hK := hK.trans hkI235 rfl
            have pw237 : (I235 (1000) 24).toInt = (I (1000) 24 : Int32).toInt := congrArg Int32.toInt ((((((hkI235.get (1000) 24 rfl)).trans (hkI208.get (1000) 24 rfl)).trans (show (u2 (u2 I183 (1000) 25 (v192)) (1000) 25 (v199)) (1000) 24 = I183 (1000) 24 from by simp [u2_v])).trans (hkI183.get (1000) 24 rfl)).trans (hkI1.get (1000) 24 rfl))
            have pw238 : (I235 (1000) 25).toInt = (I208 (1000) 25 : Int32).toInt := congrArg Int32.toInt ((hkI235.get (1000) 25 rfl))
            have pw239 : (I235 (1000) 26).toInt = (I208 (1000) 26 : Int32).toInt := congrArg Int32.toInt ((hkI235.get (1000) 26 rfl))
            have pw240 : (I235 (1000) 27).toInt = (I (1000) 27 : Int32).toInt := congrArg Int32.toInt ((((((hkI235.get (1000) 27 rfl)).trans (hkI208.get (1000) 27 rfl)).trans (show (u2 (u2 I183 (1000) 25 (v192)) (1000) 25 (v199)) (1000) 27 = I183 (1000) 27 from by simp [u2_v])).trans (hkI183.get (1000) 27 rfl)).trans (hkI1.get (1000) 27 rfl))
            have pw241 : (I235 (1000) 31).toInt = (I208 (1000) 31 : Int32).toInt := congrArg Int32.toInt ((hkI235.get (1000) 31 rfl))
            have pw242 : (I235 (1000) 32).toInt = (I (1000) 32 : Int32).toInt := congrArg Int32.toInt ((((((hkI235.get (1000) 32 rfl)).trans (hkI208.get (1000) 32 rfl)).trans (show (u2 (u2 I183 (1000) 25 (v192)) (1000) 25 (v199)) (1000) 32 = I183 (1000) 32 from by simp [u2_v])).trans (hkI183.get (1000) 32 rfl)).trans (hkI1.get (1000) 32 rfl))
            replace hC := hC.comp (n2 := 1) (xI235.2.2.2.2.ct (by omega) (by omega) xI235.2.2.1 (by omega)) (by omega) (by omega) (by omega) (by omega) (fun hz => by omega)
            have xeI235 : Imp ((I235 1000 26).toInt = 0) ((I235 1000 29).toInt = (I208 1000 29).toInt + 1) := fun hz => xI235.2.2.1 (by omega)
            exact m_vret hx hb hr hlocks hM hS (Nat.le_of_ble_eq_true rfl) (Nat.le_of_ble_eq_true rfl) ⟨_, _, rfl, hI, hK, ⟨by omega, by omega, by omega, (fun hz => by have w0 := xeI235 (by omega); have w1 := xI208.2.2.2.1 (by omega); have w2 := xI183 (by omega); have w3 := xI1.2.2.2.1 (by omega); have w4 := hPI (by omega); omega), hC⟩⟩ dX10_compared_143
        · exact absurd c198 (by decide)
      · have hc194 := c194
        have q194 := q_ne hc194
        refine lv_aload_n hx hb dX10_compared_61 rfl (lv_at hl 1 rfl) ?_
        have pw243 : ((u2 I183 (1000) 25 (v192)) (1000) 24).toInt = (I (1000) 24 : Int32).toInt := congrArg Int32.toInt ((((show (u2 I183 (1000) 25 (v192)) (1000) 24 = I183 (1000) 24 from by simp [u2_v])).trans (hkI183.get (1000) 24 rfl)).trans (hkI1.get (1000) 24 rfl))
        have pw244 : ((u2 I183 (1000) 25 (v192)) (1000) 25).toInt = (v192 : Int32).toInt := congrArg Int32.toInt ((show (u2 I183 (1000) 25 (v192)) (1000) 25 = v192 from by simp [u2_v]))
        have pw245 : ((u2 I183 (1000) 25 (v192)) (1000) 26).toInt = (I183 (1000) 26 : Int32).toInt := congrArg Int32.toInt ((show (u2 I183 (1000) 25 (v192)) (1000) 26 = I183 (1000) 26 from by simp [u2_v]))
        have pw246 : ((u2 I183 (1000) 25 (v192)) (1000) 27).toInt = (I (1000) 27 : Int32).toInt := congrArg Int32.toInt ((((show (u2 I183 (1000) 25 (v192)) (1000) 27 = I183 (1000) 27 from by simp [u2_v])).trans (hkI183.get (1000) 27 rfl)).trans (hkI1.get (1000) 27 rfl))
        have pw247 : ((u2 I183 (1000) 25 (v192)) (1000) 29).toInt = (I1 (1000) 29 : Int32).toInt := congrArg Int32.toInt (((show (u2 I183 (1000) 25 (v192)) (1000) 29 = I183 (1000) 29 from by simp [u2_v])).trans (hkI183.get (1000) 29 rfl))
        have pw248 : ((u2 I183 (1000) 25 (v192)) (1000) 31).toInt = (I183 (1000) 31 : Int32).toInt := congrArg Int32.toInt ((show (u2 I183 (1000) 25 (v192)) (1000) 31 = I183 (1000) 31 from by simp [u2_v]))
        have pw249 : ((u2 I183 (1000) 25 (v192)) (1000) 32).toInt = (I (1000) 32 : Int32).toInt := congrArg Int32.toInt ((((show (u2 I183 (1000) 25 (v192)) (1000) 32 = I183 (1000) 32 from by simp [u2_v])).trans (hkI183.get (1000) 32 rfl)).trans (hkI1.get (1000) 32 rfl))
        refine m_calli (m_runV (1000) (As := []) (rest := []) hx hb hml hown hts hE hM hS hA ce_X10_sign tb_1510 (V_X10_sign l D A ad ns (u2 I183 (1000) 25 (v192)) L184 G hJ hI) rfl rfl ⟨Nat.le_of_ble_eq_true rfl, Nat.le_of_ble_eq_true rfl⟩ hJ.1 rfl rfl (by decide) rfl hl.1 rfl (Nat.le_of_ble_eq_true rfl) dX10_compared_62 ⟨Nat.le_of_ble_eq_true rfl, Nat.le_of_ble_eq_true rfl⟩) hS (fun r250 u H locs hw hM hS => ?_)
        obtain ⟨rfl, xr250⟩ := hw
        have hM : Mem D A ad ns (u2 I183 (1000) 25 (v192)) L184 G H := hM
        have g251 := hI.get 1000 24 (lo := 0) (hi := 400) rfl
        have g252 := hI.get 1000 25 (lo := 0) (hi := 100000) rfl
        refine lv_bipush (v := (61)) hx hb dX10_compared_65 (by decide) ?_
        refine lv_icmp_ne (tgt := 74) hx hb dX10_compared_67 (by decide) (fun c253 => ?_) (fun c253 => ?_)
        · have hc253 := c253
          have q253 := q_ne hc253
          refine lv_iconst (v := (0)) hx hb dX10_compared_74 (by decide) ?_
          refine lv_istore_n (lv' := [(2, .int (0)), (1, .int (r8)), (0, .ref (ad (1000)))]) hx hb dX10_compared_75 rfl hl (by decide) rfl (fun ls hl => ?_)
          refine lv_aload_n hx hb dX10_compared_76 rfl (lv_at hl 2 rfl) ?_
          refine lv_dup hx hb dX10_compared_77 rfl ?_
          refine m_geti (1000) 25 hx hb hts hown hE oc10 hM hJ.1 rfl (by decide) rfl tb_1202 dX10_compared_78 ?_
          have g254 := hI.get (1000) 25 (lo := 0) (hi := 100000) rfl
          have z255 : (u2 I183 (1000) 25 (v192)) (1000) 25 = v192 := (show (u2 I183 (1000) 25 (v192)) (1000) 25 = v192 from by simp [u2_v])
          rw [z255] at g254 ⊢
          refine lv_iload_n hx hb dX10_compared_81 rfl (lv_at hl 0 rfl) ?_
          refine lv_if_eq (tgt := 89) hx hb dX10_compared_82 (by decide) (fun c256 => ?_) (fun c256 => ?_)
          · have hc256 := c256
            have q256 := q_eq hc256
            refine lv_iconst (v := (0)) hx hb dX10_compared_89 (by decide) ?_
            refine lv_iadd hx hb dX10_compared_90 ?_
            refine lv_topi (fun v257 ev257 => ?_)
            have tv257 := a_add ev257 (by omega) (by omega)
            refine m_puti (1000) 25 hx hb hts hown hE oc10 hM hS hJ.1 rfl (by decide) rfl rfl rfl rfl tb_1202 dX10_compared_91 (fun H locs I258 eI258 hM hS => ?_)
            subst eI258
            have hI := hI.put (n := 1000) (k := 25) (v := v257) (lo := 0) (hi := 100000) rfl (by first | omega | decide)
            have hK := hK.put (n := 1000) (k := 25) (v := v257) (by first | rfl | simp [inR])
            refine lv_aload_n hx hb dX10_compared_94 rfl (lv_at hl 2 rfl) ?_
            have pw259 : ((u2 (u2 I183 (1000) 25 (v192)) (1000) 25 (v257)) (1000) 24).toInt = (I (1000) 24 : Int32).toInt := congrArg Int32.toInt ((((show (u2 (u2 I183 (1000) 25 (v192)) (1000) 25 (v257)) (1000) 24 = I183 (1000) 24 from by simp [u2_v])).trans (hkI183.get (1000) 24 rfl)).trans (hkI1.get (1000) 24 rfl))
            have pw260 : ((u2 (u2 I183 (1000) 25 (v192)) (1000) 25 (v257)) (1000) 25).toInt = (v257 : Int32).toInt := congrArg Int32.toInt ((show (u2 (u2 I183 (1000) 25 (v192)) (1000) 25 (v257)) (1000) 25 = v257 from by simp [u2_v]))
            have pw261 : ((u2 (u2 I183 (1000) 25 (v192)) (1000) 25 (v257)) (1000) 26).toInt = (I183 (1000) 26 : Int32).toInt := congrArg Int32.toInt ((show (u2 (u2 I183 (1000) 25 (v192)) (1000) 25 (v257)) (1000) 26 = I183 (1000) 26 from by simp [u2_v]))
            have pw262 : ((u2 (u2 I183 (1000) 25 (v192)) (1000) 25 (v257)) (1000) 27).toInt = (I (1000) 27 : Int32).toInt := congrArg Int32.toInt ((((show (u2 (u2 I183 (1000) 25 (v192)) (1000) 25 (v257)) (1000) 27 = I183 (1000) 27 from by simp [u2_v])).trans (hkI183.get (1000) 27 rfl)).trans (hkI1.get (1000) 27 rfl))
            have pw263 : ((u2 (u2 I183 (1000) 25 (v192)) (1000) 25 (v257)) (1000) 29).toInt = (I1 (1000) 29 : Int32).toInt := congrArg Int32.toInt (((show (u2 (u2 I183 (1000) 25 (v192)) (1000) 25 (v257)) (1000) 29 = I183 (1000) 29 from by simp [u2_v])).trans (hkI183.get (1000) 29 rfl))
            have pw264 : ((u2 (u2 I183 (1000) 25 (v192)) (1000) 25 (v257)) (1000) 31).toInt = (I183 (1000) 31 : Int32).toInt := congrArg Int32.toInt ((show (u2 (u2 I183 (1000) 25 (v192)) (1000) 25 (v257)) (1000) 31 = I183 (1000) 31 from by simp [u2_v]))
            have pw265 : ((u2 (u2 I183 (1000) 25 (v192)) (1000) 25 (v257)) (1000) 32).toInt = (I (1000) 32 : Int32).toInt := congrArg Int32.toInt ((((show (u2 (u2 I183 (1000) 25 (v192)) (1000) 25 (v257)) (1000) 32 = I183 (1000) 32 from by simp [u2_v])).trans (hkI183.get (1000) 32 rfl)).trans (hkI1.get (1000) 32 rfl))
            refine m_callv (m_runV (1000) (As := []) (rest := []) hx hb hml hown hts hE hM hS hA ce_X10_sum tb_1535 (V_X10_sum l D A ad ns (u2 (u2 I183 (1000) 25 (v192)) (1000) 25 (v257)) L184 G hJ hI (by omega) (fun hz => by have w0 := xI183 (by omega); have w1 := xI1.2.2.2.1 (by omega); have w2 := hPI (by omega); omega)) rfl rfl ⟨Nat.le_of_ble_eq_true rfl, Nat.le_of_ble_eq_true rfl⟩ hJ.1 rfl rfl (by decide) rfl hl.1 rfl (Nat.le_of_ble_eq_true rfl) dX10_compared_95 ⟨Nat.le_of_ble_eq_true rfl, Nat.le_of_ble_eq_true rfl⟩) hS (fun u H locs hw hM hS => ?_)
            obtain ⟨I266, L267, rfl, hI, hkI266, xI266⟩ := hw
            have hM : Mem D A ad ns I266 L267 G H := hM
            have hK := hK.trans hkI266 rfl
            replace hC := CT.link (I2 := (u2 (u2 I183 (1000) 25 (v192)) (1000) 25 (v257))) hC (((show (u2 (u2 I183 (1000) 25 (v192)) (1000) 25 (v257)) 1035 = I183 1035 from by funext zz; simp [u2_v])).trans (hkI183.getA 1035 rfl)) (((show (u2 (u2 I183 (1000) 25 (v192)) (1000) 25 (v257)) 1036 = I183 1036 from by funext zz; simp [u2_v])).trans (hkI183.getA 1036 rfl)) (by omega) (fun hz => by have w0 := xI183 (by omega); have w1 := xI1.2.2.2.1 (by omega); have w2 := hPI (by omega); omega)
            have pw268 : (I266 (1000) 24).toInt = (I (1000) 24 : Int32).toInt := congrArg Int32.toInt (((((hkI266.get (1000) 24 rfl)).trans (show (u2 (u2 I183 (1000) 25 (v192)) (1000) 25 (v257)) (1000) 24 = I183 (1000) 24 from by simp [u2_v])).trans (hkI183.get (1000) 24 rfl)).trans (hkI1.get (1000) 24 rfl))
            have pw269 : (I266 (1000) 27).toInt = (I (1000) 27 : Int32).toInt := congrArg Int32.toInt (((((hkI266.get (1000) 27 rfl)).trans (show (u2 (u2 I183 (1000) 25 (v192)) (1000) 25 (v257)) (1000) 27 = I183 (1000) 27 from by simp [u2_v])).trans (hkI183.get (1000) 27 rfl)).trans (hkI1.get (1000) 27 rfl))
            have pw270 : (I266 (1000) 32).toInt = (I (1000) 32 : Int32).toInt := congrArg Int32.toInt (((((hkI266.get (1000) 32 rfl)).trans (show (u2 (u2 I183 (1000) 25 (v192)) (1000) 25 (v257)) (1000) 32 = I183 (1000) 32 from by simp [u2_v])).trans (hkI183.get (1000) 32 rfl)).trans (hkI1.get (1000) 32 rfl))
            replace hC := hC.comp ((xI266.2.2.2.2).mono0 (1 + (0))) (by omega) (by omega) (by omega) (by omega) (fun hz => (xI266.2.2.2.1 hz).1)
            refine lv_aload_n hx hb dX10_compared_98 rfl (lv_at hl 2 rfl) ?_
            refine lv_iload_n hx hb dX10_compared_99 rfl (lv_at hl 1 rfl) ?_
            refine lv_bipush (v := (61)) hx hb dX10_compared_100 (by decide) ?_
            refine lv_icmp_ne (tgt := 110) hx hb dX10_compared_102 (by decide) (fun c271 => ?_) (fun c271 => ?_)
            · have hc271 := c271
              have q271 := q_ne hc271
              refine lv_iload_n hx hb dX10_compared_110 rfl (lv_at hl 1 rfl) ?_
              refine lv_bipush (v := (60)) hx hb dX10_compared_111 (by decide) ?_
              refine lv_icmp_ne (tgt := 128) hx hb dX10_compared_113 (by decide) (fun c272 => ?_) (fun c272 => ?_)
              · have hc272 := c272
                have q272 := q_ne hc272
                refine lv_iload_n hx hb dX10_compared_128 rfl (lv_at hl 0 rfl) ?_
                refine lv_if_eq (tgt := 137) hx hb dX10_compared_129 (by decide) (fun c273 => ?_) (fun c273 => ?_)
                · have hc273 := c273
                  have q273 := q_eq hc273
                  refine lv_bipush (v := (8)) hx hb dX10_compared_137 (by decide) ?_
                  refine lv_iconst (v := (0)) hx hb dX10_compared_139 (by decide) ?_
                  refine m_callv (m_runV (1000) (As := [.int (8), .int (0)]) (rest := []) hx hb hml hown hts hE hM hS hA ce_X10_entry tb_1552 (V_X10_entry l D A ad ns I266 L267 G (8) (0) hJ hI (fun hz => by have w0 := xI266.2.2.2.1 (by omega); have w1 := xI183 (by omega); have w2 := xI1.2.2.2.1 (by omega); have w3 := hPI (by omega); omega)) rfl rfl ⟨Nat.le_of_ble_eq_true rfl, Nat.le_of_ble_eq_true rfl⟩ hJ.1 rfl rfl (by decide) rfl hl.1 rfl (Nat.le_of_ble_eq_true rfl) dX10_compared_140 ⟨Nat.le_of_ble_eq_true rfl, Nat.le_of_ble_eq_true rfl⟩) hS (fun u H locs hw hM hS => ?_)
                  obtain ⟨I274, L275, rfl, hI, hkI274, xI274⟩ := hw
                  have hM : Mem D A ad ns I274 L275 G H := hM
                  have hK := hK.trans hkI274 rfl
                  have pw276 : (I274 (1000) 24).toInt = (I (1000) 24 : Int32).toInt := congrArg Int32.toInt ((((((hkI274.get (1000) 24 rfl)).trans (hkI266.get (1000) 24 rfl)).trans (show (u2 (u2 I183 (1000) 25 (v192)) (1000) 25 (v257)) (1000) 24 = I183 (1000) 24 from by simp [u2_v])).trans (hkI183.get (1000) 24 rfl)).trans (hkI1.get (1000) 24 rfl))
                  have pw277 : (I274 (1000) 25).toInt = (I266 (1000) 25 : Int32).toInt := congrArg Int32.toInt ((hkI274.get (1000) 25 rfl))
                  have pw278 : (I274 (1000) 26).toInt = (I266 (1000) 26 : Int32).toInt := congrArg Int32.toInt ((hkI274.get (1000) 26 rfl))
                  have pw279 : (I274 (1000) 27).toInt = (I (1000) 27 : Int32).toInt := congrArg Int32.toInt ((((((hkI274.get (1000) 27 rfl)).trans (hkI266.get (1000) 27 rfl)).trans (show (u2 (u2 I183 (1000) 25 (v192)) (1000) 25 (v257)) (1000) 27 = I183 (1000) 27 from by simp [u2_v])).trans (hkI183.get (1000) 27 rfl)).trans (hkI1.get (1000) 27 rfl))
                  have pw280 : (I274 (1000) 31).toInt = (I266 (1000) 31 : Int32).toInt := congrArg Int32.toInt ((hkI274.get (1000) 31 rfl))
                  have pw281 : (I274 (1000) 32).toInt = (I (1000) 32 : Int32).toInt := congrArg Int32.toInt ((((((hkI274.get (1000) 32 rfl)).trans (hkI266.get (1000) 32 rfl)).trans (show (u2 (u2 I183 (1000) 25 (v192)) (1000) 25 (v257)) (1000) 32 = I183 (1000) 32 from by simp [u2_v])).trans (hkI183.get (1000) 32 rfl)).trans (hkI1.get (1000) 32 rfl))
                  replace hC := hC.comp (n2 := 1) (xI274.2.2.2.2.ct (by omega) (by omega) xI274.2.2.1 (by omega)) (by omega) (by omega) (by omega) (by omega) (fun hz => by omega)
                  have xeI274 : Imp ((I274 1000 26).toInt = 0) ((I274 1000 29).toInt = (I266 1000 29).toInt + 1) := fun hz => xI274.2.2.1 (by omega)
                  exact m_vret hx hb hr hlocks hM hS (Nat.le_of_ble_eq_true rfl) (Nat.le_of_ble_eq_true rfl) ⟨_, _, rfl, hI, hK, ⟨by omega, by omega, by omega, (fun hz => by have w0 := xeI274 (by omega); have w1 := xI266.2.2.2.1 (by omega); have w2 := xI183 (by omega); have w3 := xI1.2.2.2.1 (by omega); have w4 := hPI (by omega); omega), hC⟩⟩ dX10_compared_143
                · exact absurd c273 (by decide)
              · have hc272 := c272
                have q272 := q_eq hc272
                have sg282 := xr8.2.2 (by omega)
                refine lv_iload_n hx hb dX10_compared_116 rfl (lv_at hl 0 rfl) ?_
                refine lv_if_eq (tgt := 124) hx hb dX10_compared_117 (by decide) (fun c283 => ?_) (fun c283 => ?_)
                · have hc283 := c283
                  have q283 := q_eq hc283
                  refine lv_iconst (v := (4)) hx hb dX10_compared_124 (by decide) ?_
                  refine lv_goto (tgt := 139) hx hb dX10_compared_125 (by decide) ?_
                  refine lv_iconst (v := (0)) hx hb dX10_compared_139 (by decide) ?_
                  refine m_callv (m_runV (1000) (As := [.int (4), .int (0)]) (rest := []) hx hb hml hown hts hE hM hS hA ce_X10_entry tb_1552 (V_X10_entry l D A ad ns I266 L267 G (4) (0) hJ hI (fun hz => by have w0 := xI266.2.2.2.1 (by omega); have w1 := xI183 (by omega); have w2 := xI1.2.2.2.1 (by omega); have w3 := hPI (by omega); omega)) rfl rfl ⟨Nat.le_of_ble_eq_true rfl, Nat.le_of_ble_eq_true rfl⟩ hJ.1 rfl rfl (by decide) rfl hl.1 rfl (Nat.le_of_ble_eq_true rfl) dX10_compared_140 ⟨Nat.le_of_ble_eq_true rfl, Nat.le_of_ble_eq_true rfl⟩) hS (fun u H locs hw hM hS => ?_)
                  obtain ⟨I284, L285, rfl, hI, hkI284, xI284⟩ := hw
                  have hM : Mem D A ad ns I284 L285 G H := hM
                  have hK := hK.trans hkI284 rfl
                  have pw286 : (I284 (1000) 24).toInt = (I (1000) 24 : Int32).toInt := congrArg Int32.toInt ((((((hkI284.get (1000) 24 rfl)).trans (hkI266.get (1000) 24 rfl)).trans (show (u2 (u2 I183 (1000) 25 (v192)) (1000) 25 (v257)) (1000) 24 = I183 (1000) 24 from by simp [u2_v])).trans (hkI183.get (1000) 24 rfl)).trans (hkI1.get (1000) 24 rfl))
                  have pw287 : (I284 (1000) 25).toInt = (I266 (1000) 25 : Int32).toInt := congrArg Int32.toInt ((hkI284.get (1000) 25 rfl))
                  have pw288 : (I284 (1000) 26).toInt = (I266 (1000) 26 : Int32).toInt := congrArg Int32.toInt ((hkI284.get (1000) 26 rfl))
                  have pw289 : (I284 (1000) 27).toInt = (I (1000) 27 : Int32).toInt := congrArg Int32.toInt ((((((hkI284.get (1000) 27 rfl)).trans (hkI266.get (1000) 27 rfl)).trans (show (u2 (u2 I183 (1000) 25 (v192)) (1000) 25 (v257)) (1000) 27 = I183 (1000) 27 from by simp [u2_v])).trans (hkI183.get (1000) 27 rfl)).trans (hkI1.get (1000) 27 rfl))
                  have pw290 : (I284 (1000) 31).toInt = (I266 (1000) 31 : Int32).toInt := congrArg Int32.toInt ((hkI284.get (1000) 31 rfl))
                  have pw291 : (I284 (1000) 32).toInt = (I (1000) 32 : Int32).toInt := congrArg Int32.toInt ((((((hkI284.get (1000) 32 rfl)).trans (hkI266.get (1000) 32 rfl)).trans (show (u2 (u2 I183 (1000) 25 (v192)) (1000) 25 (v257)) (1000) 32 = I183 (1000) 32 from by simp [u2_v])).trans (hkI183.get (1000) 32 rfl)).trans (hkI1.get (1000) 32 rfl))
                  replace hC := hC.comp (n2 := 1) (xI284.2.2.2.2.ct (by omega) (by omega) xI284.2.2.1 (by omega)) (by omega) (by omega) (by omega) (by omega) (fun hz => by omega)
                  have xeI284 : Imp ((I284 1000 26).toInt = 0) ((I284 1000 29).toInt = (I266 1000 29).toInt + 1) := fun hz => xI284.2.2.1 (by omega)
                  exact m_vret hx hb hr hlocks hM hS (Nat.le_of_ble_eq_true rfl) (Nat.le_of_ble_eq_true rfl) ⟨_, _, rfl, hI, hK, ⟨by omega, by omega, by omega, (fun hz => by have w0 := xeI284 (by omega); have w1 := xI266.2.2.2.1 (by omega); have w2 := xI183 (by omega); have w3 := xI1.2.2.2.1 (by omega); have w4 := hPI (by omega); omega), hC⟩⟩ dX10_compared_143
                · exact absurd c283 (by decide)
            · have hc271 := c271
              have q271 := q_eq hc271
              have sg292 := xr8.2.2 (by omega)
              refine lv_bipush (v := (6)) hx hb dX10_compared_105 (by decide) ?_
              refine lv_goto (tgt := 139) hx hb dX10_compared_107 (by decide) ?_
              refine lv_iconst (v := (0)) hx hb dX10_compared_139 (by decide) ?_
              refine m_callv (m_runV (1000) (As := [.int (6), .int (0)]) (rest := []) hx hb hml hown hts hE hM hS hA ce_X10_entry tb_1552 (V_X10_entry l D A ad ns I266 L267 G (6) (0) hJ hI (fun hz => by have w0 := xI266.2.2.2.1 (by omega); have w1 := xI183 (by omega); have w2 := xI1.2.2.2.1 (by omega); have w3 := hPI (by omega); omega)) rfl rfl ⟨Nat.le_of_ble_eq_true rfl, Nat.le_of_ble_eq_true rfl⟩ hJ.1 rfl rfl (by decide) rfl hl.1 rfl (Nat.le_of_ble_eq_true rfl) dX10_compared_140 ⟨Nat.le_of_ble_eq_true rfl, Nat.le_of_ble_eq_true rfl⟩) hS (fun u H locs hw hM hS => ?_)
              obtain ⟨I293, L294, rfl, hI, hkI293, xI293⟩ := hw
              have hM : Mem D A ad ns I293 L294 G H := hM
              have hK := hK.trans hkI293 rfl
              have pw295 : (I293 (1000) 24).toInt = (I (1000) 24 : Int32).toInt := congrArg Int32.toInt ((((((hkI293.get (1000) 24 rfl)).trans (hkI266.get (1000) 24 rfl)).trans (show (u2 (u2 I183 (1000) 25 (v192)) (1000) 25 (v257)) (1000) 24 = I183 (1000) 24 from by simp [u2_v])).trans (hkI183.get (1000) 24 rfl)).trans (hkI1.get (1000) 24 rfl))
              have pw296 : (I293 (1000) 25).toInt = (I266 (1000) 25 : Int32).toInt := congrArg Int32.toInt ((hkI293.get (1000) 25 rfl))
              have pw297 : (I293 (1000) 26).toInt = (I266 (1000) 26 : Int32).toInt := congrArg Int32.toInt ((hkI293.get (1000) 26 rfl))
              have pw298 : (I293 (1000) 27).toInt = (I (1000) 27 : Int32).toInt := congrArg Int32.toInt ((((((hkI293.get (1000) 27 rfl)).trans (hkI266.get (1000) 27 rfl)).trans (show (u2 (u2 I183 (1000) 25 (v192)) (1000) 25 (v257)) (1000) 27 = I183 (1000) 27 from by simp [u2_v])).trans (hkI183.get (1000) 27 rfl)).trans (hkI1.get (1000) 27 rfl))
              have pw299 : (I293 (1000) 31).toInt = (I266 (1000) 31 : Int32).toInt := congrArg Int32.toInt ((hkI293.get (1000) 31 rfl))
              have pw300 : (I293 (1000) 32).toInt = (I (1000) 32 : Int32).toInt := congrArg Int32.toInt ((((((hkI293.get (1000) 32 rfl)).trans (hkI266.get (1000) 32 rfl)).trans (show (u2 (u2 I183 (1000) 25 (v192)) (1000) 25 (v257)) (1000) 32 = I183 (1000) 32 from by simp [u2_v])).trans (hkI183.get (1000) 32 rfl)).trans (hkI1.get (1000) 32 rfl))
              replace hC := hC.comp (n2 := 1) (xI293.2.2.2.2.ct (by omega) (by omega) xI293.2.2.1 (by omega)) (by omega) (by omega) (by omega) (by omega) (fun hz => by omega)
              have xeI293 : Imp ((I293 1000 26).toInt = 0) ((I293 1000 29).toInt = (I266 1000 29).toInt + 1) := fun hz => xI293.2.2.1 (by omega)
              exact m_vret hx hb hr hlocks hM hS (Nat.le_of_ble_eq_true rfl) (Nat.le_of_ble_eq_true rfl) ⟨_, _, rfl, hI, hK, ⟨by omega, by omega, by omega, (fun hz => by have w0 := xeI293 (by omega); have w1 := xI266.2.2.2.1 (by omega); have w2 := xI183 (by omega); have w3 := xI1.2.2.2.1 (by omega); have w4 := hPI (by omega); omega), hC⟩⟩ dX10_compared_143
          · exact absurd c256 (by decide)
        · have hc253 := c253
          have q253 := q_eq hc253
          have sg301 := xr250.2.2 (by omega)
          refine lv_iconst (v := (1)) hx hb dX10_compared_70 (by decide) ?_
          refine lv_goto (tgt := 75) hx hb dX10_compared_71 (by decide) ?_
          refine lv_istore_n (lv' := [(2, .int (1)), (1, .int (r8)), (0, .ref (ad (1000)))]) hx hb dX10_compared_75 rfl hl (by decide) rfl (fun ls hl => ?_)
          refine lv_aload_n hx hb dX10_compared_76 rfl (lv_at hl 2 rfl) ?_
          refine lv_dup hx hb dX10_compared_77 rfl ?_
          refine m_geti (1000) 25 hx hb hts hown hE oc10 hM hJ.1 rfl (by decide) rfl tb_1202 dX10_compared_78 ?_
          have g302 := hI.get (1000) 25 (lo := 0) (hi := 100000) rfl
          have z303 : (u2 I183 (1000) 25 (v192)) (1000) 25 = v192 := (show (u2 I183 (1000) 25 (v192)) (1000) 25 = v192 from by simp [u2_v])
          rw [z303] at g302 ⊢
          refine lv_iload_n hx hb dX10_compared_81 rfl (lv_at hl 0 rfl) ?_
          refine lv_if_eq (tgt := 89) hx hb dX10_compared_82 (by decide) (fun c304 => ?_) (fun c304 => ?_)
          · exact absurd c304 (by decide)
          · have hc304 := c304
            have q304 := q_ne hc304
            refine lv_iconst (v := (1)) hx hb dX10_compared_85 (by decide) ?_
            refine lv_goto (tgt := 90) hx hb dX10_compared_86 (by decide) ?_
            refine lv_iadd hx hb dX10_compared_90 ?_
            refine lv_topi (fun v305 ev305 => ?_)
            have tv305 := a_add ev305 (by omega) (by omega)
            refine m_puti (1000) 25 hx hb hts hown hE oc10 hM hS hJ.1 rfl (by decide) rfl rfl rfl rfl tb_1202 dX10_compared_91 (fun H locs I306 eI306 hM hS => ?_)
            subst eI306
            have hI := hI.put (n := 1000) (k := 25) (v := v305) (lo := 0) (hi := 100000) rfl (by first | omega | decide)
            have hK := hK.put (n := 1000) (k := 25) (v := v305) (by first | rfl | simp [inR])
            refine lv_aload_n hx hb dX10_compared_94 rfl (lv_at hl 2 rfl) ?_
            have pw307 : ((u2 (u2 I183 (1000) 25 (v192)) (1000) 25 (v305)) (1000) 24).toInt = (I (1000) 24 : Int32).toInt := congrArg Int32.toInt ((((show (u2 (u2 I183 (1000) 25 (v192)) (1000) 25 (v305)) (1000) 24 = I183 (1000) 24 from by simp [u2_v])).trans (hkI183.get (1000) 24 rfl)).trans (hkI1.get (1000) 24 rfl))
            have pw308 : ((u2 (u2 I183 (1000) 25 (v192)) (1000) 25 (v305)) (1000) 25).toInt = (v305 : Int32).toInt := congrArg Int32.toInt ((show (u2 (u2 I183 (1000) 25 (v192)) (1000) 25 (v305)) (1000) 25 = v305 from by simp [u2_v]))
            have pw309 : ((u2 (u2 I183 (1000) 25 (v192)) (1000) 25 (v305)) (1000) 26).toInt = (I183 (1000) 26 : Int32).toInt := congrArg Int32.toInt ((show (u2 (u2 I183 (1000) 25 (v192)) (1000) 25 (v305)) (1000) 26 = I183 (1000) 26 from by simp [u2_v]))
            have pw310 : ((u2 (u2 I183 (1000) 25 (v192)) (1000) 25 (v305)) (1000) 27).toInt = (I (1000) 27 : Int32).toInt := congrArg Int32.toInt ((((show (u2 (u2 I183 (1000) 25 (v192)) (1000) 25 (v305)) (1000) 27 = I183 (1000) 27 from by simp [u2_v])).trans (hkI183.get (1000) 27 rfl)).trans (hkI1.get (1000) 27 rfl))
            have pw311 : ((u2 (u2 I183 (1000) 25 (v192)) (1000) 25 (v305)) (1000) 29).toInt = (I1 (1000) 29 : Int32).toInt := congrArg Int32.toInt (((show (u2 (u2 I183 (1000) 25 (v192)) (1000) 25 (v305)) (1000) 29 = I183 (1000) 29 from by simp [u2_v])).trans (hkI183.get (1000) 29 rfl))
            have pw312 : ((u2 (u2 I183 (1000) 25 (v192)) (1000) 25 (v305)) (1000) 31).toInt = (I183 (1000) 31 : Int32).toInt := congrArg Int32.toInt ((show (u2 (u2 I183 (1000) 25 (v192)) (1000) 25 (v305)) (1000) 31 = I183 (1000) 31 from by simp [u2_v]))
            have pw313 : ((u2 (u2 I183 (1000) 25 (v192)) (1000) 25 (v305)) (1000) 32).toInt = (I (1000) 32 : Int32).toInt := congrArg Int32.toInt ((((show (u2 (u2 I183 (1000) 25 (v192)) (1000) 25 (v305)) (1000) 32 = I183 (1000) 32 from by simp [u2_v])).trans (hkI183.get (1000) 32 rfl)).trans (hkI1.get (1000) 32 rfl))
            refine m_callv (m_runV (1000) (As := []) (rest := []) hx hb hml hown hts hE hM hS hA ce_X10_sum tb_1535 (V_X10_sum l D A ad ns (u2 (u2 I183 (1000) 25 (v192)) (1000) 25 (v305)) L184 G hJ hI (by omega) (fun hz => by have w0 := xI183 (by omega); have w1 := xI1.2.2.2.1 (by omega); have w2 := hPI (by omega); omega)) rfl rfl ⟨Nat.le_of_ble_eq_true rfl, Nat.le_of_ble_eq_true rfl⟩ hJ.1 rfl rfl (by decide) rfl hl.1 rfl (Nat.le_of_ble_eq_true rfl) dX10_compared_95 ⟨Nat.le_of_ble_eq_true rfl, Nat.le_of_ble_eq_true rfl⟩) hS (fun u H locs hw hM hS => ?_)
            obtain ⟨I314, L315, rfl, hI, hkI314, xI314⟩ := hw
            have hM : Mem D A ad ns I314 L315 G H := hM
            have hK := hK.trans hkI314 rfl
            replace hC := CT.link (I2 := (u2 (u2 I183 (1000) 25 (v192)) (1000) 25 (v305))) hC (((show (u2 (u2 I183 (1000) 25 (v192)) (1000) 25 (v305)) 1035 = I183 1035 from by funext zz; simp [u2_v])).trans (hkI183.getA 1035 rfl)) (((show (u2 (u2 I183 (1000) 25 (v192)) (1000) 25 (v305)) 1036 = I183 1036 from by funext zz; simp [u2_v])).trans (hkI183.getA 1036 rfl)) (by omega) (fun hz => by have w0 := xI183 (by omega); have w1 := xI1.2.2.2.1 (by omega); have w2 := hPI (by omega); omega)
            have pw316 : (I314 (1000) 24).toInt = (I (1000) 24 : Int32).toInt := congrArg Int32.toInt (((((hkI314.get (1000) 24 rfl)).trans (show (u2 (u2 I183 (1000) 25 (v192)) (1000) 25 (v305)) (1000) 24 = I183 (1000) 24 from by simp [u2_v])).trans (hkI183.get (1000) 24 rfl)).trans (hkI1.get (1000) 24 rfl))
            have pw317 : (I314 (1000) 27).toInt = (I (1000) 27 : Int32).toInt := congrArg Int32.toInt (((((hkI314.get (1000) 27 rfl)).trans (show (u2 (u2 I183 (1000) 25 (v192)) (1000) 25 (v305)) (1000) 27 = I183 (1000) 27 from by simp [u2_v])).trans (hkI183.get (1000) 27 rfl)).trans (hkI1.get (1000) 27 rfl))
            have pw318 : (I314 (1000) 32).toInt = (I (1000) 32 : Int32).toInt := congrArg Int32.toInt (((((hkI314.get (1000) 32 rfl)).trans (show (u2 (u2 I183 (1000) 25 (v192)) (1000) 25 (v305)) (1000) 32 = I183 (1000) 32 from by simp [u2_v])).trans (hkI183.get (1000) 32 rfl)).trans (hkI1.get (1000) 32 rfl))
            replace hC := hC.comp ((xI314.2.2.2.2).mono0 (1 + (0))) (by omega) (by omega) (by omega) (by omega) (fun hz => (xI314.2.2.2.1 hz).1)
            refine lv_aload_n hx hb dX10_compared_98 rfl (lv_at hl 2 rfl) ?_
            refine lv_iload_n hx hb dX10_compared_99 rfl (lv_at hl 1 rfl) ?_
            refine lv_bipush (v := (61)) hx hb dX10_compared_100 (by decide) ?_
            refine lv_icmp_ne (tgt := 110) hx hb dX10_compared_102 (by decide) (fun c319 => ?_) (fun c319 => ?_)
            · have hc319 := c319
              have q319 := q_ne hc319
              refine lv_iload_n hx hb dX10_compared_110 rfl (lv_at hl 1 rfl) ?_
              refine lv_bipush (v := (60)) hx hb dX10_compared_111 (by decide) ?_
              refine lv_icmp_ne (tgt := 128) hx hb dX10_compared_113 (by decide) (fun c320 => ?_) (fun c320 => ?_)
              · have hc320 := c320
                have q320 := q_ne hc320
                refine lv_iload_n hx hb dX10_compared_128 rfl (lv_at hl 0 rfl) ?_
                refine lv_if_eq (tgt := 137) hx hb dX10_compared_129 (by decide) (fun c321 => ?_) (fun c321 => ?_)
                · exact absurd c321 (by decide)
                · have hc321 := c321
                  have q321 := q_ne hc321
                  refine lv_bipush (v := (7)) hx hb dX10_compared_132 (by decide) ?_
                  refine lv_goto (tgt := 139) hx hb dX10_compared_134 (by decide) ?_
                  refine lv_iconst (v := (0)) hx hb dX10_compared_139 (by decide) ?_
                  refine m_callv (m_runV (1000) (As := [.int (7), .int (0)]) (rest := []) hx hb hml hown hts hE hM hS hA ce_X10_entry tb_1552 (V_X10_entry l D A ad ns I314 L315 G (7) (0) hJ hI (fun hz => by have w0 := xI314.2.2.2.1 (by omega); have w1 := xI183 (by omega); have w2 := xI1.2.2.2.1 (by omega); have w3 := hPI (by omega); omega)) rfl rfl ⟨Nat.le_of_ble_eq_true rfl, Nat.le_of_ble_eq_true rfl⟩ hJ.1 rfl rfl (by decide) rfl hl.1 rfl (Nat.le_of_ble_eq_true rfl) dX10_compared_140 ⟨Nat.le_of_ble_eq_true rfl, Nat.le_of_ble_eq_true rfl⟩) hS (fun u H locs hw hM hS => ?_)
                  obtain ⟨I322, L323, rfl, hI, hkI322, xI322⟩ := hw
                  have hM : Mem D A ad ns I322 L323 G H := hM
                  have hK := hK.trans hkI322 rfl
                  have pw324 : (I322 (1000) 24).toInt = (I (1000) 24 : Int32).toInt := congrArg Int32.toInt ((((((hkI322.get (1000) 24 rfl)).trans (hkI314.get (1000) 24 rfl)).trans (show (u2 (u2 I183 (1000) 25 (v192)) (1000) 25 (v305)) (1000) 24 = I183 (1000) 24 from by simp [u2_v])).trans (hkI183.get (1000) 24 rfl)).trans (hkI1.get (1000) 24 rfl))
                  have pw325 : (I322 (1000) 25).toInt = (I314 (1000) 25 : Int32).toInt := congrArg Int32.toInt ((hkI322.get (1000) 25 rfl))
                  have pw326 : (I322 (1000) 26).toInt = (I314 (1000) 26 : Int32).toInt := congrArg Int32.toInt ((hkI322.get (1000) 26 rfl))
                  have pw327 : (I322 (1000) 27).toInt = (I (1000) 27 : Int32).toInt := congrArg Int32.toInt ((((((hkI322.get (1000) 27 rfl)).trans (hkI314.get (1000) 27 rfl)).trans (show (u2 (u2 I183 (1000) 25 (v192)) (1000) 25 (v305)) (1000) 27 = I183 (1000) 27 from by simp [u2_v])).trans (hkI183.get (1000) 27 rfl)).trans (hkI1.get (1000) 27 rfl))
                  have pw328 : (I322 (1000) 31).toInt = (I314 (1000) 31 : Int32).toInt := congrArg Int32.toInt ((hkI322.get (1000) 31 rfl))
                  have pw329 : (I322 (1000) 32).toInt = (I (1000) 32 : Int32).toInt := congrArg Int32.toInt ((((((hkI322.get (1000) 32 rfl)).trans (hkI314.get (1000) 32 rfl)).trans (show (u2 (u2 I183 (1000) 25 (v192)) (1000) 25 (v305)) (1000) 32 = I183 (1000) 32 from by simp [u2_v])).trans (hkI183.get (1000) 32 rfl)).trans (hkI1.get (1000) 32 rfl))
                  replace hC := hC.comp (n2 := 1) (xI322.2.2.2.2.ct (by omega) (by omega) xI322.2.2.1 (by omega)) (by omega) (by omega) (by omega) (by omega) (fun hz => by omega)
                  have xeI322 : Imp ((I322 1000 26).toInt = 0) ((I322 1000 29).toInt = (I314 1000 29).toInt + 1) := fun hz => xI322.2.2.1 (by omega)
                  exact m_vret hx hb hr hlocks hM hS (Nat.le_of_ble_eq_true rfl) (Nat.le_of_ble_eq_true rfl) ⟨_, _, rfl, hI, hK, ⟨by omega, by omega, by omega, (fun hz => by have w0 := xeI322 (by omega); have w1 := xI314.2.2.2.1 (by omega); have w2 := xI183 (by omega); have w3 := xI1.2.2.2.1 (by omega); have w4 := hPI (by omega); omega), hC⟩⟩ dX10_compared_143
              · have hc320 := c320
                have q320 := q_eq hc320
                have sg330 := xr8.2.2 (by omega)
                refine lv_iload_n hx hb dX10_compared_116 rfl (lv_at hl 0 rfl) ?_
                refine lv_if_eq (tgt := 124) hx hb dX10_compared_117 (by decide) (fun c331 => ?_) (fun c331 => ?_)
                · exact absurd c331 (by decide)
                · have hc331 := c331
                  have q331 := q_ne hc331
                  refine lv_iconst (v := (5)) hx hb dX10_compared_120 (by decide) ?_
                  refine lv_goto (tgt := 139) hx hb dX10_compared_121 (by decide) ?_
                  refine lv_iconst (v := (0)) hx hb dX10_compared_139 (by decide) ?_
                  refine m_callv (m_runV (1000) (As := [.int (5), .int (0)]) (rest := []) hx hb hml hown hts hE hM hS hA ce_X10_entry tb_1552 (V_X10_entry l D A ad ns I314 L315 G (5) (0) hJ hI (fun hz => by have w0 := xI314.2.2.2.1 (by omega); have w1 := xI183 (by omega); have w2 := xI1.2.2.2.1 (by omega); have w3 := hPI (by omega); omega)) rfl rfl ⟨Nat.le_of_ble_eq_true rfl, Nat.le_of_ble_eq_true rfl⟩ hJ.1 rfl rfl (by decide) rfl hl.1 rfl (Nat.le_of_ble_eq_true rfl) dX10_compared_140 ⟨Nat.le_of_ble_eq_true rfl, Nat.le_of_ble_eq_true rfl⟩) hS (fun u H locs hw hM hS => ?_)
                  obtain ⟨I332, L333, rfl, hI, hkI332, xI332⟩ := hw
                  have hM : Mem D A ad ns I332 L333 G H := hM
                  have hK := hK.trans hkI332 rfl
                  have pw334 : (I332 (1000) 24).toInt = (I (1000) 24 : Int32).toInt := congrArg Int32.toInt ((((((hkI332.get (1000) 24 rfl)).trans (hkI314.get (1000) 24 rfl)).trans (show (u2 (u2 I183 (1000) 25 (v192)) (1000) 25 (v305)) (1000) 24 = I183 (1000) 24 from by simp [u2_v])).trans (hkI183.get (1000) 24 rfl)).trans (hkI1.get (1000) 24 rfl))
                  have pw335 : (I332 (1000) 25).toInt = (I314 (1000) 25 : Int32).toInt := congrArg Int32.toInt ((hkI332.get (1000) 25 rfl))
                  have pw336 : (I332 (1000) 26).toInt = (I314 (1000) 26 : Int32).toInt := congrArg Int32.toInt ((hkI332.get (1000) 26 rfl))
                  have pw337 : (I332 (1000) 27).toInt = (I (1000) 27 : Int32).toInt := congrArg Int32.toInt ((((((hkI332.get (1000) 27 rfl)).trans (hkI314.get (1000) 27 rfl)).trans (show (u2 (u2 I183 (1000) 25 (v192)) (1000) 25 (v305)) (1000) 27 = I183 (1000) 27 from by simp [u2_v])).trans (hkI183.get (1000) 27 rfl)).trans (hkI1.get (1000) 27 rfl))
                  have pw338 : (I332 (1000) 31).toInt = (I314 (1000) 31 : Int32).toInt := congrArg Int32.toInt ((hkI332.get (1000) 31 rfl))
                  have pw339 : (I332 (1000) 32).toInt = (I (1000) 32 : Int32).toInt := congrArg Int32.toInt ((((((hkI332.get (1000) 32 rfl)).trans (hkI314.get (1000) 32 rfl)).trans (show (u2 (u2 I183 (1000) 25 (v192)) (1000) 25 (v305)) (1000) 32 = I183 (1000) 32 from by simp [u2_v])).trans (hkI183.get (1000) 32 rfl)).trans (hkI1.get (1000) 32 rfl))
                  replace hC := hC.comp (n2 := 1) (xI332.2.2.2.2.ct (by omega) (by omega) xI332.2.2.1 (by omega)) (by omega) (by omega) (by omega) (by omega) (fun hz => by omega)
                  have xeI332 : Imp ((I332 1000 26).toInt = 0) ((I332 1000 29).toInt = (I314 1000 29).toInt + 1) := fun hz => xI332.2.2.1 (by omega)
                  exact m_vret hx hb hr hlocks hM hS (Nat.le_of_ble_eq_true rfl) (Nat.le_of_ble_eq_true rfl) ⟨_, _, rfl, hI, hK, ⟨by omega, by omega, by omega, (fun hz => by have w0 := xeI332 (by omega); have w1 := xI314.2.2.2.1 (by omega); have w2 := xI183 (by omega); have w3 := xI1.2.2.2.1 (by omega); have w4 := hPI (by omega); omega), hC⟩⟩ dX10_compared_143
            · have hc319 := c319
              have q319 := q_eq hc319
              have sg340 := xr8.2.2 (by omega)
              refine lv_bipush (v := (6)) hx hb dX10_compared_105 (by decide) ?_
              refine lv_goto (tgt := 139) hx hb dX10_compared_107 (by decide) ?_
              refine lv_iconst (v := (0)) hx hb dX10_compared_139 (by decide) ?_
              refine m_callv (m_runV (1000) (As := [.int (6), .int (0)]) (rest := []) hx hb hml hown hts hE hM hS hA ce_X10_entry tb_1552 (V_X10_entry l D A ad ns I314 L315 G (6) (0) hJ hI (fun hz => by have w0 := xI314.2.2.2.1 (by omega); have w1 := xI183 (by omega); have w2 := xI1.2.2.2.1 (by omega); have w3 := hPI (by omega); omega)) rfl rfl ⟨Nat.le_of_ble_eq_true rfl, Nat.le_of_ble_eq_true rfl⟩ hJ.1 rfl rfl (by decide) rfl hl.1 rfl (Nat.le_of_ble_eq_true rfl) dX10_compared_140 ⟨Nat.le_of_ble_eq_true rfl, Nat.le_of_ble_eq_true rfl⟩) hS (fun u H locs hw hM hS => ?_)
              obtain ⟨I341, L342, rfl, hI, hkI341, xI341⟩ := hw
              have hM : Mem D A ad ns I341 L342 G H := hM
              have hK := hK.trans hkI341 rfl
              have pw343 : (I341 (1000) 24).toInt = (I (1000) 24 : Int32).toInt := congrArg Int32.toInt ((((((hkI341.get (1000) 24 rfl)).trans (hkI314.get (1000) 24 rfl)).trans (show (u2 (u2 I183 (1000) 25 (v192)) (1000) 25 (v305)) (1000) 24 = I183 (1000) 24 from by simp [u2_v])).trans (hkI183.get (1000) 24 rfl)).trans (hkI1.get (1000) 24 rfl))
              have pw344 : (I341 (1000) 25).toInt = (I314 (1000) 25 : Int32).toInt := congrArg Int32.toInt ((hkI341.get (1000) 25 rfl))
              have pw345 : (I341 (1000) 26).toInt = (I314 (1000) 26 : Int32).toInt := congrArg Int32.toInt ((hkI341.get (1000) 26 rfl))
              have pw346 : (I341 (1000) 27).toInt = (I (1000) 27 : Int32).toInt := congrArg Int32.toInt ((((((hkI341.get (1000) 27 rfl)).trans (hkI314.get (1000) 27 rfl)).trans (show (u2 (u2 I183 (1000) 25 (v192)) (1000) 25 (v305)) (1000) 27 = I183 (1000) 27 from by simp [u2_v])).trans (hkI183.get (1000) 27 rfl)).trans (hkI1.get (1000) 27 rfl))
              have pw347 : (I341 (1000) 31).toInt = (I314 (1000) 31 : Int32).toInt := congrArg Int32.toInt ((hkI341.get (1000) 31 rfl))
              have pw348 : (I341 (1000) 32).toInt = (I (1000) 32 : Int32).toInt := congrArg Int32.toInt ((((((hkI341.get (1000) 32 rfl)).trans (hkI314.get (1000) 32 rfl)).trans (show (u2 (u2 I183 (1000) 25 (v192)) (1000) 25 (v305)) (1000) 32 = I183 (1000) 32 from by simp [u2_v])).trans (hkI183.get (1000) 32 rfl)).trans (hkI1.get (1000) 32 rfl))
              replace hC := hC.comp (n2 := 1) (xI341.2.2.2.2.ct (by omega) (by omega) xI341.2.2.1 (by omega)) (by omega) (by omega) (by omega) (by omega) (fun hz => by omega)
              have xeI341 : Imp ((I341 1000 26).toInt = 0) ((I341 1000 29).toInt = (I314 1000 29).toInt + 1) := fun hz => xI341.2.2.1 (by omega)
              exact m_vret hx hb hr hlocks hM hS (Nat.le_of_ble_eq_true rfl) (Nat.le_of_ble_eq_true rfl) ⟨_, _, rfl, hI, hK, ⟨by omega, by omega, by omega, (fun hz => by have w0 := xeI341 (by omega); have w1 := xI314.2.2.2.1 (by omega); have w2 := xI183 (by omega); have w3 := xI1.2.2.2.1 (by omega); have w4 := hPI (by omega); omega), hC⟩⟩ dX10_compared_143
    · have hc180 := c180
      have q180 := q_ne hc180
      refine lv_iload_n hx hb dX10_compared_21 rfl (lv_at hl 0 rfl) ?_
      refine lv_bipush (v := (62)) hx hb dX10_compared_22 (by decide) ?_
      refine lv_icmp_eq (tgt := 37) hx hb dX10_compared_24 (by decide) (fun c349 => ?_) (fun c349 => ?_)
      · have hc349 := c349
        have q349 := q_eq hc349
        have sg350 := xr8.2.2 (by omega)
        refine lv_aload_n hx hb dX10_compared_37 rfl (lv_at hl 1 rfl) ?_
        refine lv_aload_n hx hb dX10_compared_38 rfl (lv_at hl 1 rfl) ?_
        refine m_geti (1000) 25 hx hb hts hown hE oc10 hM hJ.1 rfl (by decide) rfl tb_1202 dX10_compared_39 ?_
        have g351 := hI.get (1000) 25 (lo := 0) (hi := 100000) rfl
        refine m_callv (m_runV (1000) (As := [.int (I1 (1000) 25)]) (rest := []) hx hb hml hown hts hE hM hS hA ce_X10_isCounted tb_1548 (V_X10_isCounted l D A ad ns I1 L2 G (I1 (1000) 25) hJ hI (fun hz => by have w0 := xI1.2.2.2.1 (by omega); have w1 := hPI (by omega); omega) (by first | omega | decide)) rfl rfl ⟨Nat.le_of_ble_eq_true rfl, Nat.le_of_ble_eq_true rfl⟩ hJ.1 rfl rfl (by decide) rfl hl.1 rfl (Nat.le_of_ble_eq_true rfl) dX10_compared_42 ⟨Nat.le_of_ble_eq_true rfl, Nat.le_of_ble_eq_true rfl⟩) hS (fun u H locs hw hM hS => ?_)
        obtain ⟨I352, L353, rfl, hI, hkI352, xI352⟩ := hw
        have hM : Mem D A ad ns I352 L353 G H := hM
        have hK := hK.trans hkI352 rfl
        have pw354 : (I352 (1000) 24).toInt = (I (1000) 24 : Int32).toInt := congrArg Int32.toInt (((hkI352.get (1000) 24 rfl)).trans (hkI1.get (1000) 24 rfl))
        have pw355 : (I352 (1000) 25).toInt = (I1 (1000) 25 : Int32).toInt := congrArg Int32.toInt ((hkI352.get (1000) 25 rfl))
        have pw356 : (I352 (1000) 27).toInt = (I (1000) 27 : Int32).toInt := congrArg Int32.toInt (((hkI352.get (1000) 27 rfl)).trans (hkI1.get (1000) 27 rfl))
        have pw357 : (I352 (1000) 29).toInt = (I1 (1000) 29 : Int32).toInt := congrArg Int32.toInt ((hkI352.get (1000) 29 rfl))
        have pw358 : (I352 (1000) 32).toInt = (I (1000) 32 : Int32).toInt := congrArg Int32.toInt (((hkI352.get (1000) 32 rfl)).trans (hkI1.get (1000) 32 rfl))
        refine lv_aload_n hx hb dX10_compared_45 rfl (lv_at hl 1 rfl) ?_
        refine lv_dup hx hb dX10_compared_46 rfl ?_
        refine m_geti (1000) 25 hx hb hts hown hE oc10 hM hJ.1 rfl (by decide) rfl tb_1202 dX10_compared_47 ?_
        have g359 := hI.get (1000) 25 (lo := 0) (hi := 100000) rfl
        have z360 : I352 (1000) 25 = I1 (1000) 25 := (hkI352.get (1000) 25 rfl)
        rw [z360] at g359 ⊢
        refine lv_iconst (v := (1)) hx hb dX10_compared_50 (by decide) ?_
        refine lv_iadd hx hb dX10_compared_51 ?_
        refine lv_topi (fun v361 ev361 => ?_)
        have tv361 := a_add ev361 (by omega) (by omega)
        refine m_puti (1000) 25 hx hb hts hown hE oc10 hM hS hJ.1 rfl (by decide) rfl rfl rfl rfl tb_1202 dX10_compared_52 (fun H locs I362 eI362 hM hS => ?_)
        subst eI362
        have hI := hI.put (n := 1000) (k := 25) (v := v361) (lo := 0) (hi := 100000) rfl (by first | omega | decide)
        have hK := hK.put (n := 1000) (k := 25) (v := v361) (by first | rfl | simp [inR])
        refine lv_iload_n hx hb dX10_compared_55 rfl (lv_at hl 0 rfl) ?_
        refine lv_bipush (v := (61)) hx hb dX10_compared_56 (by decide) ?_
        refine lv_icmp_eq (tgt := 74) hx hb dX10_compared_58 (by decide) (fun c363 => ?_) (fun c363 => ?_)
        · have hc363 := c363
          have q363 := q_eq hc363
          have sg364 := xr8.2.2 (by omega)
          refine lv_iconst (v := (0)) hx hb dX10_compared_74 (by decide) ?_
          refine lv_istore_n (lv' := [(2, .int (0)), (1, .int (r8)), (0, .ref (ad (1000)))]) hx hb dX10_compared_75 rfl hl (by decide) rfl (fun ls hl => ?_)
          refine lv_aload_n hx hb dX10_compared_76 rfl (lv_at hl 2 rfl) ?_
          refine lv_dup hx hb dX10_compared_77 rfl ?_
          refine m_geti (1000) 25 hx hb hts hown hE oc10 hM hJ.1 rfl (by decide) rfl tb_1202 dX10_compared_78 ?_
          have g365 := hI.get (1000) 25 (lo := 0) (hi := 100000) rfl
          have z366 : (u2 I352 (1000) 25 (v361)) (1000) 25 = v361 := (show (u2 I352 (1000) 25 (v361)) (1000) 25 = v361 from by simp [u2_v])
          rw [z366] at g365 ⊢
          refine lv_iload_n hx hb dX10_compared_81 rfl (lv_at hl 0 rfl) ?_
          refine lv_if_eq (tgt := 89) hx hb dX10_compared_82 (by decide) (fun c367 => ?_) (fun c367 => ?_)
          · have hc367 := c367
            have q367 := q_eq hc367
            refine lv_iconst (v := (0)) hx hb dX10_compared_89 (by decide) ?_
            refine lv_iadd hx hb dX10_compared_90 ?_
            refine lv_topi (fun v368 ev368 => ?_)
            have tv368 := a_add ev368 (by omega) (by omega)
            refine m_puti (1000) 25 hx hb hts hown hE oc10 hM hS hJ.1 rfl (by decide) rfl rfl rfl rfl tb_1202 dX10_compared_91 (fun H locs I369 eI369 hM hS => ?_)
            subst eI369
            have hI := hI.put (n := 1000) (k := 25) (v := v368) (lo := 0) (hi := 100000) rfl (by first | omega | decide)
            have hK := hK.put (n := 1000) (k := 25) (v := v368) (by first | rfl | simp [inR])
            refine lv_aload_n hx hb dX10_compared_94 rfl (lv_at hl 2 rfl) ?_
            have pw370 : ((u2 (u2 I352 (1000) 25 (v361)) (1000) 25 (v368)) (1000) 24).toInt = (I (1000) 24 : Int32).toInt := congrArg Int32.toInt ((((show (u2 (u2 I352 (1000) 25 (v361)) (1000) 25 (v368)) (1000) 24 = I352 (1000) 24 from by simp [u2_v])).trans (hkI352.get (1000) 24 rfl)).trans (hkI1.get (1000) 24 rfl))
            have pw371 : ((u2 (u2 I352 (1000) 25 (v361)) (1000) 25 (v368)) (1000) 25).toInt = (v368 : Int32).toInt := congrArg Int32.toInt ((show (u2 (u2 I352 (1000) 25 (v361)) (1000) 25 (v368)) (1000) 25 = v368 from by simp [u2_v]))
            have pw372 : ((u2 (u2 I352 (1000) 25 (v361)) (1000) 25 (v368)) (1000) 26).toInt = (I352 (1000) 26 : Int32).toInt := congrArg Int32.toInt ((show (u2 (u2 I352 (1000) 25 (v361)) (1000) 25 (v368)) (1000) 26 = I352 (1000) 26 from by simp [u2_v]))
            have pw373 : ((u2 (u2 I352 (1000) 25 (v361)) (1000) 25 (v368)) (1000) 27).toInt = (I (1000) 27 : Int32).toInt := congrArg Int32.toInt ((((show (u2 (u2 I352 (1000) 25 (v361)) (1000) 25 (v368)) (1000) 27 = I352 (1000) 27 from by simp [u2_v])).trans (hkI352.get (1000) 27 rfl)).trans (hkI1.get (1000) 27 rfl))
            have pw374 : ((u2 (u2 I352 (1000) 25 (v361)) (1000) 25 (v368)) (1000) 29).toInt = (I1 (1000) 29 : Int32).toInt := congrArg Int32.toInt (((show (u2 (u2 I352 (1000) 25 (v361)) (1000) 25 (v368)) (1000) 29 = I352 (1000) 29 from by simp [u2_v])).trans (hkI352.get (1000) 29 rfl))
            have pw375 : ((u2 (u2 I352 (1000) 25 (v361)) (1000) 25 (v368)) (1000) 31).toInt = (I352 (1000) 31 : Int32).toInt := congrArg Int32.toInt ((show (u2 (u2 I352 (1000) 25 (v361)) (1000) 25 (v368)) (1000) 31 = I352 (1000) 31 from by simp [u2_v]))
            have pw376 : ((u2 (u2 I352 (1000) 25 (v361)) (1000) 25 (v368)) (1000) 32).toInt = (I (1000) 32 : Int32).toInt := congrArg Int32.toInt ((((show (u2 (u2 I352 (1000) 25 (v361)) (1000) 25 (v368)) (1000) 32 = I352 (1000) 32 from by simp [u2_v])).trans (hkI352.get (1000) 32 rfl)).trans (hkI1.get (1000) 32 rfl))
            refine m_callv (m_runV (1000) (As := []) (rest := []) hx hb hml hown hts hE hM hS hA ce_X10_sum tb_1535 (V_X10_sum l D A ad ns (u2 (u2 I352 (1000) 25 (v361)) (1000) 25 (v368)) L353 G hJ hI (by omega) (fun hz => by have w0 := xI352 (by omega); have w1 := xI1.2.2.2.1 (by omega); have w2 := hPI (by omega); omega)) rfl rfl ⟨Nat.le_of_ble_eq_true rfl, Nat.le_of_ble_eq_true rfl⟩ hJ.1 rfl rfl (by decide) rfl hl.1 rfl (Nat.le_of_ble_eq_true rfl) dX10_compared_95 ⟨Nat.le_of_ble_eq_true rfl, Nat.le_of_ble_eq_true rfl⟩) hS (fun u H locs hw hM hS => ?_)
            obtain ⟨I377, L378, rfl, hI, hkI377, xI377⟩ := hw
            have hM : Mem D A ad ns I377 L378 G H := hM
            have hK := hK.trans hkI377 rfl
            replace hC := CT.link (I2 := (u2 (u2 I352 (1000) 25 (v361)) (1000) 25 (v368))) hC (((show (u2 (u2 I352 (1000) 25 (v361)) (1000) 25 (v368)) 1035 = I352 1035 from by funext zz; simp [u2_v])).trans (hkI352.getA 1035 rfl)) (((show (u2 (u2 I352 (1000) 25 (v361)) (1000) 25 (v368)) 1036 = I352 1036 from by funext zz; simp [u2_v])).trans (hkI352.getA 1036 rfl)) (by omega) (fun hz => by have w0 := xI352 (by omega); have w1 := xI1.2.2.2.1 (by omega); have w2 := hPI (by omega); omega)
            have pw379 : (I377 (1000) 24).toInt = (I (1000) 24 : Int32).toInt := congrArg Int32.toInt (((((hkI377.get (1000) 24 rfl)).trans (show (u2 (u2 I352 (1000) 25 (v361)) (1000) 25 (v368)) (1000) 24 = I352 (1000) 24 from by simp [u2_v])).trans (hkI352.get (1000) 24 rfl)).trans (hkI1.get (1000) 24 rfl))
            have pw380 : (I377 (1000) 27).toInt = (I (1000) 27 : Int32).toInt := congrArg Int32.toInt (((((hkI377.get (1000) 27 rfl)).trans (show (u2 (u2 I352 (1000) 25 (v361)) (1000) 25 (v368)) (1000) 27 = I352 (1000) 27 from by simp [u2_v])).trans (hkI352.get (1000) 27 rfl)).trans (hkI1.get (1000) 27 rfl))
            have pw381 : (I377 (1000) 32).toInt = (I (1000) 32 : Int32).toInt := congrArg Int32.toInt (((((hkI377.get (1000) 32 rfl)).trans (show (u2 (u2 I352 (1000) 25 (v361)) (1000) 25 (v368)) (1000) 32 = I352 (1000) 32 from by simp [u2_v])).trans (hkI352.get (1000) 32 rfl)).trans (hkI1.get (1000) 32 rfl))
            replace hC := hC.comp ((xI377.2.2.2.2).mono0 (1 + (0))) (by omega) (by omega) (by omega) (by omega) (fun hz => (xI377.2.2.2.1 hz).1)
            refine lv_aload_n hx hb dX10_compared_98 rfl (lv_at hl 2 rfl) ?_
            refine lv_iload_n hx hb dX10_compared_99 rfl (lv_at hl 1 rfl) ?_
            refine lv_bipush (v := (61)) hx hb dX10_compared_100 (by decide) ?_
            refine lv_icmp_ne (tgt := 110) hx hb dX10_compared_102 (by decide) (fun c382 => ?_) (fun c382 => ?_)
            · have hc382 := c382
              have q382 := q_ne hc382
              refine lv_iload_n hx hb dX10_compared_110 rfl (lv_at hl 1 rfl) ?_
              refine lv_bipush (v := (60)) hx hb dX10_compared_111 (by decide) ?_
              refine lv_icmp_ne (tgt := 128) hx hb dX10_compared_113 (by decide) (fun c383 => ?_) (fun c383 => ?_)
              · have hc383 := c383
                have q383 := q_ne hc383
                refine lv_iload_n hx hb dX10_compared_128 rfl (lv_at hl 0 rfl) ?_
                refine lv_if_eq (tgt := 137) hx hb dX10_compared_129 (by decide) (fun c384 => ?_) (fun c384 => ?_)
                · have hc384 := c384
                  have q384 := q_eq hc384
                  refine lv_bipush (v := (8)) hx hb dX10_compared_137 (by decide) ?_
                  refine lv_iconst (v := (0)) hx hb dX10_compared_139 (by decide) ?_
                  refine m_callv (m_runV (1000) (As := [.int (8), .int (0)]) (rest := []) hx hb hml hown hts hE hM hS hA ce_X10_entry tb_1552 (V_X10_entry l D A ad ns I377 L378 G (8) (0) hJ hI (fun hz => by have w0 := xI377.2.2.2.1 (by omega); have w1 := xI352 (by omega); have w2 := xI1.2.2.2.1 (by omega); have w3 := hPI (by omega); omega)) rfl rfl ⟨Nat.le_of_ble_eq_true rfl, Nat.le_of_ble_eq_true rfl⟩ hJ.1 rfl rfl (by decide) rfl hl.1 rfl (Nat.le_of_ble_eq_true rfl) dX10_compared_140 ⟨Nat.le_of_ble_eq_true rfl, Nat.le_of_ble_eq_true rfl⟩) hS (fun u H locs hw hM hS => ?_)
                  obtain ⟨I385, L386, rfl, hI, hkI385, xI385⟩ := hw
                  have hM : Mem D A ad ns I385 L386 G H := hM
                  have hK := hK.trans hkI385 rfl
                  have pw387 : (I385 (1000) 24).toInt = (I (1000) 24 : Int32).toInt := congrArg Int32.toInt ((((((hkI385.get (1000) 24 rfl)).trans (hkI377.get (1000) 24 rfl)).trans (show (u2 (u2 I352 (1000) 25 (v361)) (1000) 25 (v368)) (1000) 24 = I352 (1000) 24 from by simp [u2_v])).trans (hkI352.get (1000) 24 rfl)).trans (hkI1.get (1000) 24 rfl))
                  have pw388 : (I385 (1000) 25).toInt = (I377 (1000) 25 : Int32).toInt := congrArg Int32.toInt ((hkI385.get (1000) 25 rfl))
                  have pw389 : (I385 (1000) 26).toInt = (I377 (1000) 26 : Int32).toInt := congrArg Int32.toInt ((hkI385.get (1000) 26 rfl))
                  have pw390 : (I385 (1000) 27).toInt = (I (1000) 27 : Int32).toInt := congrArg Int32.toInt ((((((hkI385.get (1000) 27 rfl)).trans (hkI377.get (1000) 27 rfl)).trans (show (u2 (u2 I352 (1000) 25 (v361)) (1000) 25 (v368)) (1000) 27 = I352 (1000) 27 from by simp [u2_v])).trans (hkI352.get (1000) 27 rfl)).trans (hkI1.get (1000) 27 rfl))
                  have pw391 : (I385 (1000) 31).toInt = (I377 (1000) 31 : Int32).toInt := congrArg Int32.toInt ((hkI385.get (1000) 31 rfl))
                  have pw392 : (I385 (1000) 32).toInt = (I (1000) 32 : Int32).toInt := congrArg Int32.toInt ((((((hkI385.get (1000) 32 rfl)).trans (hkI377.get (1000) 32 rfl)).trans (show (u2 (u2 I352 (1000) 25 (v361)) (1000) 25 (v368)) (1000) 32 = I352 (1000) 32 from by simp [u2_v])).trans (hkI352.get (1000) 32 rfl)).trans (hkI1.get (1000) 32 rfl))
                  replace hC := hC.comp (n2 := 1) (xI385.2.2.2.2.ct (by omega) (by omega) xI385.2.2.1 (by omega)) (by omega) (by omega) (by omega) (by omega) (fun hz => by omega)
                  have xeI385 : Imp ((I385 1000 26).toInt = 0) ((I385 1000 29).toInt = (I377 1000 29).toInt + 1) := fun hz => xI385.2.2.1 (by omega)
                  exact m_vret hx hb hr hlocks hM hS (Nat.le_of_ble_eq_true rfl) (Nat.le_of_ble_eq_true rfl) ⟨_, _, rfl, hI, hK, ⟨by omega, by omega, by omega, (fun hz => by have w0 := xeI385 (by omega); have w1 := xI377.2.2.2.1 (by omega); have w2 := xI352 (by omega); have w3 := xI1.2.2.2.1 (by omega); have w4 := hPI (by omega); omega), hC⟩⟩ dX10_compared_143
                · exact absurd c384 (by decide)
              · have hc383 := c383
                have q383 := q_eq hc383
                have sg393 := xr8.2.2 (by omega)
                refine lv_iload_n hx hb dX10_compared_116 rfl (lv_at hl 0 rfl) ?_
                refine lv_if_eq (tgt := 124) hx hb dX10_compared_117 (by decide) (fun c394 => ?_) (fun c394 => ?_)
                · have hc394 := c394
                  have q394 := q_eq hc394
                  refine lv_iconst (v := (4)) hx hb dX10_compared_124 (by decide) ?_
                  refine lv_goto (tgt := 139) hx hb dX10_compared_125 (by decide) ?_
                  refine lv_iconst (v := (0)) hx hb dX10_compared_139 (by decide) ?_
                  refine m_callv (m_runV (1000) (As := [.int (4), .int (0)]) (rest := []) hx hb hml hown hts hE hM hS hA ce_X10_entry tb_1552 (V_X10_entry l D A ad ns I377 L378 G (4) (0) hJ hI (fun hz => by have w0 := xI377.2.2.2.1 (by omega); have w1 := xI352 (by omega); have w2 := xI1.2.2.2.1 (by omega); have w3 := hPI (by omega); omega)) rfl rfl ⟨Nat.le_of_ble_eq_true rfl, Nat.le_of_ble_eq_true rfl⟩ hJ.1 rfl rfl (by decide) rfl hl.1 rfl (Nat.le_of_ble_eq_true rfl) dX10_compared_140 ⟨Nat.le_of_ble_eq_true rfl, Nat.le_of_ble_eq_true rfl⟩) hS (fun u H locs hw hM hS => ?_)
                  obtain ⟨I395, L396, rfl, hI, hkI395, xI395⟩ := hw
                  have hM : Mem D A ad ns I395 L396 G H := hM
                  have hK := hK.trans hkI395 rfl
                  have pw397 : (I395 (1000) 24).toInt = (I (1000) 24 : Int32).toInt := congrArg Int32.toInt ((((((hkI395.get (1000) 24 rfl)).trans (hkI377.get (1000) 24 rfl)).trans (show (u2 (u2 I352 (1000) 25 (v361)) (1000) 25 (v368)) (1000) 24 = I352 (1000) 24 from by simp [u2_v])).trans (hkI352.get (1000) 24 rfl)).trans (hkI1.get (1000) 24 rfl))
                  have pw398 : (I395 (1000) 25).toInt = (I377 (1000) 25 : Int32).toInt := congrArg Int32.toInt ((hkI395.get (1000) 25 rfl))
                  have pw399 : (I395 (1000) 26).toInt = (I377 (1000) 26 : Int32).toInt := congrArg Int32.toInt ((hkI395.get (1000) 26 rfl))
                  have pw400 : (I395 (1000) 27).toInt = (I (1000) 27 : Int32).toInt := congrArg Int32.toInt ((((((hkI395.get (1000) 27 rfl)).trans (hkI377.get (1000) 27 rfl)).trans (show (u2 (u2 I352 (1000) 25 (v361)) (1000) 25 (v368)) (1000) 27 = I352 (1000) 27 from by simp [u2_v])).trans (hkI352.get (1000) 27 rfl)).trans (hkI1.get (1000) 27 rfl))
                  have pw401 : (I395 (1000) 31).toInt = (I377 (1000) 31 : Int32).toInt := congrArg Int32.toInt ((hkI395.get (1000) 31 rfl))
                  have pw402 : (I395 (1000) 32).toInt = (I (1000) 32 : Int32).toInt := congrArg Int32.toInt ((((((hkI395.get (1000) 32 rfl)).trans (hkI377.get (1000) 32 rfl)).trans (show (u2 (u2 I352 (1000) 25 (v361)) (1000) 25 (v368)) (1000) 32 = I352 (1000) 32 from by simp [u2_v])).trans (hkI352.get (1000) 32 rfl)).trans (hkI1.get (1000) 32 rfl))
                  replace hC := hC.comp (n2 := 1) (xI395.2.2.2.2.ct (by omega) (by omega) xI395.2.2.1 (by omega)) (by omega) (by omega) (by omega) (by omega) (fun hz => by omega)
                  have xeI395 : Imp ((I395 1000 26).toInt = 0) ((I395 1000 29).toInt = (I377 1000 29).toInt + 1) := fun hz => xI395.2.2.1 (by omega)
                  exact m_vret hx hb hr hlocks hM hS (Nat.le_of_ble_eq_true rfl) (Nat.le_of_ble_eq_true rfl) ⟨_, _, rfl, hI, hK, ⟨by omega, by omega, by omega, (fun hz => by have w0 := xeI395 (by omega); have w1 := xI377.2.2.2.1 (by omega); have w2 := xI352 (by omega); have w3 := xI1.2.2.2.1 (by omega); have w4 := hPI (by omega); omega), hC⟩⟩ dX10_compared_143
                · exact absurd c394 (by decide)
            · have hc382 := c382
              have q382 := q_eq hc382
              have sg403 := xr8.2.2 (by omega)
              refine lv_bipush (v := (6)) hx hb dX10_compared_105 (by decide) ?_
              refine lv_goto (tgt := 139) hx hb dX10_compared_107 (by decide) ?_
              refine lv_iconst (v := (0)) hx hb dX10_compared_139 (by decide) ?_
              refine m_callv (m_runV (1000) (As := [.int (6), .int (0)]) (rest := []) hx hb hml hown hts hE hM hS hA ce_X10_entry tb_1552 (V_X10_entry l D A ad ns I377 L378 G (6) (0) hJ hI (fun hz => by have w0 := xI377.2.2.2.1 (by omega); have w1 := xI352 (by omega); have w2 := xI1.2.2.2.1 (by omega); have w3 := hPI (by omega); omega)) rfl rfl ⟨Nat.le_of_ble_eq_true rfl, Nat.le_of_ble_eq_true rfl⟩ hJ.1 rfl rfl (by decide) rfl hl.1 rfl (Nat.le_of_ble_eq_true rfl) dX10_compared_140 ⟨Nat.le_of_ble_eq_true rfl, Nat.le_of_ble_eq_true rfl⟩) hS (fun u H locs hw hM hS => ?_)
              obtain ⟨I404, L405, rfl, hI, hkI404, xI404⟩ := hw
              have hM : Mem D A ad ns I404 L405 G H := hM
              have hK := hK.trans hkI404 rfl
              have pw406 : (I404 (1000) 24).toInt = (I (1000) 24 : Int32).toInt := congrArg Int32.toInt ((((((hkI404.get (1000) 24 rfl)).trans (hkI377.get (1000) 24 rfl)).trans (show (u2 (u2 I352 (1000) 25 (v361)) (1000) 25 (v368)) (1000) 24 = I352 (1000) 24 from by simp [u2_v])).trans (hkI352.get (1000) 24 rfl)).trans (hkI1.get (1000) 24 rfl))
              have pw407 : (I404 (1000) 25).toInt = (I377 (1000) 25 : Int32).toInt := congrArg Int32.toInt ((hkI404.get (1000) 25 rfl))
              have pw408 : (I404 (1000) 26).toInt = (I377 (1000) 26 : Int32).toInt := congrArg Int32.toInt ((hkI404.get (1000) 26 rfl))
              have pw409 : (I404 (1000) 27).toInt = (I (1000) 27 : Int32).toInt := congrArg Int32.toInt ((((((hkI404.get (1000) 27 rfl)).trans (hkI377.get (1000) 27 rfl)).trans (show (u2 (u2 I352 (1000) 25 (v361)) (1000) 25 (v368)) (1000) 27 = I352 (1000) 27 from by simp [u2_v])).trans (hkI352.get (1000) 27 rfl)).trans (hkI1.get (1000) 27 rfl))
              have pw410 : (I404 (1000) 31).toInt = (I377 (1000) 31 : Int32).toInt := congrArg Int32.toInt ((hkI404.get (1000) 31 rfl))
              have pw411 : (I404 (1000) 32).toInt = (I (1000) 32 : Int32).toInt := congrArg Int32.toInt ((((((hkI404.get (1000) 32 rfl)).trans (hkI377.get (1000) 32 rfl)).trans (show (u2 (u2 I352 (1000) 25 (v361)) (1000) 25 (v368)) (1000) 32 = I352 (1000) 32 from by simp [u2_v])).trans (hkI352.get (1000) 32 rfl)).trans (hkI1.get (1000) 32 rfl))
              replace hC := hC.comp (n2 := 1) (xI404.2.2.2.2.ct (by omega) (by omega) xI404.2.2.1 (by omega)) (by omega) (by omega) (by omega) (by omega) (fun hz => by omega)
              have xeI404 : Imp ((I404 1000 26).toInt = 0) ((I404 1000 29).toInt = (I377 1000 29).toInt + 1) := fun hz => xI404.2.2.1 (by omega)
              exact m_vret hx hb hr hlocks hM hS (Nat.le_of_ble_eq_true rfl) (Nat.le_of_ble_eq_true rfl) ⟨_, _, rfl, hI, hK, ⟨by omega, by omega, by omega, (fun hz => by have w0 := xeI404 (by omega); have w1 := xI377.2.2.2.1 (by omega); have w2 := xI352 (by omega); have w3 := xI1.2.2.2.1 (by omega); have w4 := hPI (by omega); omega), hC⟩⟩ dX10_compared_143
          · exact absurd c367 (by decide)
        · have hc363 := c363
          have q363 := q_ne hc363
          refine lv_aload_n hx hb dX10_compared_61 rfl (lv_at hl 1 rfl) ?_
          have pw412 : ((u2 I352 (1000) 25 (v361)) (1000) 24).toInt = (I (1000) 24 : Int32).toInt := congrArg Int32.toInt ((((show (u2 I352 (1000) 25 (v361)) (1000) 24 = I352 (1000) 24 from by simp [u2_v])).trans (hkI352.get (1000) 24 rfl)).trans (hkI1.get (1000) 24 rfl))
          have pw413 : ((u2 I352 (1000) 25 (v361)) (1000) 25).toInt = (v361 : Int32).toInt := congrArg Int32.toInt ((show (u2 I352 (1000) 25 (v361)) (1000) 25 = v361 from by simp [u2_v]))
          have pw414 : ((u2 I352 (1000) 25 (v361)) (1000) 26).toInt = (I352 (1000) 26 : Int32).toInt := congrArg Int32.toInt ((show (u2 I352 (1000) 25 (v361)) (1000) 26 = I352 (1000) 26 from by simp [u2_v]))
          have pw415 : ((u2 I352 (1000) 25 (v361)) (1000) 27).toInt = (I (1000) 27 : Int32).toInt := congrArg Int32.toInt ((((show (u2 I352 (1000) 25 (v361)) (1000) 27 = I352 (1000) 27 from by simp [u2_v])).trans (hkI352.get (1000) 27 rfl)).trans (hkI1.get (1000) 27 rfl))
          have pw416 : ((u2 I352 (1000) 25 (v361)) (1000) 29).toInt = (I1 (1000) 29 : Int32).toInt := congrArg Int32.toInt (((show (u2 I352 (1000) 25 (v361)) (1000) 29 = I352 (1000) 29 from by simp [u2_v])).trans (hkI352.get (1000) 29 rfl))
          have pw417 : ((u2 I352 (1000) 25 (v361)) (1000) 31).toInt = (I352 (1000) 31 : Int32).toInt := congrArg Int32.toInt ((show (u2 I352 (1000) 25 (v361)) (1000) 31 = I352 (1000) 31 from by simp [u2_v]))
          have pw418 : ((u2 I352 (1000) 25 (v361)) (1000) 32).toInt = (I (1000) 32 : Int32).toInt := congrArg Int32.toInt ((((show (u2 I352 (1000) 25 (v361)) (1000) 32 = I352 (1000) 32 from by simp [u2_v])).trans (hkI352.get (1000) 32 rfl)).trans (hkI1.get (1000) 32 rfl))
          refine m_calli (m_runV (1000) (As := []) (rest := []) hx hb hml hown hts hE hM hS hA ce_X10_sign tb_1510 (V_X10_sign l D A ad ns (u2 I352 (1000) 25 (v361)) L353 G hJ hI) rfl rfl ⟨Nat.le_of_ble_eq_true rfl, Nat.le_of_ble_eq_true rfl⟩ hJ.1 rfl rfl (by decide) rfl hl.1 rfl (Nat.le_of_ble_eq_true rfl) dX10_compared_62 ⟨Nat.le_of_ble_eq_true rfl, Nat.le_of_ble_eq_true rfl⟩) hS (fun r419 u H locs hw hM hS => ?_)
          obtain ⟨rfl, xr419⟩ := hw
          have hM : Mem D A ad ns (u2 I352 (1000) 25 (v361)) L353 G H := hM
          have g420 := hI.get 1000 24 (lo := 0) (hi := 400) rfl
          have g421 := hI.get 1000 25 (lo := 0) (hi := 100000) rfl
          refine lv_bipush (v := (61)) hx hb dX10_compared_65 (by decide) ?_
          refine lv_icmp_ne (tgt := 74) hx hb dX10_compared_67 (by decide) (fun c422 => ?_) (fun c422 => ?_)
          · have hc422 := c422
            have q422 := q_ne hc422
            refine lv_iconst (v := (0)) hx hb dX10_compared_74 (by decide) ?_
            refine lv_istore_n (lv' := [(2, .int (0)), (1, .int (r8)), (0, .ref (ad (1000)))]) hx hb dX10_compared_75 rfl hl (by decide) rfl (fun ls hl => ?_)
            refine lv_aload_n hx hb dX10_compared_76 rfl (lv_at hl 2 rfl) ?_
            refine lv_dup hx hb dX10_compared_77 rfl ?_
            refine m_geti (1000) 25 hx hb hts hown hE oc10 hM hJ.1 rfl (by decide) rfl tb_1202 dX10_compared_78 ?_
            have g423 := hI.get (1000) 25 (lo := 0) (hi := 100000) rfl
            have z424 : (u2 I352 (1000) 25 (v361)) (1000) 25 = v361 := (show (u2 I352 (1000) 25 (v361)) (1000) 25 = v361 from by simp [u2_v])
            rw [z424] at g423 ⊢
            refine lv_iload_n hx hb dX10_compared_81 rfl (lv_at hl 0 rfl) ?_
            refine lv_if_eq (tgt := 89) hx hb dX10_compared_82 (by decide) (fun c425 => ?_) (fun c425 => ?_)
            · have hc425 := c425
              have q425 := q_eq hc425
              refine lv_iconst (v := (0)) hx hb dX10_compared_89 (by decide) ?_
              refine lv_iadd hx hb dX10_compared_90 ?_
              refine lv_topi (fun v426 ev426 => ?_)
              have tv426 := a_add ev426 (by omega) (by omega)
              refine m_puti (1000) 25 hx hb hts hown hE oc10 hM hS hJ.1 rfl (by decide) rfl rfl rfl rfl tb_1202 dX10_compared_91 (fun H locs I427 eI427 hM hS => ?_)
              subst eI427
              have hI := hI.put (n := 1000) (k := 25) (v := v426) (lo := 0) (hi := 100000) rfl (by first | omega | decide)
              have hK := hK.put (n := 1000) (k := 25) (v := v426) (by first | rfl | simp [inR])
              refine lv_aload_n hx hb dX10_compared_94 rfl (lv_at hl 2 rfl) ?_
              have pw428 : ((u2 (u2 I352 (1000) 25 (v361)) (1000) 25 (v426)) (1000) 24).toInt = (I (1000) 24 : Int32).toInt := congrArg Int32.toInt ((((show (u2 (u2 I352 (1000) 25 (v361)) (1000) 25 (v426)) (1000) 24 = I352 (1000) 24 from by simp [u2_v])).trans (hkI352.get (1000) 24 rfl)).trans (hkI1.get (1000) 24 rfl))
              have pw429 : ((u2 (u2 I352 (1000) 25 (v361)) (1000) 25 (v426)) (1000) 25).toInt = (v426 : Int32).toInt := congrArg Int32.toInt ((show (u2 (u2 I352 (1000) 25 (v361)) (1000) 25 (v426)) (1000) 25 = v426 from by simp [u2_v]))
              have pw430 : ((u2 (u2 I352 (1000) 25 (v361)) (1000) 25 (v426)) (1000) 26).toInt = (I352 (1000) 26 : Int32).toInt := congrArg Int32.toInt ((show (u2 (u2 I352 (1000) 25 (v361)) (1000) 25 (v426)) (1000) 26 = I352 (1000) 26 from by simp [u2_v]))
              have pw431 : ((u2 (u2 I352 (1000) 25 (v361)) (1000) 25 (v426)) (1000) 27).toInt = (I (1000) 27 : Int32).toInt := congrArg Int32.toInt ((((show (u2 (u2 I352 (1000) 25 (v361)) (1000) 25 (v426)) (1000) 27 = I352 (1000) 27 from by simp [u2_v])).trans (hkI352.get (1000) 27 rfl)).trans (hkI1.get (1000) 27 rfl))
              have pw432 : ((u2 (u2 I352 (1000) 25 (v361)) (1000) 25 (v426)) (1000) 29).toInt = (I1 (1000) 29 : Int32).toInt := congrArg Int32.toInt (((show (u2 (u2 I352 (1000) 25 (v361)) (1000) 25 (v426)) (1000) 29 = I352 (1000) 29 from by simp [u2_v])).trans (hkI352.get (1000) 29 rfl))
              have pw433 : ((u2 (u2 I352 (1000) 25 (v361)) (1000) 25 (v426)) (1000) 31).toInt = (I352 (1000) 31 : Int32).toInt := congrArg Int32.toInt ((show (u2 (u2 I352 (1000) 25 (v361)) (1000) 25 (v426)) (1000) 31 = I352 (1000) 31 from by simp [u2_v]))
              have pw434 : ((u2 (u2 I352 (1000) 25 (v361)) (1000) 25 (v426)) (1000) 32).toInt = (I (1000) 32 : Int32).toInt := congrArg Int32.toInt ((((show (u2 (u2 I352 (1000) 25 (v361)) (1000) 25 (v426)) (1000) 32 = I352 (1000) 32 from by simp [u2_v])).trans (hkI352.get (1000) 32 rfl)).trans (hkI1.get (1000) 32 rfl))
              refine m_callv (m_runV (1000) (As := []) (rest := []) hx hb hml hown hts hE hM hS hA ce_X10_sum tb_1535 (V_X10_sum l D A ad ns (u2 (u2 I352 (1000) 25 (v361)) (1000) 25 (v426)) L353 G hJ hI (by omega) (fun hz => by have w0 := xI352 (by omega); have w1 := xI1.2.2.2.1 (by omega); have w2 := hPI (by omega); omega)) rfl rfl ⟨Nat.le_of_ble_eq_true rfl, Nat.le_of_ble_eq_true rfl⟩ hJ.1 rfl rfl (by decide) rfl hl.1 rfl (Nat.le_of_ble_eq_true rfl) dX10_compared_95 ⟨Nat.le_of_ble_eq_true rfl, Nat.le_of_ble_eq_true rfl⟩) hS (fun u H locs hw hM hS => ?_)
              obtain ⟨I435, L436, rfl, hI, hkI435, xI435⟩ := hw
              have hM : Mem D A ad ns I435 L436 G H := hM
              have hK := hK.trans hkI435 rfl
              replace hC := CT.link (I2 := (u2 (u2 I352 (1000) 25 (v361)) (1000) 25 (v426))) hC (((show (u2 (u2 I352 (1000) 25 (v361)) (1000) 25 (v426)) 1035 = I352 1035 from by funext zz; simp [u2_v])).trans (hkI352.getA 1035 rfl)) (((show (u2 (u2 I352 (1000) 25 (v361)) (1000) 25 (v426)) 1036 = I352 1036 from by funext zz; simp [u2_v])).trans (hkI352.getA 1036 rfl)) (by omega) (fun hz => by have w0 := xI352 (by omega); have w1 := xI1.2.2.2.1 (by omega); have w2 := hPI (by omega); omega)
              have pw437 : (I435 (1000) 24).toInt = (I (1000) 24 : Int32).toInt := congrArg Int32.toInt (((((hkI435.get (1000) 24 rfl)).trans (show (u2 (u2 I352 (1000) 25 (v361)) (1000) 25 (v426)) (1000) 24 = I352 (1000) 24 from by simp [u2_v])).trans (hkI352.get (1000) 24 rfl)).trans (hkI1.get (1000) 24 rfl))
              have pw438 : (I435 (1000) 27).toInt = (I (1000) 27 : Int32).toInt := congrArg Int32.toInt (((((hkI435.get (1000) 27 rfl)).trans (show (u2 (u2 I352 (1000) 25 (v361)) (1000) 25 (v426)) (1000) 27 = I352 (1000) 27 from by simp [u2_v])).trans (hkI352.get (1000) 27 rfl)).trans (hkI1.get (1000) 27 rfl))
              have pw439 : (I435 (1000) 32).toInt = (I (1000) 32 : Int32).toInt := congrArg Int32.toInt (((((hkI435.get (1000) 32 rfl)).trans (show (u2 (u2 I352 (1000) 25 (v361)) (1000) 25 (v426)) (1000) 32 = I352 (1000) 32 from by simp [u2_v])).trans (hkI352.get (1000) 32 rfl)).trans (hkI1.get (1000) 32 rfl))
              replace hC := hC.comp ((xI435.2.2.2.2).mono0 (1 + (0))) (by omega) (by omega) (by omega) (by omega) (fun hz => (xI435.2.2.2.1 hz).1)
              refine lv_aload_n hx hb dX10_compared_98 rfl (lv_at hl 2 rfl) ?_
              refine lv_iload_n hx hb dX10_compared_99 rfl (lv_at hl 1 rfl) ?_
              refine lv_bipush (v := (61)) hx hb dX10_compared_100 (by decide) ?_
              refine lv_icmp_ne (tgt := 110) hx hb dX10_compared_102 (by decide) (fun c440 => ?_) (fun c440 => ?_)
              · have hc440 := c440
                have q440 := q_ne hc440
                refine lv_iload_n hx hb dX10_compared_110 rfl (lv_at hl 1 rfl) ?_
                refine lv_bipush (v := (60)) hx hb dX10_compared_111 (by decide) ?_
                refine lv_icmp_ne (tgt := 128) hx hb dX10_compared_113 (by decide) (fun c441 => ?_) (fun c441 => ?_)
                · have hc441 := c441
                  have q441 := q_ne hc441
                  refine lv_iload_n hx hb dX10_compared_128 rfl (lv_at hl 0 rfl) ?_
                  refine lv_if_eq (tgt := 137) hx hb dX10_compared_129 (by decide) (fun c442 => ?_) (fun c442 => ?_)
                  · have hc442 := c442
                    have q442 := q_eq hc442
                    refine lv_bipush (v := (8)) hx hb dX10_compared_137 (by decide) ?_
                    refine lv_iconst (v := (0)) hx hb dX10_compared_139 (by decide) ?_
                    refine m_callv (m_runV (1000) (As := [.int (8), .int (0)]) (rest := []) hx hb hml hown hts hE hM hS hA ce_X10_entry tb_1552 (V_X10_entry l D A ad ns I435 L436 G (8) (0) hJ hI (fun hz => by have w0 := xI435.2.2.2.1 (by omega); have w1 := xI352 (by omega); have w2 := xI1.2.2.2.1 (by omega); have w3 := hPI (by omega); omega)) rfl rfl ⟨Nat.le_of_ble_eq_true rfl, Nat.le_of_ble_eq_true rfl⟩ hJ.1 rfl rfl (by decide) rfl hl.1 rfl (Nat.le_of_ble_eq_true rfl) dX10_compared_140 ⟨Nat.le_of_ble_eq_true rfl, Nat.le_of_ble_eq_true rfl⟩) hS (fun u H locs hw hM hS => ?_)
                    obtain ⟨I443, L444, rfl, hI, hkI443, xI443⟩ := hw
                    have hM : Mem D A ad ns I443 L444 G H := hM
                    have hK := hK.trans hkI443 rfl
                    have pw445 : (I443 (1000) 24).toInt = (I (1000) 24 : Int32).toInt := congrArg Int32.toInt ((((((hkI443.get (1000) 24 rfl)).trans (hkI435.get (1000) 24 rfl)).trans (show (u2 (u2 I352 (1000) 25 (v361)) (1000) 25 (v426)) (1000) 24 = I352 (1000) 24 from by simp [u2_v])).trans (hkI352.get (1000) 24 rfl)).trans (hkI1.get (1000) 24 rfl))
                    have pw446 : (I443 (1000) 25).toInt = (I435 (1000) 25 : Int32).toInt := congrArg Int32.toInt ((hkI443.get (1000) 25 rfl))
                    have pw447 : (I443 (1000) 26).toInt = (I435 (1000) 26 : Int32).toInt := congrArg Int32.toInt ((hkI443.get (1000) 26 rfl))
                    have pw448 : (I443 (1000) 27).toInt = (I (1000) 27 : Int32).toInt := congrArg Int32.toInt ((((((hkI443.get (1000) 27 rfl)).trans (hkI435.get (1000) 27 rfl)).trans (show (u2 (u2 I352 (1000) 25 (v361)) (1000) 25 (v426)) (1000) 27 = I352 (1000) 27 from by simp [u2_v])).trans (hkI352.get (1000) 27 rfl)).trans (hkI1.get (1000) 27 rfl))
                    have pw449 : (I443 (1000) 31).toInt = (I435 (1000) 31 : Int32).toInt := congrArg Int32.toInt ((hkI443.get (1000) 31 rfl))
                    have pw450 : (I443 (1000) 32).toInt = (I (1000) 32 : Int32).toInt := congrArg Int32.toInt ((((((hkI443.get (1000) 32 rfl)).trans (hkI435.get (1000) 32 rfl)).trans (show (u2 (u2 I352 (1000) 25 (v361)) (1000) 25 (v426)) (1000) 32 = I352 (1000) 32 from by simp [u2_v])).trans (hkI352.get (1000) 32 rfl)).trans (hkI1.get (1000) 32 rfl))
                    replace hC := hC.comp (n2 := 1) (xI443.2.2.2.2.ct (by omega) (by omega) xI443.2.2.1 (by omega)) (by omega) (by omega) (by omega) (by omega) (fun hz => by omega)
                    have xeI443 : Imp ((I443 1000 26).toInt = 0) ((I443 1000 29).toInt = (I435 1000 29).toInt + 1) := fun hz => xI443.2.2.1 (by omega)
                    exact m_vret hx hb hr hlocks hM hS (Nat.le_of_ble_eq_true rfl) (Nat.le_of_ble_eq_true rfl) ⟨_, _, rfl, hI, hK, ⟨by omega, by omega, by omega, (fun hz => by have w0 := xeI443 (by omega); have w1 := xI435.2.2.2.1 (by omega); have w2 := xI352 (by omega); have w3 := xI1.2.2.2.1 (by omega); have w4 := hPI (by omega); omega), hC⟩⟩ dX10_compared_143
                  · exact absurd c442 (by decide)
                · have hc441 := c441
                  have q441 := q_eq hc441
                  have sg451 := xr8.2.2 (by omega)
                  refine lv_iload_n hx hb dX10_compared_116 rfl (lv_at hl 0 rfl) ?_
                  refine lv_if_eq (tgt := 124) hx hb dX10_compared_117 (by decide) (fun c452 => ?_) (fun c452 => ?_)
                  · have hc452 := c452
                    have q452 := q_eq hc452
                    refine lv_iconst (v := (4)) hx hb dX10_compared_124 (by decide) ?_
                    refine lv_goto (tgt := 139) hx hb dX10_compared_125 (by decide) ?_
                    refine lv_iconst (v := (0)) hx hb dX10_compared_139 (by decide) ?_
                    refine m_callv (m_runV (1000) (As := [.int (4), .int (0)]) (rest := []) hx hb hml hown hts hE hM hS hA ce_X10_entry tb_1552 (V_X10_entry l D A ad ns I435 L436 G (4) (0) hJ hI (fun hz => by have w0 := xI435.2.2.2.1 (by omega); have w1 := xI352 (by omega); have w2 := xI1.2.2.2.1 (by omega); have w3 := hPI (by omega); omega)) rfl rfl ⟨Nat.le_of_ble_eq_true rfl, Nat.le_of_ble_eq_true rfl⟩ hJ.1 rfl rfl (by decide) rfl hl.1 rfl (Nat.le_of_ble_eq_true rfl) dX10_compared_140 ⟨Nat.le_of_ble_eq_true rfl, Nat.le_of_ble_eq_true rfl⟩) hS (fun u H locs hw hM hS => ?_)
                    obtain ⟨I453, L454, rfl, hI, hkI453, xI453⟩ := hw
                    have hM : Mem D A ad ns I453 L454 G H := hM
                    have hK := hK.trans hkI453 rfl
                    have pw455 : (I453 (1000) 24).toInt = (I (1000) 24 : Int32).toInt := congrArg Int32.toInt ((((((hkI453.get (1000) 24 rfl)).trans (hkI435.get (1000) 24 rfl)).trans (show (u2 (u2 I352 (1000) 25 (v361)) (1000) 25 (v426)) (1000) 24 = I352 (1000) 24 from by simp [u2_v])).trans (hkI352.get (1000) 24 rfl)).trans (hkI1.get (1000) 24 rfl))
                    have pw456 : (I453 (1000) 25).toInt = (I435 (1000) 25 : Int32).toInt := congrArg Int32.toInt ((hkI453.get (1000) 25 rfl))
                    have pw457 : (I453 (1000) 26).toInt = (I435 (1000) 26 : Int32).toInt := congrArg Int32.toInt ((hkI453.get (1000) 26 rfl))
                    have pw458 : (I453 (1000) 27).toInt = (I (1000) 27 : Int32).toInt := congrArg Int32.toInt ((((((hkI453.get (1000) 27 rfl)).trans (hkI435.get (1000) 27 rfl)).trans (show (u2 (u2 I352 (1000) 25 (v361)) (1000) 25 (v426)) (1000) 27 = I352 (1000) 27 from by simp [u2_v])).trans (hkI352.get (1000) 27 rfl)).trans (hkI1.get (1000) 27 rfl))
                    have pw459 : (I453 (1000) 31).toInt = (I435 (1000) 31 : Int32).toInt := congrArg Int32.toInt ((hkI453.get (1000) 31 rfl))
                    have pw460 : (I453 (1000) 32).toInt = (I (1000) 32 : Int32).toInt := congrArg Int32.toInt ((((((hkI453.get (1000) 32 rfl)).trans (hkI435.get (1000) 32 rfl)).trans (show (u2 (u2 I352 (1000) 25 (v361)) (1000) 25 (v426)) (1000) 32 = I352 (1000) 32 from by simp [u2_v])).trans (hkI352.get (1000) 32 rfl)).trans (hkI1.get (1000) 32 rfl))
                    replace hC := hC.comp (n2 := 1) (xI453.2.2.2.2.ct (by omega) (by omega) xI453.2.2.1 (by omega)) (by omega) (by omega) (by omega) (by omega) (fun hz => by omega)
                    have xeI453 : Imp ((I453 1000 26).toInt = 0) ((I453 1000 29).toInt = (I435 1000 29).toInt + 1) := fun hz => xI453.2.2.1 (by omega)
                    exact m_vret hx hb hr hlocks hM hS (Nat.le_of_ble_eq_true rfl) (Nat.le_of_ble_eq_true rfl) ⟨_, _, rfl, hI, hK, ⟨by omega, by omega, by omega, (fun hz => by have w0 := xeI453 (by omega); have w1 := xI435.2.2.2.1 (by omega); have w2 := xI352 (by omega); have w3 := xI1.2.2.2.1 (by omega); have w4 := hPI (by omega); omega), hC⟩⟩ dX10_compared_143
                  · exact absurd c452 (by decide)
              · have hc440 := c440
                have q440 := q_eq hc440
                have sg461 := xr8.2.2 (by omega)
                refine lv_bipush (v := (6)) hx hb dX10_compared_105 (by decide) ?_
                refine lv_goto (tgt := 139) hx hb dX10_compared_107 (by decide) ?_
                refine lv_iconst (v := (0)) hx hb dX10_compared_139 (by decide) ?_
                refine m_callv (m_runV (1000) (As := [.int (6), .int (0)]) (rest := []) hx hb hml hown hts hE hM hS hA ce_X10_entry tb_1552 (V_X10_entry l D A ad ns I435 L436 G (6) (0) hJ hI (fun hz => by have w0 := xI435.2.2.2.1 (by omega); have w1 := xI352 (by omega); have w2 := xI1.2.2.2.1 (by omega); have w3 := hPI (by omega); omega)) rfl rfl ⟨Nat.le_of_ble_eq_true rfl, Nat.le_of_ble_eq_true rfl⟩ hJ.1 rfl rfl (by decide) rfl hl.1 rfl (Nat.le_of_ble_eq_true rfl) dX10_compared_140 ⟨Nat.le_of_ble_eq_true rfl, Nat.le_of_ble_eq_true rfl⟩) hS (fun u H locs hw hM hS => ?_)
                obtain ⟨I462, L463, rfl, hI, hkI462, xI462⟩ := hw
                have hM : Mem D A ad ns I462 L463 G H := hM
                have hK := hK.trans hkI462 rfl
                have pw464 : (I462 (1000) 24).toInt = (I (1000) 24 : Int32).toInt := congrArg Int32.toInt ((((((hkI462.get (1000) 24 rfl)).trans (hkI435.get (1000) 24 rfl)).trans (show (u2 (u2 I352 (1000) 25 (v361)) (1000) 25 (v426)) (1000) 24 = I352 (1000) 24 from by simp [u2_v])).trans (hkI352.get (1000) 24 rfl)).trans (hkI1.get (1000) 24 rfl))
                have pw465 : (I462 (1000) 25).toInt = (I435 (1000) 25 : Int32).toInt := congrArg Int32.toInt ((hkI462.get (1000) 25 rfl))
                have pw466 : (I462 (1000) 26).toInt = (I435 (1000) 26 : Int32).toInt := congrArg Int32.toInt ((hkI462.get (1000) 26 rfl))
                have pw467 : (I462 (1000) 27).toInt = (I (1000) 27 : Int32).toInt := congrArg Int32.toInt ((((((hkI462.get (1000) 27 rfl)).trans (hkI435.get (1000) 27 rfl)).trans (show (u2 (u2 I352 (1000) 25 (v361)) (1000) 25 (v426)) (1000) 27 = I352 (1000) 27 from by simp [u2_v])).trans (hkI352.get (1000) 27 rfl)).trans (hkI1.get (1000) 27 rfl))
                have pw468 : (I462 (1000) 31).toInt = (I435 (1000) 31 : Int32).toInt := congrArg Int32.toInt ((hkI462.get (1000) 31 rfl))
                have pw469 : (I462 (1000) 32).toInt = (I (1000) 32 : Int32).toInt := congrArg Int32.toInt ((((((hkI462.get (1000) 32 rfl)).trans (hkI435.get (1000) 32 rfl)).trans (show (u2 (u2 I352 (1000) 25 (v361)) (1000) 25 (v426)) (1000) 32 = I352 (1000) 32 from by simp [u2_v])).trans (hkI352.get (1000) 32 rfl)).trans (hkI1.get (1000) 32 rfl))
                replace hC := hC.comp (n2 := 1) (xI462.2.2.2.2.ct (by omega) (by omega) xI462.2.2.1 (by omega)) (by omega) (by omega) (by omega) (by omega) (fun hz => by omega)
                have xeI462 : Imp ((I462 1000 26).toInt = 0) ((I462 1000 29).toInt = (I435 1000 29).toInt + 1) := fun hz => xI462.2.2.1 (by omega)
                exact m_vret hx hb hr hlocks hM hS (Nat.le_of_ble_eq_true rfl) (Nat.le_of_ble_eq_true rfl) ⟨_, _, rfl, hI, hK, ⟨by omega, by omega, by omega, (fun hz => by have w0 := xeI462 (by omega); have w1 := xI435.2.2.2.1 (by omega); have w2 := xI352 (by omega); have w3 := xI1.2.2.2.1 (by omega); have w4 := hPI (by omega); omega), hC⟩⟩ dX10_compared_143
            · exact absurd c425 (by decide)
          · have hc422 := c422
            have q422 := q_eq hc422
            have sg470 := xr419.2.2 (by omega)
            refine lv_iconst (v := (1)) hx hb dX10_compared_70 (by decide) ?_
            refine lv_goto (tgt := 75) hx hb dX10_compared_71 (by decide) ?_
            refine lv_istore_n (lv' := [(2, .int (1)), (1, .int (r8)), (0, .ref (ad (1000)))]) hx hb dX10_compared_75 rfl hl (by decide) rfl (fun ls hl => ?_)
            refine lv_aload_n hx hb dX10_compared_76 rfl (lv_at hl 2 rfl) ?_
            refine lv_dup hx hb dX10_compared_77 rfl ?_
            refine m_geti (1000) 25 hx hb hts hown hE oc10 hM hJ.1 rfl (by decide) rfl tb_1202 dX10_compared_78 ?_
            have g471 := hI.get (1000) 25 (lo := 0) (hi := 100000) rfl
            have z472 : (u2 I352 (1000) 25 (v361)) (1000) 25 = v361 := (show (u2 I352 (1000) 25 (v361)) (1000) 25 = v361 from by simp [u2_v])
            rw [z472] at g471 ⊢
            refine lv_iload_n hx hb dX10_compared_81 rfl (lv_at hl 0 rfl) ?_
            refine lv_if_eq (tgt := 89) hx hb dX10_compared_82 (by decide) (fun c473 => ?_) (fun c473 => ?_)
            · exact absurd c473 (by decide)
            · have hc473 := c473
              have q473 := q_ne hc473
              refine lv_iconst (v := (1)) hx hb dX10_compared_85 (by decide) ?_
              refine lv_goto (tgt := 90) hx hb dX10_compared_86 (by decide) ?_
              refine lv_iadd hx hb dX10_compared_90 ?_
              refine lv_topi (fun v474 ev474 => ?_)
              have tv474 := a_add ev474 (by omega) (by omega)
              refine m_puti (1000) 25 hx hb hts hown hE oc10 hM hS hJ.1 rfl (by decide) rfl rfl rfl rfl tb_1202 dX10_compared_91 (fun H locs I475 eI475 hM hS => ?_)
              subst eI475
              have hI := hI.put (n := 1000) (k := 25) (v := v474) (lo := 0) (hi := 100000) rfl (by first | omega | decide)
              have hK := hK.put (n := 1000) (k := 25) (v := v474) (by first | rfl | simp [inR])
              refine lv_aload_n hx hb dX10_compared_94 rfl (lv_at hl 2 rfl) ?_
              have pw476 : ((u2 (u2 I352 (1000) 25 (v361)) (1000) 25 (v474)) (1000) 24).toInt = (I (1000) 24 : Int32).toInt := congrArg Int32.toInt ((((show (u2 (u2 I352 (1000) 25 (v361)) (1000) 25 (v474)) (1000) 24 = I352 (1000) 24 from by simp [u2_v])).trans (hkI352.get (1000) 24 rfl)).trans (hkI1.get (1000) 24 rfl))
              have pw477 : ((u2 (u2 I352 (1000) 25 (v361)) (1000) 25 (v474)) (1000) 25).toInt = (v474 : Int32).toInt := congrArg Int32.toInt ((show (u2 (u2 I352 (1000) 25 (v361)) (1000) 25 (v474)) (1000) 25 = v474 from by simp [u2_v]))
              have pw478 : ((u2 (u2 I352 (1000) 25 (v361)) (1000) 25 (v474)) (1000) 26).toInt = (I352 (1000) 26 : Int32).toInt := congrArg Int32.toInt ((show (u2 (u2 I352 (1000) 25 (v361)) (1000) 25 (v474)) (1000) 26 = I352 (1000) 26 from by simp [u2_v]))
              have pw479 : ((u2 (u2 I352 (1000) 25 (v361)) (1000) 25 (v474)) (1000) 27).toInt = (I (1000) 27 : Int32).toInt := congrArg Int32.toInt ((((show (u2 (u2 I352 (1000) 25 (v361)) (1000) 25 (v474)) (1000) 27 = I352 (1000) 27 from by simp [u2_v])).trans (hkI352.get (1000) 27 rfl)).trans (hkI1.get (1000) 27 rfl))
              have pw480 : ((u2 (u2 I352 (1000) 25 (v361)) (1000) 25 (v474)) (1000) 29).toInt = (I1 (1000) 29 : Int32).toInt := congrArg Int32.toInt (((show (u2 (u2 I352 (1000) 25 (v361)) (1000) 25 (v474)) (1000) 29 = I352 (1000) 29 from by simp [u2_v])).trans (hkI352.get (1000) 29 rfl))
              have pw481 : ((u2 (u2 I352 (1000) 25 (v361)) (1000) 25 (v474)) (1000) 31).toInt = (I352 (1000) 31 : Int32).toInt := congrArg Int32.toInt ((show (u2 (u2 I352 (1000) 25 (v361)) (1000) 25 (v474)) (1000) 31 = I352 (1000) 31 from by simp [u2_v]))
              have pw482 : ((u2 (u2 I352 (1000) 25 (v361)) (1000) 25 (v474)) (1000) 32).toInt = (I (1000) 32 : Int32).toInt := congrArg Int32.toInt ((((show (u2 (u2 I352 (1000) 25 (v361)) (1000) 25 (v474)) (1000) 32 = I352 (1000) 32 from by simp [u2_v])).trans (hkI352.get (1000) 32 rfl)).trans (hkI1.get (1000) 32 rfl))
              refine m_callv (m_runV (1000) (As := []) (rest := []) hx hb hml hown hts hE hM hS hA ce_X10_sum tb_1535 (V_X10_sum l D A ad ns (u2 (u2 I352 (1000) 25 (v361)) (1000) 25 (v474)) L353 G hJ hI (by omega) (fun hz => by have w0 := xI352 (by omega); have w1 := xI1.2.2.2.1 (by omega); have w2 := hPI (by omega); omega)) rfl rfl ⟨Nat.le_of_ble_eq_true rfl, Nat.le_of_ble_eq_true rfl⟩ hJ.1 rfl rfl (by decide) rfl hl.1 rfl (Nat.le_of_ble_eq_true rfl) dX10_compared_95 ⟨Nat.le_of_ble_eq_true rfl, Nat.le_of_ble_eq_true rfl⟩) hS (fun u H locs hw hM hS => ?_)
              obtain ⟨I483, L484, rfl, hI, hkI483, xI483⟩ := hw
              have hM : Mem D A ad ns I483 L484 G H := hM
              have hK := hK.trans hkI483 rfl
              replace hC := CT.link (I2 := (u2 (u2 I352 (1000) 25 (v361)) (1000) 25 (v474))) hC (((show (u2 (u2 I352 (1000) 25 (v361)) (1000) 25 (v474)) 1035 = I352 1035 from by funext zz; simp [u2_v])).trans (hkI352.getA 1035 rfl)) (((show (u2 (u2 I352 (1000) 25 (v361)) (1000) 25 (v474)) 1036 = I352 1036 from by funext zz; simp [u2_v])).trans (hkI352.getA 1036 rfl)) (by omega) (fun hz => by have w0 := xI352 (by omega); have w1 := xI1.2.2.2.1 (by omega); have w2 := hPI (by omega); omega)
              have pw485 : (I483 (1000) 24).toInt = (I (1000) 24 : Int32).toInt := congrArg Int32.toInt (((((hkI483.get (1000) 24 rfl)).trans (show (u2 (u2 I352 (1000) 25 (v361)) (1000) 25 (v474)) (1000) 24 = I352 (1000) 24 from by simp [u2_v])).trans (hkI352.get (1000) 24 rfl)).trans (hkI1.get (1000) 24 rfl))
              have pw486 : (I483 (1000) 27).toInt = (I (1000) 27 : Int32).toInt := congrArg Int32.toInt (((((hkI483.get (1000) 27 rfl)).trans (show (u2 (u2 I352 (1000) 25 (v361)) (1000) 25 (v474)) (1000) 27 = I352 (1000) 27 from by simp [u2_v])).trans (hkI352.get (1000) 27 rfl)).trans (hkI1.get (1000) 27 rfl))
              have pw487 : (I483 (1000) 32).toInt = (I (1000) 32 : Int32).toInt := congrArg Int32.toInt (((((hkI483.get (1000) 32 rfl)).trans (show (u2 (u2 I352 (1000) 25 (v361)) (1000) 25 (v474)) (1000) 32 = I352 (1000) 32 from by simp [u2_v])).trans (hkI352.get (1000) 32 rfl)).trans (hkI1.get (1000) 32 rfl))
              replace hC := hC.comp ((xI483.2.2.2.2).mono0 (1 + (0))) (by omega) (by omega) (by omega) (by omega) (fun hz => (xI483.2.2.2.1 hz).1)
              refine lv_aload_n hx hb dX10_compared_98 rfl (lv_at hl 2 rfl) ?_
              refine lv_iload_n hx hb dX10_compared_99 rfl (lv_at hl 1 rfl) ?_
              refine lv_bipush (v := (61)) hx hb dX10_compared_100 (by decide) ?_
              refine lv_icmp_ne (tgt := 110) hx hb dX10_compared_102 (by decide) (fun c488 => ?_) (fun c488 => ?_)
              · have hc488 := c488
                have q488 := q_ne hc488
                refine lv_iload_n hx hb dX10_compared_110 rfl (lv_at hl 1 rfl) ?_
                refine lv_bipush (v := (60)) hx hb dX10_compared_111 (by decide) ?_
                refine lv_icmp_ne (tgt := 128) hx hb dX10_compared_113 (by decide) (fun c489 => ?_) (fun c489 => ?_)
                · have hc489 := c489
                  have q489 := q_ne hc489
                  refine lv_iload_n hx hb dX10_compared_128 rfl (lv_at hl 0 rfl) ?_
                  refine lv_if_eq (tgt := 137) hx hb dX10_compared_129 (by decide) (fun c490 => ?_) (fun c490 => ?_)
                  · exact absurd c490 (by decide)
                  · have hc490 := c490
                    have q490 := q_ne hc490
                    refine lv_bipush (v := (7)) hx hb dX10_compared_132 (by decide) ?_
                    refine lv_goto (tgt := 139) hx hb dX10_compared_134 (by decide) ?_
                    refine lv_iconst (v := (0)) hx hb dX10_compared_139 (by decide) ?_
                    refine m_callv (m_runV (1000) (As := [.int (7), .int (0)]) (rest := []) hx hb hml hown hts hE hM hS hA ce_X10_entry tb_1552 (V_X10_entry l D A ad ns I483 L484 G (7) (0) hJ hI (fun hz => by have w0 := xI483.2.2.2.1 (by omega); have w1 := xI352 (by omega); have w2 := xI1.2.2.2.1 (by omega); have w3 := hPI (by omega); omega)) rfl rfl ⟨Nat.le_of_ble_eq_true rfl, Nat.le_of_ble_eq_true rfl⟩ hJ.1 rfl rfl (by decide) rfl hl.1 rfl (Nat.le_of_ble_eq_true rfl) dX10_compared_140 ⟨Nat.le_of_ble_eq_true rfl, Nat.le_of_ble_eq_true rfl⟩) hS (fun u H locs hw hM hS => ?_)
                    obtain ⟨I491, L492, rfl, hI, hkI491, xI491⟩ := hw
                    have hM : Mem D A ad ns I491 L492 G H := hM
                    have hK := hK.trans hkI491 rfl
                    have pw493 : (I491 (1000) 24).toInt = (I (1000) 24 : Int32).toInt := congrArg Int32.toInt ((((((hkI491.get (1000) 24 rfl)).trans (hkI483.get (1000) 24 rfl)).trans (show (u2 (u2 I352 (1000) 25 (v361)) (1000) 25 (v474)) (1000) 24 = I352 (1000) 24 from by simp [u2_v])).trans (hkI352.get (1000) 24 rfl)).trans (hkI1.get (1000) 24 rfl))
                    have pw494 : (I491 (1000) 25).toInt = (I483 (1000) 25 : Int32).toInt := congrArg Int32.toInt ((hkI491.get (1000) 25 rfl))
                    have pw495 : (I491 (1000) 26).toInt = (I483 (1000) 26 : Int32).toInt := congrArg Int32.toInt ((hkI491.get (1000) 26 rfl))
                    have pw496 : (I491 (1000) 27).toInt = (I (1000) 27 : Int32).toInt := congrArg Int32.toInt ((((((hkI491.get (1000) 27 rfl)).trans (hkI483.get (1000) 27 rfl)).trans (show (u2 (u2 I352 (1000) 25 (v361)) (1000) 25 (v474)) (1000) 27 = I352 (1000) 27 from by simp [u2_v])).trans (hkI352.get (1000) 27 rfl)).trans (hkI1.get (1000) 27 rfl))
                    have pw497 : (I491 (1000) 31).toInt = (I483 (1000) 31 : Int32).toInt := congrArg Int32.toInt ((hkI491.get (1000) 31 rfl))
                    have pw498 : (I491 (1000) 32).toInt = (I (1000) 32 : Int32).toInt := congrArg Int32.toInt ((((((hkI491.get (1000) 32 rfl)).trans (hkI483.get (1000) 32 rfl)).trans (show (u2 (u2 I352 (1000) 25 (v361)) (1000) 25 (v474)) (1000) 32 = I352 (1000) 32 from by simp [u2_v])).trans (hkI352.get (1000) 32 rfl)).trans (hkI1.get (1000) 32 rfl))
                    replace hC := hC.comp (n2 := 1) (xI491.2.2.2.2.ct (by omega) (by omega) xI491.2.2.1 (by omega)) (by omega) (by omega) (by omega) (by omega) (fun hz => by omega)
                    have xeI491 : Imp ((I491 1000 26).toInt = 0) ((I491 1000 29).toInt = (I483 1000 29).toInt + 1) := fun hz => xI491.2.2.1 (by omega)
                    exact m_vret hx hb hr hlocks hM hS (Nat.le_of_ble_eq_true rfl) (Nat.le_of_ble_eq_true rfl) ⟨_, _, rfl, hI, hK, ⟨by omega, by omega, by omega, (fun hz => by have w0 := xeI491 (by omega); have w1 := xI483.2.2.2.1 (by omega); have w2 := xI352 (by omega); have w3 := xI1.2.2.2.1 (by omega); have w4 := hPI (by omega); omega), hC⟩⟩ dX10_compared_143
                · have hc489 := c489
                  have q489 := q_eq hc489
                  have sg499 := xr8.2.2 (by omega)
                  refine lv_iload_n hx hb dX10_compared_116 rfl (lv_at hl 0 rfl) ?_
                  refine lv_if_eq (tgt := 124) hx hb dX10_compared_117 (by decide) (fun c500 => ?_) (fun c500 => ?_)
                  · exact absurd c500 (by decide)
                  · have hc500 := c500
                    have q500 := q_ne hc500
                    refine lv_iconst (v := (5)) hx hb dX10_compared_120 (by decide) ?_
                    refine lv_goto (tgt := 139) hx hb dX10_compared_121 (by decide) ?_
                    refine lv_iconst (v := (0)) hx hb dX10_compared_139 (by decide) ?_
                    refine m_callv (m_runV (1000) (As := [.int (5), .int (0)]) (rest := []) hx hb hml hown hts hE hM hS hA ce_X10_entry tb_1552 (V_X10_entry l D A ad ns I483 L484 G (5) (0) hJ hI (fun hz => by have w0 := xI483.2.2.2.1 (by omega); have w1 := xI352 (by omega); have w2 := xI1.2.2.2.1 (by omega); have w3 := hPI (by omega); omega)) rfl rfl ⟨Nat.le_of_ble_eq_true rfl, Nat.le_of_ble_eq_true rfl⟩ hJ.1 rfl rfl (by decide) rfl hl.1 rfl (Nat.le_of_ble_eq_true rfl) dX10_compared_140 ⟨Nat.le_of_ble_eq_true rfl, Nat.le_of_ble_eq_true rfl⟩) hS (fun u H locs hw hM hS => ?_)
                    obtain ⟨I501, L502, rfl, hI, hkI501, xI501⟩ := hw
                    have hM : Mem D A ad ns I501 L502 G H := hM
                    have hK := hK.trans hkI501 rfl
                    have pw503 : (I501 (1000) 24).toInt = (I (1000) 24 : Int32).toInt := congrArg Int32.toInt ((((((hkI501.get (1000) 24 rfl)).trans (hkI483.get (1000) 24 rfl)).trans (show (u2 (u2 I352 (1000) 25 (v361)) (1000) 25 (v474)) (1000) 24 = I352 (1000) 24 from by simp [u2_v])).trans (hkI352.get (1000) 24 rfl)).trans (hkI1.get (1000) 24 rfl))
                    have pw504 : (I501 (1000) 25).toInt = (I483 (1000) 25 : Int32).toInt := congrArg Int32.toInt ((hkI501.get (1000) 25 rfl))
                    have pw505 : (I501 (1000) 26).toInt = (I483 (1000) 26 : Int32).toInt := congrArg Int32.toInt ((hkI501.get (1000) 26 rfl))
                    have pw506 : (I501 (1000) 27).toInt = (I (1000) 27 : Int32).toInt := congrArg Int32.toInt ((((((hkI501.get (1000) 27 rfl)).trans (hkI483.get (1000) 27 rfl)).trans (show (u2 (u2 I352 (1000) 25 (v361)) (1000) 25 (v474)) (1000) 27 = I352 (1000) 27 from by simp [u2_v])).trans (hkI352.get (1000) 27 rfl)).trans (hkI1.get (1000) 27 rfl))
                    have pw507 : (I501 (1000) 31).toInt = (I483 (1000) 31 : Int32).toInt := congrArg Int32.toInt ((hkI501.get (1000) 31 rfl))
                    have pw508 : (I501 (1000) 32).toInt = (I (1000) 32 : Int32).toInt := congrArg Int32.toInt ((((((hkI501.get (1000) 32 rfl)).trans (hkI483.get (1000) 32 rfl)).trans (show (u2 (u2 I352 (1000) 25 (v361)) (1000) 25 (v474)) (1000) 32 = I352 (1000) 32 from by simp [u2_v])).trans (hkI352.get (1000) 32 rfl)).trans (hkI1.get (1000) 32 rfl))
                    replace hC := hC.comp (n2 := 1) (xI501.2.2.2.2.ct (by omega) (by omega) xI501.2.2.1 (by omega)) (by omega) (by omega) (by omega) (by omega) (fun hz => by omega)
                    have xeI501 : Imp ((I501 1000 26).toInt = 0) ((I501 1000 29).toInt = (I483 1000 29).toInt + 1) := fun hz => xI501.2.2.1 (by omega)
                    exact m_vret hx hb hr hlocks hM hS (Nat.le_of_ble_eq_true rfl) (Nat.le_of_ble_eq_true rfl) ⟨_, _, rfl, hI, hK, ⟨by omega, by omega, by omega, (fun hz => by have w0 := xeI501 (by omega); have w1 := xI483.2.2.2.1 (by omega); have w2 := xI352 (by omega); have w3 := xI1.2.2.2.1 (by omega); have w4 := hPI (by omega); omega), hC⟩⟩ dX10_compared_143
              · have hc488 := c488
                have q488 := q_eq hc488
                have sg509 := xr8.2.2 (by omega)
                refine lv_bipush (v := (6)) hx hb dX10_compared_105 (by decide) ?_
                refine lv_goto (tgt := 139) hx hb dX10_compared_107 (by decide) ?_
                refine lv_iconst (v := (0)) hx hb dX10_compared_139 (by decide) ?_
                refine m_callv (m_runV (1000) (As := [.int (6), .int (0)]) (rest := []) hx hb hml hown hts hE hM hS hA ce_X10_entry tb_1552 (V_X10_entry l D A ad ns I483 L484 G (6) (0) hJ hI (fun hz => by have w0 := xI483.2.2.2.1 (by omega); have w1 := xI352 (by omega); have w2 := xI1.2.2.2.1 (by omega); have w3 := hPI (by omega); omega)) rfl rfl ⟨Nat.le_of_ble_eq_true rfl, Nat.le_of_ble_eq_true rfl⟩ hJ.1 rfl rfl (by decide) rfl hl.1 rfl (Nat.le_of_ble_eq_true rfl) dX10_compared_140 ⟨Nat.le_of_ble_eq_true rfl, Nat.le_of_ble_eq_true rfl⟩) hS (fun u H locs hw hM hS => ?_)
                obtain ⟨I510, L511, rfl, hI, hkI510, xI510⟩ := hw
                have hM : Mem D A ad ns I510 L511 G H := hM
                have hK := hK.trans hkI510 rfl
                have pw512 : (I510 (1000) 24).toInt = (I (1000) 24 : Int32).toInt := congrArg Int32.toInt ((((((hkI510.get (1000) 24 rfl)).trans (hkI483.get (1000) 24 rfl)).trans (show (u2 (u2 I352 (1000) 25 (v361)) (1000) 25 (v474)) (1000) 24 = I352 (1000) 24 from by simp [u2_v])).trans (hkI352.get (1000) 24 rfl)).trans (hkI1.get (1000) 24 rfl))
                have pw513 : (I510 (1000) 25).toInt = (I483 (1000) 25 : Int32).toInt := congrArg Int32.toInt ((hkI510.get (1000) 25 rfl))
                have pw514 : (I510 (1000) 26).toInt = (I483 (1000) 26 : Int32).toInt := congrArg Int32.toInt ((hkI510.get (1000) 26 rfl))
                have pw515 : (I510 (1000) 27).toInt = (I (1000) 27 : Int32).toInt := congrArg Int32.toInt ((((((hkI510.get (1000) 27 rfl)).trans (hkI483.get (1000) 27 rfl)).trans (show (u2 (u2 I352 (1000) 25 (v361)) (1000) 25 (v474)) (1000) 27 = I352 (1000) 27 from by simp [u2_v])).trans (hkI352.get (1000) 27 rfl)).trans (hkI1.get (1000) 27 rfl))
                have pw516 : (I510 (1000) 31).toInt = (I483 (1000) 31 : Int32).toInt := congrArg Int32.toInt ((hkI510.get (1000) 31 rfl))
                have pw517 : (I510 (1000) 32).toInt = (I (1000) 32 : Int32).toInt := congrArg Int32.toInt ((((((hkI510.get (1000) 32 rfl)).trans (hkI483.get (1000) 32 rfl)).trans (show (u2 (u2 I352 (1000) 25 (v361)) (1000) 25 (v474)) (1000) 32 = I352 (1000) 32 from by simp [u2_v])).trans (hkI352.get (1000) 32 rfl)).trans (hkI1.get (1000) 32 rfl))
                replace hC := hC.comp (n2 := 1) (xI510.2.2.2.2.ct (by omega) (by omega) xI510.2.2.1 (by omega)) (by omega) (by omega) (by omega) (by omega) (fun hz => by omega)
                have xeI510 : Imp ((I510 1000 26).toInt = 0) ((I510 1000 29).toInt = (I483 1000 29).toInt + 1) := fun hz => xI510.2.2.1 (by omega)
                exact m_vret hx hb hr hlocks hM hS (Nat.le_of_ble_eq_true rfl) (Nat.le_of_ble_eq_true rfl) ⟨_, _, rfl, hI, hK, ⟨by omega, by omega, by omega, (fun hz => by have w0 := xeI510 (by omega); have w1 := xI483.2.2.2.1 (by omega); have w2 := xI352 (by omega); have w3 := xI1.2.2.2.1 (by omega); have w4 := hPI (by omega); omega), hC⟩⟩ dX10_compared_143
      · have hc349 := c349
        have q349 := q_ne hc349
        refine lv_aload_n hx hb dX10_compared_27 rfl (lv_at hl 1 rfl) ?_
        refine lv_iconst (v := (0)) hx hb dX10_compared_28 (by decide) ?_
        refine lv_aload_n hx hb dX10_compared_29 rfl (lv_at hl 1 rfl) ?_
        refine m_geti (1000) 25 hx hb hts hown hE oc10 hM hJ.1 rfl (by decide) rfl tb_1202 dX10_compared_30 ?_
        have g518 := hI.get (1000) 25 (lo := 0) (hi := 100000) rfl
        refine m_callv (m_runV (1000) (As := [.int (0), .int (I1 (1000) 25)]) (rest := []) hx hb hml hown hts hE hM hS hA ce_X10_fails tb_1521 (V_X10_fails l D A ad ns I1 L2 G (0) (I1 (1000) 25) hJ hI (by first | omega | decide) (by first | omega | decide)) rfl rfl ⟨Nat.le_of_ble_eq_true rfl, Nat.le_of_ble_eq_true rfl⟩ hJ.1 rfl rfl (by decide) rfl hl.1 rfl (Nat.le_of_ble_eq_true rfl) dX10_compared_33 ⟨Nat.le_of_ble_eq_true rfl, Nat.le_of_ble_eq_true rfl⟩) hS (fun u H locs hw hM hS => ?_)
        obtain ⟨I519, L520, rfl, hI, hkI519, xI519⟩ := hw
        have hM : Mem D A ad ns I519 L520 G H := hM
        have hK := hK.trans hkI519 rfl
        have pw521 : (I519 (1000) 24).toInt = (I (1000) 24 : Int32).toInt := congrArg Int32.toInt (((hkI519.get (1000) 24 rfl)).trans (hkI1.get (1000) 24 rfl))
        have pw522 : (I519 (1000) 25).toInt = (I1 (1000) 25 : Int32).toInt := congrArg Int32.toInt ((hkI519.get (1000) 25 rfl))
        have pw523 : (I519 (1000) 27).toInt = (I (1000) 27 : Int32).toInt := congrArg Int32.toInt (((hkI519.get (1000) 27 rfl)).trans (hkI1.get (1000) 27 rfl))
        have pw524 : (I519 (1000) 29).toInt = (I1 (1000) 29 : Int32).toInt := congrArg Int32.toInt ((hkI519.get (1000) 29 rfl))
        have pw525 : (I519 (1000) 31).toInt = (I1 (1000) 31 : Int32).toInt := congrArg Int32.toInt ((hkI519.get (1000) 31 rfl))
        have pw526 : (I519 (1000) 32).toInt = (I (1000) 32 : Int32).toInt := congrArg Int32.toInt (((hkI519.get (1000) 32 rfl)).trans (hkI1.get (1000) 32 rfl))
        replace hC := CT.link (I2 := I519) hC ((hkI519.getA 1035 rfl)) ((hkI519.getA 1036 rfl)) (by omega) (fun hz => by have w0 := xI519.1 (by omega); exact w0.elim)
        exact m_vret hx hb hr hlocks hM hS (Nat.le_of_ble_eq_true rfl) (Nat.le_of_ble_eq_true rfl) ⟨_, _, rfl, hI, hK, ⟨by omega, by omega, by omega, (fun hz => by have w0 := xI519.1 (by omega); exact w0.elim), hC⟩⟩ dX10_compared_36
